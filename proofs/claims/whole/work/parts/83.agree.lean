/-! the reference's checks hold just where the class agrees in the end -/
theorem rt1_sp1 {R : am_M} {W B b : Int} {s s' : UD} (hw : bw R W B) (b0 : 0 ≤ b) (b1 : b < B) (h : low W s) (e : rt1 R b s = some s') : sp1 R b s = some s' := by
  obtain ⟨f0, f1, t0, t1, w0, w1⟩ := hw b b0 b1
  have lf := h _ f0 f1
  have lt := h _ t0 t1
  unfold rt1 at e
  by_cases c0 : wrt R (R 61 b) ≤ 0
  · rw [if_pos c0] at e; cases e
  rw [if_neg c0] at e
  by_cases cf : 0 < s.1 (R 61 b)
  · rw [if_pos cf] at e
    unfold rate at e
    by_cases cx : 1000000 < s.1 (R 61 b) * wrt R (R 61 b) / gd (s.1 (R 61 b) * wrt R (R 61 b)) (s.2 (R 61 b)) ∨ 1000000 < s.2 (R 61 b) / gd (s.1 (R 61 b) * wrt R (R 61 b)) (s.2 (R 61 b))
    · rw [if_pos cx] at e; cases e
    rw [if_neg cx] at e
    by_cases ct : s.1 (R 317 b) = 0
    · rw [if_pos ct] at e
      have x0 := Int.mul_pos cf (show 0 < wrt R (R 61 b) by omega)
      unfold sp1
      rw [if_pos ⟨by omega, ct⟩]
      unfold frac
      rw [if_neg (by omega)]
      exact e
    · rw [if_neg ct] at e
      by_cases cc : s.1 (R 317 b) = s.1 (R 61 b) * wrt R (R 61 b) / gd (s.1 (R 61 b) * wrt R (R 61 b)) (s.2 (R 61 b)) ∧ s.2 (R 317 b) = s.2 (R 61 b) / gd (s.1 (R 61 b) * wrt R (R 61 b)) (s.2 (R 61 b))
      · rw [if_pos cc] at e
        unfold sp1
        rw [if_neg (fun z => ct z.2), if_neg (by omega)]
        exact e
      · rw [if_neg cc] at e; cases e
  · rw [if_neg cf] at e
    by_cases ct : 0 < s.1 (R 317 b)
    · rw [if_pos ct] at e
      unfold rate at e
      by_cases cx : 1000000 < s.1 (R 317 b) / gd (s.1 (R 317 b)) (s.2 (R 317 b) * wrt R (R 61 b)) ∨ 1000000 < s.2 (R 317 b) * wrt R (R 61 b) / gd (s.1 (R 317 b)) (s.2 (R 317 b) * wrt R (R 61 b))
      · rw [if_pos cx] at e; cases e
      rw [if_neg cx, if_pos (by omega)] at e
      have y0 := Int.mul_pos (show 0 < s.2 (R 317 b) by omega) (show 0 < wrt R (R 61 b) by omega)
      unfold sp1
      rw [if_neg (by omega), if_pos ⟨by omega, by omega⟩]
      unfold frac
      rw [if_neg (by omega)]
      exact e
    · rw [if_neg ct] at e
      unfold sp1
      rw [if_neg (by omega), if_neg (by omega)]
      exact e
theorem rtb_spb {R : am_M} {W B : Int} (hw : bw R W B) : ∀ (n : Nat) (b : Int) (s s' : UD), 0 ≤ b → b + n ≤ B → low W s → rtb' R n b s = some s' → spb R n b s = some s' := by
  intro n
  induction n with
  | zero => intro b s s' _ _ _ e; exact e
  | succ n ih =>
    intro b s s' b0 b1 h e
    have e : (rt1 R b s).bind (fun s' => rtb' R n (b + 1) s') = some s' := e
    cases h1 : rt1 R b s with
    | none => rw [h1] at e; cases e
    | some s1 =>
      rw [h1] at e
      have h2 := rt1_sp1 hw b0 (by omega) h h1
      show (sp1 R b s).bind _ = some s'
      rw [h2]
      exact ih (b + 1) s1 s' (by omega) (by omega) (sp1_ok hw b0 (by omega) h h2).1 e
theorem rtn_spn {R : am_M} {W : Int} {B : Nat} (hw : bw R W B) : ∀ (n : Nat) (s s' : UD), low W s → rtn' R B n s = some s' → spn R B n s = some s' := by
  intro n
  induction n with
  | zero => intro s s' _ e; exact e
  | succ n ih =>
    intro s s' h e
    have e : (rtb' R B 0 s).bind (fun s' => rtn' R B n s') = some s' := e
    cases h1 : rtb' R B 0 s with
    | none => rw [h1] at e; cases e
    | some s1 =>
      rw [h1] at e
      have h2 := rtb_spb hw B 0 s s1 (by omega) (by omega) h h1
      show (spb R B 0 s).bind _ = some s'
      rw [h2]
      exact ih s1 s' (spb_ok hw B 0 s s1 (by omega) (by omega) h h2).1 e
/-- of lowest terms: equal products and equal fractions -/
theorem agr_iff {x y u v : Int} (x0 : 0 < x) (y0 : 0 < y) (u0 : 0 < u) (v0 : 0 < v) (h : Nat.gcd u.toNat v.toNat = 1) : (x * v = u * y) ↔ (u = x / gd x y ∧ v = y / gd x y) := by
  rw [div_nat (x := x) (by omega), div_nat2 (y := y) (by omega)]
  have ex : x = ((x.toNat : Nat) : Int) := by omega
  have ey : y = ((y.toNat : Nat) : Int) := by omega
  have eu : u = ((u.toNat : Nat) : Int) := by omega
  have ev : v = ((v.toNat : Nat) : Int) := by omega
  constructor
  · intro e
    have e' : x.toNat * v.toNat = u.toNat * y.toNat := by
      rw [ex, ey, eu, ev, ← Int.natCast_mul, ← Int.natCast_mul] at e
      exact Int.ofNat.inj e
    obtain ⟨a, b⟩ := frac_uniq (by omega) (by omega) (by omega) h e'
    exact ⟨by omega, by omega⟩
  · rintro ⟨a, b⟩
    have e' := frac_eq (x := x.toNat) (y := y.toNat) (u := u.toNat) (v := v.toNat) (by omega) (by omega)
    rw [ex, ey, eu, ev, ← Int.natCast_mul, ← Int.natCast_mul, e']
theorem rt1_all {R : am_M} {W B b : Int} {s s' : UD} (hw : bw R W B) (b0 : 0 ≤ b) (b1 : b < B) (h : low W s) (ha : alls W s) (e : rt1 R b s = some s') : s' = s ∧ agr R b s := by
  obtain ⟨f0, f1, t0, t1, w0, w1⟩ := hw b b0 b1
  have lf := h _ f0 f1
  have lt := h _ t0 t1
  have af := ha _ f0 f1
  have at' := ha _ t0 t1
  unfold rt1 at e
  by_cases c0 : wrt R (R 61 b) ≤ 0
  · rw [if_pos c0] at e; cases e
  rw [if_neg c0, if_pos (by omega)] at e
  unfold rate at e
  by_cases cx : 1000000 < s.1 (R 61 b) * wrt R (R 61 b) / gd (s.1 (R 61 b) * wrt R (R 61 b)) (s.2 (R 61 b)) ∨ 1000000 < s.2 (R 61 b) / gd (s.1 (R 61 b) * wrt R (R 61 b)) (s.2 (R 61 b))
  · rw [if_pos cx] at e; cases e
  rw [if_neg cx, if_neg at'] at e
  by_cases cc : s.1 (R 317 b) = s.1 (R 61 b) * wrt R (R 61 b) / gd (s.1 (R 61 b) * wrt R (R 61 b)) (s.2 (R 61 b)) ∧ s.2 (R 317 b) = s.2 (R 61 b) / gd (s.1 (R 61 b) * wrt R (R 61 b)) (s.2 (R 61 b))
  · rw [if_pos cc] at e
    cases e
    exact ⟨rfl, (agr_iff (Int.mul_pos (show 0 < s.1 (R 61 b) by omega) (show 0 < wrt R (R 61 b) by omega)) (by omega) (by omega) (by omega) (lt.2.2.2.2 at')).mpr cc⟩
  · rw [if_neg cc] at e; cases e
theorem rtb_all {R : am_M} {W B : Int} {s : UD} (hw : bw R W B) (h : low W s) (ha : alls W s) : ∀ (n : Nat) (b : Int) (s' : UD), 0 ≤ b → b + n ≤ B → rtb' R n b s = some s' → s' = s ∧ ∀ d, b ≤ d → d < b + n → agr R d s := by
  intro n
  induction n with
  | zero =>
    intro b s' _ _ e
    cases e
    exact ⟨rfl, fun d p q => by omega⟩
  | succ n ih =>
    intro b s' b0 b1 e
    replace e : (rt1 R b s).bind (fun s' => rtb' R n (b + 1) s') = some s' := e
    cases h1 : rt1 R b s with
    | none => rw [h1] at e; cases e
    | some s1 =>
      rw [h1] at e
      obtain ⟨a1, a2⟩ := rt1_all hw b0 (by omega) h ha h1
      subst a1
      obtain ⟨k1, k2⟩ := ih (b + 1) s' (by omega) (by omega) e
      refine ⟨k1, fun d p q => ?_⟩
      by_cases z : d = b
      · rw [z]; exact a2
      · exact k2 d (by omega) (by omega)
theorem rtn_snoc {R : am_M} {B : Nat} : ∀ (n : Nat) (s : UD), rtn' R B (n + 1) s = (rtn' R B n s).bind fun s' => rtb' R B 0 s' := by
  intro n
  induction n with
  | zero =>
    intro s
    show (rtb' R B 0 s).bind (fun s' => some s') = rtb' R B 0 s
    cases rtb' R B 0 s <;> rfl
  | succ n ih =>
    intro s
    show (rtb' R B 0 s).bind (fun s' => rtn' R B (n + 1) s') = ((rtb' R B 0 s).bind fun s' => rtn' R B n s').bind fun s' => rtb' R B 0 s'
    cases rtb' R B 0 s with
    | none => rfl
    | some s1 => exact ih s1
theorem rt1_none {R : am_M} {W B b : Int} {s s2 s' : UD} (hw : bw R W B) (b0 : 0 ≤ b) (b1 : b < B) (h : low W s) (h' : low W s') (ha : alls W s') (e : rt1 R b s = none) (e2 : sp1 R b s = some s2) (hx : ext W s s') : ¬ agr R b s' := by
  obtain ⟨f0, f1, t0, t1, w0, w1⟩ := hw b b0 b1
  have lf := h _ f0 f1
  have lt := h _ t0 t1
  have lf' := h' _ f0 f1
  have lt' := h' _ t0 t1
  have af := ha _ f0 f1
  have at' := ha _ t0 t1
  intro hg
  unfold agr at hg
  unfold rt1 at e
  by_cases c0 : wrt R (R 61 b) ≤ 0
  · have e0 : wrt R (R 61 b) = 0 := by omega
    rw [e0, Int.mul_zero, Int.zero_mul] at hg
    have := Int.mul_pos (show 0 < s'.1 (R 317 b) by omega) (show 0 < s'.2 (R 61 b) by omega)
    omega
  rw [if_neg c0] at e
  by_cases cf : 0 < s.1 (R 61 b)
  · rw [if_pos cf] at e
    unfold rate at e
    obtain ⟨xf1, xf2⟩ := hx _ f0 f1 (by omega)
    by_cases ct : s.1 (R 317 b) = 0
    · have x0 := Int.mul_pos cf (show 0 < wrt R (R 61 b) by omega)
      by_cases cx : 1000000 < s.1 (R 61 b) * wrt R (R 61 b) / gd (s.1 (R 61 b) * wrt R (R 61 b)) (s.2 (R 61 b)) ∨ 1000000 < s.2 (R 61 b) / gd (s.1 (R 61 b) * wrt R (R 61 b)) (s.2 (R 61 b))
      · unfold sp1 at e2
        rw [if_pos ⟨by omega, ct⟩] at e2
        unfold frac at e2
        rw [if_pos (by omega)] at e2
        cases e2
      · rw [if_neg cx, if_pos ct] at e; cases e
    · obtain ⟨xt1, xt2⟩ := hx _ t0 t1 ct
      rw [xf1, xf2, xt1, xt2] at hg
      have hq := (agr_iff (Int.mul_pos cf (show 0 < wrt R (R 61 b) by omega)) (show 0 < s.2 (R 61 b) by omega) (show 0 < s.1 (R 317 b) by omega) (show 0 < s.2 (R 317 b) by omega) (lt.2.2.2.2 ct)).mp hg
      rw [if_neg (by rw [← hq.1, ← hq.2]; omega), if_neg ct, if_pos hq] at e
      cases e
  · rw [if_neg cf] at e
    by_cases ct : 0 < s.1 (R 317 b)
    · rw [if_pos ct] at e
      unfold rate at e
      have y0 := Int.mul_pos (show 0 < s.2 (R 317 b) by omega) (show 0 < wrt R (R 61 b) by omega)
      by_cases cx : 1000000 < s.1 (R 317 b) / gd (s.1 (R 317 b)) (s.2 (R 317 b) * wrt R (R 61 b)) ∨ 1000000 < s.2 (R 317 b) * wrt R (R 61 b) / gd (s.1 (R 317 b)) (s.2 (R 317 b) * wrt R (R 61 b))
      · unfold sp1 at e2
        rw [if_neg (by omega), if_pos ⟨by omega, by omega⟩] at e2
        unfold frac at e2
        rw [if_pos (by omega)] at e2
        cases e2
      · rw [if_neg cx, if_pos (by omega)] at e; cases e
    · rw [if_neg ct] at e; cases e
theorem rtb_none {R : am_M} {W B : Int} {s' : UD} (hw : bw R W B) (h' : low W s') (ha : alls W s') : ∀ (n : Nat) (b : Int) (s s2 : UD), 0 ≤ b → b + n ≤ B → low W s → rtb' R n b s = none → spb R n b s = some s2 → ext W s2 s' → ∃ d, 0 ≤ d ∧ d < B ∧ ¬ agr R d s' := by
  intro n
  induction n with
  | zero => intro b s s2 _ _ _ e; cases e
  | succ n ih =>
    intro b s s2 b0 b1 h e e2 hx
    have e : (rt1 R b s).bind (fun s' => rtb' R n (b + 1) s') = none := e
    have e2 : (sp1 R b s).bind (fun s' => spb R n (b + 1) s') = some s2 := e2
    cases h2 : sp1 R b s with
    | none => rw [h2] at e2; cases e2
    | some s1 =>
      rw [h2] at e2
      have e2 : spb R n (b + 1) s1 = some s2 := e2
      obtain ⟨a1, a2, -⟩ := sp1_ok hw b0 (by omega) h h2
      obtain ⟨k1, k2, -⟩ := spb_ok hw n (b + 1) s1 s2 (by omega) (by omega) a1 e2
      cases h1 : rt1 R b s with
      | none => exact ⟨b, b0, by omega, rt1_none hw b0 (by omega) h h' ha h1 h2 (ext_trans (ext_trans a2 k2) hx)⟩
      | some s3 =>
        have := rt1_sp1 hw b0 (by omega) h h1
        rw [h2] at this
        cases this
        rw [h1] at e
        exact ih (b + 1) s1 s2 (by omega) (by omega) a1 e e2 hx
theorem rtn_none {R : am_M} {W : Int} {B : Nat} {s' : UD} (hw : bw R W B) (h' : low W s') (ha : alls W s') : ∀ (n : Nat) (s s2 : UD), low W s → rtn' R B n s = none → spn R B n s = some s2 → ext W s2 s' → ∃ d, 0 ≤ d ∧ d < (B : Int) ∧ ¬ agr R d s' := by
  intro n
  induction n with
  | zero => intro s s2 _ e; cases e
  | succ n ih =>
    intro s s2 h e e2 hx
    have e : (rtb' R B 0 s).bind (fun s' => rtn' R B n s') = none := e
    have e2 : (spb R B 0 s).bind (fun s' => spn R B n s') = some s2 := e2
    cases h2 : spb R B 0 s with
    | none => rw [h2] at e2; cases e2
    | some s1 =>
      rw [h2] at e2
      have e2 : spn R B n s1 = some s2 := e2
      obtain ⟨a1, a2, -⟩ := spb_ok hw B 0 s s1 (by omega) (by omega) h h2
      obtain ⟨k1, k2⟩ := spn_ok hw n s1 s2 a1 e2
      cases h1 : rtb' R B 0 s with
      | none => exact rtb_none hw h' ha B 0 s s1 (by omega) (by omega) h h1 h2 (ext_trans k2 hx)
      | some s3 =>
        have := rtb_spb hw B 0 s s3 (by omega) (by omega) h h1
        rw [h2] at this
        cases this
        rw [h1] at e
        exact ih s1 s2 a1 e e2 hx
theorem spn_snoc {R : am_M} {B : Nat} : ∀ (n : Nat) (s : UD), spn R B (n + 1) s = (spn R B n s).bind fun s' => spb R B 0 s' := by
  intro n
  induction n with
  | zero =>
    intro s
    show (spb R B 0 s).bind (fun s' => some s') = spb R B 0 s
    cases spb R B 0 s <;> rfl
  | succ n ih =>
    intro s
    show (spb R B 0 s).bind (fun s' => spn R B (n + 1) s') = ((spb R B 0 s).bind fun s' => spn R B n s').bind fun s' => spb R B 0 s'
    cases spb R B 0 s with
    | none => rfl
    | some s1 => exact ih s1
/-- the two ways of judging a net agree -/
theorem rates_agree {C R : am_M} {W : Int} {B : Nat} (hb : bnd C R W B) (hw : bw R W B) (W0 : 0 < W) :
    (∃ s', rtn' R B (W.toNat + 1) (s0 (psn R B W.toNat idp)) = some s' ∧ spn R B W.toNat (s0 (psn R B W.toNat idp)) = some s' ∧ low W s' ∧ alls W s' ∧ ∀ d, 0 ≤ d → d < (B : Int) → agr R d s') ∨ (rtn' R B (W.toNat + 1) (s0 (psn R B W.toNat idp)) = none ∧ (spn R B W.toNat (s0 (psn R B W.toNat idp)) = none ∨ ∃ s', spn R B W.toNat (s0 (psn R B W.toNat idp)) = some s' ∧ low W s' ∧ alls W s' ∧ ∃ d, 0 ≤ d ∧ d < (B : Int) ∧ ¬ agr R d s')) := by
  have hl := low_s0 (psn R B W.toNat idp) W
  cases h1 : rtn' R B (W.toNat + 1) (s0 (psn R B W.toNat idp)) with
  | none =>
    refine Or.inr ⟨rfl, ?_⟩
    cases h2 : spn R B W.toNat (s0 (psn R B W.toNat idp)) with
    | none => exact Or.inl rfl
    | some s' =>
      obtain ⟨c1, c2⟩ := spn_all hb hw W0 h2
      have hl' := (spn_ok hw _ _ _ hl h2).1
      refine Or.inr ⟨s', rfl, hl', c2, ?_⟩
      have h3 : spn R B (W.toNat + 1) (s0 (psn R B W.toNat idp)) = some s' := by
        rw [spn_snoc, h2]
        exact spb_cl c1 B 0 (by omega) (by omega)
      exact rtn_none hw hl' c2 (W.toNat + 1) _ s' hl h1 h3 (ext_refl W s')
  | some s' =>
    refine Or.inl ⟨s', rfl, ?_⟩
    rw [rtn_snoc] at h1
    cases h2 : rtn' R B W.toNat (s0 (psn R B W.toNat idp)) with
    | none => rw [h2] at h1; cases h1
    | some s1 =>
      rw [h2] at h1
      have h3 := rtn_spn hw _ _ _ hl h2
      obtain ⟨c1, c2⟩ := spn_all hb hw W0 h3
      have hl' := (spn_ok hw _ _ _ hl h3).1
      obtain ⟨k1, k2⟩ := rtb_all hw hl' c2 B 0 s' (by omega) (by omega) h1
      subst k1
      exact ⟨h3, hl', c2, fun d d0 d1 => k2 d d0 (by omega)⟩
