/-! how many cells: each label is made once -/
def am_cI (M : am_M) : Prop := ∃ al : List Int, al.Nodup ∧ (∀ L ∈ al, am_inU L ∧ M (-1) L ≠ 0) ∧ M (-2) 0 = ((al.map (fun _ => 1)).sum : Nat) ∧ M (-2) 1 = ((al.map am_siz).sum : Nat)
theorem am_cI_ch {M M' : am_M} (h : am_ch M M') (hc : am_cI M) : am_cI M' := by
  obtain ⟨al, h1, h2, h3, h4⟩ := hc
  rcases h with ⟨e1, e2⟩ | ⟨L, hU, hf, rfl⟩
  · exact ⟨al, h1, fun L hL => ⟨(h2 L hL).1, by rw [e1]; exact (h2 L hL).2⟩, by rw [e2]; exact h3, by rw [e2]; exact h4⟩
  · have hni : L ∉ al := fun z => (h2 L z).2 hf
    refine ⟨L :: al, List.nodup_cons.mpr ⟨hni, h1⟩, fun L' hL' => ?_, ?_, ?_⟩
    · rw [am_alloc_m1]
      by_cases q : L' = L
      · rw [if_pos q, q]; exact ⟨hU, by decide⟩
      · rw [if_neg q]
        rcases List.mem_cons.mp hL' with z | z
        · exact absurd z q
        · exact h2 L' z
    · rw [am_alloc_c.1, h3, List.map_cons, List.sum_cons]; omega
    · rw [am_alloc_c.2, h4, List.map_cons, List.sum_cons]; omega
theorem am_ex_cI {K : am_Kt} {Cc : am_Ct} {live : Nat → List (Nat × Nat)} (hK : ∀ b vs r M' q, K b vs r M' = some q → am_cI M' → am_cI q.2) (hC : ∀ z as M' q, Cc z as M' = some q → am_cI M' → am_cI q.2) : ∀ (is : List am_I) (lv : am_L) (st : List am_V) (M : am_M) (q : am_R), am_ex live K Cc is lv st M = some q → am_cI M → am_cI q.2 := by
  intro is
  induction is with
  | nil => intro lv st M q h; cases h
  | cons i is ih =>
    intro lv st M q h hc
    unfold am_ex at h
    cases hct : am_ct i.2.1 i.2.2 lv st M with
    | none => rw [hct] at h; cases h
    | some w =>
      rw [hct] at h
      rcases w with s | ⟨c, b1, b2, r⟩ | ⟨x, ps, d, r⟩ | ⟨z, as, rest, rt⟩ | v
      · exact ih _ _ _ _ h (am_cI_ch (am_s1_ch (am_ct_s1 hct)) hc)
      · cases c
        · obtain ⟨vs, -, hk⟩ := am_J_of h; exact hK _ _ _ _ _ hk hc
        · obtain ⟨vs, -, hk⟩ := am_J_of h; exact hK _ _ _ _ _ hk hc
      · obtain ⟨b, hb⟩ := am_sw_J ps h
        obtain ⟨vs, -, hk⟩ := am_J_of hb; exact hK _ _ _ _ _ hk hc
      · dsimp only at h
        cases hz : Cc z as M with
        | none => rw [hz] at h; cases h
        | some w =>
          rw [hz] at h
          exact ih _ _ _ _ h (hC z as M w hz hc)
      · cases h
        exact hc
theorem am_run_cI {P : am_P} : ∀ (n y b : Nat) (vs : List Int) (r : List am_V) (M : am_M) (q : am_R), am_run P n y b vs r M = some q → am_cI M → am_cI q.2 := by
  intro n
  induction n with
  | zero => intro y b vs r M q h; cases h
  | succ n ih =>
    intro y b vs r M q h hc
    refine am_ex_cI (K := am_run P n y) (Cc := am_cm P (am_run P n)) (fun b vs r M' q h' => ih y b vs r M' q h') (fun z as M' q h' hc' => ?_) _ _ _ _ _ h hc
    unfold am_cm at h'
    cases ht : am_tg (P z 0).1 as with
    | none => rw [ht] at h'; cases h'
    | some vs' => rw [ht] at h'; exact ih _ _ _ _ _ _ h' hc'
def am_UL : List Int := am_KT.flatMap (fun q => (List.range q.2.2.2.2).map (fun i : Nat => q.1 + 256 * (i : Int)))
theorem am_find_mem {k : Int} : ∀ (l : List (Int × Nat × Nat × Nat × Nat)), 0 < (am_find k l).2.2.2 → ∃ q ∈ l, q.1 = k ∧ q.2 = am_find k l
  | [], h => absurd (show 0 < 0 from h) (by decide)
  | q :: l, h => by
    unfold am_find at h ⊢
    by_cases hk : q.1 = k
    · rw [if_pos hk] at h ⊢; exact ⟨q, List.mem_cons_self, hk, rfl⟩
    · rw [if_neg hk] at h ⊢
      obtain ⟨w, h1, h2⟩ := am_find_mem l h
      exact ⟨w, List.mem_cons_of_mem _ h1, h2⟩
theorem am_inU_UL {L : Int} (h : am_inU L) : L ∈ am_UL := by
  obtain ⟨h0, h1⟩ := h
  have hd : 0 ≤ L / 256 := by omega
  obtain ⟨q, q1, q2, q3⟩ := am_find_mem (k := L % 256) am_KT (by show 0 < am_nb L; omega)
  unfold am_UL
  refine List.mem_flatMap.mpr ⟨q, q1, List.mem_map.mpr ⟨(L / 256).toNat, List.mem_range.mpr ?_, ?_⟩⟩
  · have : q.2.2.2.2 = am_nb L := by rw [q3]; rfl
    rw [this]
    omega
  · rw [q2]; omega
theorem am_sum_sub {f : Int → Nat} : ∀ (al U : List Int), al.Nodup → (∀ x ∈ al, x ∈ U) → (al.map f).sum ≤ (U.map f).sum
  | [], U, _, _ => Nat.zero_le _
  | a :: al, U, hn, hs => by
    have ha := hs a List.mem_cons_self
    have hn' := List.nodup_cons.mp hn
    have ih := am_sum_sub (f := f) al (U.erase a) hn'.2 (fun x hx => by
      have hne : x ≠ a := fun z => hn'.1 (z ▸ hx)
      exact (List.mem_erase_of_ne hne).mpr (hs x (List.mem_cons_of_mem _ hx)))
    have hp := ((List.perm_cons_erase ha).map f).sum_nat
    rw [hp, List.map_cons, List.map_cons, List.sum_cons, List.sum_cons]
    omega
theorem am_cI_le {M : am_M} (h : am_cI M) : M (-2) 0 ≤ 600000 ∧ M (-2) 1 ≤ 7302250 := by
  obtain ⟨al, h1, h2, h3, h4⟩ := h
  have hs : ∀ x ∈ al, x ∈ am_UL := fun x hx => am_inU_UL (h2 x hx).1
  have a1 := am_sum_sub (f := fun _ => 1) al am_UL h1 hs
  have a2 := am_sum_sub (f := am_siz) al am_UL h1 hs
  have b1 : (am_UL.map (fun _ => 1)).sum ≤ 600000 := by decide +kernel
  have b2 : (am_UL.map am_siz).sum ≤ 7302250 := by decide +kernel
  omega
