theorem am_find_all {Pd : Nat × Nat × Nat × Nat → Prop} (h0 : Pd (99, 99, 0, 0)) (k : Int) : ∀ (l : List (Int × Nat × Nat × Nat × Nat)), (∀ q ∈ l, Pd q.2) → Pd (am_find k l)
  | [], _ => h0
  | q :: l, h => by
    unfold am_find
    by_cases hk : q.1 = k
    · rw [if_pos hk]; exact h q List.mem_cons_self
    · rw [if_neg hk]; exact am_find_all h0 k l (fun w hw => h w (List.mem_cons_of_mem _ hw))
def am_N (c : Nat) : Nat := [12, 4, 4, 2, 6, 16, 10, 55].getD c 0
theorem am_cls_siz (L : Int) : am_cls L < 8 → am_siz L = am_N (am_cls L) := by
  have h := am_find_all (Pd := fun q => q.1 < 8 → q.2.2.1 = am_N q.1) (by decide) (L % 256) am_KT (by decide +kernel)
  exact h
theorem am_cls_aty (L : Int) : am_aty L ≤ 5 → am_cls L = 99 := by
  have h := am_find_all (Pd := fun q => q.2.1 ≤ 5 → q.1 = 99) (by decide) (L % 256) am_KT (by decide +kernel)
  exact h
theorem am_aty5 (L : Int) : am_aty L = 5 → am_nb L = 0 := by
  have h := am_find_all (Pd := fun q => q.2.1 = 5 → q.2.2.2 = 0) (by decide) (L % 256) am_KT (by decide +kernel)
  exact h
theorem am_siz_le (L : Int) : am_siz L ≤ 44000 := by
  have h := am_find_all (Pd := fun q => q.2.2.1 ≤ 44000) (by decide) (L % 256) am_KT (by decide +kernel)
  exact h
theorem am_old_cls {L : Int} (h : L = 1 ∨ L = 2 ∨ L = 3) : am_cls L = 99 ∧ am_aty L = 5 ∧ am_nb L = 0 := by
  rcases h with rfl | rfl | rfl <;> decide +kernel
theorem am_inU_old {L : Int} (h : am_inU L) : ¬ (L = 1 ∨ L = 2 ∨ L = 3) := by
  intro ho
  have h1 := (am_old_cls ho).2.2
  have h2 := h.2
  rw [h1] at h2
  rcases ho with rfl | rfl | rfl <;> omega
theorem am_ws_at {cA : Nat → ClassId} {ad : Int → Nat} {M : am_M} {al : List Int} {L : Int} (h : L ∈ al) : ∃ q0 : Nat, al[q0]? = some L ∧ (am_ws cA ad M al)[q0]? = some (ad L, am_cell cA ad M L) := by
  obtain ⟨i, hi⟩ := List.getElem?_of_mem h
  exact ⟨i, hi, by unfold am_ws; rw [List.getElem?_map, hi]; rfl⟩
theorem am_cell_row {cA : Nat → ClassId} {ad : Int → Nat} {M M' : am_M} {L : Int} (h : M' L = M L) : am_cell cA ad M' L = am_cell cA ad M L := by
  unfold am_cell am_obj am_arr
  rw [h]
theorem am_ws_set {cA : Nat → ClassId} {ad : Int → Nat} {M M' : am_M} {al : List Int} {L : Int} {q0 : Nat} {x : va_E} (hn : al.Nodup) (hq : al[q0]? = some L) (h : ∀ L', L' ∈ al → L' ≠ L → M' L' = M L') (hx : x = am_cell cA ad M' L) : (am_ws cA ad M al).set q0 (ad L, x) = am_ws cA ad M' al := by
  apply List.ext_getElem?
  intro i
  have hl : q0 < al.length := (List.getElem?_eq_some_iff.mp hq).1
  by_cases hi : i = q0
  · subst hi
    rw [List.getElem?_set_self (by unfold am_ws; rw [List.length_map]; exact hl)]
    unfold am_ws
    rw [List.getElem?_map, hq, hx]
    rfl
  · rw [List.getElem?_set_ne (Ne.symm hi)]
    unfold am_ws
    rw [List.getElem?_map, List.getElem?_map]
    cases hv : al[i]? with
    | none => rfl
    | some L' =>
      have hne : L' ≠ L := by
        intro e
        subst e
        exact hi ((List.getElem?_inj (List.getElem?_eq_some_iff.mp hv).1 hn).mp (hv.trans hq.symm))
      show some (ad L', am_cell cA ad M L') = some (ad L', am_cell cA ad M' L')
      rw [am_cell_row (h L' (List.mem_of_getElem? hv) hne)]
theorem am_up_row {M : am_M} {L i v L' : Int} (h : L' ≠ L) : am_up M L i v L' = M L' := by
  funext j
  unfold am_up
  rw [if_neg (fun q => h q.1)]
theorem am_up_self {M : am_M} {L i v : Int} : am_up M L i v L i = v := by
  unfold am_up
  rw [if_pos ⟨rfl, rfl⟩]
theorem am_up_ne {M : am_M} {L i v j : Int} (h : j ≠ i) : am_up M L i v L j = M L j := by
  unfold am_up
  rw [if_neg (fun q => h q.2)]
theorem am_wv_mono {al al' : List Int} {v : am_V} (h : ∀ L ∈ al, L ∈ al') (hv : am_wv al v) : am_wv al' v := ⟨hv.1, hv.2.1, fun q => (hv.2.2 q).elim Or.inl (fun z => Or.inr (z.elim (fun y => Or.inl (h _ y)) Or.inr))⟩
/-- rows that no cell of the world is -/
theorem am_wf_row {S0 M M' : am_M} {al : List Int} {L : Int} (h : am_wf S0 M al) (hL : L ∈ al) (hr : ∀ L', L' ≠ L → M' L' = M L') (hv : ∀ j : Nat, j < am_siz L → am_wv al (am_tag L j, M' L j)) : am_wf S0 M' al := by
  obtain ⟨h1, h2, h3, h4, h5, h6, h7⟩ := h
  have hU := (h2 L hL).1
  have hn : ∀ x : Int, x = 1 ∨ x = 2 ∨ x = 3 → M' x = M x := fun x hx => hr x (fun e => am_inU_old hU (by rw [← e]; exact hx))
  have hm : M' (-1) = M (-1) := hr _ (fun e => by have := hU.1; omega)
  refine ⟨h1, fun L' hL' => ⟨(h2 L' hL').1, by rw [hm]; exact (h2 L' hL').2⟩, fun L' hL' j hj => ?_, by rw [hn 1 (Or.inl rfl)]; exact h4, by rw [hn 2 (Or.inr (Or.inl rfl))]; exact h5, by rw [hn 3 (Or.inr (Or.inr rfl))]; exact h6, fun L' h0 hne => h7 L' h0 (by rw [hm] at hne; exact hne)⟩
  by_cases e : L' = L
  · subst e; exact hv j hj
  · rw [hr L' e]; exact h3 L' hL' j hj
theorem am_obj_set {ad : Int → Nat} {M : am_M} {L x : Int} {k : Nat} (hc : am_cls L < 8) : (am_obj ad M L).set k (am_val ad (am_ftag (am_cls L) k, x)) = am_obj ad (am_up M L k x) L := by
  apply List.ext_getElem?
  intro i
  unfold am_obj
  by_cases hi : i = k
  · subst hi
    by_cases hl : i < am_siz L
    · rw [List.getElem?_set_self (by simpa using hl)]
      rw [List.getElem?_map, List.getElem?_range hl]
      show _ = some (am_val ad (am_ftag (am_cls L) i, am_up M L i x L i))
      rw [am_up_self]
    · rw [List.getElem?_eq_none (by simp; omega), List.getElem?_eq_none (by simp; omega)]
  · rw [List.getElem?_set_ne (Ne.symm hi)]
    rw [List.getElem?_map, List.getElem?_map]
    cases hv : (List.range (am_siz L))[i]? with
    | none => rfl
    | some j =>
      have hj : j = i := by
        have h1 := (List.getElem?_eq_some_iff.mp hv).2
        simpa using h1.symm
      subst hj
      show some (am_val ad (am_ftag (am_cls L) j, M L j)) = some (am_val ad (am_ftag (am_cls L) j, am_up M L k x L j))
      rw [am_up_ne (by omega)]
theorem am_cell_o {cA : Nat → ClassId} {ad : Int → Nat} {M : am_M} {L : Int} (hc : am_cls L < 8) : am_cell cA ad M L = .inr (am_cls L, am_obj ad M L) := if_pos hc
theorem am_cell_a {cA : Nat → ClassId} {ad : Int → Nat} {M : am_M} {L : Int} (hc : am_aty L ≤ 5) : am_cell cA ad M L = .inl (cA (am_aty L), am_siz L, am_arr ad M L) := if_neg (by rw [am_cls_aty L hc]; decide)
theorem am_obj_at {ad : Int → Nat} {M : am_M} {L : Int} {k : Nat} (hk : k < am_siz L) : (am_obj ad M L)[k]? = some (am_val ad (am_ftag (am_cls L) k, M L k)) := by
  unfold am_obj
  rw [List.getElem?_map, List.getElem?_range hk]
  rfl
theorem am_obj_len {ad : Int → Nat} {M : am_M} {L : Int} : (am_obj ad M L).length = am_siz L := by unfold am_obj; simp
theorem am_in_al {al : List Int} {L : Int} (h : am_wv al (2, L)) (h0 : 0 < L) (ho : am_aty L ≠ 5) : L ∈ al := by
  rcases h.2.2 (Nat.le_refl 2) with h | h | h
  · have : L = 0 := h
    omega
  · exact h
  · exact absurd (am_old_cls h).2.1 ho
theorem am_cls_n5 {L : Int} (h : am_cls L < 8) : am_aty L ≠ 5 := by
  intro h5
  rw [am_cls_aty L (by omega)] at h
  omega
/-- the tables' words of a sort of object -/
def am_tyq (c : Nat) : Nat → FieldType := match c with
  | 0 => tyX0
  | 1 => tyX1
  | 2 => tyX2
  | 3 => tyX3
  | 4 => tyX4
  | 5 => tyX5
  | 6 => tyX6
  | _ => tyX7
theorem am_clf {c : Nat} {q : vw_C} (h : vwCl[c]? = some q) : (∀ w ∈ u_ws q.1 q.2.1 q.2.2, w ∈ am_tbl) ∧ (∀ k, k < q.2.2 → parseFieldDescriptor (q.2.1 k).2.2.1 = some (am_tyq c k)) ∧ (∀ a, a < q.2.2 → ∀ b, b < q.2.2 → a ≠ b → (q.2.1 a).2.1 ≠ (q.2.1 b).2.1) ∧ q.2.2 = am_N c ∧ c < 8 := by
  match c, h with
  | 0, h => cases h; exact ⟨am_in0, tyX0_ok, nmX0, rfl, by decide⟩
  | 1, h => cases h; exact ⟨am_in1, tyX1_ok, nmX1, rfl, by decide⟩
  | 2, h => cases h; exact ⟨am_in2, tyX2_ok, nmX2, rfl, by decide⟩
  | 3, h => cases h; exact ⟨am_in3, tyX3_ok, nmX3, rfl, by decide⟩
  | 4, h => cases h; exact ⟨am_in4, tyX4_ok, nmX4, rfl, by decide⟩
  | 5, h => cases h; exact ⟨am_in5, tyX5_ok, nmX5, rfl, by decide⟩
  | 6, h => cases h; exact ⟨am_in6, tyX6_ok, nmX6, rfl, by decide⟩
  | 7, h => cases h; exact ⟨am_in7, tyX7_ok, nmX7, rfl, by decide⟩
  | c + 8, h => simp at h
