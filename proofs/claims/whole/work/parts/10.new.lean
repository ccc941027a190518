section AMR5
variable {p : Program} {l : Launch} {e : Env} {R : Room} {s : State} {m : MethodId} {args : Array Value} {below : List Frame} {meth : Method} {c : Code} {Q : State → Prop} {G : am_Gt} {cc : ByteArray} {nL pc : Nat} {c0 s0 : Int} {own : String}
def am_adn (ad : Int → Nat) (L : Int) (q : Nat) : Int → Nat := fun x => if x = L then q else ad x
theorem am_val_ad {ad ad' : Int → Nat} {v : am_V} (h : 2 ≤ v.1 → v.2 ≠ 0 → ad' v.2 = ad v.2) : am_val ad' v = am_val ad v := by
  obtain ⟨t, x⟩ := v
  match t, h with
  | 0, _ => rfl
  | 1, _ => rfl
  | t + 2, h =>
    show (if x = 0 then Value.null else .ref (ad' x)) = (if x = 0 then Value.null else .ref (ad x))
    by_cases h0 : x = 0
    · rw [if_pos h0, if_pos h0]
    · rw [if_neg h0, if_neg h0, h (by show 2 ≤ t + 2; omega) h0]
theorem am_val_ext {ad ad' : Int → Nat} {al : List Int} {v : am_V} (hx : ∀ x : Int, x ∈ al ∨ x = 1 ∨ x = 2 ∨ x = 3 → ad' x = ad x) (hv : am_wv al v) : am_val ad' v = am_val ad v :=
  am_val_ad (fun h2 h0 => (hv.2.2 h2).elim (fun z => absurd z h0) (hx _))
theorem am_map_ext {ad ad' : Int → Nat} {al : List Int} {st : List am_V} (hx : ∀ x : Int, x ∈ al ∨ x = 1 ∨ x = 2 ∨ x = 3 → ad' x = ad x) (hv : ∀ v ∈ st, am_wv al v) : st.map (am_val ad') = st.map (am_val ad) := List.map_congr_left fun v h => am_val_ext hx (hv v h)
theorem am_lv_ext {ad ad' : Int → Nat} {al : List Int} {lv : am_L} (hx : ∀ x : Int, x ∈ al ∨ x = 1 ∨ x = 2 ∨ x = 3 → ad' x = ad x) (hv : ∀ q ∈ lv, am_wv al q.2) : am_lv ad' lv = am_lv ad lv := List.map_congr_left fun q h => by rw [am_val_ext hx (hv q h)]
theorem am_cell_ext {cA : Nat → ClassId} {ad ad' : Int → Nat} {al : List Int} {M : am_M} {L : Int} (hx : ∀ x : Int, x ∈ al ∨ x = 1 ∨ x = 2 ∨ x = 3 → ad' x = ad x) (hw : ∀ j : Nat, j < am_siz L → am_wv al (am_tag L j, M L j)) : am_cell cA ad' M L = am_cell cA ad M L := by
  unfold am_cell
  by_cases h8 : am_cls L < 8
  · rw [if_pos h8, if_pos h8]
    congr 2
    unfold am_obj
    apply List.map_congr_left
    intro j hj
    have h1 := hw j (List.mem_range.mp hj)
    have htag : am_tag L j = am_ftag (am_cls L) j := by unfold am_tag; rw [if_pos h8]
    rw [htag] at h1
    exact am_val_ext hx h1
  · rw [if_neg h8, if_neg h8]
    congr 3
    unfold am_arr
    by_cases h1 : am_aty L = 1
    · rw [if_pos h1, if_pos h1]
    · rw [if_neg h1, if_neg h1]
      by_cases h3 : am_aty L = 3 ∨ am_aty L = 4
      · rw [if_pos h3, if_pos h3]
        congr 4
        funext j
        by_cases hj : j < am_siz L
        · rw [if_pos hj, if_pos hj]
          have h2 := hw j hj
          have htag : am_tag L j = 2 := by rw [am_atag (by omega), if_neg h1, if_pos h3]
          rw [htag] at h2
          unfold am_rf
          by_cases h0 : M L j = 0
          · rw [if_pos h0, if_pos h0]
          · rw [if_neg h0, if_neg h0]
            rcases h2.2.2 (Nat.le_refl 2) with z | z
            · exact absurd z h0
            · rw [hx _ z]
        · rw [if_neg hj, if_neg hj]
      · rw [if_neg h3, if_neg h3]
theorem am_alloc_row {M : am_M} {L L' : Int} (h1 : L' ≠ -1) (h2 : L' ≠ -2) (h : L' ≠ L) : am_alloc M L L' = M L' := by
  funext i
  unfold am_alloc
  rw [if_neg h1, if_neg h2, if_neg h]
theorem am_alloc_self {M : am_M} {L i : Int} (h0 : 0 < L) : am_alloc M L L i = 0 := by
  unfold am_alloc
  rw [if_neg (by omega), if_neg (by omega), if_pos rfl]
theorem am_alloc_m1 {M : am_M} {L i : Int} : am_alloc M L (-1) i = if i = L then 1 else M (-1) i := by
  unfold am_alloc
  rw [if_pos rfl]
theorem am_alloc_c {M : am_M} {L : Int} : am_alloc M L (-2) 0 = M (-2) 0 + 1 ∧ am_alloc M L (-2) 1 = M (-2) 1 + am_siz L := by
  constructor
  · unfold am_alloc
    rw [if_neg (by decide), if_pos rfl, if_pos rfl]
  · unfold am_alloc
    rw [if_neg (by decide), if_pos rfl, if_neg (by decide), if_pos rfl]
theorem am_wf_new {S0 M : am_M} {al : List Int} {L : Int} (h : am_wf S0 M al) (hU : am_inU L) (hf : M (-1) L = 0) : L ∉ al ∧ am_wf S0 (am_alloc M L) (al ++ [L]) := by
  obtain ⟨h1, h2, h3, h4, h5, h6, h7⟩ := h
  have hni : L ∉ al := fun z => (h2 L z).2 hf
  have h0 := hU.1
  have hold := am_inU_old hU
  have hrow : ∀ L' ∈ al, am_alloc M L L' = M L' := fun L' z => by
    have := (h2 L' z).1.1
    exact am_alloc_row (by omega) (by omega) (fun q => hni (q ▸ z))
  refine ⟨hni, ?_, fun L' hL' => ?_, fun L' hL' j hj => ?_, ?_, ?_, ?_, fun L' hp hne => ?_⟩
  · rw [List.nodup_append]
    exact ⟨h1, by simp, fun a ha b hb => by rw [List.mem_singleton.mp hb]; exact fun q => hni (q ▸ ha)⟩
  · rcases List.mem_append.mp hL' with z | z
    · refine ⟨(h2 L' z).1, ?_⟩
      rw [am_alloc_m1]
      by_cases q : L' = L
      · rw [if_pos q]; decide
      · rw [if_neg q]; exact (h2 L' z).2
    · rw [List.mem_singleton.mp z]
      exact ⟨hU, by rw [am_alloc_m1, if_pos rfl]; decide⟩
  · rcases List.mem_append.mp hL' with z | z
    · rw [hrow L' z]
      exact am_wv_mono (fun x hx => List.mem_append_left _ hx) (h3 L' z j hj)
    · rw [List.mem_singleton.mp z, am_alloc_self h0]
      exact ⟨fun _ => show am_r32 0 by decide, fun _ => show am_r64 0 by decide, fun _ => Or.inl rfl⟩
  · rw [am_alloc_row (by decide) (by decide) (fun q => hold (Or.inl q.symm))]; exact h4
  · rw [am_alloc_row (by decide) (by decide) (fun q => hold (Or.inr (Or.inl q.symm)))]; exact h5
  · rw [am_alloc_row (by decide) (by decide) (fun q => hold (Or.inr (Or.inr q.symm)))]; exact h6
  · rw [am_alloc_m1] at hne
    by_cases q : L' = L
    · rw [q]; exact List.mem_append_right _ (List.mem_singleton.mpr rfl)
    · rw [if_neg q] at hne; exact List.mem_append_left _ (h7 L' hp hne)
theorem am_adn_old {ad : Int → Nat} {al : List Int} {L : Int} {q : Nat} (hni : L ∉ al) (hU : am_inU L) : ∀ x : Int, x ∈ al ∨ x = 1 ∨ x = 2 ∨ x = 3 → am_adn ad L q x = ad x := by
  intro x hx
  unfold am_adn
  rw [if_neg]
  intro z
  subst z
  rcases hx with hx | hx
  · exact hni hx
  · exact am_inU_old hU hx
theorem am_ws_new {cA : Nat → ClassId} {ad : Int → Nat} {S0 M : am_M} {al : List Int} {L : Int} (q : Nat) (h : am_wf S0 M al) (hU : am_inU L) (hf : M (-1) L = 0) : am_ws cA ad M al ++ [(q, am_cell cA (am_adn ad L q) (am_alloc M L) L)] = am_ws cA (am_adn ad L q) (am_alloc M L) (al ++ [L]) := by
  have hni := (am_wf_new h hU hf).1
  have hx := am_adn_old (ad := ad) (q := q) hni hU
  unfold am_ws
  rw [List.map_append]
  congr 1
  · apply List.map_congr_left
    intro L' hL'
    have h0 := (h.2.1 L' hL').1.1
    have hne : L' ≠ L := fun z => hni (z ▸ hL')
    have hrow : am_alloc M L L' = M L' := am_alloc_row (by omega) (by omega) hne
    rw [hx L' (Or.inl hL'), am_cell_row hrow, am_cell_ext hx (h.2.2.1 L' hL')]
  · show [(q, _)] = [(am_adn ad L q L, _)]
    unfold am_adn
    rw [if_pos rfl]
/-- the step behind a new cell -/
theorem am_new_go {lv : am_L} {st : List am_V} {M : am_M} {L : Int} {ad : Int → Nat} {al : List Int} {H H1 : Heap} {locs : List Loc} {ls : Array Slot} {len q : Nat} (hU : am_inU L) (hf : M (-1) L = 0) (hc : c0 ≤ M (-2) 0) (hs : s0 ≤ M (-2) 1) (hW : am_Wd G ad M al s H) (hl : lv_has ls nL (am_lv ad lv)) (hq : ∀ q ∈ lv, am_wv al q.2) (hst : ∀ v ∈ st, am_wv al v)
    (kk : am_Go p l e R s m args below meth c Q G nL c0 s0 (pc + len) lv ((2, L) :: st) (am_alloc M L))
    (hP : va_P G.1 vwCl (am_ws G.2.1 ad M al ++ [(q, am_cell G.2.1 (am_adn ad L q) (am_alloc M L) L)]) H1) (hD : va_D (am_A G) (am_ws G.2.1 ad M al ++ [(q, am_cell G.2.1 (am_adn ad L q) (am_alloc M L) L)])) (hS1 : va_S (am_A G) s.heap H1 locs) :
    W p l e R s m args below meth c H1 locs ((M (-2) 0 - c0).toNat + 1) ((M (-2) 1 - s0).toNat + am_siz L) Q (F0 m (pc + len) ls (.ref q :: st.map (am_val ad))) := by
  obtain ⟨w1, w2, w3, w4, w5, w6, w7⟩ := hW
  obtain ⟨hni, hwf⟩ := am_wf_new w4 hU hf
  have hx := am_adn_old (ad := ad) (q := q) hni hU
  rw [am_ws_new q w4 hU hf] at hP hD
  have hsub : ∀ x ∈ al, x ∈ al ++ [L] := fun x h => List.mem_append_left _ h
  have kk' := kk (am_adn ad L q) (al ++ [L]) H1 locs ls ⟨hP, hD, w3, hwf, (hx 1 (Or.inr (Or.inl rfl))).trans w5, (hx 2 (Or.inr (Or.inr (Or.inl rfl)))).trans w6, (hx 3 (Or.inr (Or.inr (Or.inr rfl)))).trans w7.1, fun L' hp hne => ⟨List.mem_append_left _ (w7.2 L' hp hne).1, (hx L' (Or.inl (w7.2 L' hp hne).1)).trans (w7.2 L' hp hne).2⟩⟩ hS1 (by rw [am_lv_ext hx hq]; exact hl) (fun z h => am_wv_mono hsub (hq z h))
    (am_push ⟨(fun h => nomatch h), (fun h => nomatch h), fun _ => Or.inr (Or.inl (List.mem_append_right _ (List.mem_singleton.mpr rfl)))⟩ (fun z h => am_wv_mono hsub (hst z h)))
  have h0 := hU.1
  rw [List.map_cons, am_map_ext hx hst, am_val2r _ (by omega)] at kk'
  have e1 : am_adn ad L q L = q := by unfold am_adn; rw [if_pos rfl]
  rw [e1, am_alloc_c.1, am_alloc_c.2] at kk'
  have e2 : (M (-2) 0 + 1 - c0).toNat = (M (-2) 0 - c0).toNat + 1 := by omega
  have e3 : (M (-2) 1 + (am_siz L : Int) - s0).toNat = (M (-2) 1 - s0).toNat + am_siz L := by omega
  rw [e2, e3] at kk'
  exact kk'
end AMR5
