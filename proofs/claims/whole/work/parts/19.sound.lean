section AMX2
variable {p : Program} {l : Launch} {e : Env} {R : Room} {s : State} {m : MethodId} {args : Array Value} {below : List Frame} {meth : Method} {c : Code} {Q : State → Prop} {G : am_Gt} {c0 s0 : Int} {P : am_P} {Y : Nat → am_MI} {y : Nat} {K : am_Kt} {Cc : am_Ct} {vf : Int} {Mf : am_M}
/-- blocks: what the small machine says comes about -/
theorem am_ex_go (C : am_Cx p s m args c (Y y).1.cls (Y y).2.1 (Y y).2.2.1 G) (hini : (Y y).1.name = "<init>" → meth.name = "<init>") (hfy : (Y y).2.2.2.2.1 ≤ R.frames) (hly : (Y y).2.2.2.2.2 ≤ R.locals)
    (hK : ∀ (b : Nat) (vs : List Int) (r : List am_V) (M' : am_M) (n : Nat), K b vs r M' = some (vf, Mf) → am_bpc P y b = some n → c0 ≤ M' (-2) 0 → s0 ≤ M' (-2) 1 → am_Go p l e R s m args below meth c Q G (Y y).2.2.1 c0 s0 n (am_zip (P y b).1 vs) r M')
    (hKm : ∀ b vs r M', K b vs r M' = some (vf, Mf) → M' (-2) 0 ≤ Mf (-2) 0 ∧ M' (-2) 1 ≤ Mf (-2) 1)
    (hC : ∀ z as M' v M'', Cc z as M' = some (v, M'') → am_Ctr l G (Y z) as M' v M'')
    (hr1 : Mf (-2) 0 - c0 ≤ R.cells) (hr2 : Mf (-2) 1 - s0 ≤ R.slots)
    (hret : ∀ (pc : Nat) (i : Instr) (lv : am_L) (st : List am_V), am_isR (Y y).2.2.2.1 i vf st → decode (Y y).2.1 pc = .ok (i, 1) → am_Go p l e R s m args below meth c Q G (Y y).2.2.1 c0 s0 pc lv st Mf) :
    ∀ (is : List am_I) (pc : Nat) (lv : am_L) (st : List am_V) (M : am_M), (is.head?).map (fun i => i.1) = some pc → am_ckL P Y y is = true → am_ex (fun b => (P y b).1) K Cc is lv st M = some (vf, Mf) → c0 ≤ M (-2) 0 → s0 ≤ M (-2) 1 → am_Go p l e R s m args below meth c Q G (Y y).2.2.1 c0 s0 pc lv st M := by
  have hCm : ∀ z as M' v M'', Cc z as M' = some (v, M'') → M' (-2) 0 ≤ M'' (-2) 0 ∧ M' (-2) 1 ≤ M'' (-2) 1 := fun z as M' v M'' h => ⟨(hC z as M' v M'' h).1, (hC z as M' v M'' h).2.1⟩
  have hle := am_ex_le (live := fun b => (P y b).1) hKm hCm
  intro is
  induction is with
  | nil => intro pc lv st M hpc; cases hpc
  | cons i0 is ih =>
    intro pc lv st M hpc hck h hc0 hs0
    obtain ⟨pc', i, xs⟩ := i0
    have epc : pc' = pc := Option.some.inj hpc
    subst epc
    unfold am_ckL at hck
    simp only [Bool.and_eq_true] at hck
    obtain ⟨⟨hck1, hnext⟩, hckL⟩ := hck
    unfold am_ex at h
    try dsimp only at h
    /- the next instruction -/
    have nx : ∀ (lv' : am_L) (st' : List am_V) (M' : am_M), am_ex (fun b => (P y b).1) K Cc is lv' st' M' = some (vf, Mf) → c0 ≤ M' (-2) 0 → s0 ≤ M' (-2) 1 → am_Go p l e R s m args below meth c Q G (Y y).2.2.1 c0 s0 (pc' + am_il i) lv' st' M' := by
      intro lv' st' M' h' h1 h2
      cases is with
      | nil => cases h'
      | cons j is' =>
        have ej : j.1 = pc' + am_il i := of_decide_eq_true hnext
        exact ih (pc' + am_il i) lv' st' M' (by show some j.1 = _; rw [ej]) hckL h' h1 h2
    /- a jump to a block -/
    have jp : ∀ (b : Nat) (n : Nat) (r : List am_V), am_bpc P y b = some n → am_J (fun b => (P y b).1) K b lv r M = some (vf, Mf) → am_Go p l e R s m args below meth c Q G (Y y).2.2.1 c0 s0 n lv r M := by
      intro b n r hb hj
      obtain ⟨vs, hv, hk⟩ := am_J_of hj
      exact am_go_pick hv (hK b vs r M n hk hb hc0 hs0)
    cases hct : am_ct i xs lv st M with
    | none => rw [hct] at h; cases h
    | some w =>
      rw [hct] at h
      rcases w with w | ⟨cd, b1, b2, r⟩ | ⟨x, ps, d, r⟩ | ⟨z, as, rest, rt⟩ | v
      · have hs := am_ct_s1 hct
        obtain ⟨d1, d2, d3⟩ := am_ck_s1 hck1 hs
        have hl1 := hle _ _ _ _ h
        have hl2 := am_ch_le (am_s1_ch hs)
        refine am_s1_go C (fun z => hini (of_decide_eq_true z)) d2 d1 hs ⟨hc0, hs0, by omega, by omega, fun z => ?_⟩ (nx _ _ _ h (by omega) (by omega))
        obtain ⟨q1, q2⟩ := d3 z
        exact ⟨Nat.le_trans q1 hfy, Nat.le_trans q2 hly⟩
      · have h : (bif cd then am_J (fun b => (P y b).1) K b1 lv r M else am_J (fun b => (P y b).1) K b2 lv r M) = some (vf, Mf) := h
        cases i with
        | nop => match xs, hct, hck1 with
          | b :: xs', hct, hck1 =>
            cases hct
            obtain ⟨n, g1, g2⟩ := am_tgt_of (show am_tgt P y b (pc' : Int) = true from hck1)
            have : n = pc' := by omega
            subst this
            exact jp _ _ _ g1 h
        | goto off => match xs, hct, hck1 with
          | b :: xs', hct, hck1 =>
            cases hct
            have hck1 : (am_dc (Y y).2.1 pc' (.goto off) 3 && am_tgt P y b (pc' + off)) = true := hck1
            rw [Bool.and_eq_true] at hck1
            obtain ⟨n, g1, g2⟩ := am_tgt_of hck1.2
            exact am_r_goto C (of_decide_eq_true hck1.1) g2 (jp _ _ _ g1 h)
        | ifCond c' off => match xs, st, hct, hck1 with
          | a1 :: a2 :: xs', (0, x) :: r', hct, hck1 =>
            cases hct
            have hck1 : (am_dc (Y y).2.1 pc' (.ifCond c' off) 3 && am_tgt P y a1 (pc' + off) && am_tgt P y a2 (pc' + 3)) = true := hck1
            simp only [Bool.and_eq_true] at hck1
            obtain ⟨n, g1, g2⟩ := am_tgt_of hck1.1.2
            obtain ⟨n', g3, g4⟩ := am_tgt_of hck1.2
            have : n' = pc' + 3 := by omega
            subst this
            exact am_r_if C (of_decide_eq_true hck1.1.1) g2 (fun z => jp _ _ _ g1 (by rw [z] at h; exact h)) (fun z => jp _ _ _ g3 (by rw [z] at h; exact h))
        | if_icmp c' off => match xs, st, hct, hck1 with
          | a1 :: a2 :: xs', (0, y') :: (0, x) :: r', hct, hck1 =>
            cases hct
            have hck1 : (am_dc (Y y).2.1 pc' (.if_icmp c' off) 3 && am_tgt P y a1 (pc' + off) && am_tgt P y a2 (pc' + 3)) = true := hck1
            simp only [Bool.and_eq_true] at hck1
            obtain ⟨n, g1, g2⟩ := am_tgt_of hck1.1.2
            obtain ⟨n', g3, g4⟩ := am_tgt_of hck1.2
            have : n' = pc' + 3 := by omega
            subst this
            exact am_r_icmp C (of_decide_eq_true hck1.1.1) g2 (fun z => jp _ _ _ g1 (by rw [z] at h; exact h)) (fun z => jp _ _ _ g3 (by rw [z] at h; exact h))
        | ifnull off => match xs, st, hct, hck1 with
          | a1 :: a2 :: xs', (2, x) :: r', hct, hck1 =>
            cases hct
            have hck1 : (am_dc (Y y).2.1 pc' (.ifnull off) 3 && am_tgt P y a1 (pc' + off) && am_tgt P y a2 (pc' + 3)) = true := hck1
            simp only [Bool.and_eq_true] at hck1
            obtain ⟨n, g1, g2⟩ := am_tgt_of hck1.1.2
            obtain ⟨n', g3, g4⟩ := am_tgt_of hck1.2
            have : n' = pc' + 3 := by omega
            subst this
            exact am_r_nul C (of_decide_eq_true hck1.1.1) g2 (fun z => jp _ _ _ g1 (by rw [z] at h; exact h)) (fun z => jp _ _ _ g3 (by rw [z] at h; exact h))
        | ifnonnull off => match xs, st, hct, hck1 with
          | a1 :: a2 :: xs', (2, x) :: r', hct, hck1 =>
            cases hct
            have hck1 : (am_dc (Y y).2.1 pc' (.ifnonnull off) 3 && am_tgt P y a1 (pc' + off) && am_tgt P y a2 (pc' + 3)) = true := hck1
            simp only [Bool.and_eq_true] at hck1
            obtain ⟨n, g1, g2⟩ := am_tgt_of hck1.1.2
            obtain ⟨n', g3, g4⟩ := am_tgt_of hck1.2
            have : n' = pc' + 3 := by omega
            subst this
            exact am_r_nnul C (of_decide_eq_true hck1.1.1) g2 (fun z => jp _ _ _ g1 (by rw [z] at h; exact h)) (fun z => jp _ _ _ g3 (by rw [z] at h; exact h))
        | _ => exact absurd hct (am_no_br _ _ _ _ rfl)
      · have h : am_sw (fun b => (P y b).1) K x d lv r M ps = some (vf, Mf) := h
        cases i with
        | tableswitch dd lo hi offs => match xs, st, hct, hck1 with
          | a1 :: xs', (0, x') :: r', hct, hck1 =>
            cases hct
            have hck1 : (am_dcx (Y y).2.1 pc' (.tableswitch dd lo hi offs) && am_tgt P y a1 (pc' + dd) && decide (hi = lo + offs.toList.length - 1) && am_swp P y pc' (am_tq lo offs.toList) ps) = true := hck1
            simp only [Bool.and_eq_true, decide_eq_true_eq] at hck1
            obtain ⟨⟨⟨k1, k2⟩, k3⟩, k4⟩ := hck1
            obtain ⟨len, hdg⟩ := am_dcx_of k1
            obtain ⟨n, g1, g2⟩ := am_tgt_of k2
            obtain ⟨hx, hb, hml, hown, hts, hO⟩ := C
            rcases am_sw_of _ _ k4 h with ⟨off, b, n', q1, -, q3, q4, q5⟩ | ⟨q1, q2⟩
            · have kj := jp _ _ _ q3 q5
              obtain ⟨t1, t2, t3⟩ := am_tq_mem q1
              intro ad al H locs ls hW hS hl hq hst
              have hr := (am_hd hst).1 rfl
              have e := am_i32_t hr
              have kk' := kj ad al H locs ls hW hS hl hq (am_tl hst)
              rw [List.map_cons, am_val0]
              dsimp only at e
              exact lv_tableIn hx hb hdg (by rw [e]; omega) (by rw [e]; omega) (by rw [e, ← Array.getElem?_toList]; exact t3) q4 kk'
            · have kj := jp _ _ _ g1 q2
              intro ad al H locs ls hW hS hl hq hst
              have hr := (am_hd hst).1 rfl
              have e := am_i32_t hr
              have kk' := kj ad al H locs ls hW hS hl hq (am_tl hst)
              rw [List.map_cons, am_val0]
              dsimp only at e
              refine lv_tableOut hx hb hdg ?_ g2 kk'
              rw [e]
              rcases Int.lt_or_le x lo with z1 | z1
              · exact Or.inl z1
              · rcases Int.lt_or_le hi x with z2 | z2
                · exact Or.inr z2
                · obtain ⟨off, ho⟩ := am_tq_has (os := offs.toList) z1 (by omega)
                  exact absurd rfl (q1 _ ho)
        | lookupswitch dd prs => match xs, st, hct, hck1 with
          | a1 :: xs', (0, x') :: r', hct, hck1 =>
            cases hct
            have hck1 : (am_dcx (Y y).2.1 pc' (.lookupswitch dd prs) && am_tgt P y a1 (pc' + dd) && (prs.toList.zip (prs.toList.drop 1)).all (fun (a, next) => a.1 < next.1) && am_swp P y pc' prs.toList ps) = true := hck1
            rw [Bool.and_eq_true, Bool.and_eq_true, Bool.and_eq_true] at hck1
            obtain ⟨⟨⟨k1, k2⟩, k3⟩, k4⟩ := hck1
            obtain ⟨len, hdg⟩ := am_dcx_of k1
            obtain ⟨n, g1, g2⟩ := am_tgt_of k2
            obtain ⟨hx, hb, hml, hown, hts, hO⟩ := C
            rcases am_sw_of _ _ k4 h with ⟨off, b, n', q1, q2, q3, q4, q5⟩ | ⟨q1, q2⟩
            · have kj := jp _ _ _ q3 q5
              intro ad al H locs ls hW hS hl hq hst
              have hr := (am_hd hst).1 rfl
              have e := am_i32_t hr
              have kk' := kj ad al H locs ls hW hS hl hq (am_tl hst)
              rw [List.map_cons, am_val0]
              dsimp only at e
              exact lv_lookup hx hb hdg k3 (by rw [e]; exact am_lo_some _ q1 q2) q4 kk'
            · have kj := jp _ _ _ g1 q2
              intro ad al H locs ls hW hS hl hq hst
              have hr := (am_hd hst).1 rfl
              have e := am_i32_t hr
              have kk' := kj ad al H locs ls hW hS hl hq (am_tl hst)
              rw [List.map_cons, am_val0]
              dsimp only at e
              exact lv_lookup hx hb hdg k3 (by rw [e]; exact am_lo_none _ q1) g2 kk'
        | _ => exact absurd hct (am_no_sw _ _ _ _ rfl)
      · dsimp only at h
        cases hz : Cc z as M with
        | none => rw [hz] at h; cases h
        | some w =>
          rw [hz] at h
          have h : am_ex (fun b => (P y b).1) K Cc is lv (am_ans rt w.1 rest) w.2 = some (vf, Mf) := h
          have hctr := hC z as M w.1 w.2 hz
          have hl1 := hle _ _ _ _ h
          have hl2 := hCm z as M w.1 w.2 hz
          have kk := nx _ _ _ h (by omega) (by omega)
          obtain ⟨d1, d2, d3⟩ := am_ck_call hck1 hct
          rw [d3] at kk
          exact am_r_call C d2 d1 hct hctr hc0 hs0 (by omega) (by omega) hfy hly kk
      · cases h
        obtain ⟨d1, d2⟩ := am_ck_ret hck1 hct
        exact hret pc' i lv st d2 d1
end AMX2
