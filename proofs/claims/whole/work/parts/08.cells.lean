section AMR3
variable {p : Program} {l : Launch} {e : Env} {R : Room} {s : State} {m : MethodId} {args : Array Value} {below : List Frame} {meth : Method} {c : Code} {Q : State → Prop} {G : am_Gt} {cc : ByteArray} {nL pc : Nat} {c0 s0 : Int} {own : String}
/-- the world behind a change of one cell -/
theorem am_Wd_row {ad : Int → Nat} {M M' : am_M} {al : List Int} {U : State} {H H' : Heap} {L : Int} {q0 : Nat} {x : va_E} (h : am_Wd G ad M al U H) (hq : al[q0]? = some L) (hr : ∀ L', L' ≠ L → M' L' = M L') (hv : ∀ j : Nat, j < am_siz L → am_wv al (am_tag L j, M' L j)) (hx : x = am_cell G.2.1 ad M' L)
    (hP : va_P G.1 vwCl ((am_ws G.2.1 ad M al).set q0 (ad L, x)) H') (hD : va_D (am_A G) ((am_ws G.2.1 ad M al).set q0 (ad L, x))) : am_Wd G ad M' al U H' := by
  obtain ⟨h1, h2, h3, h4, h5⟩ := h
  have e := am_ws_set (cA := G.2.1) (ad := ad) (M := M) (M' := M') (x := x) h4.1 hq (fun L' _ hne => hr L' hne) hx
  rw [e] at hP hD
  exact ⟨hP, hD, h3, am_wf_row h4 (List.mem_of_getElem? hq) hr hv, h5⟩
theorem am_m2 {M M' : am_M} {L : Int} (h0 : 0 < L) (hr : ∀ L', L' ≠ L → M' L' = M L') : M' (-2) = M (-2) := hr _ (by omega)
/-- getfield -/
theorem am_r_get (C : am_Cx p s m args c own cc nL G) {idx ci k : Nat} {q : vw_C} {lv : am_L} {st : List am_V} {M : am_M} {L : Int} (hc : vwCl[ci]? = some q) (hk : k < q.2.2) (hw : Cond.fieldLink own idx (q.2.1 k).1 (q.2.1 k).2.1 (q.2.1 k).2.2.1 ∈ am_tbl ∨ ∃ host, Cond.fieldLinkNest own idx (q.2.1 k).1 (q.2.1 k).2.1 (q.2.1 k).2.2.1 host ∈ am_nst) (h0 : 0 < L) (hL : am_cls L = ci) (hdg : decode cc pc = .ok (.getfield idx, 3))
    (kk : am_Go p l e R s m args below meth c Q G nL c0 s0 (pc + 3) lv ((am_ftag ci k, M L k) :: st) M) : am_Go p l e R s m args below meth c Q G nL c0 s0 pc lv ((2, L) :: st) M := by
  obtain ⟨hx, hb, hml, hown, hts, hO⟩ := C
  obtain ⟨f1, f2, f3, f4, f5⟩ := am_clf hc
  intro ad al H locs ls hW hS hl hq hst
  have hc8 : am_cls L < 8 := by rw [hL]; exact f5
  have hal := am_in_al (am_hd hst) h0 (am_cls_n5 hc8)
  obtain ⟨q0, hq0, hat⟩ := am_ws_at (cA := G.2.1) (ad := ad) (M := M) hal
  rw [am_cell_o hc8] at hat
  have hks : k < am_siz L := by rw [am_cls_siz L hc8, hL, ← f4]; exact hk
  have hobj := am_obj_at (ad := ad) (M := M) hks
  have hwv := hW.2.2.2.1.2.2.1 L hal k hks
  have htag : am_tag L k = am_ftag ci k := by unfold am_tag; rw [if_pos hc8, hL]
  rw [htag] at hwv
  have kk' := kk ad al H locs ls hW hS hl hq (am_push hwv (am_tl hst))
  rw [hL] at hat hobj
  rw [List.map_cons, am_val2r ad (by omega)]
  obtain ⟨C1, T1, N1⟩ := q
  rcases hw with hw | ⟨host, hw⟩
  · exact va_get hx hb hts f1 hown hW.2.2.1 hW.1 q0 hat hc k hk (hts _ hw) (fun _ h9 => h9) hobj hdg kk'
  · exact va_getN hx hb hts f1 hown hW.2.2.1 hW.1 q0 hat hc k hk (va_Nw.use rfl (hO.2.2.2.2.2.2.1 _ hw)) (fun _ h9 => h9) hobj hdg kk'
theorem am_fit {ad : Int → Nat} {t : Nat} {z x : Int} {ty : FieldType} (h : (t = 0 ∧ ty = .int) ∨ (t = 0 ∧ z = 4 ∧ ty = .boolean) ∨ (t = 1 ∧ ty = .long) ∨ (t = 2 ∧ ((∃ n, ty = .object n) ∨ ∃ n, ty = .array n))) (hz : z ≠ 4 ∨ x = 0 ∨ x = 1) : narrow ty (am_val ad (t, x)) = am_val ad (t, x) ∧ fits ty (am_val ad (t, x)) = true := by
  rcases h with ⟨rfl, rfl⟩ | ⟨rfl, rfl, rfl⟩ | ⟨rfl, rfl⟩ | ⟨rfl, ⟨n, rfl⟩ | ⟨n, rfl⟩⟩
  · exact ⟨rfl, rfl⟩
  · rcases hz with hz | rfl | rfl
    · exact absurd rfl hz
    · rw [am_val0]; exact ⟨by decide, by decide⟩
    · rw [am_val0]; exact ⟨by decide, by decide⟩
  · exact ⟨rfl, rfl⟩
  · by_cases h0 : x = 0
    · subst h0; exact ⟨rfl, rfl⟩
    · rw [am_val2r ad h0]; exact ⟨rfl, rfl⟩
  · by_cases h0 : x = 0
    · subst h0; exact ⟨rfl, rfl⟩
    · rw [am_val2r ad h0]; exact ⟨rfl, rfl⟩
/-- putfield -/
theorem am_r_put (C : am_Cx p s m args c own cc nL G) {idx ci k : Nat} {q : vw_C} {lv : am_L} {st : List am_V} {M : am_M} {L x z : Int} {ty : FieldType} (hc : vwCl[ci]? = some q) (hk : k < q.2.2) (hw : Cond.fieldLink own idx (q.2.1 k).1 (q.2.1 k).2.1 (q.2.1 k).2.2.1 ∈ am_tbl ∨ ((q.2.1 k).2.2.2 = false ∧ ∃ host, Cond.fieldLinkNest own idx (q.2.1 k).1 (q.2.1 k).2.1 (q.2.1 k).2.2.1 host ∈ am_nst)) (h0 : 0 < L) (hL : am_cls L = ci) (hd : parseFieldDescriptor (q.2.1 k).2.2.1 = some ty)
    (ht : (am_ftag ci k = 0 ∧ ty = .int) ∨ (am_ftag ci k = 0 ∧ z = 4 ∧ ty = .boolean) ∨ (am_ftag ci k = 1 ∧ ty = .long) ∨ (am_ftag ci k = 2 ∧ ((∃ n, ty = .object n) ∨ ∃ n, ty = .array n))) (hz : z ≠ 4 ∨ x = 0 ∨ x = 1) (hfin : (q.2.1 k).2.2.2 = false ∨ ((q.2.1 k).2.2.2 = true ∧ meth.name = "<init>" ∧ (q.2.1 k).1 = own)) (hdg : decode cc pc = .ok (.putfield idx, 3))
    (kk : am_Go p l e R s m args below meth c Q G nL c0 s0 (pc + 3) lv st (am_up M L k x)) : am_Go p l e R s m args below meth c Q G nL c0 s0 pc lv ((am_ftag ci k, x) :: (2, L) :: st) M := by
  obtain ⟨hx, hb, hml, hown, hts, hO⟩ := C
  obtain ⟨f1, f2, f3, f4, f5⟩ := am_clf hc
  intro ad al H locs ls hW hS hl hq hst
  have hc8 : am_cls L < 8 := by rw [hL]; exact f5
  have hal := am_in_al (am_hd (am_tl hst)) h0 (am_cls_n5 hc8)
  obtain ⟨q0, hq0, hat⟩ := am_ws_at (cA := G.2.1) (ad := ad) (M := M) hal
  rw [am_cell_o hc8] at hat
  have hks : k < am_siz L := by rw [am_cls_siz L hc8, hL, ← f4]; exact hk
  have hr : ∀ L', L' ≠ L → am_up M L k x L' = M L' := fun L' h => am_up_row h
  have hv : ∀ j : Nat, j < am_siz L → am_wv al (am_tag L j, am_up M L k x L j) := by
    intro j hj
    by_cases e : j = k
    · subst e
      rw [am_up_self]
      have htag : am_tag L j = am_ftag ci j := by unfold am_tag; rw [if_pos hc8, hL]
      rw [htag]
      exact am_hd hst
    · rw [am_up_ne (by omega)]
      exact hW.2.2.2.1.2.2.1 L hal j hj
  have hm2 := am_m2 h0 hr
  have kk' := fun (H1 : Heap) (locs1 : List Loc) (hP : va_P G.1 vwCl ((am_ws G.2.1 ad M al).set q0 (ad L, .inr (ci, (am_obj ad M L).set k (am_val ad (am_ftag ci k, x))))) H1) (hD : va_D (am_A G) ((am_ws G.2.1 ad M al).set q0 (ad L, .inr (ci, (am_obj ad M L).set k (am_val ad (am_ftag ci k, x)))))) (hS1 : va_S (am_A G) s.heap H1 locs1) =>
    kk ad al H1 locs1 ls (am_Wd_row hW hq0 hr hv (by rw [am_cell_o hc8, ← am_obj_set hc8, hL]) hP hD) hS1 hl hq (am_tl (am_tl hst))
  rw [hm2] at kk'
  rw [hL] at hat
  rw [List.map_cons, List.map_cons, am_val2r ad (by omega)]
  obtain ⟨hn, hf⟩ := am_fit (ad := ad) ht hz
  obtain ⟨C1, T1, N1⟩ := q
  rcases hw with hw | ⟨hfin, host, hw⟩
  · rcases hfin with hfin | ⟨hfin, hin, hdec⟩
    · exact va_put hx hb hts f1 (am_tyq ci) f2 f3 hown hW.2.2.1 hW.1 hW.2.1 hS q0 hat hc k hk (hts _ hw) (fun _ h9 => h9) hfin hd hn hf (by rw [am_obj_len]; exact hks) hdg kk'
    · exact va_putF hx hb hts f1 (am_tyq ci) f2 f3 hown hW.2.2.1 hW.1 hW.2.1 hS q0 hat hc k hk (hts _ hw) (fun _ h9 => h9) hfin hin hdec hd hn hf (by rw [am_obj_len]; exact hks) hdg kk'
  · exact va_putN hx hb hts f1 (am_tyq ci) f2 f3 hown hW.2.2.1 hW.1 hW.2.1 hS q0 hat hc k hk (va_Nw.use rfl (hO.2.2.2.2.2.2.1 _ hw)) (fun _ h9 => h9) hfin hd hn hf (by rw [am_obj_len]; exact hks) hdg kk'
/-- getstatic of the two old arrays -/
theorem am_r_gets (C : am_Cx p s m args c own cc nL G) {idx : Nat} {L : Int} {lv : am_L} {st : List am_V} {M : am_M} (hi : (L = 2 ∧ Cond.fieldLink own idx RX6 "PORTS_IN" "[I" ∈ am_tbl) ∨ (L = 3 ∧ Cond.fieldLink own idx RX6 "PORTS_OUT" "[I" ∈ am_tbl)) (hdg : decode cc pc = .ok (.getstatic idx, 3))
    (kk : am_Go p l e R s m args below meth c Q G nL c0 s0 (pc + 3) lv ((2, L) :: st) M) : am_Go p l e R s m args below meth c Q G nL c0 s0 pc lv st M := by
  obtain ⟨hx, hb, hml, hown, hts, hO⟩ := C
  intro ad al H locs ls hW hS hl hq hst
  obtain ⟨-, -, -, z2, z3, -⟩ := hO
  rcases hi with ⟨rfl, hw⟩ | ⟨rfl, hw⟩
  · have kk' := kk ad al H locs ls hW hS hl hq (am_push ⟨(fun h => nomatch h), (fun h => nomatch h), fun _ => Or.inr (Or.inr (Or.inr (Or.inl rfl)))⟩ hst)
    rw [List.map_cons, am_val2r ad (by decide), hW.2.2.2.2.2.1] at kk'
    exact va_gets hx hb z2 hS hown (hts _ hw) (fun _ h9 => h9) hdg kk'
  · have kk' := kk ad al H locs ls hW hS hl hq (am_push ⟨(fun h => nomatch h), (fun h => nomatch h), fun _ => Or.inr (Or.inr (Or.inr (Or.inr rfl)))⟩ hst)
    rw [List.map_cons, am_val2r ad (by decide), hW.2.2.2.2.2.2.1] at kk'
    exact va_gets hx hb z3 hS hown (hts _ hw) (fun _ h9 => h9) hdg kk'
theorem am_vin {i n : Int} (h0 : 0 ≤ i) (h1 : i < n) (hn : n ≤ 44000) : vp_in (Int32.ofInt i) n.toNat ∧ (Int32.ofInt i).toNatClampNeg = i.toNat := by
  have hr : am_r32 i := ⟨by omega, by omega⟩
  have e := am_i32_t hr
  refine ⟨vp_in_iff.mpr ⟨by rw [e]; exact h0, by rw [e]; omega⟩, ?_⟩
  show (Int32.ofInt i).toInt.toNat = i.toNat
  rw [e]
theorem am_len_siz {M : am_M} {L : Int} (h : L ≠ 1) : am_len M L = am_siz L := if_neg h
theorem am_al_n1 {S0 M : am_M} {al : List Int} {L : Int} (h : am_wf S0 M al) (hL : L ∈ al) : L ≠ 1 := fun e => am_inU_old (h.2.1 L hL).1 (Or.inl e)
theorem am_len_old (hO : am_Old G s s.heap) {L : Int} (h : L = 1 ∨ L = 2 ∨ L = 3) : 0 ≤ am_len G.2.2.2.1 L ∧ am_len G.2.2.2.1 L ≤ 3072 := by
  rcases h with rfl | rfl | rfl
  · exact ⟨hO.2.1, hO.2.2.1⟩
  · rw [am_len_siz (by decide)]; decide +kernel
  · rw [am_len_siz (by decide)]; decide +kernel
theorem am_old_row {M : am_M} {al : List Int} {S0 : am_M} (hw : am_wf S0 M al) {L : Int} (h : L = 1 ∨ L = 2 ∨ L = 3) : M L = S0 L := by
  rcases h with rfl | rfl | rfl
  · exact hw.2.2.2.1
  · exact hw.2.2.2.2.1
  · exact hw.2.2.2.2.2.1
/-- loads of ints, longs and booleans -/
theorem am_r_aldI (C : am_Cx p s m args c own cc nL G) {lv : am_L} {st : List am_V} {M : am_M} {L i v : Int} (h : am_ald 0 M L i = some v) (hdg : decode cc pc = .ok (.iaload, 1))
    (kk : am_Go p l e R s m args below meth c Q G nL c0 s0 (pc + 1) lv ((0, v) :: st) M) : am_Go p l e R s m args below meth c Q G nL c0 s0 pc lv ((0, i) :: (2, L) :: st) M := by
  have C' := C
  obtain ⟨hx, hb, hml, hown, hts, hO⟩ := C
  unfold am_ald at h
  by_cases hc : 0 < L ∧ (am_aty L = 0 ∨ 0 = 0 ∧ am_aty L = 5) ∧ 0 ≤ i ∧ i < am_len M L
  · rw [if_pos hc] at h
    cases h
    obtain ⟨h0, hty, hi0, hi1⟩ := hc
    intro ad al H locs ls hW hS hl hq hst
    rcases hty with hty | ⟨-, hty⟩
    · have hal := am_in_al (am_hd (am_tl hst)) h0 (by omega)
      obtain ⟨q0, hq0, hat⟩ := am_ws_at (cA := G.2.1) (ad := ad) (M := M) hal
      have harr : am_arr ad M L = .inl (fun j => Int32.ofInt (M L j)) := by unfold am_arr; rw [if_neg (by omega), if_neg (by omega)]
      rw [am_cell_a (by omega), harr, hty] at hat
      rw [am_len_siz (am_al_n1 hW.2.2.2.1 hal)] at hi1
      obtain ⟨g1, g2⟩ := am_vin hi0 hi1 (by have := am_siz_le L; omega)
      have hwv := hW.2.2.2.1.2.2.1 L hal i.toNat (by omega)
      have htag : am_tag L i.toNat = 0 := by unfold am_tag; rw [if_neg (by rw [am_cls_aty L (by omega)]; decide), if_neg (by omega), if_neg (by omega)]
      rw [htag, Int.toNat_of_nonneg hi0] at hwv
      have kk' := kk ad al H locs ls hW hS hl hq (am_push hwv (am_tl (am_tl hst)))
      rw [List.map_cons, List.map_cons, am_val2r ad (by omega)]
      refine va_iald hx hb hW.2.2.1 hW.1 q0 0 hat rfl (i := Int32.ofInt i) (by simpa using g1) hdg ?_
      rw [g2, Int.toNat_of_nonneg hi0]
      exact kk'
    · have hold : L = 1 ∨ L = 2 ∨ L = 3 := by
        rcases (am_hd (am_tl hst)).2.2 (Nat.le_refl 2) with z | z | z
        · have : L = 0 := z
          omega
        · have := (hW.2.2.2.1.2.1 L z).1.2
          rw [am_aty5 L hty] at this
          omega
        · exact z
      have hrow := am_old_row hW.2.2.2.1 hold
      have hlen : am_len M L = am_len G.2.2.2.1 L := by
        unfold am_len
        by_cases e1 : L = 1
        · subst e1; rw [if_pos rfl, if_pos rfl, hrow]
        · rw [if_neg e1, if_neg e1]
      rw [hlen] at hi1
      obtain ⟨x1, x2, x3⟩ := hO.1 L hold
      obtain ⟨g1, g2⟩ := am_vin hi0 hi1 (by have := (am_len_old hO hold).2; omega)
      have hr := x3 i.toNat (by rw [Int.toNat_of_nonneg hi0]; exact hi1)
      rw [Int.toNat_of_nonneg hi0, ← hrow] at hr
      have kk' := kk ad al H locs ls hW hS hl hq (am_push (am_wv0 hr) (am_tl (am_tl hst)))
      have had : ad L = G.2.2.2.2 L := by
        rcases hold with rfl | rfl | rfl
        · exact hW.2.2.2.2.1
        · exact hW.2.2.2.2.2.1
        · exact hW.2.2.2.2.2.2.1
      rw [List.map_cons, List.map_cons, am_val2r ad (by omega), had]
      refine va_ti hx hb x1 hS (i := Int32.ofInt i) g1 (v := .int (Int32.ofInt (M L i))) ?_ hdg kk'
      show Value.int (Int32.ofInt (G.2.2.2.1 L (((Int32.ofInt i).toNatClampNeg : Nat) : Int))) = _
      rw [g2, Int.toNat_of_nonneg hi0, ← hrow]
  · rw [if_neg hc] at h; cases h
theorem am_r_aldL (C : am_Cx p s m args c own cc nL G) {lv : am_L} {st : List am_V} {M : am_M} {L i v : Int} (h : am_ald 1 M L i = some v) (hdg : decode cc pc = .ok (.laload, 1))
    (kk : am_Go p l e R s m args below meth c Q G nL c0 s0 (pc + 1) lv ((1, v) :: st) M) : am_Go p l e R s m args below meth c Q G nL c0 s0 pc lv ((0, i) :: (2, L) :: st) M := by
  obtain ⟨hx, hb, hml, hown, hts, hO⟩ := C
  unfold am_ald at h
  by_cases hc : 0 < L ∧ (am_aty L = 1 ∨ 1 = 0 ∧ am_aty L = 5) ∧ 0 ≤ i ∧ i < am_len M L
  · rw [if_pos hc] at h
    cases h
    obtain ⟨h0, hty, hi0, hi1⟩ := hc
    have hty : am_aty L = 1 := by omega
    intro ad al H locs ls hW hS hl hq hst
    have hal := am_in_al (am_hd (am_tl hst)) h0 (by omega)
    obtain ⟨q0, hq0, hat⟩ := am_ws_at (cA := G.2.1) (ad := ad) (M := M) hal
    have harr : am_arr ad M L = .inr (.inl (fun j => Int64.ofInt (M L j))) := by unfold am_arr; rw [if_pos hty]
    rw [am_cell_a (by omega), harr, hty] at hat
    rw [am_len_siz (am_al_n1 hW.2.2.2.1 hal)] at hi1
    obtain ⟨g1, g2⟩ := am_vin hi0 hi1 (by have := am_siz_le L; omega)
    have hwv := hW.2.2.2.1.2.2.1 L hal i.toNat (by omega)
    have htag : am_tag L i.toNat = 1 := by unfold am_tag; rw [if_neg (by rw [am_cls_aty L (by omega)]; decide), if_pos hty]
    rw [htag, Int.toNat_of_nonneg hi0] at hwv
    have kk' := kk ad al H locs ls hW hS hl hq (am_push hwv (am_tl (am_tl hst)))
    rw [List.map_cons, List.map_cons, am_val2r ad (by omega)]
    refine va_lald hx hb hW.2.2.1 hW.1 q0 1 hat rfl (i := Int32.ofInt i) (by simpa using g1) hdg ?_
    rw [g2, Int.toNat_of_nonneg hi0]
    exact kk'
  · rw [if_neg hc] at h; cases h
theorem am_r_aldZ (C : am_Cx p s m args c own cc nL G) {lv : am_L} {st : List am_V} {M : am_M} {L i v : Int} (h : am_ald 2 M L i = some v) (hdg : decode cc pc = .ok (.baload, 1))
    (kk : am_Go p l e R s m args below meth c Q G nL c0 s0 (pc + 1) lv ((0, v) :: st) M) : am_Go p l e R s m args below meth c Q G nL c0 s0 pc lv ((0, i) :: (2, L) :: st) M := by
  obtain ⟨hx, hb, hml, hown, hts, hO⟩ := C
  unfold am_ald at h
  by_cases hc : 0 < L ∧ (am_aty L = 2 ∨ 2 = 0 ∧ am_aty L = 5) ∧ 0 ≤ i ∧ i < am_len M L
  · rw [if_pos hc] at h
    cases h
    obtain ⟨h0, hty, hi0, hi1⟩ := hc
    have hty : am_aty L = 2 := by omega
    intro ad al H locs ls hW hS hl hq hst
    have hal := am_in_al (am_hd (am_tl hst)) h0 (by omega)
    obtain ⟨q0, hq0, hat⟩ := am_ws_at (cA := G.2.1) (ad := ad) (M := M) hal
    have harr : am_arr ad M L = .inl (fun j => Int32.ofInt (M L j)) := by unfold am_arr; rw [if_neg (by omega), if_neg (by omega)]
    rw [am_cell_a (by omega), harr, hty] at hat
    rw [am_len_siz (am_al_n1 hW.2.2.2.1 hal)] at hi1
    obtain ⟨g1, g2⟩ := am_vin hi0 hi1 (by have := am_siz_le L; omega)
    have hwv := hW.2.2.2.1.2.2.1 L hal i.toNat (by omega)
    have htag : am_tag L i.toNat = 0 := by unfold am_tag; rw [if_neg (by rw [am_cls_aty L (by omega)]; decide), if_neg (by omega), if_neg (by omega)]
    rw [htag, Int.toNat_of_nonneg hi0] at hwv
    have kk' := kk ad al H locs ls hW hS hl hq (am_push hwv (am_tl (am_tl hst)))
    rw [List.map_cons, List.map_cons, am_val2r ad (by omega)]
    refine va_zald hx hb hW.2.2.1 hW.1 q0 2 hat rfl (i := Int32.ofInt i) (by simpa using g1) hdg ?_
    rw [g2, Int.toNat_of_nonneg hi0]
    exact kk'
  · rw [if_neg hc] at h; cases h
theorem am_r_aldA (C : am_Cx p s m args c own cc nL G) {t : Nat} {lv : am_L} {st : List am_V} {M : am_M} {L i v : Int} (ht : t = 3 ∨ t = 4) (h : am_ald t M L i = some v) (hdg : decode cc pc = .ok (.aaload, 1))
    (kk : am_Go p l e R s m args below meth c Q G nL c0 s0 (pc + 1) lv ((2, v) :: st) M) : am_Go p l e R s m args below meth c Q G nL c0 s0 pc lv ((0, i) :: (2, L) :: st) M := by
  obtain ⟨hx, hb, hml, hown, hts, hO⟩ := C
  unfold am_ald at h
  by_cases hc : 0 < L ∧ (am_aty L = t ∨ t = 0 ∧ am_aty L = 5) ∧ 0 ≤ i ∧ i < am_len M L
  · rw [if_pos hc] at h
    cases h
    obtain ⟨h0, hty, hi0, hi1⟩ := hc
    have hty : am_aty L = t := by omega
    intro ad al H locs ls hW hS hl hq hst
    have hal := am_in_al (am_hd (am_tl hst)) h0 (by omega)
    obtain ⟨q0, hq0, hat⟩ := am_ws_at (cA := G.2.1) (ad := ad) (M := M) hal
    have harr : am_arr ad M L = .inr (.inr (.inr (.inr (fun j => if j < am_siz L then am_rf ad (M L j) else none)))) := by unfold am_arr; rw [if_neg (by omega), if_pos (by omega)]
    rw [am_cell_a (by omega), harr, hty] at hat
    rw [am_len_siz (am_al_n1 hW.2.2.2.1 hal)] at hi1
    obtain ⟨g1, g2⟩ := am_vin hi0 hi1 (by have := am_siz_le L; omega)
    have hwv := hW.2.2.2.1.2.2.1 L hal i.toNat (by omega)
    have htag : am_tag L i.toNat = 2 := by unfold am_tag; rw [if_neg (by rw [am_cls_aty L (by omega)]; decide), if_neg (by omega), if_pos (by omega)]
    rw [htag, Int.toNat_of_nonneg hi0] at hwv
    have kk' := kk ad al H locs ls hW hS hl hq (am_push hwv (am_tl (am_tl hst)))
    rw [List.map_cons, am_val2] at kk'
    rw [List.map_cons, List.map_cons, am_val2r ad (by omega)]
    rcases ht with rfl | rfl
    · refine va_aldq hx hb hW.2.2.1 hW.1 q0 3 hat rfl (i := Int32.ofInt i) (by simpa using g1) hdg ?_
      rw [g2, if_pos (by omega), Int.toNat_of_nonneg hi0]
      exact kk'
    · refine va_aldq hx hb hW.2.2.1 hW.1 q0 4 hat rfl (i := Int32.ofInt i) (by simpa using g1) hdg ?_
      rw [g2, if_pos (by omega), Int.toNat_of_nonneg hi0]
      exact kk'
  · rw [if_neg hc] at h; cases h
end AMR3
