section AMR4
variable {p : Program} {l : Launch} {e : Env} {R : Room} {s : State} {m : MethodId} {args : Array Value} {below : List Frame} {meth : Method} {c : Code} {Q : State → Prop} {G : am_Gt} {cc : ByteArray} {nL pc : Nat} {c0 s0 : Int} {own : String}
theorem am_atag {L : Int} {j : Nat} (h : am_aty L ≤ 5) : am_tag L j = (if am_aty L = 1 then 1 else if am_aty L = 3 ∨ am_aty L = 4 then 2 else 0) := by
  unfold am_tag
  rw [if_neg (by rw [am_cls_aty L h]; decide)]
theorem am_up_wv {M : am_M} {al : List Int} {L i v : Int} (hw : ∀ j : Nat, j < am_siz L → am_wv al (am_tag L j, M L j)) (hi : 0 ≤ i) (hv : am_wv al (am_tag L i.toNat, v)) : ∀ j : Nat, j < am_siz L → am_wv al (am_tag L j, am_up M L i v L j) := by
  intro j hj
  by_cases e : (j : Int) = i
  · subst e
    rw [am_up_self]
    simpa using hv
  · rw [am_up_ne e]
    exact hw j hj
theorem am_r_astI (C : am_Cx p s m args c own cc nL G) {lv : am_L} {st : List am_V} {M M' : am_M} {L i v : Int} (h : am_ast 0 M L i v = some M') (hdg : decode cc pc = .ok (.iastore, 1))
    (kk : am_Go p l e R s m args below meth c Q G nL c0 s0 (pc + 1) lv st M') : am_Go p l e R s m args below meth c Q G nL c0 s0 pc lv ((0, v) :: (0, i) :: (2, L) :: st) M := by
  obtain ⟨hx, hb, hml, hown, hts, hO⟩ := C
  unfold am_ast at h
  by_cases hc : 0 < L ∧ am_aty L = 0 ∧ 0 ≤ i ∧ i < am_len M L ∧ am_vok 0 v
  · rw [if_pos hc] at h
    cases h
    obtain ⟨h0, hty, hi0, hi1, -⟩ := hc
    intro ad al H locs ls hW hS hl hq hst
    have hal := am_in_al (am_hd (am_tl (am_tl hst))) h0 (by omega)
    obtain ⟨q0, hq0, hat⟩ := am_ws_at (cA := G.2.1) (ad := ad) (M := M) hal
    have harr : ∀ M : am_M, am_arr ad M L = .inl (fun j => Int32.ofInt (M L j)) := fun M => by unfold am_arr; rw [if_neg (by omega), if_neg (by omega)]
    rw [am_cell_a (by omega), harr, hty] at hat
    rw [am_len_siz (am_al_n1 hW.2.2.2.1 hal)] at hi1
    obtain ⟨g1, g2⟩ := am_vin hi0 hi1 (by have := am_siz_le L; omega)
    have hr : ∀ L', L' ≠ L → am_up M L i v L' = M L' := fun L' h => am_up_row h
    have htag : am_tag L i.toNat = 0 := by rw [am_atag (by omega), if_neg (by omega), if_neg (by omega)]
    have hv := am_up_wv (v := v) (hW.2.2.2.1.2.2.1 L hal) hi0 (by rw [htag]; exact am_hd hst)
    have hm2 := am_m2 h0 hr
    rw [List.map_cons, List.map_cons, List.map_cons, am_val2r ad (by omega)]
    refine va_iast hx hb hW.2.2.1 hW.1 hW.2.1 hS q0 0 hat rfl (i := Int32.ofInt i) (x := Int32.ofInt v) (by simpa using g1) hdg (fun H1 locs1 hP hD hS1 => ?_)
    have kk' := kk ad al H1 locs1 ls (am_Wd_row hW hq0 hr hv (by
      rw [am_cell_a (by omega), harr, hty]
      congr 4
      funext j
      rw [g2]
      unfold upd
      by_cases e : j = i.toNat
      · rw [if_pos e, e, Int.toNat_of_nonneg hi0, am_up_self]
      · rw [if_neg e, am_up_ne (by omega)]) hP hD) hS1 hl hq (am_tl (am_tl (am_tl hst)))
    rw [hm2] at kk'
    exact kk'
  · rw [if_neg hc] at h; cases h
theorem am_r_astL (C : am_Cx p s m args c own cc nL G) {lv : am_L} {st : List am_V} {M M' : am_M} {L i v : Int} (h : am_ast 1 M L i v = some M') (hdg : decode cc pc = .ok (.lastore, 1))
    (kk : am_Go p l e R s m args below meth c Q G nL c0 s0 (pc + 1) lv st M') : am_Go p l e R s m args below meth c Q G nL c0 s0 pc lv ((1, v) :: (0, i) :: (2, L) :: st) M := by
  obtain ⟨hx, hb, hml, hown, hts, hO⟩ := C
  unfold am_ast at h
  by_cases hc : 0 < L ∧ am_aty L = 1 ∧ 0 ≤ i ∧ i < am_len M L ∧ am_vok 1 v
  · rw [if_pos hc] at h
    cases h
    obtain ⟨h0, hty, hi0, hi1, -⟩ := hc
    intro ad al H locs ls hW hS hl hq hst
    have hal := am_in_al (am_hd (am_tl (am_tl hst))) h0 (by omega)
    obtain ⟨q0, hq0, hat⟩ := am_ws_at (cA := G.2.1) (ad := ad) (M := M) hal
    have harr : ∀ M : am_M, am_arr ad M L = .inr (.inl (fun j => Int64.ofInt (M L j))) := fun M => by unfold am_arr; rw [if_pos hty]
    rw [am_cell_a (by omega), harr, hty] at hat
    rw [am_len_siz (am_al_n1 hW.2.2.2.1 hal)] at hi1
    obtain ⟨g1, g2⟩ := am_vin hi0 hi1 (by have := am_siz_le L; omega)
    have hr : ∀ L', L' ≠ L → am_up M L i v L' = M L' := fun L' h => am_up_row h
    have htag : am_tag L i.toNat = 1 := by rw [am_atag (by omega), if_pos hty]
    have hv := am_up_wv (v := v) (hW.2.2.2.1.2.2.1 L hal) hi0 (by rw [htag]; exact am_hd hst)
    have hm2 := am_m2 h0 hr
    rw [List.map_cons, List.map_cons, List.map_cons, am_val2r ad (by omega)]
    refine va_last hx hb hW.2.2.1 hW.1 hW.2.1 hS q0 1 hat rfl (i := Int32.ofInt i) (x := Int64.ofInt v) (by simpa using g1) hdg (fun H1 locs1 hP hD hS1 => ?_)
    have kk' := kk ad al H1 locs1 ls (am_Wd_row hW hq0 hr hv (by
      rw [am_cell_a (by omega), harr, hty]
      congr 5
      funext j
      rw [g2]
      unfold vp_updL
      by_cases e : j = i.toNat
      · rw [if_pos e, e, Int.toNat_of_nonneg hi0, am_up_self]
      · rw [if_neg e, am_up_ne (by omega)]) hP hD) hS1 hl hq (am_tl (am_tl (am_tl hst)))
    rw [hm2] at kk'
    exact kk'
  · rw [if_neg hc] at h; cases h
theorem am_r_astZ (C : am_Cx p s m args c own cc nL G) {lv : am_L} {st : List am_V} {M M' : am_M} {L i v : Int} (h : am_ast 2 M L i v = some M') (hdg : decode cc pc = .ok (.bastore, 1))
    (kk : am_Go p l e R s m args below meth c Q G nL c0 s0 (pc + 1) lv st M') : am_Go p l e R s m args below meth c Q G nL c0 s0 pc lv ((0, v) :: (0, i) :: (2, L) :: st) M := by
  obtain ⟨hx, hb, hml, hown, hts, hO⟩ := C
  unfold am_ast at h
  by_cases hc : 0 < L ∧ am_aty L = 2 ∧ 0 ≤ i ∧ i < am_len M L ∧ am_vok 2 v
  · rw [if_pos hc] at h
    cases h
    obtain ⟨h0, hty, hi0, hi1, hvo, -⟩ := hc
    have hvo : v = 0 ∨ v = 1 := by omega
    have hnar : vp_nar .boolean (Int32.ofInt v) = Int32.ofInt v := by rcases hvo with rfl | rfl <;> decide
    intro ad al H locs ls hW hS hl hq hst
    have hal := am_in_al (am_hd (am_tl (am_tl hst))) h0 (by omega)
    obtain ⟨q0, hq0, hat⟩ := am_ws_at (cA := G.2.1) (ad := ad) (M := M) hal
    have harr : ∀ M : am_M, am_arr ad M L = .inl (fun j => Int32.ofInt (M L j)) := fun M => by unfold am_arr; rw [if_neg (by omega), if_neg (by omega)]
    rw [am_cell_a (by omega), harr, hty] at hat
    rw [am_len_siz (am_al_n1 hW.2.2.2.1 hal)] at hi1
    obtain ⟨g1, g2⟩ := am_vin hi0 hi1 (by have := am_siz_le L; omega)
    have hr : ∀ L', L' ≠ L → am_up M L i v L' = M L' := fun L' h => am_up_row h
    have htag : am_tag L i.toNat = 0 := by rw [am_atag (by omega), if_neg (by omega), if_neg (by omega)]
    have hv := am_up_wv (v := v) (hW.2.2.2.1.2.2.1 L hal) hi0 (by rw [htag]; exact am_hd hst)
    have hm2 := am_m2 h0 hr
    rw [List.map_cons, List.map_cons, List.map_cons, am_val2r ad (by omega)]
    refine va_zast hx hb hW.2.2.1 hW.1 hW.2.1 hS q0 2 hat rfl (i := Int32.ofInt i) (x := Int32.ofInt v) (by simpa using g1) hdg (fun H1 locs1 hP hD hS1 => ?_)
    rw [hnar] at hP hD
    have kk' := kk ad al H1 locs1 ls (am_Wd_row hW hq0 hr hv (by
      rw [am_cell_a (by omega), harr, hty]
      congr 4
      funext j
      rw [g2]
      unfold upd
      by_cases e : j = i.toNat
      · rw [if_pos e, e, Int.toNat_of_nonneg hi0, am_up_self]
      · rw [if_neg e, am_up_ne (by omega)]) hP hD) hS1 hl hq (am_tl (am_tl (am_tl hst)))
    rw [hm2] at kk'
    exact kk'
  · rw [if_neg hc] at h; cases h
theorem am_r_astA (C : am_Cx p s m args c own cc nL G) {t : Nat} {lv : am_L} {st : List am_V} {M M' : am_M} {L i v : Int} (ht : t = 3 ∨ t = 4) (h : am_ast t M L i v = some M') (hdg : decode cc pc = .ok (.aastore, 1))
    (kk : am_Go p l e R s m args below meth c Q G nL c0 s0 (pc + 1) lv st M') : am_Go p l e R s m args below meth c Q G nL c0 s0 pc lv ((2, v) :: (0, i) :: (2, L) :: st) M := by
  obtain ⟨hx, hb, hml, hown, hts, hO⟩ := C
  unfold am_ast at h
  by_cases hc : 0 < L ∧ am_aty L = t ∧ 0 ≤ i ∧ i < am_len M L ∧ am_vok t v
  · rw [if_pos hc] at h
    cases h
    obtain ⟨h0, hty, hi0, hi1, -, hv3, hv4⟩ := hc
    intro ad al H locs ls hW hS hl hq hst
    have hal := am_in_al (am_hd (am_tl (am_tl hst))) h0 (by omega)
    obtain ⟨q0, hq0, hat⟩ := am_ws_at (cA := G.2.1) (ad := ad) (M := M) hal
    have harr : ∀ M : am_M, am_arr ad M L = .inr (.inr (.inr (.inr (fun j => if j < am_siz L then am_rf ad (M L j) else none)))) := fun M => by unfold am_arr; rw [if_neg (by omega), if_pos (by omega)]
    rw [am_cell_a (by omega), harr, hty] at hat
    rw [am_len_siz (am_al_n1 hW.2.2.2.1 hal)] at hi1
    obtain ⟨g1, g2⟩ := am_vin hi0 hi1 (by have := am_siz_le L; omega)
    have g1 : vp_in (Int32.ofInt i) (am_siz L) := by simpa using g1
    have hr : ∀ L', L' ≠ L → am_up M L i v L' = M L' := fun L' h => am_up_row h
    have htag : am_tag L i.toNat = 2 := by rw [am_atag (by omega), if_neg (by omega), if_pos (by omega)]
    have hv := am_up_wv (v := v) (hW.2.2.2.1.2.2.1 L hal) hi0 (by rw [htag]; exact am_hd hst)
    have hm2 := am_m2 h0 hr
    have key : ∀ (o : Option Nat), o = am_rf ad v → ∀ (H1 : Heap) (locs1 : List Loc), va_P G.1 vwCl ((am_ws G.2.1 ad M al).set q0 (ad L, .inl (G.2.1 t, am_siz L, .inr (.inr (.inr (.inr (va_up (fun j : Nat => if j < am_siz L then am_rf ad (M L j) else none) (Int32.ofInt i).toNatClampNeg o))))))) H1 → va_D (am_A G) ((am_ws G.2.1 ad M al).set q0 (ad L, .inl (G.2.1 t, am_siz L, .inr (.inr (.inr (.inr (va_up (fun j : Nat => if j < am_siz L then am_rf ad (M L j) else none) (Int32.ofInt i).toNatClampNeg o))))))) → va_S (am_A G) s.heap H1 locs1 → W p l e R s m args below meth c H1 locs1 (M (-2) 0 - c0).toNat (M (-2) 1 - s0).toNat Q (F0 m (pc + 1) ls (st.map (am_val ad))) := by
      intro o ho H1 locs1 hP hD hS1
      have kk' := kk ad al H1 locs1 ls (am_Wd_row hW hq0 hr hv (by
        rw [am_cell_a (by omega), harr, hty]
        congr 7
        funext j
        rw [g2]
        unfold va_up
        by_cases e : j = i.toNat
        · rw [if_pos e, if_pos (by omega), e, Int.toNat_of_nonneg hi0, am_up_self, ho]
        · rw [if_neg e, am_up_ne (by omega)]) hP hD) hS1 hl hq (am_tl (am_tl (am_tl hst)))
      rw [hm2] at kk'
      exact kk'
    rw [List.map_cons, List.map_cons, List.map_cons]
    rw [am_val2r ad (x := L) (by omega)]
    by_cases hv0 : v = 0
    · subst hv0
      rw [am_val2n]
      rcases ht with rfl | rfl
      · exact va_astqN hx hb hW.2.2.1 hW.1 hW.2.1 hS q0 3 hat rfl (i := Int32.ofInt i) g1 hdg (key none rfl)
      · exact va_astqN hx hb hW.2.2.1 hW.1 hW.2.1 hS q0 4 hat rfl (i := Int32.ofInt i) g1 hdg (key none rfl)
    · rw [am_val2r ad hv0]
      have ho : some (ad v) = am_rf ad v := by unfold am_rf; rw [if_neg hv0]
      rcases ht with rfl | rfl
      · obtain ⟨hp, hcv⟩ : 0 < v ∧ am_cls v = 5 := by omega
        have hvl := am_in_al (am_hd hst) hp (am_cls_n5 (by omega))
        obtain ⟨qk, -, hatk⟩ := am_ws_at (cA := G.2.1) (ad := ad) (M := M) hvl
        rw [am_cell_o (by omega), hcv] at hatk
        exact va_astq (r := (RX5, TX5, 16)) hx hb hW.2.2.1 hW.1 hW.2.1 hS q0 3 qk 5 hat rfl hatk rfl (i := Int32.ofInt i) g1 hdg (key _ ho)
      · obtain ⟨hp, hcv⟩ : 0 < v ∧ am_cls v = 0 := by omega
        have hvl := am_in_al (am_hd hst) hp (am_cls_n5 (by omega))
        obtain ⟨qk, -, hatk⟩ := am_ws_at (cA := G.2.1) (ad := ad) (M := M) hvl
        rw [am_cell_o (by omega), hcv] at hatk
        exact va_astq (r := (RX0, TX0, 12)) hx hb hW.2.2.1 hW.1 hW.2.1 hS q0 4 qk 0 hat rfl hatk rfl (i := Int32.ofInt i) g1 hdg (key _ ho)
  · rw [if_neg hc] at h; cases h
theorem am_r_alen (C : am_Cx p s m args c own cc nL G) {lv : am_L} {st : List am_V} {M : am_M} {L n : Int} (h : am_alen M L = some n) (hdg : decode cc pc = .ok (.arraylength, 1))
    (kk : am_Go p l e R s m args below meth c Q G nL c0 s0 (pc + 1) lv ((0, n) :: st) M) : am_Go p l e R s m args below meth c Q G nL c0 s0 pc lv ((2, L) :: st) M := by
  obtain ⟨hx, hb, hml, hown, hts, hO⟩ := C
  unfold am_alen at h
  by_cases hc : 0 < L ∧ am_aty L ≤ 5
  · rw [if_pos hc] at h
    cases h
    obtain ⟨h0, hty⟩ := hc
    intro ad al H locs ls hW hS hl hq hst
    rw [List.map_cons, am_val2r ad (by omega)]
    by_cases h5 : am_aty L = 5
    · have hold : L = 1 ∨ L = 2 ∨ L = 3 := by
        rcases (am_hd hst).2.2 (Nat.le_refl 2) with z | z | z
        · have : L = 0 := z
          omega
        · have := (hW.2.2.2.1.2.1 L z).1.2
          rw [am_aty5 L h5] at this
          omega
        · exact z
      have hrow := am_old_row hW.2.2.2.1 hold
      have hlen : am_len M L = am_len G.2.2.2.1 L := by
        unfold am_len
        by_cases e1 : L = 1
        · subst e1; rw [if_pos rfl, if_pos rfl, hrow]
        · rw [if_neg e1, if_neg e1]
      rw [hlen] at kk
      obtain ⟨b1, b2⟩ := am_len_old hO hold
      have kk' := kk ad al H locs ls hW hS hl hq (am_push (am_wv0 ⟨by omega, by omega⟩) (am_tl hst))
      obtain ⟨x1, x2, x3⟩ := hO.1 L hold
      have had : ad L = G.2.2.2.2 L := by
        rcases hold with rfl | rfl | rfl
        · exact hW.2.2.2.2.1
        · exact hW.2.2.2.2.2.1
        · exact hW.2.2.2.2.2.2.1
      rw [had]
      exact va_tlen hx hb x1 hS (v := Int32.ofInt (am_len G.2.2.2.1 L)) (by rw [← Int32.ofInt_eq_ofNat, Int.toNat_of_nonneg b1]) hdg kk'
    · have hal := am_in_al (am_hd hst) h0 h5
      obtain ⟨q0, hq0, hat⟩ := am_ws_at (cA := G.2.1) (ad := ad) (M := M) hal
      rw [am_cell_a hty] at hat
      rw [am_len_siz (am_al_n1 hW.2.2.2.1 hal)] at kk
      have hsz := am_siz_le L
      have kk' := kk ad al H locs ls hW hS hl hq (am_push (am_wv0 ⟨by omega, by omega⟩) (am_tl hst))
      obtain ⟨t0, ty, ht0⟩ : ∃ (t0 : Nat) (ty : FieldType), (am_tys G.2.1)[t0]? = some (G.2.1 (am_aty L), ty) := by
        have : am_aty L = 0 ∨ am_aty L = 1 ∨ am_aty L = 2 ∨ am_aty L = 3 ∨ am_aty L = 4 := by omega
        rcases this with z | z | z | z | z <;> rw [z]
        · exact ⟨0, _, rfl⟩
        · exact ⟨1, _, rfl⟩
        · exact ⟨2, _, rfl⟩
        · exact ⟨3, _, rfl⟩
        · exact ⟨4, _, rfl⟩
      exact va_alen hx hb hW.2.2.1 hW.1 q0 t0 hat ht0 (v := Int32.ofInt (am_siz L)) (by rw [Int32.ofInt_eq_ofNat]) hdg kk'
  · rw [if_neg hc] at h; cases h
end AMR4
