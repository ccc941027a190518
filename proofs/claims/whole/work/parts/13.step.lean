section AMR7
variable {p : Program} {l : Launch} {e : Env} {R : Room} {s : State} {m : MethodId} {args : Array Value} {below : List Frame} {meth : Method} {c : Code} {Q : State → Prop} {G : am_Gt} {cc : ByteArray} {nL pc : Nat} {c0 s0 : Int} {own : String} {ini : Bool}
theorem am_aldv_inv {t tag : Nat} {lv : am_L} {st : List am_V} {M : am_M} {r : am_S} (h : am_aldv t tag lv st M = some r) : ∃ (i L v : Int) (rest : List am_V), st = (0, i) :: (2, L) :: rest ∧ am_ald t M L i = some v ∧ r = (lv, (tag, v) :: rest, M) := by
  unfold am_aldv at h
  split at h
  · rename_i i L rest
    cases hf : am_ald t M L i with
    | none => rw [hf] at h; cases h
    | some v => rw [hf] at h; exact ⟨i, L, v, rest, rfl, hf, (Option.some.inj h).symm⟩
  · cases h
theorem am_astv_inv {t tag : Nat} {lv : am_L} {st : List am_V} {M : am_M} {r : am_S} (h : am_astv t tag lv st M = some r) : ∃ (i L v : Int) (M' : am_M) (rest : List am_V), st = (tag, v) :: (0, i) :: (2, L) :: rest ∧ am_ast t M L i v = some M' ∧ r = (lv, rest, M') := by
  unfold am_astv at h
  split at h
  · rename_i tv v i L rest
    cases hb : Nat.beq tv tag with
    | false => rw [hb] at h; cases h
    | true =>
      rw [hb] at h
      have e := Nat.eq_of_beq_eq_true hb
      subst e
      dsimp only [cond_true] at h
      cases hf : am_ast t M L i v with
      | none => rw [hf] at h; cases h
      | some M' => rw [hf] at h; exact ⟨i, L, v, M', rest, rfl, hf, (Option.some.inj h).symm⟩
  · cases h
/-- what is asked of the room by a step -/
def am_Rm (R : Room) (c0 s0 : Int) (i : Instr) (M M' : am_M) : Prop := c0 ≤ M (-2) 0 ∧ s0 ≤ M (-2) 1 ∧ M' (-2) 0 - c0 ≤ R.cells ∧ M' (-2) 1 - s0 ≤ R.slots ∧ (am_nd i = true → 1 ≤ R.frames ∧ 48 ≤ R.locals)
theorem am_ckG_of {idx : Nat} {q : vw_C} {ci k t : Nat} {p h : Int} (hh : am_ckG own idx q ci k t p h = true) : k < q.2.2 ∧ t = am_ftag ci k ∧ ((h = 0 ∧ Cond.fieldLink own idx (q.2.1 k).1 (q.2.1 k).2.1 (q.2.1 k).2.2.1 ∈ am_tbl) ∨ (h ≠ 0 ∧ ∃ host, Cond.fieldLinkNest own idx (q.2.1 k).1 (q.2.1 k).2.1 (q.2.1 k).2.2.1 host ∈ am_nst)) := by
  unfold am_ckG at hh
  simp only [Bool.and_eq_true, decide_eq_true_eq] at hh
  obtain ⟨⟨h1, h2⟩, h3⟩ := hh
  refine ⟨h1, h2, ?_⟩
  by_cases h0 : h = 0
  · rw [decide_eq_true h0] at h3
    exact Or.inl ⟨h0, am_w_in h3⟩
  · rw [decide_eq_false h0] at h3
    exact Or.inr ⟨h0, _, am_wn_in h3⟩
theorem am_go_get (C : am_Cx p s m args c own cc nL G) {idx : Nat} {xs : List Int} {lv : am_L} {st : List am_V} {M : am_M} {r : am_S} (hok : am_okb own nL ini (.getfield idx) xs = true) (hdg : decode cc pc = .ok (.getfield idx, 3)) (h : am_s1 (.getfield idx) xs lv st M = some r)
    (kk : am_Go p l e R s m args below meth c Q G nL c0 s0 (pc + 3) r.1 r.2.1 r.2.2) : am_Go p l e R s m args below meth c Q G nL c0 s0 pc lv st M := by
  match xs, st, h, hok with
  | ci :: k :: t :: [], (2, L) :: rest, h, hok => cases hok
  | ci :: k :: t :: [_], (2, L) :: rest, h, hok => cases hok
  | ci :: k :: t :: ps :: hh :: xs', (2, L) :: rest, h, hok =>
    have h : (am_gf ci.toNat k M L).bind (fun v => some (lv, (t.toNat, v) :: rest, M)) = some r := h
    have hok : (match vwCl[ci.toNat]? with
      | some q => decide (0 ≤ k) && am_ckG own idx q ci.toNat k.toNat t.toNat ps hh
      | none => false) = true := hok
    cases hq : vwCl[ci.toNat]? with
    | none => rw [hq] at hok; cases hok
    | some q =>
      rw [hq] at hok
      simp only [Bool.and_eq_true, decide_eq_true_eq] at hok
      obtain ⟨k1, k2, k3⟩ := am_ckG_of hok.2
      unfold am_gf at h
      by_cases hcd : 0 < L ∧ am_cls L = ci.toNat
      · rw [if_pos hcd] at h
        cases h
        have kk : am_Go p l e R s m args below meth c Q G nL c0 s0 (pc + 3) lv ((t.toNat, M L k) :: rest) M := kk
        rw [k2, show k = ((k.toNat : Nat) : Int) from (Int.toNat_of_nonneg hok.1).symm] at kk
        exact am_r_get C hq k1 (k3.elim (fun z => Or.inl z.2) (fun z => Or.inr z.2)) hcd.1 hcd.2 hdg kk
      · rw [if_neg hcd] at h; cases h
theorem am_go_put (C : am_Cx p s m args c own cc nL G) (hini : ini = true → meth.name = "<init>") {idx : Nat} {xs : List Int} {lv : am_L} {st : List am_V} {M : am_M} {r : am_S} (hok : am_okb own nL ini (.putfield idx) xs = true) (hdg : decode cc pc = .ok (.putfield idx, 3)) (h : am_s1 (.putfield idx) xs lv st M = some r)
    (kk : am_Go p l e R s m args below meth c Q G nL c0 s0 (pc + 3) r.1 r.2.1 r.2.2) : am_Go p l e R s m args below meth c Q G nL c0 s0 pc lv st M := by
  match xs, st, h, hok with
  | ci :: k :: t :: z :: [], (tv, v) :: (2, L) :: rest, h, hok => cases hok
  | ci :: k :: t :: z :: [_], (tv, v) :: (2, L) :: rest, h, hok => cases hok
  | ci :: k :: t :: z :: ps :: hh :: xs', (tv, v) :: (2, L) :: rest, h, hok =>
    have h : (bif Nat.beq tv t.toNat then (am_pf ci.toNat k z M L v).bind (fun M' => some (lv, rest, M')) else none) = some r := h
    have hok : (match vwCl[ci.toNat]? with
      | some q => decide (0 ≤ k) && am_ckG own idx q ci.toNat k.toNat t.toNat ps hh && am_tyb t.toNat z (am_tyq ci.toNat k.toNat) && (decide ((q.2.1 k.toNat).2.2.2 = false) || (ini && decide (hh = 0) && decide ((q.2.1 k.toNat).1 = own)))
      | none => false) = true := hok
    cases hb : Nat.beq tv t.toNat with
    | false => rw [hb] at h; cases h
    | true =>
      rw [hb] at h
      have etv := Nat.eq_of_beq_eq_true hb
      dsimp only [cond_true] at h
      cases hq : vwCl[ci.toNat]? with
      | none => rw [hq] at hok; cases hok
      | some q =>
        rw [hq] at hok
        simp only [Bool.and_eq_true, Bool.or_eq_true, decide_eq_true_eq] at hok
        obtain ⟨⟨⟨h0k, hG⟩, hty⟩, hfin⟩ := hok
        obtain ⟨k1, k2, k3⟩ := am_ckG_of hG
        unfold am_pf at h
        by_cases hcd : 0 < L ∧ am_cls L = ci.toNat ∧ (z ≠ 4 ∨ v = 0 ∨ v = 1)
        · rw [if_pos hcd] at h
          cases h
          have kk : am_Go p l e R s m args below meth c Q G nL c0 s0 (pc + 3) lv rest (am_up M L k v) := kk
          rw [show k = ((k.toNat : Nat) : Int) from (Int.toNat_of_nonneg h0k).symm] at kk
          rw [etv, k2]
          rw [k2] at hty
          have hf1 := (am_clf hq).2.1 k.toNat k1
          refine am_r_put C hq k1 ?_ hcd.1 hcd.2.1 hf1 (am_tyb_of hty) hcd.2.2 ?_ hdg kk
          · rcases k3 with z3 | z3
            · exact Or.inl z3.2
            · refine Or.inr ⟨?_, z3.2⟩
              rcases hfin with hf | hf
              · exact hf
              · exact absurd hf.1.2 z3.1
          · rcases hfin with hf | hf
            · exact Or.inl hf
            · cases hfb : (q.2.1 k.toNat).2.2.2 with
              | false => exact Or.inl rfl
              | true => exact Or.inr ⟨rfl, hini hf.1.1, hf.2⟩
        · rw [if_neg hcd] at h; cases h
/-- new cells -/
theorem am_go_new (C : am_Cx p s m args c own cc nL G) {i : Instr} {idx : Nat} {at' : ArrayType} {xs : List Int} {lv : am_L} {st : List am_V} {M : am_M} {r : am_S} (hi : i = .new idx ∨ i = .newarray at' ∨ i = .anewarray idx) (hok : am_okb own nL ini i xs = true) (hdg : decode cc pc = .ok (i, am_il i)) (h : am_s1 i xs lv st M = some r) (hR : am_Rm R c0 s0 i M r.2.2)
    (kk : am_Go p l e R s m args below meth c Q G nL c0 s0 (pc + am_il i) r.1 r.2.1 r.2.2) : am_Go p l e R s m args below meth c Q G nL c0 s0 pc lv st M := by
  obtain ⟨r1, r2, r3, r4, -⟩ := hR
  rcases hi with rfl | rfl | rfl
  · match xs, h, hok with
    | ci :: mode :: a :: [], h, hok => cases hok
    | ci :: mode :: a :: [_], h, hok => cases hok
    | ci :: mode :: a :: [_, _], h, hok => cases hok
    | ci :: mode :: a :: p1 :: p2 :: p3 :: xs', h, hok =>
      have h : (am_lab mode a lv M).bind (fun L => (am_newo ci.toNat M L).bind fun M' => some (lv, (2, L) :: st, M')) = some r := h
      have hok : (match vwCl[ci.toNat]? with
        | some q => am_w p1 (.classLink own idx q.1) && am_w p2 (.instantiable q.1 q.2.2) && am_w p3 (.initialized q.1)
        | none => false) = true := hok
      cases hL : am_lab mode a lv M with
      | none => rw [hL] at h; cases h
      | some L =>
        rw [hL] at h
        dsimp only [Option.bind_some] at h
        cases hn : am_newo ci.toNat M L with
        | none => rw [hn] at h; cases h
        | some M' =>
          rw [hn] at h
          cases h
          cases hq : vwCl[ci.toNat]? with
          | none => rw [hq] at hok; cases hok
          | some q =>
            rw [hq] at hok
            simp only [Bool.and_eq_true] at hok
            exact am_r_new C hq hn (am_w_in hok.1.1) (am_w_in hok.1.2) (am_w_in hok.2) r1 r2 r3 r4 hdg kk
  · match xs, st, h, hok with
    | t :: mode :: a :: [], (0, n) :: rest, h, hok => cases hok
    | t :: mode :: a :: p1 :: xs', (0, n) :: rest, h, hok =>
      have h : (am_lab mode a lv M).bind (fun L => (am_newa t.toNat n M L).bind fun M' => some (lv, (2, L) :: rest, M')) = some r := h
      have hok : (((decide (t = 0) && decide (at' = .int)) || (decide (t = 1) && decide (at' = .long)) || (decide (t = 2) && decide (at' = .boolean))) && am_w p1 (.arrayClass (newarray.typeOf at'))) = true := hok
      simp only [Bool.and_eq_true, Bool.or_eq_true, decide_eq_true_eq] at hok
      cases hL : am_lab mode a lv M with
      | none => rw [hL] at h; cases h
      | some L =>
        rw [hL] at h
        dsimp only [Option.bind_some] at h
        cases hn : am_newa t.toNat n M L with
        | none => rw [hn] at h; cases h
        | some M' =>
          rw [hn] at h
          cases h
          refine am_r_newa C ?_ hn (am_w_in hok.2) r1 r2 r3 r4 hdg kk
          rcases hok.1 with (⟨rfl, z⟩ | ⟨rfl, z⟩) | ⟨rfl, z⟩
          · exact Or.inl ⟨rfl, z⟩
          · exact Or.inr (Or.inl ⟨rfl, z⟩)
          · exact Or.inr (Or.inr ⟨rfl, z⟩)
  · match xs, st, h, hok with
    | t :: mode :: a :: [], (0, n) :: rest, h, hok => cases hok
    | t :: mode :: a :: p1 :: xs', (0, n) :: rest, h, hok =>
      have h : (am_lab mode a lv M).bind (fun L => (am_newa t.toNat n M L).bind fun M' => some (lv, (2, L) :: rest, M')) = some r := h
      have hok : ((decide (t = 3) && am_w p1 (.classLink own idx RX5)) || (decide (t = 4) && am_w p1 (.classLink own idx RX0))) = true := hok
      simp only [Bool.and_eq_true, Bool.or_eq_true, decide_eq_true_eq] at hok
      cases hL : am_lab mode a lv M with
      | none => rw [hL] at h; cases h
      | some L =>
        rw [hL] at h
        dsimp only [Option.bind_some] at h
        cases hn : am_newa t.toNat n M L with
        | none => rw [hn] at h; cases h
        | some M' =>
          rw [hn] at h
          cases h
          refine am_r_newq C ?_ hn r1 r2 r3 r4 hdg kk
          rcases hok with ⟨rfl, z⟩ | ⟨rfl, z⟩
          · exact Or.inl ⟨rfl, am_w_in z⟩
          · exact Or.inr ⟨rfl, am_w_in z⟩
theorem am_go_static (C : am_Cx p s m args c own cc nL G) {idx : Nat} {xs : List Int} {lv : am_L} {st : List am_V} {M : am_M} {r : am_S} (hok : am_okb own nL ini (.invokestatic idx) xs = true) (hdg : decode cc pc = .ok (.invokestatic idx, 3)) (h : am_s1 (.invokestatic idx) xs lv st M = some r) (hR : am_Rm R c0 s0 (.invokestatic idx) M r.2.2)
    (kk : am_Go p l e R s m args below meth c Q G nL c0 s0 (pc + 3) r.1 r.2.1 r.2.2) : am_Go p l e R s m args below meth c Q G nL c0 s0 pc lv st M := by
  obtain ⟨r1, r2, r3, r4, r5⟩ := hR
  obtain ⟨r5, r6⟩ := r5 rfl
  have hk := am_k11
  match xs, st, h, hok with
  | 0 :: ps :: xs', (0, y) :: (0, x) :: rest, h, hok =>
    have h : (bif Nat.ble rest.length 4 then some (lv, (0, if y < x then y else x) :: rest, M) else none) = some r := h
    have hok : am_w ps (.methodLink own idx Lib.Math.min.name) = true := hok
    cases hb : Nat.ble rest.length 4 with
    | false => rw [hb] at h; cases h
    | true =>
      rw [hb] at h
      cases h
      have hb := Nat.le_of_ble_eq_true hb
      exact am_r_min C (am_w_in hok) am_k3 am_k4 am_k5 r5 (by omega) r3 r4 hdg kk
  | 1 :: ps :: xs', (0, y) :: (0, x) :: rest, h, hok =>
    have h : (bif Nat.ble rest.length 4 then some (lv, (0, if x < y then y else x) :: rest, M) else none) = some r := h
    have hok : am_w ps (.methodLink own idx Lib.Math.max.name) = true := hok
    cases hb : Nat.ble rest.length 4 with
    | false => rw [hb] at h; cases h
    | true =>
      rw [hb] at h
      cases h
      have hb := Nat.le_of_ble_eq_true hb
      exact am_r_max C (am_w_in hok) am_k6 am_k4 am_k7 r5 (by omega) r3 r4 hdg kk
  | 2 :: ps :: xs', (0, n) :: (0, dp) :: (2, b) :: (0, sp) :: (2, a) :: rest, h, hok =>
    have h : (bif Nat.ble rest.length 4 then (am_copy M a sp b dp n).bind (fun M' => some (lv, rest, M')) else none) = some r := h
    have hok : am_w ps (.methodLink own idx arraycopyName) = true := hok
    cases hb : Nat.ble rest.length 4 with
    | false => rw [hb] at h; cases h
    | true =>
      rw [hb] at h
      have hb := Nat.le_of_ble_eq_true hb
      dsimp only [cond_true] at h
      cases hc : am_copy M a sp b dp n with
      | none => rw [hc] at h; cases h
      | some M' =>
        rw [hc] at h
        cases h
        exact am_r_copy C hc (am_w_in hok) am_k8 am_k9 am_k10 r5 (by omega) hdg kk
end AMR7
