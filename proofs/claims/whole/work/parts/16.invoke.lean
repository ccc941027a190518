def am_nz (Z : am_MI) (n : Nat) (rt : Int) (fy ly : Nat) : Bool := decide (Z.1.cls ≠ "java/lang/invoke/MethodHandle") && decide (Z.1.cls ≠ "java/lang/invoke/VarHandle") && decide ((parseMethodDescriptor Z.1.desc).map (fun d => d.parameters.length) = some n) && decide (rt.toNat = am_rt Z.2.2.2.1) && decide (Z.2.2.2.2.1 + 1 ≤ fy) && decide (8 + (Z.2.2.1 + 11) + Z.2.2.2.2.2 ≤ ly)
def am_ckC (Y : Nat → am_MI) (own : String) (fy ly : Nat) (i : Instr) (xs : List Int) : Bool := match i with
  | .invokevirtual idx => match xs with
    | 3 :: z :: n :: rt :: cz :: p1 :: p2 :: p3 :: p4 :: p5 :: _ => decide (1 ≤ n.toNat) && am_nz (Y z.toNat) (n.toNat - 1) rt fy ly && decide ((vwCl[cz.toNat]?).map (fun q => q.1) = some (Y z.toNat).1.cls) && am_w p1 (.methodLink own idx (Y z.toNat).1) && am_w p2 (.instanceMethod (Y z.toNat).1) && am_w p3 (.selects (Y z.toNat).1.cls (Y z.toNat).1 (Y z.toNat).1) && am_w p4 (.initialized (Y z.toNat).1.cls) && am_w p5 (am_cw (Y z.toNat))
    | _ => false
  | .invokespecial idx => match xs with
    | 3 :: z :: n :: rt :: h :: p1 :: p2 :: p4 :: p5 :: _ => decide (1 ≤ n.toNat) && am_nz (Y z.toNat) (n.toNat - 1) rt fy ly && decide ((Y z.toNat).1.name = "<init>") && decide ((Y z.toNat).2.2.2.1 = none) && (bif decide (h = 0) then am_w p1 (.methodLink own idx (Y z.toNat).1) else am_wn p1 (.methodLinkNest own idx (Y z.toNat).1 "WeaveHall")) && am_w p2 (.instanceMethod (Y z.toNat).1) && am_w p4 (.initialized (Y z.toNat).1.cls) && am_w p5 (am_cw (Y z.toNat))
    | _ => false
  | .invokestatic idx => match xs with
    | 3 :: z :: n :: rt :: p1 :: p2 :: p4 :: p5 :: _ => am_nz (Y z.toNat) n.toNat rt fy ly && am_w p1 (.methodLink own idx (Y z.toNat).1) && am_w p2 (.static (Y z.toNat).1) && am_w p4 (.initialized (Y z.toNat).1.cls) && am_w p5 (am_cw (Y z.toNat))
    | _ => false
  | _ => false
theorem am_nz_of {Z : am_MI} {n : Nat} {rt : Int} {fy ly : Nat} (h : am_nz Z n rt fy ly = true) : (Z.1.cls ≠ "java/lang/invoke/MethodHandle" ∧ Z.1.cls ≠ "java/lang/invoke/VarHandle" ∧ (parseMethodDescriptor Z.1.desc).map (fun d => d.parameters.length) = some n) ∧ rt.toNat = am_rt Z.2.2.2.1 ∧ Z.2.2.2.2.1 + 1 ≤ fy ∧ 8 + (Z.2.2.1 + 11) + Z.2.2.2.2.2 ≤ ly := by
  unfold am_nz at h
  simp only [Bool.and_eq_true, decide_eq_true_eq] at h
  obtain ⟨⟨⟨⟨⟨h1, h2⟩, h3⟩, h4⟩, h5⟩, h6⟩ := h
  exact ⟨⟨h1, h2, h3⟩, h4, h5, h6⟩
theorem am_callOf_of {z n rt : Int} {st : List am_V} {w : am_C} (h : am_callOf z n rt st = some w) : w = .inr (.inr (.inr (.inl (z.toNat, (st.take n.toNat).reverse, st.drop n.toNat, rt.toNat)))) ∧ n.toNat ≤ st.length ∧ (st.drop n.toNat).length ≤ 4 := by
  unfold am_callOf at h
  cases hb : Nat.ble n.toNat st.length && Nat.ble (st.drop n.toNat).length 4 with
  | false => rw [hb] at h; cases h
  | true =>
    rw [hb] at h
    simp only [Bool.and_eq_true] at hb
    exact ⟨(Option.some.inj h).symm, Nat.le_of_ble_eq_true hb.1, Nat.le_of_ble_eq_true hb.2⟩
theorem am_split {n : Nat} {st r : List am_V} {x : am_V} (hn : 1 ≤ n) (h : st.drop (n - 1) = x :: r) : ∃ pre : List am_V, pre.length = n - 1 ∧ st = pre ++ x :: r ∧ (st.take n).reverse = x :: pre.reverse ∧ st.drop n = r := by
  refine ⟨st.take (n - 1), ?_, ?_, ?_, ?_⟩
  · rw [List.length_take]
    have : n - 1 < st.length := by
      have h2 := congrArg List.length h
      rw [List.length_drop, List.length_cons] at h2
      omega
    omega
  · rw [← h, List.take_append_drop]
  · have e : st.take n = st.take (n - 1) ++ [x] := by
      have hs : st = st.take (n - 1) ++ x :: r := by rw [← h, List.take_append_drop]
      have hl : (st.take (n - 1)).length = n - 1 := by
        rw [List.length_take]
        have h2 := congrArg List.length h
        rw [List.length_drop, List.length_cons] at h2
        omega
      generalize st.take (n - 1) = pre at hs hl
      rw [hs, List.take_append, hl, List.take_of_length_le (by omega), show n - (n - 1) = 1 by omega]
      rfl
    rw [e, List.reverse_append]
    rfl
  · have h2 : (st.drop (n - 1)).drop 1 = r := by rw [h]; rfl
    rw [List.drop_drop, show n - 1 + 1 = n by omega] at h2
    exact h2
section AMV
variable {p : Program} {l : Launch} {e : Env} {R : Room} {s : State} {m : MethodId} {args : Array Value} {below : List Frame} {meth : Method} {c : Code} {Q : State → Prop} {G : am_Gt} {cc : ByteArray} {nL pc : Nat} {c0 s0 : Int} {own : String} {fy ly : Nat}
theorem am_catsum4 (ad : Int → Nat) {vs : List am_V} (h : vs.length ≤ 4) : ((vs.map (am_val ad)).map fun v => v.category).sum ≤ 8 := by
  have := am_catsum ad vs
  omega
/-- the three sorts of calls -/
theorem am_r_call (C : am_Cx p s m args c own cc nL G) {Y : Nat → am_MI} {i : Instr} {xs : List Int} {lv : am_L} {st : List am_V} {M M' : am_M} {v : Int} {z rt : Nat} {as rest : List am_V} (hck : am_ckC Y own fy ly i xs = true) (hdg : decode cc pc = .ok (i, 3)) (hct : am_ct i xs lv st M = some (.inr (.inr (.inr (.inl (z, as, rest, rt)))))) (hctr : am_Ctr l G (Y z) as M v M')
    (hc0 : c0 ≤ M (-2) 0) (hs0 : s0 ≤ M (-2) 1) (hr1 : M' (-2) 0 - c0 ≤ R.cells) (hr2 : M' (-2) 1 - s0 ≤ R.slots) (hfy : fy ≤ R.frames) (hly : ly ≤ R.locals)
    (kk : am_Go p l e R s m args below meth c Q G nL c0 s0 (pc + 3) lv (am_ans rt v rest) M') : am_Go p l e R s m args below meth c Q G nL c0 s0 pc lv st M := by
  obtain ⟨hx, hb, hml, hown, hts, hO⟩ := C
  obtain ⟨hm1, hm2, hctr⟩ := hctr
  intro ad al H locs ls hW hS hl hq hst
  have pre : ∀ (av : List Value), av = as.map (am_val ad) → ∀ U : State, U.heap = H → s.WarmedH U.vm → va_Pc (as.map (am_val ad)) (am_Pre (am_G2 G ad M) ad M al) av.toArray U := by
    intro av hav U hU hWU
    exact ⟨by rw [hav], am_into hO hW hS hU hWU⟩
  have hroom : (M (-2) 0 - c0).toNat + (M' (-2) 0 - M (-2) 0).toNat ≤ R.cells ∧ (M (-2) 1 - s0).toNat + (M' (-2) 1 - M (-2) 1).toNat ≤ R.slots := by omega
  cases i with
  | invokevirtual idx =>
    match xs, hck, hct with
    | 3 :: z' :: n :: rt' :: cz :: p1 :: p2 :: p3 :: p4 :: p5 :: xs', hck, hct =>
      have hck : (decide (1 ≤ n.toNat) && am_nz (Y z'.toNat) (n.toNat - 1) rt' fy ly && decide ((vwCl[cz.toNat]?).map (fun q => q.1) = some (Y z'.toNat).1.cls) && am_w p1 (.methodLink own idx (Y z'.toNat).1) && am_w p2 (.instanceMethod (Y z'.toNat).1) && am_w p3 (.selects (Y z'.toNat).1.cls (Y z'.toNat).1 (Y z'.toNat).1) && am_w p4 (.initialized (Y z'.toNat).1.cls) && am_w p5 (am_cw (Y z'.toNat))) = true := hck
      have hct : (match st.drop (n.toNat - 1) with
        | (2, L) :: _ => if 0 < L ∧ am_cls L = cz.toNat then am_callOf z' n rt' st else none
        | _ => none) = some (.inr (.inr (.inr (.inl (z, as, rest, rt))))) := hct
      simp only [Bool.and_eq_true, decide_eq_true_eq] at hck
      obtain ⟨⟨⟨⟨⟨⟨⟨hn1, hnz⟩, hcz⟩, w1⟩, w2⟩, w3⟩, w4⟩, w5⟩ := hck
      split at hct
      · rename_i L r hdr
        by_cases hL : 0 < L ∧ am_cls L = cz.toNat
        · rw [if_pos hL] at hct
          obtain ⟨ew, hlen, h4⟩ := am_callOf_of hct
          simp only [Sum.inr.injEq, Sum.inl.injEq, Prod.mk.injEq] at ew
          obtain ⟨rfl, rfl, rfl, rfl⟩ := ew
          obtain ⟨pr, hp1, hp2, hp3, hp4⟩ := am_split hn1 hdr
          obtain ⟨z1, z2, z3, z4⟩ := am_nz_of hnz
          rw [hp3] at hctr pre
          rw [hp4] at kk h4
          rw [z2] at kk
          have hst' := hst
          rw [hp2] at hst
          have hargs : ∀ a ∈ ((2, L) :: pr.reverse : List am_V), am_wv al a := by
            intro a ha
            apply hst
            rcases List.mem_cons.mp ha with rfl | ha
            · exact List.mem_append_right _ List.mem_cons_self
            · exact List.mem_append_left _ (List.mem_reverse.mp ha)
          have hrs : ∀ a ∈ r, am_wv al a := fun a ha => hst a (List.mem_append_right _ (List.mem_cons_of_mem _ ha))
          have hM := hctr ad al hargs
          have h8 : am_cls L < 8 := by
            rw [hL.2]
            cases hv : vwCl[cz.toNat]? with
            | none => rw [hv] at hcz; cases hcz
            | some q => exact (am_clf hv).2.2.2.2
          have hal := am_in_al (hargs _ List.mem_cons_self) hL.1 (am_cls_n5 h8)
          obtain ⟨q0, hq0, hat⟩ := am_ws_at (cA := G.2.1) (ad := ad) (M := M) hal
          rw [am_cell_o h8, hL.2] at hat
          have hrecv : ∃ cellB : Cell, H[ad L]? = some cellB ∧ cellB.vm.isStatics = false ∧ s.vm.findClass (Y z'.toNat).1.cls = some cellB.cls := by
            cases hv : vwCl[cz.toNat]? with
            | none => rw [hv] at hcz; cases hcz
            | some q =>
              rw [hv] at hcz
              have := va_recv hW.2.2.1 hW.1 hv hat
              have hqc : q.1 = (Y z'.toNat).1.cls := Option.some.inj hcz
              rw [hqc] at this
              exact this
          have hG : GoodIn am_tbl (wsV own idx (Y z'.toNat).1.cls (Y z'.toNat).1 (am_cw (Y z'.toNat) :: am_tbl)) := by
            intro w hw
            have hwt : w ∈ am_tbl := by
              unfold wsV at hw
              rcases List.mem_append.mp hw with hw | hw
              · simp only [List.mem_cons, List.not_mem_nil, or_false] at hw
                rcases hw with rfl | rfl | rfl | rfl
                · exact am_w_in w1
                · exact am_w_in w2
                · exact am_w_in w3
                · exact am_w_in w4
              · rcases List.mem_cons.mp hw with rfl | hw
                · exact am_w_in w5
                · exact hw
            exact ⟨hwt, good_of_word (List.mem_filter.mp hwt).2⟩
          have hcw := cwV (R := R) (s := s) (args := args) (ws' := am_tbl) (rm := am_rm (Y z'.toNat) M M') (n.toNat - 1) hts hG rfl rfl rfl ⟨rfl, z1⟩ ⟨Nat.le_trans z3 hfy, Nat.le_trans z4 hly⟩
          have hrun := va_runV (As := pr.reverse.map (am_val ad)) (rest := r.map (am_val ad)) (b := ad L) (g := F0 m pc ls (st.map (am_val ad))) ⟨hx, hb, hml, hown, hts⟩ hM hcw ⟨am_blind, hrecv, pre _ (by rw [List.map_cons, am_val2r ad (by omega)])⟩ rfl (by simp [hp1]) hl.1 (by
            show st.map (am_val ad) = _
            rw [hp2, List.map_append, List.map_cons, am_val2r ad (by omega), List.map_reverse, List.reverse_reverse]) (by
            show 2 * 0 + _ ≤ 8
            have := am_catsum4 ad h4
            omega) hdg hroom (locs := locs) (e := e) (below := below) (meth := meth)
          exact am_call_go hc0 hs0 hm1 hm2 hrun hW hS hl hq hrs kk
        · rw [if_neg hL] at hct; cases hct
      · cases hct
  | invokespecial idx =>
    match xs, hck, hct with
    | 3 :: z' :: n :: rt' :: h :: p1 :: p2 :: p4 :: p5 :: xs', hck, hct =>
      have hck : (decide (1 ≤ n.toNat) && am_nz (Y z'.toNat) (n.toNat - 1) rt' fy ly && decide ((Y z'.toNat).1.name = "<init>") && decide ((Y z'.toNat).2.2.2.1 = none) && (bif decide (h = 0) then am_w p1 (.methodLink own idx (Y z'.toNat).1) else am_wn p1 (.methodLinkNest own idx (Y z'.toNat).1 "WeaveHall")) && am_w p2 (.instanceMethod (Y z'.toNat).1) && am_w p4 (.initialized (Y z'.toNat).1.cls) && am_w p5 (am_cw (Y z'.toNat))) = true := hck
      have hct : (match st.drop (n.toNat - 1) with
        | (2, L) :: _ => if L = 0 then none else am_callOf z' n rt' st
        | _ => none) = some (.inr (.inr (.inr (.inl (z, as, rest, rt))))) := hct
      simp only [Bool.and_eq_true, decide_eq_true_eq] at hck
      obtain ⟨⟨⟨⟨⟨⟨⟨hn1, hnz⟩, hnm⟩, hrn⟩, w1⟩, w2⟩, w4⟩, w5⟩ := hck
      split at hct
      · rename_i L r hdr
        by_cases hL : L = 0
        · rw [if_pos hL] at hct; cases hct
        · rw [if_neg hL] at hct
          obtain ⟨ew, hlen, h4⟩ := am_callOf_of hct
          simp only [Sum.inr.injEq, Sum.inl.injEq, Prod.mk.injEq] at ew
          obtain ⟨rfl, rfl, rfl, rfl⟩ := ew
          obtain ⟨pr, hp1, hp2, hp3, hp4⟩ := am_split hn1 hdr
          obtain ⟨z1, z2, z3, z4⟩ := am_nz_of hnz
          rw [hp3] at hctr pre
          rw [hp4] at kk h4
          rw [z2] at kk
          rw [hp2] at hst
          have hargs : ∀ a ∈ ((2, L) :: pr.reverse : List am_V), am_wv al a := by
            intro a ha
            apply hst
            rcases List.mem_cons.mp ha with rfl | ha
            · exact List.mem_append_right _ List.mem_cons_self
            · exact List.mem_append_left _ (List.mem_reverse.mp ha)
          have hrs : ∀ a ∈ r, am_wv al a := fun a ha => hst a (List.mem_append_right _ (List.mem_cons_of_mem _ ha))
          have hM := hctr ad al hargs
          have hG := am_goodIn2 (Y z'.toNat) (am_w_in w5)
          have hstk : st.map (am_val ad) = (pr.reverse.map (am_val ad)).reverse ++ .ref (ad L) :: r.map (am_val ad) := by
            rw [hp2, List.map_append, List.map_cons, am_val2r ad hL, List.map_reverse, List.reverse_reverse]
          have hw8 : 2 * (F0 m pc ls (st.map (am_val ad))).monitorRoom + ((r.map (am_val ad)).map fun v => v.category).sum ≤ 8 := by
            show 2 * 0 + _ ≤ 8
            have := am_catsum4 ad h4
            omega
          have hpre : PreS s H (va_Pc (((2, L) :: pr.reverse).map (am_val ad)) (am_Pre (am_G2 G ad M) ad M al)) (.ref (ad L) :: pr.reverse.map (am_val ad)) := ⟨am_blind, pre _ (by rw [List.map_cons, am_val2r ad hL])⟩
          have hroomZ : (am_rm (Y z'.toNat) M M').frames + 1 ≤ R.frames ∧ 8 + ((Y z'.toNat).2.2.1 + 11) + (am_rm (Y z'.toNat) M M').locals ≤ R.locals := ⟨Nat.le_trans z3 hfy, Nat.le_trans z4 hly⟩
          by_cases h0 : h = 0
          · rw [decide_eq_true h0] at w1
            have hcw := cwI (R := R) (s := s) (args := args) (ws' := am_tbl) (own := own) (index := idx) (y := (Y z'.toNat).1) (bytes := (Y z'.toNat).2.1) (maxL := (Y z'.toNat).2.2.1) (rm := am_rm (Y z'.toNat) M M') (n.toNat - 1) hts hG (by rw [am_cw, hrn]) rfl rfl (hts _ (am_w_in w4)) (hts _ (am_w_in w1)) (hts _ (am_w_in w2)) hnm z1 hroomZ
            have hrun := va_runI (As := pr.reverse.map (am_val ad)) (rest := r.map (am_val ad)) (b := ad L) (g := F0 m pc ls (st.map (am_val ad))) ⟨hx, hb, hml, hown, hts⟩ hM hcw hpre rfl (by simp [hp1]) hl.1 hstk hw8 hdg hroom (locs := locs) (e := e) (below := below) (meth := meth)
            exact am_call_go hc0 hs0 hm1 hm2 hrun hW hS hl hq hrs kk
          · rw [decide_eq_false h0] at w1
            have hcw := va_cnB (R := R) (s := s) (args := args) (ws' := am_tbl) (own := own) (host := "WeaveHall") (index := idx) (y := (Y z'.toNat).1) (bytes := (Y z'.toNat).2.1) (maxL := (Y z'.toNat).2.2.1) (ret := none) (rm := am_rm (Y z'.toNat) M M') (n.toNat - 1) hts hG (by rw [am_cw, hrn]) rfl rfl (hO.2.2.2.2.2.2.1 _ (am_wn_in w1)) (hts _ (am_w_in w4)) z1 hroomZ
            have hrun := va_runIN (As := pr.reverse.map (am_val ad)) (rest := r.map (am_val ad)) (b := ad L) (g := F0 m pc ls (st.map (am_val ad))) ⟨hx, hb, hml, hown, hts⟩ hM ⟨hcw, hnm, hts _ (am_w_in w2)⟩ hpre rfl (by simp [hp1]) hl.1 hstk hw8 hdg hroom (locs := locs) (e := e) (below := below) (meth := meth)
            exact am_call_go hc0 hs0 hm1 hm2 hrun hW hS hl hq hrs kk
      · cases hct
  | invokestatic idx =>
    match xs, hck, hct with
    | 3 :: z' :: n :: rt' :: p1 :: p2 :: p4 :: p5 :: xs', hck, hct =>
      have hck : (am_nz (Y z'.toNat) n.toNat rt' fy ly && am_w p1 (.methodLink own idx (Y z'.toNat).1) && am_w p2 (.static (Y z'.toNat).1) && am_w p4 (.initialized (Y z'.toNat).1.cls) && am_w p5 (am_cw (Y z'.toNat))) = true := hck
      have hct : am_callOf z' n rt' st = some (.inr (.inr (.inr (.inl (z, as, rest, rt))))) := hct
      simp only [Bool.and_eq_true] at hck
      obtain ⟨⟨⟨⟨hnz, w1⟩, w2⟩, w4⟩, w5⟩ := hck
      obtain ⟨ew, hlen, h4⟩ := am_callOf_of hct
      simp only [Sum.inr.injEq, Sum.inl.injEq, Prod.mk.injEq] at ew
      obtain ⟨rfl, rfl, rfl, rfl⟩ := ew
      obtain ⟨z1, z2, z3, z4⟩ := am_nz_of hnz
      rw [z2] at kk
      have hargs : ∀ a ∈ (st.take n.toNat).reverse, am_wv al a := fun a ha => hst a (List.mem_of_mem_take (List.mem_reverse.mp ha))
      have hrs : ∀ a ∈ st.drop n.toNat, am_wv al a := fun a ha => hst a (List.mem_of_mem_drop ha)
      have hM := hctr ad al hargs
      have hG : GoodIn am_tbl (va_wsS own idx (Y z'.toNat).1 (am_cw (Y z'.toNat) :: am_tbl)) := by
        intro w hw
        have hwt : w ∈ am_tbl := by
          unfold va_wsS at hw
          rcases List.mem_append.mp hw with hw | hw
          · simp only [List.mem_cons, List.not_mem_nil, or_false] at hw
            rcases hw with rfl | rfl | rfl
            · exact am_w_in w1
            · exact am_w_in w2
            · exact am_w_in w4
          · rcases List.mem_cons.mp hw with rfl | hw
            · exact am_w_in w5
            · exact hw
        exact ⟨hwt, good_of_word (List.mem_filter.mp hwt).2⟩
      have hcw := va_cwS (R := R) (s := s) (args := args) (ws' := am_tbl) (rm := am_rm (Y z'.toNat) M M') n.toNat hts hG rfl rfl rfl z1 ⟨Nat.le_trans z3 hfy, Nat.le_trans z4 hly⟩
      have hrun := va_runS (As := (st.take n.toNat).reverse.map (am_val ad)) (rest := (st.drop n.toNat).map (am_val ad)) (g := F0 m pc ls (st.map (am_val ad))) ⟨hx, hb, hml, hown, hts⟩ hM hcw ⟨am_blind, pre _ rfl⟩ rfl (by simp; omega) hl.1 (by
        show st.map (am_val ad) = _
        rw [List.map_reverse, List.reverse_reverse, ← List.map_append, List.take_append_drop]) (by
        show 2 * 0 + _ ≤ 8
        have := am_catsum4 ad h4
        omega) hdg hroom (locs := locs) (e := e) (below := below) (meth := meth)
      exact am_call_go hc0 hs0 hm1 hm2 hrun hW hS hl hq hrs kk
  | _ => cases hck
end AMV
