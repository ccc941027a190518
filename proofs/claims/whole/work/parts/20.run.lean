def am_lay : Nat → List Nat → List (Nat × Nat)
  | _, [] => []
  | i, t :: ts => (i, t) :: am_lay (if t = 1 then i + 2 else i + 1) ts
def am_wid : List Nat → Nat
  | [] => 0
  | t :: ts => (if t = 1 then 2 else 1) + am_wid ts
/-- the check of a method's entry -/
def am_ent (P : am_P) (Y : Nat → am_MI) (y : Nat) : Bool := decide (am_bpc P y 0 = some 0) && decide (am_lay 0 ((P y 0).1.map (fun q => q.2)) = (P y 0).1) && decide (am_wid ((P y 0).1.map (fun q => q.2)) ≤ (Y y).2.2.1) && plainName (Y y).1.cls && decide (am_rt (Y y).2.2.2.1 ≠ 2 ∨ (match (Y y).2.2.2.1 with
  | some (.object _) => true
  | some (.array _) => true
  | _ => false) = true)
theorem am_run_mono {P : am_P} : ∀ (n y b : Nat) (vs : List Int) (r : List am_V) (M : am_M) (v : Int) (Mf : am_M), am_run P n y b vs r M = some (v, Mf) → M (-2) 0 ≤ Mf (-2) 0 ∧ M (-2) 1 ≤ Mf (-2) 1 := by
  intro n
  induction n with
  | zero => intro y b vs r M v Mf h; cases h
  | succ n ih =>
    intro y b vs r M v Mf h
    refine am_ex_le (K := am_run P n y) (Cc := am_cm P (am_run P n)) (fun b vs r M' h' => ih y b vs r M' v Mf h') (fun z as M' v' M'' h' => ?_) _ _ _ _ h
    unfold am_cm at h'
    cases ht : am_tg (P z 0).1 as with
    | none => rw [ht] at h'; cases h'
    | some vs' => rw [ht] at h'; exact ih _ _ _ _ _ _ _ h'
theorem am_tg_lv {ad : Int → Nat} : ∀ (qs : List (Nat × Nat)) (as : List am_V) (vs : List Int) (i : Nat), am_tg qs as = some vs → am_lay i (qs.map (fun q => q.2)) = qs → lv_args i (as.map (am_val ad)) = am_lv ad (am_zip qs vs) ∧ as.map (fun a => a.1) = qs.map (fun q => q.2)
  | [], [], vs, i, h, _ => by cases h; exact ⟨rfl, rfl⟩
  | q :: qs, a :: as, vs, i, h, hl => by
    unfold am_tg at h
    cases hb : Nat.beq a.1 q.2 with
    | false => rw [hb] at h; cases h
    | true =>
      rw [hb] at h
      dsimp only [cond_true] at h
      cases ht : am_tg qs as with
      | none => rw [ht] at h; cases h
      | some ws =>
        rw [ht] at h
        cases h
        have eb := Nat.eq_of_beq_eq_true hb
        rw [List.map_cons] at hl
        unfold am_lay at hl
        obtain ⟨e1, e2⟩ := List.cons.inj hl
        have hcat : (am_val ad a).category = 2 ↔ q.2 = 1 := by
          have := am_val_cat ad a
          rw [eb] at this
          constructor
          · intro hc
            rw [hc] at this
            exact Nat.eq_of_beq_eq_true this.symm
          · intro hc
            rw [hc] at this
            have h3 : ((am_val ad a).category == 2) = true := this
            exact eq_of_beq h3
        obtain ⟨i1, i2⟩ := am_tg_lv (ad := ad) qs as ws (if q.2 = 1 then i + 2 else i + 1) ht e2
        refine ⟨?_, by rw [List.map_cons, List.map_cons, eb, i2]⟩
        rw [List.map_cons]
        unfold lv_args am_zip
        show (i, am_val ad a) :: _ = (q.1, am_val ad (q.2, a.2)) :: _
        have ea : a = (q.2, a.2) := by rw [← eb]
        rw [← ea, ← e1]
        congr 1
        by_cases h1 : q.2 = 1
        · rw [if_pos (hcat.mpr h1)]; rw [if_pos h1] at i1; exact i1
        · rw [if_neg (fun z => h1 (hcat.mp z))]; rw [if_neg h1] at i1; exact i1
  | [], _ :: _, _, _, h, _ => by cases h
  | _ :: _, [], _, _, h, _ => by cases h
theorem am_tg_zip {al : List Int} : ∀ (qs : List (Nat × Nat)) (as : List am_V) (vs : List Int), am_tg qs as = some vs → (∀ a ∈ as, am_wv al a) → ∀ q ∈ am_zip qs vs, am_wv al q.2
  | [], [], vs, h, _, q, hq => by cases h; cases hq
  | a' :: qs, a :: as, vs, h, hw, q, hq => by
    unfold am_tg at h
    cases hb : Nat.beq a.1 a'.2 with
    | false => rw [hb] at h; cases h
    | true =>
      rw [hb] at h
      dsimp only [cond_true] at h
      cases ht : am_tg qs as with
      | none => rw [ht] at h; cases h
      | some ws =>
        rw [ht] at h
        cases h
        have eb := Nat.eq_of_beq_eq_true hb
        unfold am_zip at hq
        rcases List.mem_cons.mp hq with rfl | hq
        · have := hw a List.mem_cons_self
          rw [← eb]
          exact this
        · exact am_tg_zip qs as ws ht (fun z hz => hw z (List.mem_cons_of_mem _ hz)) q hq
  | [], _ :: _, _, h, _, _, _ => by cases h
  | _ :: _, [], _, h, _, _, _ => by cases h
theorem am_sl_len {ad : Int → Nat} : ∀ (as : List am_V), (lg_sl (as.map (am_val ad))).length = am_wid (as.map (fun a => a.1))
  | [] => rfl
  | a :: as => by
    rw [List.map_cons, List.map_cons]
    unfold lg_sl am_wid
    rw [List.flatMap_cons, List.length_append]
    have ih := am_sl_len (ad := ad) as
    unfold lg_sl at ih
    rw [ih]
    congr 1
    have h1 := am_val_cat ad a
    by_cases h : a.1 = 1
    · rw [h] at h1
      have h3 : ((am_val ad a).category == 2) = true := h1
      rw [if_pos (eq_of_beq h3), if_pos h]
      rfl
    · rw [if_neg (by rw [am_val_cat1 ad h]; decide), if_neg h]
      rfl
/-- what is asked of a program once and for all -/
def am_okP (P : am_P) (Y : Nat → am_MI) : Prop := (∀ y b, am_ckL P Y y (P y b).2 = true) ∧ ∀ y, (P y 0).2 = [] ∨ am_ent P Y y = true
section AMZ
variable {p : Program} {l : Launch} {e : Env} {R : Room} {s : State} {m : MethodId} {args : Array Value} {below : List Frame} {meth : Method} {c : Code} {Q : State → Prop} {G : am_Gt} {c0 s0 : Int} {P : am_P} {Y : Nat → am_MI} {y : Nat} {vf : Int} {Mf : am_M}
/-- the blocks of one method, its calls being known -/
theorem am_run_go (hP : am_okP P Y) (n : Nat) (hC : ∀ z as M' v M'', am_cm P (am_run P n) z as M' = some (v, M'') → am_Ctr l G (Y z) as M' v M'') (C : am_Cx p s m args c (Y y).1.cls (Y y).2.1 (Y y).2.2.1 G) (hini : (Y y).1.name = "<init>" → meth.name = "<init>") (hfy : (Y y).2.2.2.2.1 ≤ R.frames) (hly : (Y y).2.2.2.2.2 ≤ R.locals)
    (hr1 : Mf (-2) 0 - c0 ≤ R.cells) (hr2 : Mf (-2) 1 - s0 ≤ R.slots)
    (hret : ∀ (pc : Nat) (i : Instr) (lv : am_L) (st : List am_V), am_isR (Y y).2.2.2.1 i vf st → decode (Y y).2.1 pc = .ok (i, 1) → am_Go p l e R s m args below meth c Q G (Y y).2.2.1 c0 s0 pc lv st Mf) :
    ∀ (k : Nat), k ≤ n + 1 → ∀ (b : Nat) (vs : List Int) (r : List am_V) (M' : am_M) (pc : Nat), am_run P k y b vs r M' = some (vf, Mf) → am_bpc P y b = some pc → c0 ≤ M' (-2) 0 → s0 ≤ M' (-2) 1 → am_Go p l e R s m args below meth c Q G (Y y).2.2.1 c0 s0 pc (am_zip (P y b).1 vs) r M' := by
  intro k
  induction k with
  | zero => intro _ b vs r M' pc h; cases h
  | succ k ih =>
    intro hk b vs r M' pc h hb hc0 hs0
    refine am_ex_go (K := am_run P k y) (Cc := am_cm P (am_run P k)) C hini hfy hly (fun b vs r M' n' h1 h2 h3 h4 => ih (by omega) b vs r M' n' h1 h2 h3 h4) (fun b vs r M' h1 => am_run_mono k y b vs r M' vf Mf h1) (fun z as M' v M'' h1 => hC z as M' v M'' (am_cm_mono (fun _ _ _ _ _ _ hh => am_run_le (by omega) hh) _ _ _ _ h1)) hr1 hr2 hret (P y b).2 pc _ r M' hb (hP.1 y b) h hc0 hs0
end AMZ
/-- every call of a method, by what the small machine says -/
theorem am_ctr_all {P : am_P} {Y : Nat → am_MI} (hP : am_okP P Y) (l : Launch) : ∀ (n : Nat) (G : am_Gt) (z : Nat) (as : List am_V) (M : am_M) (v : Int) (M' : am_M), am_cm P (am_run P n) z as M = some (v, M') → am_Ctr l G (Y z) as M v M' := by
  intro n
  induction n with
  | zero =>
    intro G z as M v M' h
    unfold am_cm at h
    cases ht : am_tg (P z 0).1 as with
    | none => rw [ht] at h; cases h
    | some vs => rw [ht] at h; cases h
  | succ n ih =>
    intro G z as M v M' h
    unfold am_cm at h
    cases ht : am_tg (P z 0).1 as with
    | none => rw [ht] at h; cases h
    | some vs =>
      rw [ht] at h
      have h : am_run P (n + 1) z 0 vs [] M = some (v, M') := h
      obtain ⟨hm1, hm2⟩ := am_run_mono _ _ _ _ _ _ _ _ h
      refine ⟨hm1, hm2, fun ad al hwv => ?_⟩
      have hent : am_ent P Y z = true := by
        rcases hP.2 z with h0 | h0
        · exact absurd h (by
            show ¬ am_ex _ _ _ (P z 0).2 _ _ _ = _
            rw [h0]
            exact fun q => nomatch q)
        · exact h0
      unfold am_ent at hent
      simp only [Bool.and_eq_true, decide_eq_true_eq] at hent
      obtain ⟨⟨⟨⟨g1, g2⟩, g3⟩, g4⟩, g5⟩ := hent
      refine Met.ofW (cc := (Y z).2.1) (maxL := (Y z).2.2.1) (ret := (Y z).2.2.2.1) g4 rfl ?_
      intro p e s m args below meth c s₁ B hml hv
      obtain ⟨hargs, hWd, hO⟩ := hv
      have hx := B.exec
      have hb := B.bytes
      have hr := B.returns
      have hts0 := atoms_spec (ws := am_cw (Y z) :: am_tbl) B.pre
      have hts : ∀ w ∈ am_tbl, w.before args s = true := fun w hw => hts0 w (List.mem_cons_of_mem _ hw)
      have hown : s.vm.findClass (Y z).1.cls = some m.cls := findClass_of_methodNamed B.named
      have hlocks := B.notSynchronized
      have hname : meth.name = (Y z).1.name := (name_of_methodNamed B.named B.method).1
      have C : am_Cx p s m args c (Y z).1.cls (Y z).2.1 (Y z).2.2.1 (am_G2 G ad M) := ⟨hx, hb, hml, hown, hts, hO⟩
      obtain ⟨t1, t2⟩ := am_tg_lv (ad := ad) (P z 0).1 as vs 0 ht g2
      have hwid : (lg_sl (as.map (am_val ad))).length ≤ (Y z).2.2.1 := by rw [am_sl_len, t2]; exact g3
      have hl := lv_entry (as.map (am_val ad)) (n := (Y z).2.2.1) hwid
      rw [t1] at hl
      have hgo := am_run_go (p := p) (e := e) (R := (headSpec (am_cw (Y z) :: am_tbl) (am_rm (Y z) M M')).room) (s := s) (m := m) (args := args) (below := below) (meth := meth) (c := c) (Q := MQ below (am_Post (am_G2 G ad M) (am_rt (Y z).2.2.2.1) v M') args s (M' (-2) 0 - M (-2) 0).toNat (M' (-2) 1 - M (-2) 1).toNat (am_A G)) (G := am_G2 G ad M) (c0 := M (-2) 0) (s0 := M (-2) 1) (vf := v) (Mf := M') hP n (fun z as M' v M'' h1 => ih (am_G2 G ad M) z as M' v M'' h1) C (fun q => hname.trans q) (Nat.le_refl _) (Nat.le_refl _) (by show _ ≤ (((M' (-2) 0 - M (-2) 0).toNat : Nat) : Int); omega) (by show _ ≤ (((M' (-2) 1 - M (-2) 1).toNat : Nat) : Int); omega) ?hret (n + 1) (Nat.le_refl _) 0 vs [] M 0 h g1 (Int.le_refl _) (Int.le_refl _)
      case hret =>
        intro pc i lv st hi hdg ad' al' H locs ls hW hS hl' hq hst
        have post : ∀ (t : Nat), am_rt (Y z).2.2.2.1 = t → am_wv al' (t, v) → ∀ tt : State, tt.heap = H → s.WarmedH tt.vm → am_Post (am_G2 G ad M) t v M' args s (.returned (am_rv ad' t v)) tt := by
          intro t _ hwv' tt htt hWt
          exact ⟨⟨ad', al', rfl, by rw [htt]; exact am_Wd_moved hWt.alike hW, hwv'⟩, hS.F htt⟩
        rcases hi with ⟨rfl, h2, rfl⟩ | ⟨rfl, h2, rfl, hbool⟩ | ⟨rfl, h2, rfl⟩ | ⟨rfl, h2, rfl⟩ | ⟨rfl, h2, rfl, hv0⟩
        · have et : am_rt (Y z).2.2.2.1 = 0 := by rw [h2]; rfl
          rw [et]
          exact W.iret (v := Int32.ofInt v) hx hb (hr.trans h2) (post 0 et (am_hd hst)) hS.2.2 hdg
        · have et : am_rt (Y z).2.2.2.1 = 0 := by rw [h2]; rfl
          rw [et]
          refine W.zret (v := Int32.ofInt v) (ty := .boolean) hx hb (hr.trans h2) ?_ (post 0 et (am_hd hst)) hS.2.2 hdg
          rcases hbool with rfl | rfl <;> decide
        · have et : am_rt (Y z).2.2.2.1 = 1 := by rw [h2]; rfl
          rw [et]
          exact W.lret (v := Int64.ofInt v) hx hb (hr.trans h2) (post 1 et (am_hd hst)) hS.2.2 hdg
        · have et : am_rt (Y z).2.2.2.1 = 2 := by rcases h2 with ⟨n', h2⟩ | ⟨n', h2⟩ <;> rw [h2] <;> rfl
          rw [et]
          obtain ⟨rt, hrt, hrt2⟩ : ∃ rt, (Y z).2.2.2.1 = some rt ∧ ((∃ n, rt = .object n) ∨ ∃ t, rt = .array t) := by
            rcases h2 with ⟨n', h2⟩ | ⟨n', h2⟩
            · exact ⟨_, h2, Or.inl ⟨_, rfl⟩⟩
            · exact ⟨_, h2, Or.inr ⟨_, rfl⟩⟩
          refine W.aret (v := am_val ad' (2, v)) (rt := rt) hx hb (hr.trans hrt) hrt2 ?_ (post 2 et (am_hd hst)) hS.2.2 hdg
          by_cases h0 : v = 0
          · rw [h0]; exact Or.inl rfl
          · rw [am_val2r ad' h0]; exact Or.inr ⟨_, rfl⟩
        · have et : am_rt (Y z).2.2.2.1 = 3 := by rw [h2]; rfl
          rw [et]
          exact W.vret hx hb (hr.trans h2) (post 3 et ⟨(fun q => nomatch q), (fun q => nomatch q), fun _ => Or.inl hv0⟩) hS.2.2 hdg
      have hS0 : va_S (am_A (am_G2 G ad M)) s.heap s.heap [] := va_S.rf
      have kk := hgo ad al s.heap [] _ hWd hS0 hl (am_tg_zip _ _ _ ht hwv) (fun v hv => by cases hv)
      rw [hargs, lg_entry_eq]
      rw [Int.sub_self, Int.sub_self] at kk
      rw [hargs] at kk
      exact kk
