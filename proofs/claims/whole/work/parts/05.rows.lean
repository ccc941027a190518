section AMR
variable {p : Program} {l : Launch} {e : Env} {R : Room} {s : State} {m : MethodId} {args : Array Value} {below : List Frame} {meth : Method} {c : Code} {Q : State → Prop} {G : am_Gt} {cc : ByteArray} {nL pc : Nat} {c0 s0 : Int} {own : String}
/-- from here on the machine comes to Q, whatever the cells' addresses are -/
def am_Go (p : Program) (l : Launch) (e : Env) (R : Room) (s : State) (m : MethodId) (args : Array Value) (below : List Frame) (meth : Method) (c : Code) (Q : State → Prop) (G : am_Gt) (nL : Nat) (c0 s0 : Int) (pc : Nat) (lv : am_L) (st : List am_V) (M : am_M) : Prop :=
  ∀ (ad : Int → Nat) (al : List Int) (H : Heap) (locs : List Loc) (ls : Array Slot), am_Wd G ad M al s H → va_S (am_A G) s.heap H locs → lv_has ls nL (am_lv ad lv) → (∀ q ∈ lv, am_wv al q.2) → (∀ v ∈ st, am_wv al v) →
    W p l e R s m args below meth c H locs (M (-2) 0 - c0).toNat (M (-2) 1 - s0).toNat Q (F0 m pc ls (st.map (am_val ad)))
/-- what is the same all over a method -/
def am_Cx (p : Program) (s : State) (m : MethodId) (args : Array Value) (c : Code) (own : String) (cc : ByteArray) (nL : Nat) (G : am_Gt) : Prop :=
  p.tables.exec = Jvm.exec ∧ c.code = cc ∧ c.maxLocals = nL ∧ s.vm.findClass own = some m.cls ∧ (∀ w ∈ am_tbl, w.before args s = true) ∧ am_Old G s s.heap
theorem am_g_load {k t : Nat} {lv : am_L} {st : List am_V} {M : am_M} {r : am_S} (h : am_ldv k t lv st M = some r) : ∃ x : Int, am_lk k lv = some (t, x) ∧ r = (lv, (t, x) :: st, M) := by
  unfold am_ldv at h
  cases hk : am_lk k lv with
  | none => rw [hk] at h; cases h
  | some v =>
    rw [hk] at h
    dsimp only at h
    cases hb : Nat.beq v.1 t with
    | false => rw [hb] at h; cases h
    | true =>
      rw [hb] at h
      have e := Nat.eq_of_beq_eq_true hb
      obtain ⟨a, x⟩ := v
      dsimp only at e
      subst e
      exact ⟨x, rfl, (Option.some.inj h).symm⟩
theorem am_g_store {k t : Nat} {lv : am_L} {st : List am_V} {M : am_M} {r : am_S} (h : am_stv k t lv st M = some r) : ∃ (x : Int) (rest : List am_V), st = (t, x) :: rest ∧ r = (bif Nat.beq t 1 then am_st2 k (t, x) lv else am_st1 k (t, x) lv, rest, M) := by
  unfold am_stv at h
  cases st with
  | nil => cases h
  | cons v rest =>
    dsimp only at h
    cases hb : Nat.beq v.1 t with
    | false => rw [hb] at h; cases h
    | true =>
      rw [hb] at h
      have e := Nat.eq_of_beq_eq_true hb
      obtain ⟨a, x⟩ := v
      dsimp only at e
      subst e
      exact ⟨x, rest, rfl, (Option.some.inj h).symm⟩
theorem am_ls {ad : Int → Nat} {lv : am_L} {ls : Array Slot} {k : Nat} {v : am_V} (hl : lv_has ls nL (am_lv ad lv)) (h : am_lk k lv = some v) : ls[k]? = some (.val (am_val ad v)) := hl.2.2 (k, am_val ad v) (List.mem_map.mpr ⟨(k, v), am_lk_mem h, rfl⟩)
theorem am_push {al : List Int} {v : am_V} {st : List am_V} (hv : am_wv al v) (h : ∀ v ∈ st, am_wv al v) : ∀ w ∈ v :: st, am_wv al w := fun w hw => (List.mem_cons.mp hw).elim (fun e => e ▸ hv) (h w)
theorem am_wv0 {al : List Int} {x : Int} (h : am_r32 x) : am_wv al (0, x) := ⟨fun _ => h, (fun h => nomatch h), (fun h => absurd (show 2 ≤ 0 from h) (by decide))⟩
theorem am_wv1 {al : List Int} {x : Int} (h : am_r64 x) : am_wv al (1, x) := ⟨(fun h => nomatch h), fun _ => h, (fun h => absurd (show 2 ≤ 1 from h) (by decide))⟩
theorem am_r_int (C : am_Cx p s m args c own cc nL G) {i : Instr} {k : Nat} {lv : am_L} {st : List am_V} {M : am_M} {r : am_S} {len : Nat} (hi : (∃ h4 : k < 4, i = .iload_n ⟨k, h4⟩ ∧ len = 1) ∨ (i = .iload k ∧ len = 2)) (hdg : decode cc pc = .ok (i, len)) (h : am_ldv k 0 lv st M = some r)
    (kk : am_Go p l e R s m args below meth c Q G nL c0 s0 (pc + len) r.1 r.2.1 r.2.2) : am_Go p l e R s m args below meth c Q G nL c0 s0 pc lv st M := by
  obtain ⟨hx, hb, hml, hown, hts, hO⟩ := C
  obtain ⟨x, h1, rfl⟩ := am_g_load h
  intro ad al H locs ls hW hS hl hq hst
  have hv := hq _ (am_lk_mem h1)
  have hh := am_ls hl h1
  have kk' := kk ad al H locs ls hW hS hl hq (am_push hv hst)
  rcases hi with ⟨h4, rfl, rfl⟩ | ⟨rfl, rfl⟩
  · exact lv_iload_n hx hb hdg rfl hh kk'
  · exact lv_iload hx hb hdg hh kk'
theorem am_r_long (C : am_Cx p s m args c own cc nL G) {i : Instr} {k : Nat} {lv : am_L} {st : List am_V} {M : am_M} {r : am_S} {len : Nat} (hi : (∃ h4 : k < 4, i = .lload_n ⟨k, h4⟩ ∧ len = 1) ∨ (i = .lload k ∧ len = 2)) (hdg : decode cc pc = .ok (i, len)) (h : am_ldv k 1 lv st M = some r)
    (kk : am_Go p l e R s m args below meth c Q G nL c0 s0 (pc + len) r.1 r.2.1 r.2.2) : am_Go p l e R s m args below meth c Q G nL c0 s0 pc lv st M := by
  obtain ⟨hx, hb, hml, hown, hts, hO⟩ := C
  obtain ⟨x, h1, rfl⟩ := am_g_load h
  intro ad al H locs ls hW hS hl hq hst
  have hv := hq _ (am_lk_mem h1)
  have hh := am_ls hl h1
  have kk' := kk ad al H locs ls hW hS hl hq (am_push hv hst)
  rcases hi with ⟨h4, rfl, rfl⟩ | ⟨rfl, rfl⟩
  · exact lv_lload_n hx hb hdg rfl hh kk'
  · exact lv_lload hx hb hdg hh kk'
theorem am_r_ref (C : am_Cx p s m args c own cc nL G) {i : Instr} {k : Nat} {lv : am_L} {st : List am_V} {M : am_M} {r : am_S} {len : Nat} (hi : (∃ h4 : k < 4, i = .aload_n ⟨k, h4⟩ ∧ len = 1) ∨ (i = .aload k ∧ len = 2)) (hdg : decode cc pc = .ok (i, len)) (h : am_ldv k 2 lv st M = some r)
    (kk : am_Go p l e R s m args below meth c Q G nL c0 s0 (pc + len) r.1 r.2.1 r.2.2) : am_Go p l e R s m args below meth c Q G nL c0 s0 pc lv st M := by
  obtain ⟨hx, hb, hml, hown, hts, hO⟩ := C
  obtain ⟨x, h1, rfl⟩ := am_g_load h
  intro ad al H locs ls hW hS hl hq hst
  have hv := hq _ (am_lk_mem h1)
  have hh := am_ls hl h1
  have kk' := kk ad al H locs ls hW hS hl hq (am_push hv hst)
  rw [List.map_cons] at kk'
  by_cases hx0 : x = 0
  · subst hx0
    rw [am_val2n] at hh kk'
    rcases hi with ⟨h4, rfl, rfl⟩ | ⟨rfl, rfl⟩
    · exact lv_aload_nN hx hb hdg rfl hh kk'
    · exact lv_aloadN hx hb hdg hh kk'
  · rw [am_val2r ad hx0] at hh kk'
    rcases hi with ⟨h4, rfl, rfl⟩ | ⟨rfl, rfl⟩
    · exact lv_aload_n hx hb hdg rfl hh kk'
    · exact lv_aload hx hb hdg hh kk'
theorem am_q1 {al : List Int} {lv : am_L} {k : Nat} {v : am_V} (hv : am_wv al v) (hq : ∀ q ∈ lv, am_wv al q.2) : ∀ q ∈ am_st1 k v lv, am_wv al q.2 := fun q h => (am_st1_mem h).elim (fun e => by rw [e]; exact hv) (hq q)
theorem am_q2 {al : List Int} {lv : am_L} {k : Nat} {v : am_V} (hv : am_wv al v) (hq : ∀ q ∈ lv, am_wv al q.2) : ∀ q ∈ am_st2 k v lv, am_wv al q.2 := fun q h => (am_st2_mem h).elim (fun e => by rw [e]; exact hv) (hq q)
theorem am_tl {al : List Int} {v : am_V} {st : List am_V} (h : ∀ w ∈ v :: st, am_wv al w) : ∀ w ∈ st, am_wv al w := fun w hw => h w (List.mem_cons_of_mem _ hw)
theorem am_hd {al : List Int} {v : am_V} {st : List am_V} (h : ∀ w ∈ v :: st, am_wv al w) : am_wv al v := h v List.mem_cons_self
theorem am_s_int (C : am_Cx p s m args c own cc nL G) {i : Instr} {k : Nat} {lv : am_L} {st : List am_V} {M : am_M} {r : am_S} {len : Nat} (hi : (∃ h4 : k < 4, i = .istore_n ⟨k, h4⟩ ∧ len = 1) ∨ (i = .istore k ∧ len = 2)) (hk : k < nL) (hdg : decode cc pc = .ok (i, len)) (h : am_stv k 0 lv st M = some r)
    (kk : am_Go p l e R s m args below meth c Q G nL c0 s0 (pc + len) r.1 r.2.1 r.2.2) : am_Go p l e R s m args below meth c Q G nL c0 s0 pc lv st M := by
  obtain ⟨hx, hb, hml, hown, hts, hO⟩ := C
  obtain ⟨x, rest, rfl, rfl⟩ := am_g_store h
  intro ad al H locs ls hW hS hl hq hst
  have kk' := fun ls' hl' => kk ad al H locs ls' hW hS hl' (am_q1 (am_hd hst) hq) (am_tl hst)
  rcases hi with ⟨h4, rfl, rfl⟩ | ⟨rfl, rfl⟩
  · exact lv_istore_n hx hb hdg rfl hl hk (am_st1_lv ad k (0, x) lv) kk'
  · exact lv_istore hx hb hdg hl hk (am_st1_lv ad k (0, x) lv) kk'
theorem am_s_long (C : am_Cx p s m args c own cc nL G) {i : Instr} {k : Nat} {lv : am_L} {st : List am_V} {M : am_M} {r : am_S} {len : Nat} (hi : (∃ h4 : k < 4, i = .lstore_n ⟨k, h4⟩ ∧ len = 1) ∨ (i = .lstore k ∧ len = 2)) (hk : k + 1 < nL) (hdg : decode cc pc = .ok (i, len)) (h : am_stv k 1 lv st M = some r)
    (kk : am_Go p l e R s m args below meth c Q G nL c0 s0 (pc + len) r.1 r.2.1 r.2.2) : am_Go p l e R s m args below meth c Q G nL c0 s0 pc lv st M := by
  obtain ⟨hx, hb, hml, hown, hts, hO⟩ := C
  obtain ⟨x, rest, rfl, rfl⟩ := am_g_store h
  intro ad al H locs ls hW hS hl hq hst
  have kk' := fun ls' hl' => kk ad al H locs ls' hW hS hl' (am_q2 (am_hd hst) hq) (am_tl hst)
  rcases hi with ⟨h4, rfl, rfl⟩ | ⟨rfl, rfl⟩
  · exact lv_lstore_n hx hb hdg rfl hl hk (am_st2_lv ad k (1, x) lv) kk'
  · exact lv_lstore hx hb hdg hl hk (am_st2_lv ad k (1, x) lv) kk'
theorem am_s_ref (C : am_Cx p s m args c own cc nL G) {i : Instr} {k : Nat} {lv : am_L} {st : List am_V} {M : am_M} {r : am_S} {len : Nat} (hi : (∃ h4 : k < 4, i = .astore_n ⟨k, h4⟩ ∧ len = 1) ∨ (i = .astore k ∧ len = 2)) (hk : k < nL) (hdg : decode cc pc = .ok (i, len)) (h : am_stv k 2 lv st M = some r)
    (kk : am_Go p l e R s m args below meth c Q G nL c0 s0 (pc + len) r.1 r.2.1 r.2.2) : am_Go p l e R s m args below meth c Q G nL c0 s0 pc lv st M := by
  obtain ⟨hx, hb, hml, hown, hts, hO⟩ := C
  obtain ⟨x, rest, rfl, rfl⟩ := am_g_store h
  intro ad al H locs ls hW hS hl hq hst
  have kk' := fun ls' hl' => kk ad al H locs ls' hW hS hl' (am_q1 (am_hd hst) hq) (am_tl hst)
  have e1 := am_st1_lv ad k (2, x) lv
  rw [List.map_cons]
  by_cases hx0 : x = 0
  · subst hx0
    rw [am_val2n] at e1 ⊢
    rcases hi with ⟨h4, rfl, rfl⟩ | ⟨rfl, rfl⟩
    · exact lv_astore_nN hx hb hdg rfl hl hk e1 kk'
    · exact lv_astoreN hx hb hdg hl hk e1 kk'
  · rw [am_val2r ad hx0] at e1 ⊢
    rcases hi with ⟨h4, rfl, rfl⟩ | ⟨rfl, rfl⟩
    · exact lv_astore_n hx hb hdg rfl hl hk e1 kk'
    · exact lv_astore hx hb hdg hl hk e1 kk'
end AMR
