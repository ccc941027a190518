def R_law : String := "WeaveHallLaw"
def lw_P (b : Addr) (xs : List Int32) (args : Array Value) (s : State) : Prop := args = #[.ref b] ∧ s.IntsAt b xs ∧ xs.length ≤ 3072 ∧ (Jvm.Cond.and given_1 narrow_1).before args s = true
def lw_Q (_ : Array Value) (s : State) (o : Outcome) (t : State) : Prop := o = .returned (some (.int 1)) ∧ Framed s o t [] 600000 7302250
def lw_Z (below : List Frame) (a : Array Value) (s : State) : State → Prop := fun t => ∃ o, t.status = .running ∧ Ended t below o ∧ lw_Q a s o t
theorem lw_ret {p : Program} {l : Launch} {e : Env} {s : State} {m : MethodId} {below : List Frame} {meth : Method} {c : Code} {b : Nat} (hx : p.tables.exec = Jvm.exec) (hb : c.code = code) (hr : meth.sig.returnType = ret) (hlocks : meth.locks = false) {pc : Nat} {H : Heap} {ls : Array Slot} (hdg : decode code pc = .ok (.ireturn, 1)) : W p l e room_1 s m #[Value.ref b] below meth c H [] 600000 7302250 (lw_Z below #[Value.ref b] s) (F0 m pc ls [.int 1]) := by
  intro T hT X
  obtain ⟨fs, hret, hrun, hended, hW, hframe⟩ := X.leave (v := some (.int 1)) (hlocks := hlocks) (fun h => by rw [hr] at h; cases h)
  have hmeth' : T.vm.method? m = some meth := X.method'
  refine ⟨T.setFrames fs, ?_, .returned (some (.int 1)), hrun, hended, rfl, ⟨_, rfl⟩, hW, hframe⟩
  jvm_step X.here [X.here.top, hx, hb, hdg, hmeth', hr, ret, narrow_b1]
  (try refine ⟨rfl, ?_⟩); (try refine ⟨rfl, ?_⟩)
  first | (intro acts; rw [hret _ acts rfl rfl rfl]) | rw [hret _ _ rfl rfl rfl]
  exact Steps.refl _
def lw_At (p : Program) (s : State) (m : MethodId) (meth : Method) (c : Code) (b L : Nat) (xs : Nat → Int32) : Prop :=
  p.tables.exec = Jvm.exec ∧ c.code = code ∧ meth.sig.returnType = ret ∧ c.maxLocals = 4 ∧ s.vm.findClass R_law = some m.cls ∧ (∀ w ∈ lw_tbl, w.before #[Value.ref b] s = true) ∧ va_X b L xs s s.heap ∧ b < s.heap.size ∧ meth.locks = false ∧ (Jvm.Cond.and given_1 narrow_1).before #[Value.ref b] s = true
def am_pin : List Int := [0, 1, 1, 1, 2, 1, 2, 3, 1, 1, 1, 1, 1, 2]
def am_pout : List Int := [1, 1, 1, 1, 1, 2, 1, 1, 2, 0, 1, 1, 1, 2]
/-- the memory at the start: the script, the two tables of ports -/
def am_M0 (xs : Nat → Int32) (L : Nat) : am_M := fun l i => if l = 1 then (if i = -1 then (L : Int) else if 0 ≤ i ∧ i < L then (xs i.toNat).toInt else 0) else if l = 2 then am_pin.getD i.toNat 0 else if l = 3 then am_pout.getD i.toNat 0 else 0
/-- what is owed of the small machine -/
def am_Goal : Prop := ∀ (xs : Nat → Int32) (L : Nat), L ≤ 3072 → ∃ Mf, am_ev am_PP nL_law 0 [1] [] (am_M0 xs L) = some (1, Mf)
theorem am_M0_z {xs : Nat → Int32} {L : Nat} {l i : Int} (h1 : l ≠ 1) (h2 : l ≠ 2) (h3 : l ≠ 3) : am_M0 xs L l i = 0 := by
  unfold am_M0
  rw [if_neg h1, if_neg h2, if_neg h3]
theorem am_M0_len {xs : Nat → Int32} {L : Nat} : am_len (am_M0 xs L) 1 = L := by
  unfold am_len am_M0
  rw [if_pos rfl, if_pos rfl, if_pos rfl]
theorem am_M0_at {xs : Nat → Int32} {L j : Nat} (h : j < L) : am_M0 xs L 1 j = (xs j).toInt := by
  unfold am_M0
  rw [if_pos rfl, if_neg (by omega), if_pos ⟨by omega, by omega⟩]
  rfl
theorem am_flatIn : ∀ j, j < 14 → Jvm.Cond.eq (.elem (.static "WeaveHall" "PORTS_IN" "[I") (.int (Int32.ofNat j))) (.int (Int32.ofInt (am_pin.getD j 0))) ∈ flatC (Jvm.Cond.and given_1 narrow_1) := by decide +kernel
theorem am_flatOut : ∀ j, j < 14 → Jvm.Cond.eq (.elem (.static "WeaveHall" "PORTS_OUT" "[I") (.int (Int32.ofNat j))) (.int (Int32.ofInt (am_pout.getD j 0))) ∈ flatC (Jvm.Cond.and given_1 narrow_1) := by decide +kernel
theorem am_arrT {args : Array Value} {s : State} {ty : FieldType} (h : (Cond.arrayClass ty).before args s = true) : ∃ cA, ArrOfT s cA ty ∧ s.vm.findClass ("[" ++ ty.toString) = some cA := by
  obtain ⟨cA, kA, comp, h1, h2, h3⟩ := Cond.arrayClass_spec h
  exact ⟨cA, fun n z => ⟨fun k h => (by cases h), kA, h2, comp, h3⟩, h1⟩
theorem am_arrQ {args : Array Value} {s : State} {C : String} (h : (Cond.arrayOver (.object C)).before args s = true) : ∃ cA, ArrOfT s cA (.object C) ∧ va_RA s cA (.object C) := by
  obtain ⟨comp, cA, kA, h1, -, h2, h3, h4⟩ := Cond.arrayOver_spec h
  exact ⟨cA, fun n z => ⟨fun k h => (by cases h), kA, h2, comp, h3⟩, kA, comp, h2, h3, h1, h4⟩
theorem am_tab {s : State} {b : Nat} {tm : Term} {l : List Int} (hl : l.length = 14) (hr : ∀ j, j < 14 → am_r32 (l.getD j 0)) (hgv : ∀ cnd ∈ flatC (Jvm.Cond.and given_1 narrow_1), cnd.before #[Value.ref b] s = true) (h1 : Cond.arrayOf tm .int ∈ flatC (Jvm.Cond.and given_1 narrow_1)) (h2 : Cond.eq (.length tm) (.int 14) ∈ flatC (Jvm.Cond.and given_1 narrow_1)) (h3 : ∀ j, j < 14 → Jvm.Cond.eq (.elem tm (.int (Int32.ofNat j))) (.int (Int32.ofInt (l.getD j 0))) ∈ flatC (Jvm.Cond.and given_1 narrow_1)) :
    ∃ t : Nat, tm.eval #[Value.ref b] s none [] s = some (.ref t) ∧ t < s.heap.size ∧ va_T .int t 14 (fun j => .int (Int32.ofInt (l.getD j 0))) (fun q => s.heap.size ≤ q) s s.heap := by
  obtain ⟨t, e, hT⟩ := va_Tof (N := 14) (f := fun j => .int (Int32.ofInt (l.getD j 0))) (A := fun q => s.heap.size ≤ q) (by decide) (hgv _ h1) (va_eqt (hgv _ h2)) (fun j hj => va_eqt (hgv _ (h3 j hj))) (fun a ha => Nat.not_le.mpr ha)
  refine ⟨t, e, ?_, hT⟩
  obtain ⟨cell, hc, -⟩ := hT
  exact (Array.getElem?_eq_some_iff.mp hc).1
set_option maxHeartbeats 4000000 in
theorem whole_open (hgoal : am_Goal) {p : Program} {e : Env} {s : State} {m : MethodId} {below : List Frame} {meth : Method} {c : Code} (l : Launch) {b L : Nat} {xs : Nat → Int32} (hL : L ≤ 3072) (C0 : lw_At p s m meth c b L xs) : W p l e room_1 s m #[Value.ref b] below meth c s.heap [] 0 0 (lw_Z below #[Value.ref b] s) (entryFrame m ([Value.ref b] : List Value).toArray 4) := by
  obtain ⟨hx, hb, hr, hml, hown, hts, hX, hbl, hlocks, hgv⟩ := C0
  have hts' : ∀ w ∈ am_tbl, w.before #[Value.ref b] s = true := fun w hw => hts w (List.mem_filter.mp hw).1
  have hflat := flat_of_before _ hgv
  obtain ⟨t2, e2, l2, T2⟩ := am_tab (l := am_pin) (tm := .static "WeaveHall" "PORTS_IN" "[I") rfl (by decide) hflat (by decide +kernel) (by decide +kernel) am_flatIn
  obtain ⟨t3, e3, l3, T3⟩ := am_tab (l := am_pout) (tm := .static "WeaveHall" "PORTS_OUT" "[I") rfl (by decide) hflat (by decide +kernel) (by decide +kernel) am_flatOut
  obtain ⟨k0, i0, K0⟩ := u_known (C := RX0) (T := TX0) (N := 12) (n := 12) hts' am_in0 (hts (.instantiable RX0 12) (by decide +kernel))
  obtain ⟨k1, i1, K1⟩ := u_known (C := RX1) (T := TX1) (N := 4) (n := 4) hts' am_in1 (hts (.instantiable RX1 4) (by decide +kernel))
  obtain ⟨k2, i2, K2⟩ := u_known (C := RX2) (T := TX2) (N := 4) (n := 4) hts' am_in2 (hts (.instantiable RX2 4) (by decide +kernel))
  obtain ⟨k3, i3, K3⟩ := u_known (C := RX3) (T := TX3) (N := 2) (n := 2) hts' am_in3 (hts (.instantiable RX3 2) (by decide +kernel))
  obtain ⟨k4, i4, K4⟩ := u_known (C := RX4) (T := TX4) (N := 6) (n := 6) hts' am_in4 (hts (.instantiable RX4 6) (by decide +kernel))
  obtain ⟨k5, i5, K5⟩ := u_known (C := RX5) (T := TX5) (N := 16) (n := 16) hts' am_in5 (hts (.instantiable RX5 16) (by decide +kernel))
  obtain ⟨k6, i6, K6⟩ := u_known (C := RX6) (T := TX6) (N := 10) (n := 10) hts' am_in6 (hts (.instantiable RX6 10) (by decide +kernel))
  obtain ⟨k7, i7, K7⟩ := u_known (C := RX7) (T := TX7) (N := 55) (n := 55) hts' am_in7 (hts (.instantiable RX7 55) (by decide +kernel))
  obtain ⟨a0, A0, F0'⟩ := am_arrT (hts (.arrayClass .int) (by decide +kernel))
  obtain ⟨a1, A1, F1⟩ := am_arrT (hts (.arrayClass .long) (by decide +kernel))
  obtain ⟨a2, A2, F2⟩ := am_arrT (hts (.arrayClass .boolean) (by decide +kernel))
  obtain ⟨a3, A3, F3⟩ := am_arrQ (hts (.arrayOver (.object RX5)) (by decide +kernel))
  obtain ⟨a4, A4, F4⟩ := am_arrQ (hts (.arrayOver (.object RX0)) (by decide +kernel))
  obtain ⟨D, hD⟩ : ∃ D : va_G, ∀ (k : Nat) (q : vw_C), vwCl[k]? = some q → u_Kn s q.1 q.2.1 q.2.2 (D.1 k) (D.2 k) := by
    refine ⟨(fun k => [k0, k1, k2, k3, k4, k5, k6, k7].getD k k0, fun k => [i0, i1, i2, i3, i4, i5, i6, i7].getD k i0), ?_⟩
    intro k q hq
    match k, hq with
    | 0, hq => cases hq; exact K0
    | 1, hq => cases hq; exact K1
    | 2, hq => cases hq; exact K2
    | 3, hq => cases hq; exact K3
    | 4, hq => cases hq; exact K4
    | 5, hq => cases hq; exact K5
    | 6, hq => cases hq; exact K6
    | 7, hq => cases hq; exact K7
    | k + 8, hq => simp at hq
  let cA : Nat → ClassId := fun k => [a0, a1, a2, a3, a4].getD k a0
  let o : Int → Nat := fun x => if x = 1 then b else if x = 2 then t2 else if x = 3 then t3 else 0
  let M := am_M0 xs L
  let G : am_Gt := (D, cA, s.heap.size, M, o)
  have hK : va_K D vwCl (am_tys cA) s := by
    refine ⟨hD, fun k q hq => ?_⟩
    match k, hq with
    | 0, hq => cases hq; exact ⟨A0, F0'⟩
    | 1, hq => cases hq; exact ⟨A1, F1⟩
    | 2, hq => cases hq; exact ⟨A2, F2⟩
    | 3, hq => cases hq; exact ⟨A3, F3⟩
    | 4, hq => cases hq; exact ⟨A4, F4⟩
    | k + 5, hq => simp at hq
  have hWd : am_Wd G o M [] s s.heap := by
    show am_Wd (D, cA, s.heap.size, am_M0 xs L, o) o (am_M0 xs L) [] s s.heap
    have hn : ∀ {k : Nat} {q : Nat × va_E}, (am_ws cA o M [])[k]? = some q → False := fun {k q} h => absurd (show ([] : va_W)[k]? = some q from h) (by simp)
    refine ⟨fun k q h => (hn h).elim, ⟨fun i j p q h => (hn h).elim, fun k q h => (hn h).elim⟩, hK, ⟨List.nodup_nil, (fun L h => nomatch h), (fun L h => nomatch h), rfl, rfl, rfl, fun L' h0 hne => ?_⟩, rfl, rfl, rfl, fun L' h0 hne => ?_⟩
    · refine (hne ?_).elim
      show am_M0 xs L (-1) L' = 0
      exact am_M0_z (by decide) (by decide) (by decide)
    · refine (hne ?_).elim
      show am_M0 xs L (-1) L' = 0
      exact am_M0_z (by decide) (by decide) (by decide)
  have hO : am_Old G s s.heap := by
    refine ⟨fun L' hL' => ?_, ?_, ?_, ?_, ?_, Nat.le_refl _, fun w hw => ?_, va_AO.of (hts (.arrayOver (.object RX5)) (by decide +kernel)), va_AO.of (hts (.arrayOver (.object RX0)) (by decide +kernel))⟩
    · rcases hL' with rfl | rfl | rfl
      · refine ⟨?_, hbl, fun j hj => ?_⟩
        · show va_T .int b (am_len (am_M0 xs L) 1).toNat (fun j => .int (Int32.ofInt (am_M0 xs L 1 j))) (fun q => s.heap.size ≤ q) s s.heap
          rw [am_M0_len]
          obtain ⟨scr, x1, x2, x3, x4, x5⟩ := hX
          refine ⟨scr, x1, x2, x3, by rw [x4]; simp, by rw [x4]; rfl, fun j hj => ?_, Nat.not_le.mpr hbl⟩
          have hj' : j < L := by simpa using hj
          rw [x5 j hj']
          show some (Value.int (xs j)) = some (Value.int (Int32.ofInt (am_M0 xs L 1 j)))
          rw [am_M0_at hj', Int32.ofInt_toInt]
        · have hj : (j : Int) < am_len (am_M0 xs L) 1 := hj
          rw [am_M0_len] at hj
          show am_r32 (am_M0 xs L 1 j)
          rw [am_M0_at (by omega)]
          exact am_t32_r _
      · refine ⟨T2, l2, fun j hj => ?_⟩
        have hj : (j : Int) < am_len (am_M0 xs L) 2 := hj
        rw [am_len_siz (by decide)] at hj
        have hj : (j : Int) < 14 := hj
        exact (show ∀ j, j < 14 → am_r32 (am_pin.getD j 0) by decide) j (by omega)
      · refine ⟨T3, l3, fun j hj => ?_⟩
        have hj : (j : Int) < am_len (am_M0 xs L) 3 := hj
        rw [am_len_siz (by decide)] at hj
        have hj : (j : Int) < 14 := hj
        exact (show ∀ j, j < 14 → am_r32 (am_pout.getD j 0) by decide) j (by omega)
    · show 0 ≤ am_M0 xs L 1 (-1)
      have : am_M0 xs L 1 (-1) = L := am_M0_len (xs := xs)
      omega
    · show am_M0 xs L 1 (-1) ≤ 3072
      have : am_M0 xs L 1 (-1) = L := am_M0_len (xs := xs)
      omega
    · exact va_Zof (hts (.laysStatic "WeaveHall" "PORTS_IN" "[I") (by decide +kernel)) (hts (.initialized "WeaveHall") (by decide +kernel)) e2 (fun a ha => Nat.not_le.mpr ha)
    · exact va_Zof (hts (.laysStatic "WeaveHall" "PORTS_OUT" "[I") (by decide +kernel)) (hts (.initialized "WeaveHall") (by decide +kernel)) e3 (fun a ha => Nat.not_le.mpr ha)
    · have hw2 := hts w (List.mem_filter.mp hw).1
      rcases am_nst_form hw with ⟨a, i, b', n, d, k, rfl⟩ | ⟨a, i, x', k, rfl⟩
      · exact va_Nw.of rfl hw2
      · exact va_Nw.of rfl hw2
  obtain ⟨Mf, hev⟩ := hgoal xs L hL
  obtain ⟨n, hrun⟩ := am_ev_iff.mp hev
  have hrun := am_run_succ _ _ _ _ _ _ _ hrun
  have hc0 : am_cI M := ⟨[], List.nodup_nil, (fun L h => nomatch h), am_M0_z (by decide) (by decide) (by decide), am_M0_z (by decide) (by decide) (by decide)⟩
  obtain ⟨g1, g2⟩ := am_cI_le (am_run_cI _ _ _ _ _ _ _ hrun hc0)
  have g1 : Mf (-2) 0 ≤ 600000 := g1
  have g2 : Mf (-2) 1 ≤ 7302250 := g2
  have z0 : M (-2) 0 = 0 := am_M0_z (by decide) (by decide) (by decide)
  have z1 : M (-2) 1 = 0 := am_M0_z (by decide) (by decide) (by decide)
  have C : am_Cx p s m #[Value.ref b] c (am_YY nL_law).1.cls (am_YY nL_law).2.1 (am_YY nL_law).2.2.1 G := ⟨hx, hb, hml, hown, hts', hO⟩
  have hgo := am_run_go (p := p) (e := e) (R := room_1) (s := s) (m := m) (args := #[Value.ref b]) (below := below) (meth := meth) (c := c) (Q := lw_Z below #[Value.ref b] s) (G := G) (c0 := 0) (s0 := 0) (vf := 1) (Mf := Mf) am_okPP n (fun z as M' v M'' h1 => am_ctr_all am_okPP l n G z as M' v M'' h1) C (fun q => absurd q (by decide +kernel)) (by decide +kernel) (by decide +kernel) (by show _ ≤ ((600000 : Nat) : Int); omega) (by show _ ≤ ((7302250 : Nat) : Int); omega) ?hret (n + 1) (Nat.le_refl _) 0 [1] [] M 0 hrun (by decide +kernel) (by rw [z0]; exact Int.le_refl _) (by rw [z1]; exact Int.le_refl _)
  case hret =>
    intro pc i lv st hi hdg ad' al' H locs ls hW hS hl' hq hst
    rcases hi with ⟨rfl, h2, rfl⟩ | ⟨rfl, h2, rfl, hbool⟩ | ⟨rfl, h2, rfl⟩ | ⟨rfl, h2, rfl⟩ | ⟨rfl, h2, rfl, hv0⟩
    · exact absurd h2 (by decide +kernel)
    · refine va_forget (fun q hq => hS.2.2 q hq) ?_
      refine W.widen (k := 600000) (n := 7302250) (by omega) (by omega) ?_
      exact lw_ret hx hb hr hlocks hdg
    · exact absurd h2 (by decide +kernel)
    · exact absurd h2 (by rintro (⟨n, h⟩ | ⟨n, h⟩) <;> cases h)
    · exact absurd h2 (by decide +kernel)
  have hl := lv_entry ([.ref b]) (n := 4) (Nat.le_of_ble_eq_true rfl)
  rw [lg_entry_eq]
  have hS0 : va_S (am_A G) s.heap s.heap [] := va_S.rf
  have kk := hgo o [] s.heap [] _ hWd hS0 hl (fun q hq => ?_) (fun v hv => by cases hv)
  · rw [z0, z1] at kk
    exact kk
  · rcases List.mem_cons.mp hq with rfl | hq
    · exact ⟨(fun h => nomatch h), (fun h => nomatch h), fun _ => Or.inr (Or.inr (Or.inl rfl))⟩
    · cases hq
