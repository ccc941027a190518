def am_bpc (P : am_P) (y b : Nat) : Option Nat := ((P y b).2.head?).map (fun i => i.1)
def am_tgt (P : am_P) (y : Nat) (b v : Int) : Bool := decide ((am_bpc P y b.toNat).map (fun n : Nat => (n : Int)) = some v)
def am_dc (cc : ByteArray) (pc : Nat) (i : Instr) (len : Nat) : Bool := decide (decode cc pc = .ok (i, len))
def am_dcx (cc : ByteArray) (pc : Nat) (i : Instr) : Bool := match decode cc pc with
  | .ok q => decide (q.1 = i)
  | _ => false
def am_tq : Int → List Int → List (Int × Int)
  | _, [] => []
  | lo, o :: os => (lo, o) :: am_tq (lo + 1) os
def am_swp (P : am_P) (y : Nat) (pc : Nat) : List (Int × Int) → List Int → Bool
  | [], [] => true
  | q :: qs, k :: b :: ps => decide (q.1 = k) && am_tgt P y b ((pc : Int) + q.2) && am_swp P y pc qs ps
  | _, _ => false
/-- the static check of an instruction of method y -/
def am_ck1 (P : am_P) (Y : Nat → am_MI) (y pc : Nat) (i : Instr) (xs : List Int) : Bool := match i with
  | .nop => match xs with
    | b :: _ => am_tgt P y b pc
    | [] => false
  | .goto off => match xs with
    | b :: _ => am_dc (Y y).2.1 pc i 3 && am_tgt P y b (pc + off)
    | [] => false
  | .ifCond _ off => match xs with
    | b1 :: b2 :: _ => am_dc (Y y).2.1 pc i 3 && am_tgt P y b1 (pc + off) && am_tgt P y b2 (pc + 3)
    | _ => false
  | .if_icmp _ off => match xs with
    | b1 :: b2 :: _ => am_dc (Y y).2.1 pc i 3 && am_tgt P y b1 (pc + off) && am_tgt P y b2 (pc + 3)
    | _ => false
  | .ifnull off => match xs with
    | b1 :: b2 :: _ => am_dc (Y y).2.1 pc i 3 && am_tgt P y b1 (pc + off) && am_tgt P y b2 (pc + 3)
    | _ => false
  | .ifnonnull off => match xs with
    | b1 :: b2 :: _ => am_dc (Y y).2.1 pc i 3 && am_tgt P y b1 (pc + off) && am_tgt P y b2 (pc + 3)
    | _ => false
  | .tableswitch d lo hi offs => match xs with
    | b :: ps => am_dcx (Y y).2.1 pc i && am_tgt P y b (pc + d) && decide (hi = lo + offs.toList.length - 1) && am_swp P y pc (am_tq lo offs.toList) ps
    | _ => false
  | .lookupswitch d prs => match xs with
    | b :: ps => am_dcx (Y y).2.1 pc i && am_tgt P y b (pc + d) && (prs.toList.zip (prs.toList.drop 1)).all (fun (a, next) => a.1 < next.1) && am_swp P y pc prs.toList ps
    | _ => false
  | .ireturn => match xs with
    | z :: _ => am_dc (Y y).2.1 pc i 1 && ((decide (z = 0) && decide ((Y y).2.2.2.1 = some .int)) || (decide (z = 1) && decide ((Y y).2.2.2.1 = some .boolean)))
    | _ => false
  | .lreturn => am_dc (Y y).2.1 pc i 1 && decide ((Y y).2.2.2.1 = some .long)
  | .areturn => am_dc (Y y).2.1 pc i 1 && (match (Y y).2.2.2.1 with
    | some (.object _) => true
    | some (.array _) => true
    | _ => false)
  | .return_ => am_dc (Y y).2.1 pc i 1 && decide ((Y y).2.2.2.1 = none)
  | .invokevirtual _ => am_dc (Y y).2.1 pc i 3 && am_ckC Y (Y y).1.cls (Y y).2.2.2.2.1 (Y y).2.2.2.2.2 i xs
  | .invokespecial _ => am_dc (Y y).2.1 pc i 3 && (match xs with
    | [] => am_okb (Y y).1.cls (Y y).2.2.1 (decide ((Y y).1.name = "<init>")) i xs && decide (1 ≤ (Y y).2.2.2.2.1) && decide (48 ≤ (Y y).2.2.2.2.2)
    | _ => am_ckC Y (Y y).1.cls (Y y).2.2.2.2.1 (Y y).2.2.2.2.2 i xs)
  | .invokestatic _ => am_dc (Y y).2.1 pc i 3 && (match xs with
    | 3 :: _ => am_ckC Y (Y y).1.cls (Y y).2.2.2.2.1 (Y y).2.2.2.2.2 i xs
    | _ => am_okb (Y y).1.cls (Y y).2.2.1 (decide ((Y y).1.name = "<init>")) i xs && decide (1 ≤ (Y y).2.2.2.2.1) && decide (48 ≤ (Y y).2.2.2.2.2))
  | _ => am_dc (Y y).2.1 pc i (am_il i) && am_okb (Y y).1.cls (Y y).2.2.1 (decide ((Y y).1.name = "<init>")) i xs
def am_ckL (P : am_P) (Y : Nat → am_MI) (y : Nat) : List am_I → Bool
  | [] => true
  | i :: is => am_ck1 P Y y i.1 i.2.1 i.2.2 && (match is with
    | [] => true
    | j :: _ => decide (j.1 = i.1 + am_il i.2.1)) && am_ckL P Y y is
theorem am_tgt_of {P : am_P} {y : Nat} {b v : Int} (h : am_tgt P y b v = true) : ∃ n : Nat, am_bpc P y b.toNat = some n ∧ v = (n : Int) := by
  unfold am_tgt at h
  have h := of_decide_eq_true h
  cases hb : am_bpc P y b.toNat with
  | none => rw [hb] at h; cases h
  | some n => rw [hb] at h; exact ⟨n, rfl, (Option.some.inj h).symm⟩
theorem am_dcx_of {cc : ByteArray} {pc : Nat} {i : Instr} (h : am_dcx cc pc i = true) : ∃ len, decode cc pc = .ok (i, len) := by
  unfold am_dcx at h
  split at h
  · rename_i q hq
    have := of_decide_eq_true h
    exact ⟨q.2, by rw [hq, ← this]⟩
  · cases h
theorem am_tq_mem {x off : Int} : ∀ {os : List Int} {lo : Int}, (x, off) ∈ am_tq lo os → lo ≤ x ∧ x < lo + os.length ∧ os[(x - lo).toNat]? = some off
  | [], lo, h => by cases h
  | o :: os, lo, h => by
    unfold am_tq at h
    rcases List.mem_cons.mp h with h | h
    · cases h
      refine ⟨Int.le_refl _, ?_, ?_⟩
      · rw [List.length_cons]; omega
      · rw [Int.sub_self]; rfl
    · obtain ⟨h1, h2, h3⟩ := am_tq_mem h
      refine ⟨by omega, ?_, ?_⟩
      · rw [List.length_cons]; omega
      · rw [show (x - lo).toNat = (x - (lo + 1)).toNat + 1 by omega, List.getElem?_cons_succ]
        exact h3
theorem am_tq_has {x : Int} : ∀ {os : List Int} {lo : Int}, lo ≤ x → x < lo + os.length → ∃ off, (x, off) ∈ am_tq lo os
  | [], lo, h1, h2 => by simp at h2; omega
  | o :: os, lo, h1, h2 => by
    unfold am_tq
    by_cases e : x = lo
    · subst e; exact ⟨o, List.mem_cons_self⟩
    · rw [List.length_cons] at h2
      obtain ⟨off, h⟩ := am_tq_has (os := os) (lo := lo + 1) (x := x) (by omega) (by omega)
      exact ⟨off, List.mem_cons_of_mem _ h⟩
/-- where a table leads -/
theorem am_sw_of {P : am_P} {y pc : Nat} {live : Nat → List (Nat × Nat)} {K : am_Kt} {x : Int} {d : Nat} {l : am_L} {r : List am_V} {M : am_M} {w : am_R} : ∀ (qs : List (Int × Int)) (ps : List Int), am_swp P y pc qs ps = true → am_sw live K x d l r M ps = some w →
    (∃ (off : Int) (b n : Nat), (x, off) ∈ qs ∧ Op.lookupswitch.offset qs 0 x = off ∧ am_bpc P y b = some n ∧ (pc : Int) + off = (n : Int) ∧ am_J live K b l r M = some w) ∨ ((∀ q ∈ qs, q.1 ≠ x) ∧ am_J live K d l r M = some w)
  | [], [], _, h => Or.inr ⟨fun q hq => (by cases hq), h⟩
  | q :: qs, k :: b :: ps, hc, h => by
    unfold am_swp at hc
    simp only [Bool.and_eq_true, decide_eq_true_eq] at hc
    unfold am_sw at h
    by_cases e : x = k
    · rw [decide_eq_true e] at h
      obtain ⟨n, h1, h2⟩ := am_tgt_of hc.1.2
      refine Or.inl ⟨q.2, b.toNat, n, ?_, ?_, h1, h2, h⟩
      · rw [e, ← hc.1.1]; exact List.mem_cons_self
      · obtain ⟨q1, q2⟩ := q
        rw [Op.lookupswitch.offset_cons, if_pos (hc.1.1.trans e.symm)]
    · rw [decide_eq_false e] at h
      have hne : q.1 ≠ x := by rw [hc.1.1]; exact fun z => e z.symm
      rcases am_sw_of qs ps hc.2 h with ⟨off, b', n, g1, g2, g3, g4, g5⟩ | ⟨g1, g2⟩
      · refine Or.inl ⟨off, b', n, List.mem_cons_of_mem _ g1, ?_, g3, g4, g5⟩
        obtain ⟨q1, q2⟩ := q
        rw [Op.lookupswitch.offset_cons, if_neg hne]
        exact g2
      · exact Or.inr ⟨fun z hz => (List.mem_cons.mp hz).elim (fun z1 => z1 ▸ hne) (g1 z), g2⟩
  | [], _ :: _, hc, _ => by cases hc
  | _ :: _, [], hc, _ => by cases hc
  | _ :: _, [_], hc, _ => by cases hc
theorem am_lo_none {x d : Int} : ∀ (qs : List (Int × Int)), (∀ q ∈ qs, q.1 ≠ x) → Op.lookupswitch.offset qs d x = d
  | [], _ => rfl
  | (a, o) :: qs, h => by
    rw [Op.lookupswitch.offset_cons, if_neg (h (a, o) List.mem_cons_self)]
    exact am_lo_none qs (fun q hq => h q (List.mem_cons_of_mem _ hq))
theorem am_lo_some {x d off : Int} : ∀ (qs : List (Int × Int)), (x, off) ∈ qs → Op.lookupswitch.offset qs 0 x = off → Op.lookupswitch.offset qs d x = off
  | [], h, _ => by cases h
  | (a, o) :: qs, h, h2 => by
    rw [Op.lookupswitch.offset_cons] at h2 ⊢
    by_cases e : a = x
    · rw [if_pos e] at h2 ⊢; exact h2
    · rw [if_neg e] at h2 ⊢
      refine am_lo_some qs ?_ h2
      rcases List.mem_cons.mp h with z | z
      · exact absurd (Prod.mk.inj z).1.symm e
      · exact z
section AMB
variable {p : Program} {l : Launch} {e : Env} {R : Room} {s : State} {m : MethodId} {args : Array Value} {below : List Frame} {meth : Method} {c : Code} {Q : State → Prop} {G : am_Gt} {cc : ByteArray} {nL pc : Nat} {c0 s0 : Int} {own : String}
theorem am_r_if (C : am_Cx p s m args c own cc nL G) {cd : ClassFile.Cond} {off x : Int} {tgt : Nat} {lv : am_L} {st : List am_V} {M : am_M} (hdg : decode cc pc = .ok (.ifCond cd off, 3)) (ht : (pc : Int) + off = (tgt : Int))
    (k1 : am_cnd cd x 0 = true → am_Go p l e R s m args below meth c Q G nL c0 s0 tgt lv st M) (k2 : am_cnd cd x 0 = false → am_Go p l e R s m args below meth c Q G nL c0 s0 (pc + 3) lv st M) : am_Go p l e R s m args below meth c Q G nL c0 s0 pc lv ((0, x) :: st) M := by
  obtain ⟨hx, hb, hml, hown, hts, hO⟩ := C
  intro ad al H locs ls hW hS hl hq hst
  have hr := (am_hd hst).1 rfl
  have z0 : (0 : Int32) = Int32.ofInt 0 := by decide
  have r0 : am_r32 0 := by decide
  have t1 := fun h => k1 h ad al H locs ls hW hS hl hq (am_tl hst)
  have t2 := fun h => k2 h ad al H locs ls hW hS hl hq (am_tl hst)
  rw [List.map_cons, am_val0]
  cases cd with
  | eq => exact lv_if_eq hx hb hdg ht (fun h => t1 (decide_eq_true ((am_i32_inj hr r0).mp (z0 ▸ h)))) (fun h => t2 (decide_eq_false (fun z => h (z0 ▸ (am_i32_inj hr r0).mpr z))))
  | ne => exact lv_if_ne hx hb hdg ht (fun h => t1 (by show (!decide (x = 0)) = true; rw [decide_eq_false (fun z => h (z0 ▸ (am_i32_inj hr r0).mpr z))]; rfl)) (fun h => t2 (by show (!decide (x = 0)) = false; rw [decide_eq_true ((am_i32_inj hr r0).mp (z0 ▸ h))]; rfl))
  | lt => exact lv_if_lt hx hb hdg ht (fun h => t1 (decide_eq_true ((am_i32_lt hr r0).mp (z0 ▸ h)))) (fun h => t2 (decide_eq_false (fun z => h (z0 ▸ (am_i32_lt hr r0).mpr z))))
  | ge => exact lv_if_ge hx hb hdg ht (fun h => t1 (decide_eq_true ((am_i32_le r0 hr).mp (z0 ▸ h)))) (fun h => t2 (decide_eq_false (fun z => h (z0 ▸ (am_i32_le r0 hr).mpr z))))
  | gt => exact lv_if_gt hx hb hdg ht (fun h => t1 (decide_eq_true ((am_i32_lt r0 hr).mp (z0 ▸ h)))) (fun h => t2 (decide_eq_false (fun z => h (z0 ▸ (am_i32_lt r0 hr).mpr z))))
  | le => exact lv_if_le hx hb hdg ht (fun h => t1 (decide_eq_true ((am_i32_le hr r0).mp (z0 ▸ h)))) (fun h => t2 (decide_eq_false (fun z => h (z0 ▸ (am_i32_le hr r0).mpr z))))
theorem am_r_icmp (C : am_Cx p s m args c own cc nL G) {cd : ClassFile.Cond} {off x y : Int} {tgt : Nat} {lv : am_L} {st : List am_V} {M : am_M} (hdg : decode cc pc = .ok (.if_icmp cd off, 3)) (ht : (pc : Int) + off = (tgt : Int))
    (k1 : am_cnd cd x y = true → am_Go p l e R s m args below meth c Q G nL c0 s0 tgt lv st M) (k2 : am_cnd cd x y = false → am_Go p l e R s m args below meth c Q G nL c0 s0 (pc + 3) lv st M) : am_Go p l e R s m args below meth c Q G nL c0 s0 pc lv ((0, y) :: (0, x) :: st) M := by
  obtain ⟨hx, hb, hml, hown, hts, hO⟩ := C
  intro ad al H locs ls hW hS hl hq hst
  have r0 := (am_hd hst).1 rfl
  have hr := (am_hd (am_tl hst)).1 rfl
  have t1 := fun h => k1 h ad al H locs ls hW hS hl hq (am_tl (am_tl hst))
  have t2 := fun h => k2 h ad al H locs ls hW hS hl hq (am_tl (am_tl hst))
  rw [List.map_cons, List.map_cons, am_val0, am_val0]
  cases cd with
  | eq => exact lv_icmp_eq hx hb hdg ht (fun h => t1 (decide_eq_true ((am_i32_inj hr r0).mp h))) (fun h => t2 (decide_eq_false (fun z => h ((am_i32_inj hr r0).mpr z))))
  | ne => exact lv_icmp_ne hx hb hdg ht (fun h => t1 (by show (!decide (x = y)) = true; rw [decide_eq_false (fun z => h ((am_i32_inj hr r0).mpr z))]; rfl)) (fun h => t2 (by show (!decide (x = y)) = false; rw [decide_eq_true ((am_i32_inj hr r0).mp h)]; rfl))
  | lt => exact lv_icmp_lt hx hb hdg ht (fun h => t1 (decide_eq_true ((am_i32_lt hr r0).mp h))) (fun h => t2 (decide_eq_false (fun z => h ((am_i32_lt hr r0).mpr z))))
  | ge => exact lv_icmp_ge hx hb hdg ht (fun h => t1 (decide_eq_true ((am_i32_le r0 hr).mp h))) (fun h => t2 (decide_eq_false (fun z => h ((am_i32_le r0 hr).mpr z))))
  | gt => exact lv_icmp_gt hx hb hdg ht (fun h => t1 (decide_eq_true ((am_i32_lt r0 hr).mp h))) (fun h => t2 (decide_eq_false (fun z => h ((am_i32_lt r0 hr).mpr z))))
  | le => exact lv_icmp_le hx hb hdg ht (fun h => t1 (decide_eq_true ((am_i32_le hr r0).mp h))) (fun h => t2 (decide_eq_false (fun z => h ((am_i32_le hr r0).mpr z))))
theorem am_r_nul (C : am_Cx p s m args c own cc nL G) {off x : Int} {tgt : Nat} {lv : am_L} {st : List am_V} {M : am_M} (hdg : decode cc pc = .ok (.ifnull off, 3)) (ht : (pc : Int) + off = (tgt : Int))
    (k1 : decide (x = 0) = true → am_Go p l e R s m args below meth c Q G nL c0 s0 tgt lv st M) (k2 : decide (x = 0) = false → am_Go p l e R s m args below meth c Q G nL c0 s0 (pc + 3) lv st M) : am_Go p l e R s m args below meth c Q G nL c0 s0 pc lv ((2, x) :: st) M := by
  obtain ⟨hx, hb, hml, hown, hts, hO⟩ := C
  intro ad al H locs ls hW hS hl hq hst
  have t1 := fun h => k1 h ad al H locs ls hW hS hl hq (am_tl hst)
  have t2 := fun h => k2 h ad al H locs ls hW hS hl hq (am_tl hst)
  rw [List.map_cons]
  by_cases h0 : x = 0
  · subst h0
    rw [am_val2n]
    exact lv_ifnullN hx hb hdg ht (t1 rfl)
  · rw [am_val2r ad h0]
    exact lv_ifnull hx hb hdg (t2 (decide_eq_false h0))
theorem am_r_nnul (C : am_Cx p s m args c own cc nL G) {off x : Int} {tgt : Nat} {lv : am_L} {st : List am_V} {M : am_M} (hdg : decode cc pc = .ok (.ifnonnull off, 3)) (ht : (pc : Int) + off = (tgt : Int))
    (k1 : (!decide (x = 0)) = true → am_Go p l e R s m args below meth c Q G nL c0 s0 tgt lv st M) (k2 : (!decide (x = 0)) = false → am_Go p l e R s m args below meth c Q G nL c0 s0 (pc + 3) lv st M) : am_Go p l e R s m args below meth c Q G nL c0 s0 pc lv ((2, x) :: st) M := by
  obtain ⟨hx, hb, hml, hown, hts, hO⟩ := C
  intro ad al H locs ls hW hS hl hq hst
  have t1 := fun h => k1 h ad al H locs ls hW hS hl hq (am_tl hst)
  have t2 := fun h => k2 h ad al H locs ls hW hS hl hq (am_tl hst)
  rw [List.map_cons]
  by_cases h0 : x = 0
  · subst h0
    rw [am_val2n]
    exact lv_ifnonnullN hx hb hdg (t2 rfl)
  · rw [am_val2r ad h0]
    exact lv_ifnonnull hx hb hdg ht (t1 (by rw [decide_eq_false h0]; rfl))
theorem am_r_goto (C : am_Cx p s m args c own cc nL G) {off : Int} {tgt : Nat} {lv : am_L} {st : List am_V} {M : am_M} (hdg : decode cc pc = .ok (.goto off, 3)) (ht : (pc : Int) + off = (tgt : Int))
    (k1 : am_Go p l e R s m args below meth c Q G nL c0 s0 tgt lv st M) : am_Go p l e R s m args below meth c Q G nL c0 s0 pc lv st M := by
  obtain ⟨hx, hb, hml, hown, hts, hO⟩ := C
  intro ad al H locs ls hW hS hl hq hst
  exact lv_goto hx hb hdg ht (k1 ad al H locs ls hW hS hl hq hst)
/-- a jump: the places that the next block has -/
theorem am_pick_mem {lv : am_L} : ∀ {qs : List (Nat × Nat)} {vs : List Int}, am_pick qs lv = some vs → ∀ q ∈ am_zip qs vs, q ∈ lv
  | [], vs, h, q, hq => by cases h; cases hq
  | a :: qs, vs, h, q, hq => by
    unfold am_pick at h
    cases hk : am_lk a.1 lv with
    | none => rw [hk] at h; cases h
    | some v =>
      rw [hk] at h
      dsimp only at h
      cases hb : Nat.beq v.1 a.2 with
      | false => rw [hb] at h; cases h
      | true =>
        rw [hb] at h
        dsimp only [cond_true] at h
        cases hp : am_pick qs lv with
        | none => rw [hp] at h; cases h
        | some ws =>
          rw [hp] at h
          cases h
          unfold am_zip at hq
          rcases List.mem_cons.mp hq with rfl | hq
          · have e := Nat.eq_of_beq_eq_true hb
            have h2 := am_lk_mem hk
            rw [← e]
            exact h2
          · exact am_pick_mem hp q hq
theorem am_go_pick {qs : List (Nat × Nat)} {vs : List Int} {lv : am_L} {st : List am_V} {M : am_M} (h : am_pick qs lv = some vs) (kk : am_Go p l e R s m args below meth c Q G nL c0 s0 pc (am_zip qs vs) st M) : am_Go p l e R s m args below meth c Q G nL c0 s0 pc lv st M := by
  intro ad al H locs ls hW hS hl hq hst
  refine kk ad al H locs ls hW hS ⟨hl.1, hl.2.1, fun q hq' => ?_⟩ (fun q hq' => hq q (am_pick_mem h q hq')) hst
  obtain ⟨w, hw, rfl⟩ := List.mem_map.mp hq'
  exact hl.2.2 _ (List.mem_map.mpr ⟨w, am_pick_mem h w hw, rfl⟩)
end AMB
