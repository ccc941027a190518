/-! the hall begins anew -/
theorem no_twW {W L i : Int} (h : ∀ w, 0 ≤ w → ¬ twR w L i) : ¬ twW W L i := fun ⟨w, a, _, c⟩ => h w a c
theorem no_twB {B L i : Int} (h : ∀ d, 0 ≤ d → ¬ (bt d L ∨ L = -2 ∨ (L = -1 ∧ bt d i))) : ¬ twB B L i := fun ⟨w, a, _, c⟩ => h w a c
theorem cl_restartAll {C R : am_M} (hh : hall C R) (hn : net C R) (hb : ∀ d, 0 ≤ d → d < R 17 11 → bst C R d) (hri : ∀ u, 0 ≤ u → u < R 17 0 → ri R u) :
    ∃ C', am_evm am_PP nX6_restartAll [(2, 16)] C = some (0, C') ∧ fr2 (fun L i => twW (R 17 0) L i ∨ twB (R 17 11) L i) C C' ∧ (∀ u, 0 ≤ u → u < R 17 0 → sw C' R u ∧ wnew C' R u) ∧ (∀ d, 0 ≤ d → d < R 17 11 → bnew C' R d) := by
  obtain ⟨g0, g1, g2, g3, g4, g5, g6, g7, g8, g9, g10, g11, g12, g13⟩ := hh
  obtain ⟨hn1, hn2⟩ := hn
  obtain ⟨C1, a1, a2, a3⟩ := rw_all (R := R) (W := R 17 0) g10 (R 17 0).toNat C 0 (by omega) (by omega) g0 g7 (fun u p q => ⟨(hn1 u p q).1, (hn1 u p q).2.1, hri u p q⟩) (fun u p q => by omega)
  have k : ∀ L j, (∀ w, 0 ≤ w → ¬ twR w L j) → C1 L j = C L j := fun L j q => a2 _ _ (no_twW q)
  obtain ⟨C2, b1, b2, b3⟩ := rb_all (R := R) (B := R 17 11) g12 g11 (R 17 11).toNat C1 0 (by omega) (by omega) ((k _ _ (fun w q => by unfold twR twr twa; omega)).trans g1) ((k _ _ (fun w q => by unfold twR twr twa; omega)).trans g8) (fun d p q => by
    refine ⟨(k _ _ (fun w q => by unfold twR twr twa; omega)).trans (hn2 d p q).1, ?_⟩
    obtain ⟨wn, tw, o, mo, mk, n, V, t, h⟩ := hb d p q
    exact ⟨wn, tw, o, mo, mk, n, V, t, bcl_ext p (by omega) h (fun L i q => k _ _ (fun w r => by unfold bt at q; unfold twR twr twa; omega)) (fun L q => k _ _ (fun w r => by unfold bt at q; unfold twR twr twa; omega)) (fun _ _ _ _ => rfl) (fun _ _ _ => rfl)⟩) (fun d p q => by omega)
  have k2 : ∀ L j, (∀ d, 0 ≤ d → ¬ (bt d L ∨ L = -2 ∨ (L = -1 ∧ bt d j))) → C2 L j = C1 L j := fun L j q => b2 _ _ (no_twB q)
  refine ⟨C2, ?_, fr2_trans (fr2_mono (fun _ _ q => Or.inl q) a2) (fr2_mono (fun _ _ q => Or.inr q) b2), fun u p q => ?_, b3⟩
  · rw [be_X6_restartAll_m, be_X6_restartAll_0, a1, be_X6_restartAll_3]
    exact b1
  · obtain ⟨s, n1, n2, n3, n4, n5⟩ := a3 u p q
    have rows : ∀ n f, row C1 (20 + 256 * u) n f → row C2 (20 + 256 * u) n f := fun n f r => row_other p (by omega) (fun L i c => k2 _ _ (fun d e => by unfold rt at c; unfold bt; omega)) (fun L c => k2 _ _ (fun d e => by unfold rt at c; unfold bt; omega)) r
    refine ⟨sw_congr p (by omega) (fun L i c => k2 _ _ (fun d e => by unfold wst at c; unfold bt; omega)) (fun _ _ _ => rfl) (fun _ n f r => rows n f r) (fun _ => ?_) s, (k2 _ _ (fun d e => by unfold bt; omega)).trans n1, (k2 _ _ (fun d e => by unfold bt; omega)).trans n2, (k2 _ _ (fun d e => by unfold bt; omega)).trans n3, fun c f => rows _ _ (n4 c f), ws_congr s (fun L i c => k2 _ _ (fun d e => by unfold twa at c; unfold bt; omega)) (fun _ _ _ => rfl) rfl n5⟩
    obtain ⟨_, _, _, _, _, _, _, _, _, _, _, n, f, r⟩ := s
    exact ⟨n, f, rows n f r⟩
