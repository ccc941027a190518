/-! weavers: shape, frames, what is next -/
theorem bpos {α : Type} (p : Prop) [Decidable p] (a b : α) (h : p) : (bif decide p then a else b) = a := by
  rw [decide_eq_true h]; rfl
theorem bneg {α : Type} (p : Prop) [Decidable p] (a b : α) (h : ¬ p) : (bif decide p then a else b) = b := by
  rw [decide_eq_false h]; rfl
def fr2 (T : Int → Int → Prop) (C C' : am_M) : Prop := ∀ L i, ¬ T L i → C' L i = C L i
theorem fr2_refl (T : Int → Int → Prop) (C : am_M) : fr2 T C C := fun _ _ _ => rfl
theorem fr2_trans {T : Int → Int → Prop} {A B C : am_M} (h1 : fr2 T A B) (h2 : fr2 T B C) : fr2 T A C := fun L i a => (h2 L i a).trans (h1 L i a)
theorem fr2_mono {T T' : Int → Int → Prop} {A B : am_M} (h : ∀ L i, T L i → T' L i) (h1 : fr2 T A B) : fr2 T' A B := fun L i a => h1 L i (fun q => a (h L i q))
theorem fr2_up {T : Int → Int → Prop} {A B : am_M} {L i v : Int} (hL : T L i) (h : fr2 T A B) : fr2 T A (am_up B L i v) := fun L' i' a => by
  have e : ¬ (L' = L ∧ i' = i) := fun q => a (q.1 ▸ q.2 ▸ hL)
  unfold am_up
  rw [if_neg e]; exact h L' i' a
/-- what the reference may change of a weaver -/
def rtw (w L i : Int) : Prop := (L = 17 ∧ 45 ≤ i ∧ i ≤ 48) ∨ ((L = 1589 ∨ L = 566 ∨ L = 822 ∨ L = 1845 ∨ L = 2101 ∨ L = 2357 ∨ L = 2613 ∨ L = 1333 ∨ L = 2869 ∨ L = 3125 ∨ L = 71) ∧ i = w) ∨ (L = 66 ∧ 4 * w ≤ i ∧ i < 4 * w + 4) ∨ (L = 67 ∧ 30 * w ≤ i ∧ i < 30 * w + 30)
/-- what a look may change -/
def rtl (w L i : Int) : Prop := (L = 17 ∧ 45 ≤ i ∧ i ≤ 48) ∨ ((L = 1589 ∨ L = 71) ∧ i = w) ∨ (L = 66 ∧ 4 * w ≤ i ∧ i < 4 * w + 4)
/-- what the hall may change of a weaver within an act, rows aside -/
def twa (w L i : Int) : Prop := (L = 15 + 256 * w ∧ (8 ≤ i ∧ i ≤ 11 ∨ i = 15)) ∨ (L = 11 + 256 * w ∧ i = 3) ∨ (L = 14 + 256 * w ∧ i = 5) ∨ L = 57 + 256 * w ∨ L = 58 + 256 * w ∨ L = 72 + 256 * w ∨ L = 60 + 256 * w
def twr (w L i : Int) : Prop := twa w L i ∨ (20 + 256 * w ≤ L ∧ L ≤ 27 + 256 * w) ∨ L = -2 ∨ (L = -1 ∧ 20 + 256 * w ≤ i ∧ i ≤ 27 + 256 * w)
def rs (R : am_M) : Prop := R 17 1 = 309 ∧ R 17 2 = 565 ∧ R 17 3 = 63 ∧ R 17 4 = 62 ∧ R 17 5 = 821 ∧ R 17 6 = 68 ∧ R 17 7 = 1077 ∧ R 17 8 = 64 ∧ R 17 9 = 320 ∧ R 17 10 = 576 ∧ R 17 12 = 61 ∧ R 17 13 = 317 ∧ R 17 14 = 573 ∧ R 17 15 = 829 ∧ R 17 16 = 1085 ∧ R 17 18 = 1341 ∧ R 17 19 = 1597 ∧ R 17 20 = 1853 ∧ R 17 21 = 2109 ∧ R 17 22 = 2365 ∧ R 17 23 = 65 ∧ R 17 24 = 2621 ∧ R 17 25 = 2877 ∧ R 17 26 = 3133 ∧ R 17 27 = 69 ∧ R 17 28 = 70 ∧ R 17 30 = 1333 ∧ R 17 31 = 1589 ∧ R 17 32 = 566 ∧ R 17 33 = 822 ∧ R 17 34 = 1845 ∧ R 17 35 = 2101 ∧ R 17 36 = 2357 ∧ R 17 37 = 2613 ∧ R 17 38 = 66 ∧ R 17 39 = 67 ∧ R 17 40 = 2869 ∧ R 17 41 = 3125 ∧ R 17 44 = 308 ∧ R 17 49 = 71 ∧ R 17 50 = 1078 ∧ R 17 51 = 1334 ∧ R 17 52 = 3381 ∧ R 17 54 = 1590
def cshape (C : am_M) (w : Int) : Prop := C (15 + 256 * w) 0 = w ∧ C (15 + 256 * w) 1 = 55 + 256 * w ∧ C (15 + 256 * w) 2 = 56 + 256 * w ∧ C (15 + 256 * w) 3 = 20 + 256 * w ∧ C (15 + 256 * w) 4 = 11 + 256 * w ∧ C (15 + 256 * w) 5 = 14 + 256 * w ∧ C (11 + 256 * w) 0 = 57 + 256 * w ∧ C (11 + 256 * w) 1 = 58 + 256 * w ∧ C (11 + 256 * w) 2 = 72 + 256 * w ∧ C (14 + 256 * w) 0 = 59 + 256 * w ∧ C (14 + 256 * w) 1 = 73 + 256 * w ∧ C (14 + 256 * w) 2 = 74 + 256 * w ∧ C (14 + 256 * w) 3 = 60 + 256 * w
/-- SHIFT, DELAY, COUNT -/
def wsd (C R : am_M) (w : Int) : Prop := (R 1589 w = 0 ∧ C (15 + 256 * w) 8 = 0 ∧ C (15 + 256 * w) 9 = 0) ∨ ((R 1589 w = 1 ∨ R 1589 w = 2) ∧ C (15 + 256 * w) 8 = 1 ∧ C (15 + 256 * w) 9 = 0 ∧ C (15 + 256 * w) 10 = R 566 w) ∨ (R 1589 w = -1 ∧ C (15 + 256 * w) 8 = 2)
/-- COLLECT -/
def ws9 (C R : am_M) (w : Int) : Prop := (R 1589 w = 0 ∧ C (15 + 256 * w) 8 = 0 ∧ C (15 + 256 * w) 9 = 0) ∨ (R 1589 w = -1 ∧ C (15 + 256 * w) 8 = 2)
/-- SOURCE -/
def ws0 (C R : am_M) (w : Int) : Prop := (0 ≤ R 1589 w ∧ R 1589 w < R 821 w ∧ C (15 + 256 * w) 8 = 1 ∧ C (15 + 256 * w) 9 = 0 ∧ C (15 + 256 * w) 10 = R 68 (200 * w + R 1589 w) ∧ C (15 + 256 * w) 11 = R 1589 w + 1) ∨ (R 1589 w = R 821 w ∧ C (15 + 256 * w) 8 = 2)
/-- REPEAT -/
def ws2 (C R : am_M) (w : Int) : Prop := (R 1589 w = 0 ∧ C (15 + 256 * w) 8 = 0 ∧ C (15 + 256 * w) 9 = 0) ∨ (0 < R 1589 w ∧ R 1589 w ≤ 20 ∧ C (15 + 256 * w) 8 = 1 ∧ C (15 + 256 * w) 9 = 0 ∧ C (15 + 256 * w) 10 = R 566 w ∧ C (15 + 256 * w) 11 = R 1589 w) ∨ (R 1589 w = -1 ∧ C (15 + 256 * w) 8 = 2)
/-- SPLIT -/
def ws5 (C R : am_M) (w : Int) : Prop := (R 1589 w = 0 ∧ C (15 + 256 * w) 8 = 0 ∧ C (15 + 256 * w) 9 = 0) ∨ (R 1589 w = 1 ∧ C (15 + 256 * w) 8 = 1 ∧ C (15 + 256 * w) 9 = (if Int.tmod (R 566 w) (R 565 w) = 0 then 0 else 1) ∧ C (15 + 256 * w) 10 = R 566 w) ∨ (R 1589 w = -1 ∧ C (15 + 256 * w) 8 = 2)
/-- SUM -/
def ws6 (C R : am_M) (w : Int) : Prop := (R 1589 w = 0 ∧ C (15 + 256 * w) 8 = 0 ∧ C (15 + 256 * w) 9 = 0) ∨ (R 1589 w = 1 ∧ C (15 + 256 * w) 8 = 0 ∧ C (15 + 256 * w) 9 = 1 ∧ C (15 + 256 * w) 10 = R 566 w) ∨ (R 1589 w = 2 ∧ C (15 + 256 * w) 8 = 1 ∧ C (15 + 256 * w) 9 = 0 ∧ C (15 + 256 * w) 10 = am_w64 (R 566 w + R 822 w)) ∨ (R 1589 w = -1 ∧ C (15 + 256 * w) 8 = 2)
/-- SELECT -/
def ws7 (C R : am_M) (w : Int) : Prop := (0 ≤ R 1589 w ∧ R 1589 w ≤ 2 ∧ C (15 + 256 * w) 8 = 0 ∧ C (15 + 256 * w) 9 = R 1589 w) ∨ (R 1589 w = 3 ∧ C (15 + 256 * w) 8 = 1 ∧ C (15 + 256 * w) 9 = 0 ∧ C (15 + 256 * w) 10 = R 566 w) ∨ (R 1589 w = -1 ∧ C (15 + 256 * w) 8 = 2)
/-- COPY -/
def ws8 (C R : am_M) (w : Int) : Prop := (R 1589 w = 0 ∧ C (15 + 256 * w) 8 = 0 ∧ C (15 + 256 * w) 9 = 0) ∨ (1 ≤ R 1589 w ∧ R 1589 w ≤ 2 ∧ C (15 + 256 * w) 8 = 1 ∧ C (15 + 256 * w) 9 = R 1589 w - 1 ∧ C (15 + 256 * w) 10 = R 566 w) ∨ (R 1589 w = -1 ∧ C (15 + 256 * w) 8 = 2)
/-- TEAR -/
def ws12 (C R : am_M) (w : Int) : Prop := (R 1589 w = 0 ∧ R 1845 w = R 565 w ∧ C (15 + 256 * w) 8 = 3 ∧ C (15 + 256 * w) 15 = 1) ∨ (R 1589 w = 0 ∧ R 1845 w < R 565 w ∧ C (15 + 256 * w) 8 = 0 ∧ C (15 + 256 * w) 9 = 0) ∨ (R 1589 w = 1 ∧ R 1845 w ≤ R 565 w ∧ C (15 + 256 * w) 8 = 1 ∧ C (15 + 256 * w) 9 = 0 ∧ C (15 + 256 * w) 10 = R 566 w) ∨ (R 1589 w = -1 ∧ C (15 + 256 * w) 8 = 2)
/-- MERGE: the two held, the two ends -/
def ws4 (C R : am_M) (w : Int) : Prop := ∃ h0 h1 o0 o1 : Int, (h0 = 0 ∨ h0 = 1) ∧ (h1 = 0 ∨ h1 = 1) ∧ (o0 = 0 ∨ o0 = 1) ∧ (o1 = 0 ∨ o1 = 1) ∧ R 1589 w = h0 + 2 * h1 + 4 * o0 + 8 * o1 ∧ C (72 + 256 * w) 0 = o0 ∧ C (72 + 256 * w) 1 = o1 ∧ (h0 = 1 → C (57 + 256 * w) 0 = R 566 w) ∧ (h1 = 1 → C (57 + 256 * w) 1 = R 822 w) ∧
  ((h0 = 0 ∧ o0 = 0 ∧ C (15 + 256 * w) 8 = 0 ∧ C (15 + 256 * w) 9 = 0 ∧ C (58 + 256 * w) 0 = h0 ∧ C (58 + 256 * w) 1 = h1) ∨
   (¬ (h0 = 0 ∧ o0 = 0) ∧ h1 = 0 ∧ o1 = 0 ∧ C (15 + 256 * w) 8 = 0 ∧ C (15 + 256 * w) 9 = 1 ∧ C (58 + 256 * w) 0 = h0 ∧ C (58 + 256 * w) 1 = h1) ∨
   (¬ (h0 = 0 ∧ o0 = 0) ∧ ¬ (h1 = 0 ∧ o1 = 0) ∧ h0 = 1 ∧ (h1 = 0 ∨ R 566 w ≤ R 822 w) ∧ C (15 + 256 * w) 8 = 1 ∧ C (15 + 256 * w) 9 = 0 ∧ C (15 + 256 * w) 10 = R 566 w ∧ C (58 + 256 * w) 0 = 0 ∧ C (58 + 256 * w) 1 = h1) ∨
   (¬ (h0 = 0 ∧ o0 = 0) ∧ ¬ (h1 = 0 ∧ o1 = 0) ∧ h1 = 1 ∧ ¬ (h0 = 1 ∧ R 566 w ≤ R 822 w) ∧ C (15 + 256 * w) 8 = 1 ∧ C (15 + 256 * w) 9 = 0 ∧ C (15 + 256 * w) 10 = R 822 w ∧ C (58 + 256 * w) 0 = h0 ∧ C (58 + 256 * w) 1 = 0) ∨
   (h0 = 0 ∧ h1 = 0 ∧ o0 = 1 ∧ o1 = 1 ∧ C (15 + 256 * w) 8 = 2))
/-- SORT: how many are sorted, how many of them are out -/
def ws11 (C R : am_M) (w : Int) : Prop :=
  (R 1589 w = 0 ∧ C (15 + 256 * w) 8 = 0 ∧ C (15 + 256 * w) 9 = 0 ∧ R 3125 w = 0 ∧ 0 ≤ R 2869 w ∧ R 2869 w < R 565 w ∧ R 565 w ≤ 30 ∧ C (11 + 256 * w) 3 = R 2869 w ∧ C (72 + 256 * w) 0 = 0 ∧ (∀ k, 0 ≤ k → k < R 2869 w → C (57 + 256 * w) k = R 67 (30 * w + (R 2869 w - 1 - k))) ∧ (∀ j k, 0 ≤ j → j ≤ k → k < R 2869 w → R 67 (30 * w + j) ≤ R 67 (30 * w + k))) ∨
  ((R 1589 w = 1 ∨ R 1589 w = 2) ∧ C (15 + 256 * w) 8 = 1 ∧ C (15 + 256 * w) 9 = 0 ∧ 0 ≤ R 3125 w ∧ R 3125 w < R 2869 w ∧ R 2869 w ≤ 30 ∧ C (15 + 256 * w) 10 = R 67 (30 * w + R 3125 w) ∧ C (11 + 256 * w) 3 = R 2869 w - R 3125 w - 1 ∧ C (72 + 256 * w) 0 = (if R 1589 w = 2 then 1 else 0) ∧ (∀ k, 0 ≤ k → k < R 2869 w - R 3125 w - 1 → C (57 + 256 * w) k = R 67 (30 * w + (R 2869 w - 1 - k)))) ∨
  (C (15 + 256 * w) 8 = 2 ∧ (R 1589 w = -1 ∨ (R 1589 w = 2 ∧ R 2869 w = R 3125 w)))
/-- a STEP as it may be told -/
def sv (s a b : Int) : Prop := ((s = 0 ∨ s = 1 ∨ s = 6) ∧ 0 ≤ a ∧ a ≤ 1 ∧ 0 ≤ b ∧ b ≤ 3) ∨ (s = 2 ∧ 0 ≤ a ∧ a ≤ 3) ∨ ((s = 3 ∨ s = 4) ∧ 0 ≤ a ∧ a ≤ 3 ∧ 0 ≤ b ∧ b ≤ 3) ∨ (s = 5 ∧ 0 ≤ a ∧ a ≤ 11 ∧ 0 ≤ b ∧ b ≤ 3) ∨ s = 7
/-- SCRIPT: its steps on both sides -/
def st13 (C R : am_M) (w : Int) : Prop := 0 ≤ R 1077 w ∧ R 1077 w ≤ 12 ∧ C (14 + 256 * w) 4 = R 1077 w ∧ ∀ i, 0 ≤ i → i < R 1077 w → C (59 + 256 * w) i = R 64 (12 * w + i) ∧ C (73 + 256 * w) i = R 320 (12 * w + i) ∧ C (74 + 256 * w) i = R 576 (12 * w + i) ∧ sv (R 64 (12 * w + i)) (R 320 (12 * w + i)) (R 576 (12 * w + i))
def goto (n q : Int) : Int := if q < n then q else 0
def setr (r : Int → Int) (a v : Int) : Int → Int := fun k => if k = a then v else r k
/-- a quiet STEP: where it leads, the registers then -/
def q1 (R : am_M) (w p : Int) (r : Int → Int) : Int × (Int → Int) :=
  if R 64 (12 * w + p) = 5 then (if r (R 576 (12 * w + p)) = 0 then goto (R 1077 w) (p + 1) else goto (R 1077 w) (R 320 (12 * w + p)), r)
  else (goto (R 1077 w) (p + 1), setr r (R 320 (12 * w + p)) (if R 64 (12 * w + p) = 2 then R 576 (12 * w + p) else if R 64 (12 * w + p) = 3 then am_w64 (r (R 320 (12 * w + p)) + r (R 576 (12 * w + p))) else if r (R 320 (12 * w + p)) < r (R 576 (12 * w + p)) then 1 else 0))
def quiet (s : Int) : Prop := 2 ≤ s ∧ s ≤ 5
/-- at most so many quiet STEPS: what they come to (9: too quiet), where, the registers -/
def qs (R : am_M) (w : Int) : Nat → Int → (Int → Int) → Int × Int × (Int → Int)
  | 0, p, r => (9, p, r)
  | f + 1, p, r => if 2 ≤ R 64 (12 * w + p) ∧ R 64 (12 * w + p) ≤ 5 then qs R w f (q1 R w p r).1 (q1 R w p r).2 else (R 64 (12 * w + p), p, r)
/-- what the class has next where its script stands at q with s -/
def scn (C R : am_M) (w s q : Int) (r : Int → Int) : Prop := ((s = 0 ∨ s = 6) ∧ C (15 + 256 * w) 8 = 0 ∧ C (15 + 256 * w) 9 = R 320 (12 * w + q)) ∨ (s = 1 ∧ C (15 + 256 * w) 8 = 1 ∧ C (15 + 256 * w) 9 = R 320 (12 * w + q) ∧ C (15 + 256 * w) 10 = r (R 576 (12 * w + q))) ∨ (s = 7 ∧ C (15 + 256 * w) 8 = 3 ∧ C (15 + 256 * w) 15 = 2) ∨ (s = 9 ∧ C (15 + 256 * w) 8 = 3 ∧ C (15 + 256 * w) 15 = 3)
def ws13 (C R : am_M) (w : Int) : Prop :=
  (R 71 w = 1 ∧ C (15 + 256 * w) 8 = 3 ∧ C (15 + 256 * w) 15 = 3) ∨ (R 71 w = 0 ∧ R 1589 w = -1 ∧ C (15 + 256 * w) 8 = 2) ∨ (R 71 w = 0 ∧ R 1077 w = 0 ∧ R 1589 w = 0 ∧ C (15 + 256 * w) 8 = 2) ∨
  (R 71 w = 0 ∧ 0 ≤ R 1589 w ∧ R 1589 w < R 1077 w ∧ ∃ s q r, qs R w 100 (R 1589 w) (fun k => R 66 (4 * w + k)) = (s, q, r) ∧ C (14 + 256 * w) 5 = q ∧ (∀ k, 0 ≤ k → k ≤ 3 → C (60 + 256 * w) k = r k) ∧ scn C R w s q r)
/-- the same behind a look -/
def wl13 (C R : am_M) (w : Int) : Prop :=
  (R 71 w = 1 ∧ C (15 + 256 * w) 8 = 3 ∧ C (15 + 256 * w) 15 = 3) ∨ (R 71 w = 0 ∧ R 1589 w = -1 ∧ C (15 + 256 * w) 8 = 2) ∨ (R 71 w = 0 ∧ R 1077 w = 0 ∧ R 1589 w = 0 ∧ C (15 + 256 * w) 8 = 2) ∨
  (R 71 w = 0 ∧ 0 ≤ R 1589 w ∧ R 1589 w < R 1077 w ∧ C (14 + 256 * w) 5 = R 1589 w ∧ (∀ k, 0 ≤ k → k ≤ 3 → C (60 + 256 * w) k = R 66 (4 * w + k)) ∧ ¬ quiet (R 64 (12 * w + R 1589 w)) ∧ scn C R w (R 64 (12 * w + R 1589 w)) (R 1589 w) (fun k => R 66 (4 * w + k)))
