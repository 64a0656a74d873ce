/-! the model: row 0 its s, 1 aside, 2 saved, 3 buffer, 4 parts, 5 its numbers -/
theorem zW_nar (v lo hi : Int32) : narrow .boolean (.int (zW v lo hi)) = .int (zW v lo hi) := by
  unfold zW
  split
  · rfl
  · split <;> rfl
def addM (r : rB) (i w : Nat) (y : Int32) : rB := bp r 0 (33 + 7 * i + w) (r 0 (33 + 7 * i + w) + y)
theorem addM_ne {r : rB} {i w k : Nat} {y : Int32} (h : k ≠ 33 + 7 * i + w) : addM r i w y 0 k = r 0 k := bp_ne h
def roomM (r : rB) (i : Nat) : Int32 := r 0 (33 + 7 * i + 0) * (100 - r 0 (33 + 7 * i + 2)) / 100
def takM (r : rB) (i : Nat) : Int32 :=
  let v := r 0 (33 + 7 * i + 1) * (100 - r 0 (33 + 7 * i + 2)) / 100
  if v = 0 then (if r 0 (33 + 7 * i + 1) ≤ 0 then v else 1) else v
def sndM (r : rB) (i : Nat) (y : Int32) : rB :=
  let l := r 0 (9 + 4 * i + 0) * y / 10
  let w := r 0 (9 + 4 * i + 3) + l
  let f := w * (5 + r 0 (9 + 4 * i + 1)) / 14
  let g := if f = 0 then (if w ≤ 0 then f else 1) else f
  addM (bp (bp r 0 5 (r 0 5 + l)) 0 (9 + 4 * i + 3) (w - g)) (r 0 (9 + 4 * i + 2)).toNatClampNeg 4 g
def mn2 (x y : Int32) : Int32 := if y ≤ x then y else x
def drnW (r : rB) (i : Nat) : Int32 := mn2 (takM r i) (r 0 (33 + 7 * i + 4))
def drnF (r : rB) (i : Nat) (left : Int32) : Int32 := mn2 (drnW r i) left
def drnStep (r : rB) (left : Int32) (i : Nat) : rB := bp (addM (addM r i 4 (-drnF r i left)) i 6 (drnF r i left)) 0 6 ((addM (addM r i 4 (-drnF r i left)) i 6 (drnF r i left)) 0 6 + drnF r i left)
def drnL : Nat → Nat → rB → Int32 → Int32 → rB × Int32
  | 0, _, r, _, b => (r, b)
  | n + 1, i, r, left, b => drnL n (i + 1) (drnStep r left i) (left - drnF r i left) (if b = 0 then (if drnW r i ≤ drnF r i left then 0 else 1) else 1)
def fovM (r : rB) (i : Nat) : rB :=
  let o := r 0 (33 + 7 * i + 4) - roomM r i
  if o ≤ 0 then r else (
    let r1 := addM r i 4 (-o)
    if r1 0 (33 + 7 * i + 3) ≤ 0 then bp (addM r1 i 5 o) 0 7 ((addM r1 i 5 o) 0 7 + o) else addM r1 (r1 0 (33 + 7 * i + 3) - 1).toNatClampNeg 4 o)
theorem fo_e {v : Int32} {j : Nat} (hv : v = nI j) (hj : j ≤ 6) (h : ¬ v ≤ 0) : v - 1 = nI (j - 1) := by
  subst hv
  have h1 : 1 ≤ j := by
    rcases Nat.eq_zero_or_pos j with q | q
    · subst q; exact absurd (by decide) h
    · exact q
  have := pk_sub (a := j) (b := 1) h1
  exact this
def okS (s : Nat → Int32) : Prop := ∀ k, k < 6 → (∃ j, j < 6 ∧ s (9 + 4 * k + 2) = nI j) ∧ (∃ j, j ≤ 6 ∧ s (33 + 7 * k + 3) = nI j)
theorem ok_bp {r : rB} {p : Nat} {y : Int32} (h : okS (r 0)) (hp : ∀ k, k < 6 → 9 + 4 * k + 2 ≠ p ∧ 33 + 7 * k + 3 ≠ p) : okS (bp r 0 p y 0) := by
  intro k hk
  rw [bp_ne (hp k hk).1, bp_ne (hp k hk).2]
  exact h k hk
theorem ok_add {r : rB} {i w : Nat} {y : Int32} (h : okS (r 0)) (hi : i < 6) (hw : w < 7) (hw3 : w ≠ 3) : okS (addM r i w y 0) := ok_bp h (fun k hk => by constructor <;> omega)
theorem sndM_ok {r : rB} {i : Nat} {y : Int32} (h : okS (r 0)) (hi : i < 6) : okS (sndM r i y 0) := by
  obtain ⟨⟨j, hj, e⟩, -⟩ := h i hi
  unfold sndM
  simp only [e, nI_clamp (show j < 2 ^ 31 by omega)]
  exact ok_add (ok_bp (ok_bp h (fun k hk => by constructor <;> omega)) (fun k hk => by constructor <;> omega)) hj (by omega) (by omega)
theorem drnStep_ok {r : rB} {i : Nat} {y : Int32} (h : okS (r 0)) (hi : i < 6) : okS (drnStep r y i 0) :=
  ok_bp (ok_add (ok_add h hi (by omega) (by omega)) hi (by omega) (by omega)) (fun k hk => by constructor <;> omega)
theorem drnL_ok : ∀ (n i : Nat) (r : rB) (l b : Int32), i + n ≤ 6 → okS (r 0) → okS ((drnL n i r l b).1 0)
  | 0, _, _, _, _, _, h => h
  | n + 1, i, r, l, b, hi, h => drnL_ok n (i + 1) _ _ _ (by omega) (drnStep_ok h (by omega))
theorem fovM_ok {r : rB} {i : Nat} (h : okS (r 0)) (hi : i < 6) : okS (fovM r i 0) := by
  obtain ⟨-, j, hj, e⟩ := h i hi
  unfold fovM
  dsimp only
  split
  · exact h
  · have h1 : okS (addM r i 4 (-(r 0 (33 + 7 * i + 4) - roomM r i)) 0) := ok_add h hi (by omega) (by omega)
    split
    · exact ok_bp (ok_add h1 hi (by omega) (by omega)) (fun k hk => by constructor <;> omega)
    · rename_i h2
      have e1 : addM r i 4 (-(r 0 (33 + 7 * i + 4) - roomM r i)) 0 (33 + 7 * i + 3) = nI j := (addM_ne (by omega)).trans e
      rw [fo_e e1 hj h2, nI_clamp (by omega)]
      exact ok_add h1 (by omega) (by omega) (by omega)
def sndAll : Nat → Nat → rB → Int32 → rB
  | 0, _, r, _ => r
  | n + 1, i, r, y => sndAll n (i + 1) (sndM r i y) y
theorem sndAll_ok : ∀ (n i : Nat) (r : rB) (y : Int32), i + n ≤ 6 → okS (r 0) → okS (sndAll n i r y 0)
  | 0, _, _, _, _, h => h
  | n + 1, i, r, y, hi, h => sndAll_ok n (i + 1) _ _ (by omega) (sndM_ok h (by omega))
def fovAll : Nat → Nat → rB → rB
  | 0, _, r => r
  | n + 1, i, r => fovAll n (i + 1) (fovM r i)
theorem fovAll_ok : ∀ (n i : Nat) (r : rB), i + n ≤ 6 → okS (r 0) → okS (fovAll n i r 0)
  | 0, _, _, _, h => h
  | n + 1, i, r, hi, h => fovAll_ok n (i + 1) _ (by omega) (fovM_ok h (by omega))
def minA (r : rB) (y : Int32) : rB := bp (drnL 6 0 (sndAll 6 0 r y) (sndAll 6 0 r y 0 0) 0).1 0 8 (sndAll 6 0 r y 0 8 + (if (drnL 6 0 (sndAll 6 0 r y) (sndAll 6 0 r y 0 0) 0).2 = 0 then 0 else 1))
theorem minA_ok {r : rB} {y : Int32} (h : okS (r 0)) : okS (minA r y 0) := ok_bp (drnL_ok _ _ _ _ _ (by omega) (sndAll_ok _ _ _ _ (by omega) h)) (fun k hk => by constructor <;> omega)
def minM (r : rB) (y : Int32) : rB := bp (fovAll 6 0 (minA r y)) 0 3 (fovAll 6 0 (minA r y) 0 3 + 1)
theorem minM_ok {r : rB} {y : Int32} (h : okS (r 0)) : okS (minM r y 0) := ok_bp (fovAll_ok _ _ _ (by omega) (minA_ok h)) (fun k hk => by constructor <;> omega)
def minsM : Nat → rB → Int32 → rB
  | 0, r, _ => r
  | n + 1, r, y => minsM n (minM r y) y
theorem minsM_ok : ∀ (n : Nat) (r : rB) (y : Int32), okS (r 0) → okS (minsM n r y 0)
  | 0, _, _, h => h
  | n + 1, r, y, h => minsM_ok n _ _ (minM_ok h)
def wkL : Nat → Nat → rB → rB
  | 0, _, r => r
  | n + 1, i, r => wkL n (i + 1) (bp r 0 (33 + 7 * i + 2) (if r 0 (33 + 7 * i + 2) + r 0 1 ≤ 100 then r 0 (33 + 7 * i + 2) + r 0 1 else 100))
theorem wkL_ok : ∀ (n i : Nat) (r : rB), i + n ≤ 6 → okS (r 0) → okS (wkL n i r 0)
  | 0, _, _, _, h => h
  | n + 1, i, r, hi, h => wkL_ok n (i + 1) _ (by omega) (ok_bp h (fun k hk => by constructor <;> omega))
def weekM (r : rB) : rB := bp (wkL 6 0 r) 0 4 (wkL 6 0 r 0 4 + 1)
theorem weekM_ok {r : rB} (h : okS (r 0)) : okS (weekM r 0) := ok_bp (wkL_ok _ _ _ (by omega) h) (fun k hk => by constructor <;> omega)
def lvM (r : rB) : Nat → Nat → Int32 → Int32
  | 0, _, a => a
  | n + 1, i, a => lvM r n (i + 1) (a + r 0 (33 + 7 * i + 2))
def stM (r : rB) : Nat → Nat → Int32 → Int32
  | 0, _, a => a
  | n + 1, i, a => stM r n (i + 1) (a + (r 0 (9 + 4 * i + 3) + r 0 (33 + 7 * i + 4)))
/-- a whole row put -/
def sr (r : rB) (k : Nat) (f : Nat → Int32) : rB := fun a => if a = k then f else r a
theorem bp_sr {r : rB} {k i : Nat} {f : Nat → Int32} {x : Int32} : bp (sr r k f) k i x = sr r k (upd f i x) := by
  funext a
  by_cases h : a = k <;> simp [bp, sr, h]
theorem sr_eq {r : rB} {k : Nat} {f : Nat → Int32} : sr r k f k = f := by simp [sr]
theorem sr_ne {r : rB} {k a : Nat} {f : Nat → Int32} (h : a ≠ k) : sr r k f a = r a := by simp [sr, h]
