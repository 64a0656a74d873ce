/-! rows copied, what would be -/
theorem arrV_cong {cA : ClassId} {n : Nat} {f g : Nat → Value} (h : ∀ j, j < n → f j = g j) : arrV cA n f = arrV cA n g := by
  unfold arrV
  congr 1
  apply Array.ext
  · simp
  · intro i h1 h2
    simp only [Array.getElem_ofFn]
    exact h i (by simpa using h1)
theorem P_arr {D : va_G} {cl : List vw_C} {ws ws' : va_W} {H : Heap} {A : Nat → Prop} (hP : va_P D cl ws H) (hD : va_D A ws) (q0 : Nat) {a : Nat} {cA : ClassId} {n : Nat} {f : Nat → Int32} (g : Nat → Int32) (ha : ws[q0]? = some (a, .inl (cA, n, .inl f))) (h : ∀ j, j < n → f j = g j) (hw : ws.set q0 (a, .inl (cA, n, .inl g)) = ws') : va_P D cl ws' H ∧ va_D A ws' := by
  subst hw
  have h1 : H[a]? = some (vp_cell cA (n, .inl f)) := hP q0 _ ha
  refine ⟨fun k q hk => ?_, hD.set ha⟩
  by_cases hkq : k = q0
  · subst hkq
    rw [List.getElem?_set_self (List.getElem?_eq_some_iff.mp ha).1] at hk
    cases hk
    show H[a]? = some (vp_cell cA (n, .inl g))
    rw [h1, vp_cell_i, vp_cell_i, arrV_cong (fun j hj => congrArg Value.int (h j hj))]
  · rw [List.getElem?_set_ne (Ne.symm hkq)] at hk
    exact hP k q hk
theorem cp_step {f g : Nat → Int32} {i : Nat} {x : Int32} (h : ∀ j, j < i → f j = g j) (e : x = g i) : ∀ j, j < i + 1 → upd f i x j = g j := by
  intro j hj
  by_cases hji : j = i
  · subst hji; simp [upd, e]
  · simp [upd, hji]; exact h j (by omega)
theorem sr_self (r : rB) (k : Nat) : sr r k (r k) = r := by
  funext a
  by_cases h : a = k
  · subst h; simp [sr]
  · simp [sr, h]
def asd (r : rB) : rB := sr r 1 (r 0)
def tkb (r : rB) : rB := sr r 0 (r 1)
theorem asd_ok {r : rB} (h : okS (r 0)) : okS (asd r 0) := h
/-- the rows beside the first stay -/
def Sm (r q : rB) : Prop := ∀ a, a ≠ 0 → r a = q a
theorem Sm.rf {r : rB} : Sm r r := fun _ _ => rfl
theorem Sm.tr {r q t : rB} (h : Sm r q) (h2 : Sm q t) : Sm r t := fun a ha => (h a ha).trans (h2 a ha)
theorem Sm_bp {r : rB} {p : Nat} {x : Int32} : Sm (bp r 0 p x) r := fun a ha => by simp [bp, ha]
theorem Sm_add {r : rB} {i w : Nat} {x : Int32} : Sm (addM r i w x) r := Sm_bp
theorem Sm_snd {r : rB} {i : Nat} {x : Int32} : Sm (sndM r i x) r := Sm_add.tr (Sm_bp.tr Sm_bp)
theorem Sm_drn {r : rB} {i : Nat} {x : Int32} : Sm (drnStep r x i) r := Sm_bp.tr (Sm_add.tr Sm_add)
theorem Sm_fov {r : rB} {i : Nat} : Sm (fovM r i) r := by
  unfold fovM
  dsimp only
  split
  · exact Sm.rf
  · split
    · exact Sm_bp.tr (Sm_add.tr Sm_add)
    · exact Sm_add.tr Sm_add
theorem Sm_sndAll : ∀ (n i : Nat) (r : rB) (x : Int32), Sm (sndAll n i r x) r
  | 0, _, _, _ => Sm.rf
  | n + 1, i, r, x => (Sm_sndAll n (i + 1) _ x).tr Sm_snd
theorem Sm_fovAll : ∀ (n i : Nat) (r : rB), Sm (fovAll n i r) r
  | 0, _, _ => Sm.rf
  | n + 1, i, r => (Sm_fovAll n (i + 1) _).tr Sm_fov
theorem Sm_drnL : ∀ (n i : Nat) (r : rB) (l b : Int32), Sm (drnL n i r l b).1 r
  | 0, _, _, _, _ => Sm.rf
  | n + 1, i, r, l, b => (Sm_drnL n (i + 1) _ _ _).tr Sm_drn
theorem Sm_min {r : rB} {x : Int32} : Sm (minM r x) r := Sm_bp.tr ((Sm_fovAll 6 0 _).tr (Sm_bp.tr ((Sm_drnL 6 0 _ _ _).tr (Sm_sndAll 6 0 r x))))
theorem Sm_mins : ∀ (n : Nat) (r : rB) (x : Int32), Sm (minsM n r x) r
  | 0, _, _ => Sm.rf
  | n + 1, r, x => (Sm_mins n _ x).tr Sm_min
theorem tkb_of {r q : rB} (h : Sm q (asd r)) : tkb q = asd r := by
  funext a
  by_cases ha : a = 0
  · subst ha
    show q 1 = r 0
    rw [h 1 (by decide)]; rfl
  · show sr q 0 (q 1) a = asd r a
    rw [sr_ne ha, h a ha]
theorem asd_asd (r : rB) : asd (asd r) = asd r := by
  funext a
  by_cases ha : a = 1
  · subst ha; rfl
  · show sr (asd r) 1 _ a = asd r a
    rw [sr_ne ha]
def wouldR (r : rB) (k : Nat) : rB := minsM k (asd r) (asd r 0 2)
def wouldV (r : rB) (k : Nat) (w : Int32) : Int32 := if w = 0 then wouldR r k 0 7 - asd r 0 7 else if w = 1 then wouldR r k 0 6 - wouldR r k 1 6 else stM (wouldR r k) 6 0 0
theorem tkb_would (r : rB) (k : Nat) : tkb (wouldR r k) = asd r := tkb_of (Sm_mins k _ _)
/-- the saved rows -/
def shF (r : rB) (i : Nat) : Nat → Int32 := fun k => if k < i then r 2 (k + 75) else r 2 k
theorem sh_step {r : rB} {i : Nat} {x : Int32} (e : x = shF r i (i + 75)) : upd (shF r i) i x = shF r (i + 1) := by
  funext k
  have e2 : x = r 2 (i + 75) := by rw [e]; exact if_neg (by omega)
  by_cases h : k = i
  · subst h; simp [upd, shF, e2]
  · simp only [upd, h, if_false, shF]
    by_cases h2 : k < i
    · simp [h2, show k < i + 1 by omega]
    · simp [h2, show ¬ k < i + 1 by omega]
theorem sh_0 {r : rB} : shF r 0 = r 2 := by funext k; simp [shF]
def cpF (g s : Nat → Int32) (b i : Nat) : Nat → Int32 := fun k => if b ≤ k ∧ k < b + i then s (k - b) else g k
theorem cpF_0 {g s : Nat → Int32} {b : Nat} : cpF g s b 0 = g := by
  funext k
  simp only [cpF]
  rw [if_neg (by omega)]
theorem cpF_step {g s : Nat → Int32} {b i : Nat} {x : Int32} (e : x = s i) : upd (cpF g s b i) (b + i) x = cpF g s b (i + 1) := by
  funext k
  by_cases h : k = b + i
  · subst h; simp [upd, cpF, e, show b + i - b = i by omega]
  · simp only [upd, h, if_false, cpF]
    by_cases h2 : b ≤ k ∧ k < b + i
    · rw [if_pos h2, if_pos (by omega)]
    · rw [if_neg h2, if_neg (by omega)]
def svN (N : Nat) : Nat := if N = 6 then 5 else N
def svG (r : rB) (N : Nat) : Nat → Int32 := if N = 6 then shF r 375 else r 2
def svB (r : rB) (N : Nat) : rB := bp (sr r 2 (cpF (svG r N) (r 0) (75 * svN N) 75)) 5 1 (nI (svN N + 1))
/-- the first gutter that spills -/
def fsL : Nat → Nat → rB → rB × Nat
  | 0, i, r => (r, i)
  | n + 1, i, r => if r 0 7 = r 1 7 then fsL n (i + 1) (minM r (r 0 2)) else (r, i)
theorem Sm_fsL : ∀ (n i : Nat) (r : rB), Sm (fsL n i r).1 r
  | 0, _, _ => Sm.rf
  | n + 1, i, r => by
    unfold fsL
    split
    · exact (Sm_fsL n (i + 1) _).tr Sm_min
    · exact Sm.rf
def fsG (R : rB) : Nat → Int32 → Int32
  | 0, fi => fi
  | n + 1, fi => fsG R n (if R 0 (33 + 7 * n + 5) ≤ R 1 (33 + 7 * n + 5) then fi else nI n)
def fsV (r : rB) (w : Int32) : Int32 :=
  let q := fsL 60 0 (asd r)
  let fi := fsG q.1 6 (-1)
  if fi = -1 then fi else if w = 0 then fi else nI q.2
theorem g_back (n : Nat) : nI n + -1 + 1 = nI n := by rw [Int32.add_assoc]; simp
theorem g_back2 (n : Nat) : nI n - 1 + 1 = nI n := by simp
theorem g_nI {x : Int32} {n : Nat} (h : x + 1 = nI (n + 1)) : x = nI n := by
  have := nI_succ n
  rw [this] at h
  have h3 := congrArg (fun z => z - 1) h
  simpa using h3
theorem g_m1 {x : Int32} (h : x + 1 = nI 0) : x = -1 := by
  have h2 : x + 1 = -1 + 1 := h.trans (by decide)
  have h3 := congrArg (fun z => z - 1) h2
  simpa using h3
/-- the gutter that had best be cleaned -/
def boB (r : rB) (i : Nat) : rB := bp (asd (bp r 0 (33 + 7 * i + 2) 0)) 0 (33 + 7 * i + 2) (r 0 (33 + 7 * i + 2))
def boT (r : rB) (i : Nat) (be le : Int32) : Prop := ¬ r 0 (33 + 7 * i + 2) ≤ 0 ∧ (be = -1 ∨ ¬ le ≤ wouldV (bp r 0 (33 + 7 * i + 2) 0) 30 0)
def boZ (r : rB) (i : Nat) (be le : Int32) : Int32 := if r 0 (33 + 7 * i + 2) ≤ 0 then 0 else if be = -1 then 1 else if le ≤ wouldV (bp r 0 (33 + 7 * i + 2) 0) 30 0 then 0 else 1
def boL : Nat → Nat → rB → Int32 → Int32 → rB × Int32
  | 0, _, r, be, _ => (r, be)
  | n + 1, i, r, be, le => boL n (i + 1) (boB r i) (if boZ r i be le = 0 then be else nI i) (if boZ r i be le = 0 then le else wouldV (bp r 0 (33 + 7 * i + 2) 0) 30 0)
theorem boB_ok {r : rB} {i : Nat} (h : okS (r 0)) (hi : i < 6) : okS (boB r i 0) := ok_bp (asd_ok (ok_bp h (fun k hk => by constructor <;> omega))) (fun k hk => by constructor <;> omega)
/-- the greatest rain -/
def grL (r : rB) (k : Nat) : Nat → Int32
  | 0 => -1
  | n + 1 => if minsM k (asd r) (nI n) 0 7 - asd r 0 7 = 0 then nI n else grL r k n
/-- until dry -/
def udL : Nat → Nat → rB → rB × Nat
  | 0, i, r => (r, i)
  | n + 1, i, r => if stM r 6 0 0 ≤ 0 then (r, i) else udL n (i + 1) (minM r 0)
theorem Sm_udL : ∀ (n i : Nat) (r : rB), Sm (udL n i r).1 r
  | 0, _, _ => Sm.rf
  | n + 1, i, r => by
    unfold udL
    split
    · exact Sm.rf
    · exact (Sm_udL n (i + 1) _).tr Sm_min
def udV (r : rB) : Int32 := if nI (udL 301 0 (asd r)).2 ≤ 300 then nI (udL 301 0 (asd r)).2 else -1
