theorem putAt_cat : ∀ (is : List Nat) (w w' : va_W) (js : List Nat) (v' : va_W), is.length = w'.length → putAt w (is ++ js) (w' ++ v') = putAt (putAt w is w') js v'
  | [], w, w', js, v', h => by
    cases w' with
    | nil => rfl
    | cons a b => simp at h
  | i :: is, w, w', js, v', h => by
    cases w' with
    | nil => simp at h
    | cons a b => exact putAt_cat is (w.set i a) b js v' (by simpa using h)
theorem putAt_l : ∀ (is : List Nat) (x y v' : va_W) (n : Nat), x.length = n → (∀ i ∈ is, i < n) → putAt (x ++ y) is v' = putAt x is v' ++ y
  | [], x, y, v', n, _, _ => by cases v' <;> rfl
  | i :: is, x, y, v', n, hx, h => by
    cases v' with
    | nil => rfl
    | cons e es =>
      show putAt ((x ++ y).set i e) is es = putAt (x.set i e) is es ++ y
      rw [List.set_append_left i e (by rw [hx]; exact h i (List.mem_cons_self ..))]
      exact putAt_l is (x.set i e) y es n (by rw [List.length_set, hx]) (fun j hj => h j (List.mem_cons_of_mem i hj))
theorem putAt_0 : ∀ (m : Nat) (u v v' : va_W) (k : Nat), u.length = k → v.length = m → v'.length = m → putAt (u ++ v) (List.range' k m) v' = u ++ v'
  | 0, u, v, v', k, _, hv, hv' => by
    rw [List.length_eq_zero_iff.mp hv, List.length_eq_zero_iff.mp hv']; rfl
  | m + 1, u, v, v', k, hu, hv, hv' => by
    cases v with
    | nil => simp at hv
    | cons x v =>
      cases v' with
      | nil => simp at hv'
      | cons y v' =>
        show putAt ((u ++ x :: v).set k y) (List.range' (k + 1) m) v' = u ++ y :: v'
        rw [List.set_append_right k y (by omega), hu, Nat.sub_self]
        show putAt (u ++ y :: v) (List.range' (k + 1) m) v' = u ++ y :: v'
        have h := putAt_0 m (u ++ [y]) v v' (k + 1) (by simp [hu]) (by simpa using hv) (by simpa using hv')
        rw [List.append_assoc, List.append_assoc] at h
        exact h
theorem putAt_f (m : Nat) (v v' : va_W) (hv : v.length = m) (hv' : v'.length = m) : putAt v (List.range' 0 m) v' = v' := putAt_0 m [] v v' 0 rfl hv hv'
abbrev cO (o : Nat) (fs : List Value) : va_W := [(o, .inr (3, fs))]
/-! what would be, by the class: r the roof, the thought roof's bank behind it -/
def sicB (r : rB) (i : Nat) : rB := minutesC 30 (bp r 6 i 0) (r 11 2)
def sicV (r : rB) (i : Nat) : Int32 := smI (sicB r i 9) 6 0 0 - smI (r 9) 6 0 0
def wsC (r : rB) (x : Int32) : Nat → rB → rB × Int32
  | 0, q => (q, 0)
  | n + 1, q => if lowL (minuteC q x) r 6 0 = -1 then wsC r x n (minuteC q x) else (minuteC q x, 1)
def mrC (r : rB) (k : Nat) : Nat → rB → rB × Int32
  | 0, q => (q, -1)
  | n + 1, _ => if (wsC r (nI n) k r).2 = 0 then ((wsC r (nI n) k r).1, nI n) else mrC r k n (wsC r (nI n) k r).1
def sfC (r : rB) (w : Int32) : Nat → Nat → rB → rB × Int32
  | 0, _, q => (q, -1)
  | n + 1, i, q => if lowL (minuteC q (r 11 2)) r 6 0 = -1 then sfC r w n (i + 1) (minuteC q (r 11 2)) else (minuteC q (r 11 2), if w = 0 then lowL (minuteC q (r 11 2)) r 6 0 else nI i)
def bcT (r : rB) (i : Nat) (be le : Int32) : Int32 := if hasL r i = 0 then 0 else if be = -1 then 1 else if le ≤ sicV r i then 0 else 1
def bcC (r : rB) : Nat → Nat → rB → Int32 → Int32 → rB × Int32
  | 0, _, q, be, _ => (q, be)
  | n + 1, i, q, be, le => bcC r n (i + 1) (if hasL r i = 0 then q else sicB r i) (if bcT r i be le = 0 then be else nI i) (if bcT r i be le = 0 then le else sicV r i)
def dyC : Nat → Nat → rB → rB × Int32
  | 0, _, q => (q, -1)
  | n + 1, i, q => if standC q = 0 then (q, nI i) else dyC n (i + 1) (minuteC q 0)
def ifC (r : rB) (k : Nat) (w : Int32) : Int32 :=
  if w = 0 then smI (minutesC k r (r 11 2) 9) 6 0 0 - smI (r 9) 6 0 0 else if w = 1 then smI (minutesC k r (r 11 2) 10) 6 0 0 - smI (r 10) 6 0 0 else standC (minutesC k r (r 11 2))
theorem zW_ok {q lo hi : Int32} (h1 : ¬ q < lo) (h2 : ¬ hi < q) : ¬ zW q lo hi = 0 := by
  unfold zW; rw [if_neg h1, if_neg h2]; decide
theorem zL_ok {i : Nat} {n : Nat} {N : Int32} (hN : N = nI n) (hn : n < 2 ^ 31) (h : i < n) : ¬ zL (nI i) N = 0 := by
  subst hN
  unfold zL
  rw [if_neg (nI_pos (by omega)), if_neg (nI_ge h hn)]
  decide

/-! the bits of the share, the hash -/
theorem putAt_same : ∀ (is : List Nat) (w wc : va_W), is.map (fun i => w[i]?) = wc.map some → putAt w is wc = w
  | [], w, wc, _ => by cases wc <;> rfl
  | i :: is, w, wc, h => by
    cases wc with
    | nil => rfl
    | cons e es =>
      simp only [List.map_cons, List.cons.injEq] at h
      have h1 : w.set i e = w := by
        apply List.ext_getElem?
        intro k
        by_cases hk : i = k
        · subst hk
          rw [h.1, List.getElem?_set_self (List.getElem?_eq_some_iff.mp h.1).1]
        · rw [List.getElem?_set_ne hk]
      show putAt (w.set i e) is es = w
      rw [h1]
      exact putAt_same is w es h.2
