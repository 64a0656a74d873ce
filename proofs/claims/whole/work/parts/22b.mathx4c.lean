theorem i10 : ((1 : Int32) = 0) = False := eq_false (by decide)
theorem i00 : ((0 : Int32) = 0) = True := eq_true rfl
theorem bpr {r : rB} {k i a : Nat} {x : Int32} (h : a ≠ k) : bp r k i x a = r a := if_neg h
theorem bpk {r : rB} {k i : Nat} {x : Int32} : bp r k i x k = upd (r k) i x := if_pos rfl
theorem sv6 {r : rB} {g F : Nat → Int32} {v x : Int32} : bp (sr (bp (sr r 2 g) 5 1 v) 2 F) 5 1 x = bp (sr r 2 F) 5 1 x := by
  funext a
  by_cases h5 : a = 5
  · subst h5
    rw [bpk, bpk, sr_ne (by decide), sr_ne (by decide), bpk, sr_ne (by decide)]
    funext k
    unfold upd
    by_cases hk : k = 1
    · rw [if_pos hk, if_pos hk]
    · rw [if_neg hk, if_neg hk, if_neg hk]
  · rw [bpr h5, bpr h5]
    by_cases h2 : a = 2
    · subst h2; rw [sr_eq, sr_eq]
    · rw [sr_ne h2, sr_ne h2, bpr h5, sr_ne h2]
theorem svB6 {r : rB} : bp (sr (bp (sr r 2 (shF r 375)) 5 1 (nI (6 - 1))) 2 (cpF (bp (sr r 2 (shF r 375)) 5 1 (nI (6 - 1)) 2) (bp (sr r 2 (shF r 375)) 5 1 (nI (6 - 1)) 0) (75 * 5) 75)) 5 1 (nI (5 + 1)) = svB r 6 := by
  have h1 : bp (sr r 2 (shF r 375)) 5 1 (nI (6 - 1)) 2 = shF r 375 := (bpr (by decide)).trans sr_eq
  have h2 : bp (sr r 2 (shF r 375)) 5 1 (nI (6 - 1)) 0 = r 0 := (bpr (by decide)).trans (sr_ne (by decide))
  rw [sv6, h1, h2]
  have h3 : svN 6 = 5 := if_pos rfl
  have h4 : svG r 6 = shF r 375 := if_pos rfl
  unfold svB
  rw [h3, h4]
def unB (r : rB) (N : Nat) : rB := if N = 0 then bp (bp r 5 0 0) 5 0 1 else sr (bp (bp r 5 0 0) 5 1 (nI (N - 1))) 0 (fun j => r 2 (75 * (N - 1) + j))
