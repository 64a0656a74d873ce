theorem i10 : ((1 : Int32) = 0) = False := eq_false (by decide)
theorem i00 : ((0 : Int32) = 0) = True := eq_true rfl
theorem bpr {r : rB} {k i a : Nat} {x : Int32} (h : a ≠ k) : bp r k i x a = r a := if_neg h
theorem bpk {r : rB} {k i : Nat} {x : Int32} : bp r k i x k = upd (r k) i x := if_pos rfl
theorem sv6 {r : rB} {g F : Nat → Int32} {v x : Int32} : bp (sr (bp (sr r 2 g) 5 1 v) 2 F) 5 1 x = bp (sr r 2 F) 5 1 x := by
  funext a
  by_cases h5 : a = 5
  · subst h5
    rw [bpk, bpk, sr_ne (by decide), sr_ne (by decide), bpk, sr_ne (by decide)]
    funext k
    unfold upd
    by_cases hk : k = 1
    · rw [if_pos hk, if_pos hk]
    · rw [if_neg hk, if_neg hk, if_neg hk]
  · rw [bpr h5, bpr h5]
    by_cases h2 : a = 2
    · subst h2; rw [sr_eq, sr_eq]
    · rw [sr_ne h2, sr_ne h2, bpr h5, sr_ne h2]
