theorem zW_ex {q N : Int32} {n : Nat} (hN : N + 1 = nI n) (hn : decide (n < 2 ^ 31) = true) (h : ¬ zW q 0 N = 0) : ∃ i, i < n ∧ q = nI i := by
  have hn := of_decide_eq_true hn
  unfold zW at h
  by_cases h1 : q < 0
  · rw [if_pos h1] at h; exact absurd rfl h
  · rw [if_neg h1] at h
    by_cases h2 : N < q
    · rw [if_pos h2] at h; exact absurd rfl h
    · rcases pk_ix q hn with h3 | h3 | ⟨j, hj, rfl⟩
      · exact absurd h3 h1
      · rcases Nat.eq_zero_or_pos n with hz | hz
        · subst hz
          have e : N = -1 := g_m1 hN
          subst e
          exact absurd (by
            rw [Int32.lt_iff_toInt_lt]
            rw [Int32.le_iff_toInt_le] at h3
            have : (nI 0).toInt = 0 := by decide
            have h5 : (-1 : Int32).toInt = -1 := by decide
            omega) h2
        · obtain ⟨k, rfl⟩ : ∃ k, n = k + 1 := ⟨n - 1, by omega⟩
          have e : N = nI k := g_nI hN
          subst e
          exact absurd (by
            rw [Int32.lt_iff_toInt_lt, nI_toInt (by omega)]
            rw [Int32.le_iff_toInt_le, nI_toInt (by omega)] at h3
            omega) h2
      · exact ⟨j, hj, rfl⟩
/-- the model's own calls: answers and states -/
def t0 (r : rB) (c : Int32) : rB := bp (bp r 5 0 0) 5 0 c
def plaV (r : rB) (N : Nat) (p x y q : Int32) : Int32 := if zW p 0 5 = 0 then 0 else if zW q 0 5 = 0 then 0 else if zW x 0 200 = 0 then 0 else if zW y 0 9 = 0 then 0 else svB (bp r 5 0 0) N 0 (9 + 4 * p.toNatClampNeg + 0)
def plaB (r : rB) (N : Nat) (p x y q : Int32) : rB := if zW p 0 5 = 0 then bp (bp r 5 0 0) 5 0 1 else if zW q 0 5 = 0 then bp (bp r 5 0 0) 5 0 1 else if zW x 0 200 = 0 then bp (bp r 5 0 0) 5 0 2 else if zW y 0 9 = 0 then bp (bp r 5 0 0) 5 0 2 else bp (bp (bp (svB (bp r 5 0 0) N) 0 (9 + 4 * p.toNatClampNeg + 0) x) 0 (9 + 4 * p.toNatClampNeg + 1) y) 0 (9 + 4 * p.toNatClampNeg + 2) q
def gutV (r : rB) (N : Nat) (p x y : Int32) : Int32 := if zW p 0 5 = 0 then 0 else if zW x 1 500 = 0 then 0 else if zW y 0 99 = 0 then 0 else svB (bp r 5 0 0) N 0 (33 + 7 * p.toNatClampNeg + 0)
def gutB (r : rB) (N : Nat) (p x y : Int32) : rB := if zW p 0 5 = 0 then bp (bp r 5 0 0) 5 0 1 else if zW x 1 500 = 0 then bp (bp r 5 0 0) 5 0 2 else if zW y 0 99 = 0 then bp (bp r 5 0 0) 5 0 2 else bp (bp (svB (bp r 5 0 0) N) 0 (33 + 7 * p.toNatClampNeg + 0) x) 0 (33 + 7 * p.toNatClampNeg + 1) y
def cleV (r : rB) (N : Nat) (p : Int32) : Int32 := if zW p 0 5 = 0 then 0 else svB (bp r 5 0 0) N 0 (33 + 7 * p.toNatClampNeg + 2)
def cleB (r : rB) (N : Nat) (p : Int32) : rB := if zW p 0 5 = 0 then bp (bp r 5 0 0) 5 0 1 else bp (svB (bp r 5 0 0) N) 0 (33 + 7 * p.toNatClampNeg + 2) 0
def msM (p : Int32) : Int32 := if p = 0 then 600 else if p = 1 then 50 else 99
def setV (r : rB) (N : Nat) (p x : Int32) : Int32 := if zW p 0 2 = 0 then 0 else if zW x 0 (msM p) = 0 then 0 else svB (bp r 5 0 0) N 0 p.toNatClampNeg
def setB (r : rB) (N : Nat) (p x : Int32) : rB := if zW p 0 2 = 0 then bp (bp r 5 0 0) 5 0 1 else if zW x 0 (msM p) = 0 then bp (bp r 5 0 0) 5 0 2 else bp (svB (bp r 5 0 0) N) 0 p.toNatClampNeg x
def raiV (r : rB) (N : Nat) (x y : Int32) : Int32 := if zW x 0 99 = 0 then 0 else if zW y 1 60 = 0 then 0 else minsM y.toNatClampNeg (svB (bp r 5 0 0) N) x 0 7 - svB (bp r 5 0 0) N 0 7
def raiB (r : rB) (N : Nat) (x y : Int32) : rB := if zW x 0 99 = 0 then bp (bp r 5 0 0) 5 0 1 else if zW y 1 60 = 0 then bp (bp r 5 0 0) 5 0 1 else minsM y.toNatClampNeg (svB (bp r 5 0 0) N) x
theorem svB_ok {r : rB} {N : Nat} (h : okS (r 0)) : okS (svB r N 0) := h
def wksM : Nat → rB → rB
  | 0, r => r
  | n + 1, r => wksM n (weekM r)
def wksV (r : rB) (N : Nat) (x : Int32) : Int32 := if zW x 1 52 = 0 then 0 else lvM (wksM x.toNatClampNeg (svB (bp r 5 0 0) N)) 6 0 0
def wksB (r : rB) (N : Nat) (x : Int32) : rB := if zW x 1 52 = 0 then bp (bp r 5 0 0) 5 0 1 else wksM x.toNatClampNeg (svB (bp r 5 0 0) N)
def appV (r : rB) (L : Nat) (x : Int32) : Int32 := if zW x 33 126 = 0 then 0 else if L = 60 then 0 else nI (L + 1)
def appB (r : rB) (L : Nat) (x : Int32) : rB := if zW x 33 126 = 0 then bp (bp r 5 0 0) 5 0 1 else if L = 60 then bp (bp r 5 0 0) 5 0 2 else bp (bp (bp r 5 0 0) 3 L x) 5 2 (nI (L + 1))
def unV (N : Nat) : Int32 := if N = 0 then 0 else nI (N - 1)
