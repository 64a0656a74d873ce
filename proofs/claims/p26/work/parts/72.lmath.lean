/-! the law's helpers, as functions of banks -/
def lo (v n : Int32) : Int32 := (v &&& 2147483647) - (v &&& 2147483647) / n * n
theorem lo_nI (v : Int32) {n : Nat} (h0 : 0 < n) (hn : n < 2 ^ 31) : ∃ j, j < n ∧ lo v (nI n) = nI j := by
  obtain ⟨a, ha, e⟩ := pk_andE v (m := 2147483647) 31 (by decide)
  unfold lo
  rw [e, pk_rem ha h0 hn]
  exact ⟨a % n, Nat.mod_lt _ h0, rfl⟩
def tcH (r : rB) (vh : Int32) : Nat → Nat → Int64 → Int64
  | 0, _, h => h
  | n + 1, i, h => tcH r vh n (i + 1) (31 * h + (cnC r vh i).toInt64)
def tsH (r : rB) : Nat → Nat → Int64 → Int64
  | 0, _, h => h
  | n + 1, i, h => tsH r n (i + 1) (31 * h + (r 11 i).toInt64)
def tgI (r : rB) (k : Nat) : Nat → Nat → Int64 → Int64
  | 0, _, h => h
  | n + 1, i, h => tgI r k n (i + 1) (31 * h + (gnC r k i).toInt64)
def tpI (r : rB) (k : Nat) : Nat → Nat → Int64 → Int64
  | 0, _, h => h
  | n + 1, i, h => tpI r k n (i + 1) (31 * h + (pnC r k i).toInt64)
def tkH (r : rB) : Nat → Nat → Int64 → Int64
  | 0, _, h => h
  | n + 1, i, h => tkH r n (i + 1) (tpI r i 4 0 (tgI r i 9 0 h))
/-- what told tells -/
def tdV (r : rB) (vh : Int32) : Int64 := tkH r 6 0 (tsH r 3 0 (tcH r vh 8 0 3))
def ldV (r : rB) (t : Int32) : Nat → Int32 → Int32
  | 0, at' => at'
  | n + 1, at' => if at' < 0 then at' else if at' = t then at' else ldV r t n (r 7 at'.toNatClampNeg)
theorem vg_nn {a : Int32} (h : vg a) (h0 : ¬ a < 0) : ∃ i, i < 6 ∧ a = nI i := by
  rcases h with e | h
  · exact absurd (show a < 0 by rw [e]; decide) h0
  · exact h
theorem ldV_s {r : rB} {t : Int32} {n i : Nat} (hi : i < 6) (h0 : ¬ nI i < 0) (h : ¬ nI i = t) : ldV r t (n + 1) (nI i) = ldV r t n (r 7 i) := by
  show (if nI i < 0 then nI i else if nI i = t then nI i else ldV r t n (r 7 (nI i).toNatClampNeg)) = _
  rw [if_neg h0, if_neg h, nI_clamp (show i < 2 ^ 31 by omega)]

