/-! what holds looks at -/
def fdV (r : rB) (i : Nat) : Nat → Nat → Int32 → Int32
  | 0, _, b => b
  | n + 1, e, b => fdV r i n (e + 1) (if b = 0 then (if r 7 e = nI i then 1 else 0) else 1)
def shS (r : rB) : Nat → Nat → Int32 → Int32 → Int32 → Int32 → Int32 × Int32 × Int32 × Int32
  | 0, _, a, b, c, d => (a, b, c, d)
  | n + 1, i, a, b, c, d => shS r n (i + 1) (a + (r 3 i + r 8 i)) (b + r 10 i) (c + r 9 i) (d + r 6 i)
theorem shS_eq (r : rB) : shS r 6 0 0 0 0 0 = (standC r, smI (r 10) 6 0 0, smI (r 9) 6 0 0, smI (r 6) 6 0 0) := by
  show (0 + (r 3 0 + r 8 0) + (r 3 1 + r 8 1) + (r 3 2 + r 8 2) + (r 3 3 + r 8 3) + (r 3 4 + r 8 4) + (r 3 5 + r 8 5), smI (r 10) 6 0 0, smI (r 9) 6 0 0, smI (r 6) 6 0 0) = _
  have e : 0 + (r 3 0 + r 8 0) + (r 3 1 + r 8 1) + (r 3 2 + r 8 2) + (r 3 3 + r 8 3) + (r 3 4 + r 8 4) + (r 3 5 + r 8 5) = standC r := by
    unfold standC
    rw [smI6, smI6]
    grind
  rw [e]
def FQ (r : rB) : Prop := (r 12 2 = 0 → Op.cmpValue (FP.dcmp (shC r) FP.dconst1) .l = 0) ∧ (¬ r 12 2 = 0 → Op.cmpValue (FP.dcmp (shC r) (FP.ddiv (FP.i2d (smI (r 10) 6 0 0)) (FP.i2d (r 12 2)))) .l = 0 ∧ ¬ Op.cmpValue (FP.dcmp (shC r) FP.dconst0) .l < 0 ∧ ¬ 0 < Op.cmpValue (FP.dcmp (shC r) FP.dconst1) .g)

