/-! the share and the hash, by the model -/
def shM (r : rB) : UInt64 := if r 0 5 = 0 then FP.dconst1 else FP.ddiv (FP.i2d (r 0 6)) (FP.i2d (r 0 5))
def FPok : Prop := (∀ x y : Int32, ¬ y = 0 → vf_n64 (FP.ddiv (FP.i2d x) (FP.i2d y))) ∧ (∀ r : rB, Op.cmpValue (FP.dcmp (shM r) (shM r)) .l = 0)
def hsh (h v : Int64) : Int64 := 31 * h + v
def cnH (r : rB) : Nat → Nat → Int64 → Int64
  | 0, _, h => h
  | n + 1, i, h => cnH r n (i + 1) (hsh h (cnM r i).toInt64)
def seH (r : rB) : Nat → Nat → Int64 → Int64
  | 0, _, h => h
  | n + 1, i, h => seH r n (i + 1) (hsh h (r 0 i).toInt64)
def plH (r : rB) : Nat → Nat → Int64 → Int64
  | 0, _, h => h
  | n + 1, i, h => plH r n (i + 1) (hsh h (r 0 (9 + 4 * (i / 4) + i % 4)).toInt64)
def gtH (r : rB) : Nat → Nat → Int64 → Int64
  | 0, _, h => h
  | n + 1, i, h => gtH r n (i + 1) (hsh h (tgM r (i / 9) (i % 9)).toInt64)
def wdL : Nat → Nat → rB → Int64 → rB × Int64
  | 0, _, r, h => (r, h)
  | n + 1, i, r, h => wdL n (i + 1) (asd r) (hsh h (wouldV r 20 (nI i)).toInt64)
def bfH (r : rB) : Nat → Nat → Int64 → Int64
  | 0, _, h => h
  | n + 1, i, h => bfH r n (i + 1) (hsh h (r 3 i).toInt64)
def dgW (r : rB) : rB × Int64 := wdL 3 0 (bp r 5 0 0) (gtH (bp r 5 0 0) 54 0 (plH (bp r 5 0 0) 24 0 (seH (bp r 5 0 0) 3 0 (cnH (bp r 5 0 0) 9 0 3067))))
def dgB (r : rB) : rB := asd (asd (boL 6 0 (asd (asd (dgW r).1)) (-1) 0).1)
def dgH (r : rB) : Int64 := hsh (hsh (hsh (hsh (hsh (dgW r).2 (fsV (dgW r).1 0).toInt64) (fsV (asd (dgW r).1) 1).toInt64) (boL 6 0 (asd (asd (dgW r).1)) (-1) 0).2.toInt64) (grL (boL 6 0 (asd (asd (dgW r).1)) (-1) 0).1 10 100).toInt64) (udV (asd (boL 6 0 (asd (asd (dgW r).1)) (-1) 0).1)).toInt64
def dgV (r : rB) (L : Nat) : Int64 := bfH (dgB r) L 0 (hsh (hsh (dgH r) (shM (dgB r)).toInt64) (nI L).toInt64)
