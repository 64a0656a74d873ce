/-! the share and the hash, by the model -/
def shM (r : rB) : UInt64 := if r 0 5 = 0 then FP.dconst1 else FP.ddiv (FP.i2d (r 0 6)) (FP.i2d (r 0 5))
def FPok : Prop := (∀ x y : Int32, ¬ y = 0 → vf_n64 (FP.ddiv (FP.i2d x) (FP.i2d y))) ∧ (∀ r : rB, Op.cmpValue (FP.dcmp (shM r) (shM r)) .l = 0)
def hsh (h v : Int64) : Int64 := 31 * h + v
def cnH (r : rB) : Nat → Nat → Int64 → Int64
  | 0, _, h => h
  | n + 1, i, h => cnH r n (i + 1) (hsh h (cnM r i).toInt64)
def seH (r : rB) : Nat → Nat → Int64 → Int64
  | 0, _, h => h
  | n + 1, i, h => seH r n (i + 1) (hsh h (r 0 i).toInt64)
def plH (r : rB) : Nat → Nat → Int64 → Int64
  | 0, _, h => h
  | n + 1, i, h => plH r n (i + 1) (hsh h (r 0 (9 + 4 * (i / 4) + i % 4)).toInt64)
def gtH (r : rB) : Nat → Nat → Int64 → Int64
  | 0, _, h => h
  | n + 1, i, h => gtH r n (i + 1) (hsh h (tgM r (i / 9) (i % 9)).toInt64)
def wdL : Nat → Nat → rB → Int64 → rB × Int64
  | 0, _, r, h => (r, h)
  | n + 1, i, r, h => wdL n (i + 1) (asd r) (hsh h (wouldV r 20 (nI i)).toInt64)
def bfH (r : rB) : Nat → Nat → Int64 → Int64
  | 0, _, h => h
  | n + 1, i, h => bfH r n (i + 1) (hsh h (r 3 i).toInt64)
def dgW (r : rB) : rB × Int64 := wdL 3 0 (bp r 5 0 0) (gtH (bp r 5 0 0) 54 0 (plH (bp r 5 0 0) 24 0 (seH r 3 0 (cnH (bp r 5 0 0) 9 0 3067))))
def dgB (r : rB) : rB := asd (asd (boL 6 0 (asd (asd (dgW r).1)) (-1) 0).1)
def dgH (r : rB) : Int64 := hsh (hsh (hsh (hsh (hsh (dgW r).2 (fsV (dgW r).1 0).toInt64) (fsV (asd (dgW r).1) 1).toInt64) (boL 6 0 (asd (asd (dgW r).1)) (-1) 0).2.toInt64) (grL (boL 6 0 (asd (asd (dgW r).1)) (-1) 0).1 10 100).toInt64) (udV (asd (boL 6 0 (asd (asd (dgW r).1)) (-1) 0).1)).toInt64
def dgV (r : rB) (L : Nat) : Int64 := bfH (dgB r) L 0 (hsh (hsh (dgH r) (shM (dgB r)).toInt64) (nI L).toInt64)
theorem boL_ok : ∀ (n i : Nat) (r : rB) (be le : Int32), i + n ≤ 6 → okS (r 0) → okS ((boL n i r be le).1 0)
  | 0, _, _, _, _, _, h => h
  | n + 1, i, r, be, le, hi, h => boL_ok n (i + 1) _ _ _ (by omega) (boB_ok h (by omega))
theorem boB_ne {r : rB} {i k : Nat} (h0 : k ≠ 0) (h1 : k ≠ 1) : boB r i k = r k := (bpr h0).trans ((sr_ne h1).trans (bpr h0))
theorem boL_ne {k : Nat} (h0 : k ≠ 0) (h1 : k ≠ 1) : ∀ (n i : Nat) (r : rB) (be le : Int32), (boL n i r be le).1 k = r k
  | 0, _, _, _, _ => rfl
  | n + 1, i, r, be, le => (boL_ne h0 h1 n (i + 1) _ _ _).trans (boB_ne h0 h1)
theorem wdL_ne {k : Nat} (h1 : k ≠ 1) : ∀ (n i : Nat) (r : rB) (h : Int64), (wdL n i r h).1 k = r k
  | 0, _, _, _ => rfl
  | n + 1, i, r, h => (wdL_ne h1 n (i + 1) _ _).trans (sr_ne h1)
theorem wdL_ok : ∀ (n i : Nat) (r : rB) (h : Int64), okS (r 0) → okS ((wdL n i r h).1 0)
  | 0, _, _, _, h => h
  | n + 1, i, r, _, h => wdL_ok n (i + 1) _ _ (asd_ok h)
theorem dgB_ne {r : rB} {k : Nat} (h0 : k ≠ 0) (h1 : k ≠ 1) : dgB r k = bp r 5 0 0 k := by
  unfold dgB dgW
  rw [show ∀ q : rB, asd q k = q k from fun q => sr_ne h1, show ∀ q : rB, asd q k = q k from fun q => sr_ne h1, boL_ne h0 h1, show ∀ q : rB, asd q k = q k from fun q => sr_ne h1, show ∀ q : rB, asd q k = q k from fun q => sr_ne h1, wdL_ne h1]
theorem dgB_5 {r : rB} : dgB r 5 2 = r 5 2 := (congrFun (dgB_ne (by decide) (by decide)) 2).trans (bp_ne (by decide))
theorem dgB_3 {r : rB} {k : Nat} : dgB r 3 k = r 3 k := (congrFun (dgB_ne (by decide) (by decide)) k).trans (bp_rw (by decide))
