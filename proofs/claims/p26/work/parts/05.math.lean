/-! what the methods of the class answer and do, as functions of banks -/
def zL (q n : Int32) : Int32 := if q < 0 then 0 else if n ≤ q then 0 else 1
def zW (v lo hi : Int32) : Int32 := if v < lo then 0 else if hi < v then 0 else 1
theorem zL_in {q N : Int32} {n : Nat} (hN : N = nI n) (hn : decide (n < 2 ^ 31) = true) (h : ¬ zL q N = 0) : vp_in q n := by
  have hn := of_decide_eq_true hn
  subst hN
  unfold zL at h
  by_cases h1 : q < 0
  · rw [if_pos h1] at h; exact absurd rfl h
  · rw [if_neg h1] at h
    by_cases h2 : nI n ≤ q
    · rw [if_pos h2] at h; exact absurd rfl h
    · rcases pk_ix q hn with h3 | h3 | ⟨j, hj, rfl⟩
      · exact absurd h3 h1
      · exact absurd h3 h2
      · exact vp_in_nI hj hn
def mn (x y : Int32) : Int32 := if y < x then y else x
def smI (f : Nat → Int32) : Nat → Nat → Int32 → Int32
  | 0, _, a => a
  | n + 1, i, a => smI f n (i + 1) (a + f i)
def standC (r : rB) : Int32 := smI (r 3) 6 0 0 + smI (r 8) 6 0 0
def roomT (r : rB) (i : Nat) : Int32 := r 4 i * (100 - r 6 i) / 100
def pipeT (r : rB) (i : Nat) : Int32 :=
  let v := r 5 i * (100 - r 6 i) / 100
  if v = 0 then (if r 5 i = 0 then v else 1) else v
def hasL (r : rB) (i : Nat) : Int32 := if r 6 i ≤ 0 then 0 else 1
def wet (r : rB) (i : Nat) (x : Int32) : rB :=
  let l := r 0 i * x / 10
  let w := r 3 i + l
  let f := w * (5 + r 1 i) / 14
  let g := if f = 0 then (if w ≤ 0 then f else 1) else f
  let r3 := bp (bp (bp r 12 2 (r 12 2 + l)) 3 i w) 3 i (w - g)
  if zL (r 2 i) 6 = 0 then r3 else bp r3 8 (r 2 i).toNatClampNeg (r 8 (r 2 i).toNatClampNeg + g)
def drW (r : rB) (i : Nat) : Int32 := mn (pipeT r i) (r 8 i)
def drS (r : rB) (i : Nat) (left : Int32) : Int32 := mn (drW r i) left
def drStep (r : rB) (left : Int32) (i : Nat) : rB := bp (bp r 8 i (r 8 i - drS r i left)) 10 i (r 10 i + drS r i left)
def drL : Nat → Nat → rB → Int32 → Int32 → rB × Int32
  | 0, _, r, _, b => (r, b)
  | n + 1, i, r, left, b => drL n (i + 1) (drStep r left i) (left - drS r i left) (if b = 0 then (if drW r i ≤ drS r i left then 0 else 1) else 1)
def emptyD (r : rB) : rB := if (drL 6 0 r (r 11 0) 0).2 = 0 then (drL 6 0 r (r 11 0) 0).1 else bp (drL 6 0 r (r 11 0) 0).1 12 3 ((drL 6 0 r (r 11 0) 0).1 12 3 + 1)
def ovf (r : rB) (i : Nat) : rB :=
  let t := r 8 i - roomT r i
  if 0 < t then (if zL (r 7 i) 6 = 0 then bp (bp r 8 i (r 8 i - t)) 9 i (r 9 i + t) else bp (bp r 8 i (r 8 i - t)) 8 (r 7 i).toNatClampNeg (bp r 8 i (r 8 i - t) 8 (r 7 i).toNatClampNeg + t)) else r
def wetAll : Nat → Nat → rB → Int32 → rB
  | 0, _, r, _ => r
  | n + 1, i, r, x => wetAll n (i + 1) (wet r i x) x
def ovfAll : Nat → Nat → rB → rB
  | 0, _, r => r
  | n + 1, i, r => ovfAll n (i + 1) (ovf r i)
def minuteC (r : rB) (x : Int32) : rB := bp (ovfAll 6 0 (emptyD (wetAll 6 0 r x))) 12 0 ((ovfAll 6 0 (emptyD (wetAll 6 0 r x))) 12 0 + 1)
def minutesC : Nat → rB → Int32 → rB
  | 0, r, _ => r
  | n + 1, r, x => minutesC n (minuteC r x) x
def weekL : Nat → Nat → rB → rB
  | 0, _, r => r
  | n + 1, i, r => weekL n (i + 1) (bp r 6 i (mn 100 (r 6 i + r 11 1)))
def weekC (r : rB) : rB := bp (weekL 6 0 r) 12 1 ((weekL 6 0 r) 12 1 + 1)
def vlead (r : rB) (t : Int32) : Nat → Int32 → Int32
  | 0, _ => 0
  | n + 1, at' => if zL at' 6 = 0 then 0 else if at' = t then 1 else vlead r t n (r 7 at'.toNatClampNeg)
def pnC (r : rB) (i w : Nat) : Int32 := match w with
  | 0 => r 0 i
  | 1 => r 1 i
  | 2 => r 2 i
  | _ => r 3 i
def gnC (r : rB) (i w : Nat) : Int32 := match w with
  | 0 => r 4 i
  | 1 => r 5 i
  | 2 => r 6 i
  | 3 => r 7 i
  | 4 => r 8 i
  | 5 => roomT r i
  | 6 => pipeT r i
  | 7 => r 9 i
  | _ => r 10 i
def lowL (r q : rB) : Nat → Nat → Int32
  | 0, _ => -1
  | n + 1, i => if r 9 i ≤ q 9 i then lowL r q n (i + 1) else nI i
theorem cl_lt (x : Int32) : x.toNatClampNeg < 2 ^ 31 := by
  have := x.toInt_lt
  show x.toInt.toNat < 2 ^ 31
  omega
theorem cl_le {x : Int32} {i : Nat} (h : i = x.toNatClampNeg) : x ≤ nI i := by
  have h2 := cl_lt x
  rw [Int32.le_iff_toInt_le, nI_toInt (by omega), h]
  show x.toInt ≤ ((x.toInt.toNat : Nat) : Int)
  omega
theorem cl_nle {x : Int32} {i : Nat} (h : i < x.toNatClampNeg) : ¬ x ≤ nI i := by
  have h2 := cl_lt x
  rw [Int32.le_iff_toInt_le, nI_toInt (by omega)]
  have h3 : x.toNatClampNeg = x.toInt.toNat := rfl
  omega

def cnC (r : rB) (vh : Int32) (w : Nat) : Int32 := match w with
  | 0 => r 12 0
  | 1 => r 12 1
  | 2 => r 12 2
  | 3 => standC r
  | 4 => smI (r 10) 6 0 0
  | 5 => smI (r 9) 6 0 0
  | 6 => r 12 3
  | 7 => smI (r 6) 6 0 0
  | _ => vh
def shC (r : rB) : UInt64 := if r 12 2 = 0 then FP.dconst1 else FP.ddiv (FP.i2d (smI (r 10) 6 0 0)) (FP.i2d (r 12 2))
def wksC : Nat → rB → rB
  | 0, r => r
  | n + 1, r => wksC n (weekC r)
