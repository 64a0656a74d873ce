/-! the text -/
def zM (x : Int32) : Int32 := if x = 5 then 1 else if x = 6 then 1 else if x = 7 then 1 else 0
theorem zM_nar (x : Int32) : narrow .boolean (.int (zM x)) = .int (zM x) := by
  unfold zM
  split
  · rfl
  · split
    · rfl
    · split <;> rfl
def d2 (c : Int32) : Nat := if c = 42 then 4 else 0
def d1 (c : Int32) : Nat := if c = 119 then 7 else if c = 99 then 8 else if c = 48 then 3 else if zW c 49 57 = 0 then 0 else 2
def d3 (c : Int32) : Nat := if zW c 49 53 = 0 then (if c = 54 then 6 else if zW c 55 57 = 0 then 0 else 7) else 5
def dA (d : Nat) (c : Int32) : Nat := if c = 59 then (if zM (nI d) = 0 then 0 else 1) else match d with
  | 1 => d1 c
  | 2 => if zW c 48 57 = 0 then d2 c else 3
  | 3 => d2 c
  | 4 => d3 c
  | 5 => if zW c 48 57 = 0 then 0 else 7
  | 6 => if c = 48 then 7 else 0
  | 8 => if zW c 48 53 = 0 then 0 else 7
  | _ => 0
theorem d1_le (c : Int32) : d1 c ≤ 8 := by unfold d1; repeat (first | omega | split)
theorem d2_le (c : Int32) : d2 c ≤ 8 := by unfold d2; repeat (first | omega | split)
theorem d3_le (c : Int32) : d3 c ≤ 8 := by unfold d3; repeat (first | omega | split)
theorem dA_le (d : Nat) (c : Int32) : dA d c ≤ 8 := by
  have h1 := d1_le c
  have h2 := d2_le c
  have h3 := d3_le c
  unfold dA
  repeat (first | omega | split)
def fullC (r : rB) : Int32 := if r 1 0 < 60 then 0 else 1
def fwL (t : rB) : Nat → Nat → Nat → Int32
  | 0, i, _ => nI i
  | n + 1, i, d => if nI (dA d (t 0 i)) = 0 then nI i else fwL t n (i + 1) (dA d (t 0 i))
def icL (t : rB) : Nat → Nat → Nat → Nat
  | 0, _, d => d
  | n + 1, i, d => icL t n (i + 1) (dA d (t 0 i))
def clnC (r : rB) (q : Int32) : rB := if zL q 6 = 0 then r else bp r 6 q.toNatClampNeg 0
def playP (r : rB) (k ra nu : Int32) : rB := if k = 119 then weekC r else if k = 99 then clnC r nu else minutesC nu.toNatClampNeg r ra
def playL (t : rB) : Nat → Nat → rB → Int32 → Int32 → Int32 → rB
  | 0, _, r, k, ra, nu => playP r k ra nu
  | n + 1, i, r, k, ra, nu => if t 0 i = 59 then playL t n (i + 1) (playP r k ra nu) k ra 0 else if zW (t 0 i) 48 57 = 0 then playL t n (i + 1) r (t 0 i) nu 0 else playL t n (i + 1) r k ra (nu * 10 + t 0 i - 48)
