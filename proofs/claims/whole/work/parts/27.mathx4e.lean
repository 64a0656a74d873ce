/-! the reading of a text by the model -/
def sgn (r : rB) (A L : Nat) : Int32 := if A < L then r 3 A else 0
theorem sgn_bp {r : rB} {A L k : Nat} {v : Int32} : sgn (bp r 5 k v) A L = sgn r A L := rfl
theorem sgn_bp4 {r : rB} {A L k : Nat} {v : Int32} : sgn (bp r 4 k v) A L = sgn r A L := rfl
def digW (r : rB) (A L : Nat) (x y : Int32) : Int32 := if r 5 4 = 0 then 0 else if zW (sgn r A L) (48 + x) (48 + y) = 0 then 0 else 1
def digA (r : rB) (A L : Nat) (x y : Int32) : Nat := A + (if digW r A L x y = 0 then 0 else 1)
def digB (r : rB) (A L : Nat) (x y : Int32) : rB := bp (bp r 5 4 (digW r A L x y)) 5 3 (nI (digA r A L x y))
def digV (r : rB) (A L : Nat) : Int32 := sgn r A L - 48
theorem digB_sgn {r : rB} {A L B : Nat} {x y : Int32} : sgn (digB r A L x y) B L = sgn r B L := rfl
theorem digA_le {r : rB} {A L : Nat} {x y : Int32} : digA r A L x y ≤ A + 1 := by unfold digA; split <;> omega
theorem digB_at {r : rB} {A L : Nat} {x y : Int32} : digB r A L x y 5 3 = nI (digA r A L x y) := bp_eq
theorem digB_len {r : rB} {A L : Nat} {x y v : Int32} (h : r 5 2 = v) : digB r A L x y 5 2 = v := (bp_ne (by decide)).trans ((bp_ne (by decide)).trans h)
theorem digB_many {r : rB} {A L : Nat} {x y v : Int32} (h : r 5 5 = v) : digB r A L x y 5 5 = v := (bp_ne (by decide)).trans ((bp_ne (by decide)).trans h)
def numC (r : rB) (A L : Nat) (x y : Int32) : Int32 :=
  if digB r A L x 9 5 4 = 0 then 0 else if digV r A L ≤ 0 then 0 else if zW (sgn (digB r A L x 9) (digA r A L x 9) L) 48 57 = 0 then 0 else if y < 10 * digV r A L + sgn (digB r A L x 9) (digA r A L x 9) L - 48 then 0 else 1
def numV (r : rB) (A L : Nat) (x y : Int32) : Int32 := if numC r A L x y = 0 then digV r A L else 10 * digV r A L + sgn (digB r A L x 9) (digA r A L x 9) L - 48
def numA (r : rB) (A L : Nat) (x y : Int32) : Nat := if numC r A L x y = 0 then digA r A L x 9 else digA r A L x 9 + 1
def numB (r : rB) (A L : Nat) (x y : Int32) : rB := if numC r A L x y = 0 then digB r A L x 9 else bp (digB r A L x 9) 5 3 (nI (digA r A L x 9 + 1))
theorem numA_le {r : rB} {A L : Nat} {x y : Int32} : numA r A L x y ≤ A + 2 := by
  have := digA_le (r := r) (A := A) (L := L) (x := x) (y := 9)
  unfold numA; split <;> omega
theorem numB_at {r : rB} {A L : Nat} {x y : Int32} : numB r A L x y 5 3 = nI (numA r A L x y) := by
  unfold numB numA
  split
  · exact digB_at
  · exact bp_eq
theorem numB_len {r : rB} {A L : Nat} {x y v : Int32} (h : r 5 2 = v) : numB r A L x y 5 2 = v := by
  unfold numB
  split
  · exact digB_len h
  · exact (bp_ne (by decide)).trans (digB_len h)
theorem numB_many {r : rB} {A L : Nat} {x y v : Int32} (h : r 5 5 = v) : numB r A L x y 5 5 = v := by
  unfold numB
  split
  · exact digB_many h
  · exact (bp_ne (by decide)).trans (digB_many h)
def rpW (r : rB) (A P : Nat) : rB := bp (bp r 5 3 (nI (A + 1))) 4 (2 * P) (-1)
def rpC1 (r : rB) (A P : Nat) : rB := bp (bp r 5 3 (nI (A + 1))) 4 (2 * P) (-2)
def rpC (r : rB) (A L P : Nat) : rB := bp (digB (rpC1 r A P) (A + 1) L 0 5) 4 (2 * P + 1) (digV (rpC1 r A P) (A + 1) L)
def rpR1 (r : rB) (A L P : Nat) : rB := bp (numB r A L 0 99) 4 (2 * P) (numV r A L 0 99)
def rpX (r : rB) (A L P : Nat) : Int32 := if numB r A L 0 99 5 4 = 0 then 0 else if sgn (rpR1 r A L P) (numA r A L 0 99) L = 42 then 1 else 0
def rpA2 (r : rB) (A L P : Nat) : Nat := numA r A L 0 99 + (if rpX r A L P = 0 then 0 else 1)
theorem rpA2_le {r : rB} {A L P : Nat} : rpA2 r A L P ≤ A + 3 := by
  have := numA_le (r := r) (A := A) (L := L) (x := 0) (y := 99)
  unfold rpA2; split <;> omega
def rpR2 (r : rB) (A L P : Nat) : rB := bp (bp (rpR1 r A L P) 5 4 (rpX r A L P)) 5 3 (nI (rpA2 r A L P))
def rpN (r : rB) (A L P : Nat) : rB := bp (numB (rpR2 r A L P) (rpA2 r A L P) L 1 60) 4 (2 * P + 1) (numV (rpR2 r A L P) (rpA2 r A L P) L 1 60)
def rpF (q : rB) (w : Int32) (P : Nat) : rB := bp q 5 5 (nI (P + (if w = 0 then 0 else 1)))
def rpB (r : rB) (A L P : Nat) : rB := if sgn r A L = 119 then rpF (rpW r A P) (r 5 4) P else if sgn r A L = 99 then rpF (rpC r A L P) (digB (rpC1 r A P) (A + 1) L 0 5 5 4) P else rpF (rpN r A L P) (numB (rpR2 r A L P) (rpA2 r A L P) L 1 60 5 4) P
