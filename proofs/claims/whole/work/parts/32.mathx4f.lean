/-! all parts of a text, by the model -/
def Rd (q r : rB) : Prop := (∀ a, a ≠ 4 → a ≠ 5 → q a = r a) ∧ q 5 0 = r 5 0 ∧ q 5 1 = r 5 1 ∧ q 5 2 = r 5 2
theorem Rd.rf {r : rB} : Rd r r := ⟨fun _ _ _ => rfl, rfl, rfl, rfl⟩
theorem Rd.tr {q r t : rB} (h : Rd q r) (h2 : Rd r t) : Rd q t := ⟨fun a h4 h5 => (h.1 a h4 h5).trans (h2.1 a h4 h5), h.2.1.trans h2.2.1, h.2.2.1.trans h2.2.2.1, h.2.2.2.trans h2.2.2.2⟩
theorem Rd_4 {r : rB} {i : Nat} {x : Int32} : Rd (bp r 4 i x) r := ⟨fun _ h4 _ => bpr h4, bp_rw (by decide), bp_rw (by decide), bp_rw (by decide)⟩
theorem Rd_5 {r : rB} {i : Nat} {x : Int32} (h : 3 ≤ i) : Rd (bp r 5 i x) r := ⟨fun _ _ h5 => bpr h5, bp_ne (by omega), bp_ne (by omega), bp_ne (by omega)⟩
theorem Rd_dig {r : rB} {A L : Nat} {x y : Int32} : Rd (digB r A L x y) r := (Rd_5 (by decide)).tr (Rd_5 (by decide))
theorem Rd_num {r : rB} {A L : Nat} {x y : Int32} : Rd (numB r A L x y) r := by
  unfold numB
  split
  · exact Rd_dig
  · exact (Rd_5 (by decide)).tr Rd_dig
theorem Rd_C1 {r : rB} {A P : Nat} : Rd (rpC1 r A P) r := Rd_4.tr (Rd_5 (by decide))
theorem Rd_R1 {r : rB} {A L P : Nat} : Rd (rpR1 r A L P) r := Rd_4.tr Rd_num
theorem Rd_R2 {r : rB} {A L P : Nat} : Rd (rpR2 r A L P) r := (Rd_5 (by decide)).tr ((Rd_5 (by decide)).tr Rd_R1)
theorem Rd_F {q : rB} {w : Int32} {P : Nat} : Rd (rpF q w P) q := Rd_5 (by decide)
theorem Rd_rpB {r : rB} {A L P : Nat} : Rd (rpB r A L P) r := by
  unfold rpB
  split
  · exact Rd_F.tr (Rd_4.tr (Rd_5 (by decide)))
  · split
    · exact Rd_F.tr (Rd_4.tr (Rd_dig.tr Rd_C1))
    · exact Rd_F.tr (Rd_4.tr (Rd_num.tr Rd_R2))
def rpA (r : rB) (A L P : Nat) : Nat := if sgn r A L = 119 then A + 1 else if sgn r A L = 99 then digA (rpC1 r A P) (A + 1) L 0 5 else numA (rpR2 r A L P) (rpA2 r A L P) L 1 60
def rpP (r : rB) (A L P : Nat) : Nat := P + (if rpB r A L P 5 4 = 0 then 0 else 1)
theorem rpB_at {r : rB} {A L P : Nat} : rpB r A L P 5 3 = nI (rpA r A L P) := by
  unfold rpB rpA
  by_cases h1 : sgn r A L = 119
  · rw [if_pos h1, if_pos h1]
    exact (bp_ne (by decide)).trans ((bp_rw (by decide)).trans bp_eq)
  · rw [if_neg h1, if_neg h1]
    by_cases h2 : sgn r A L = 99
    · rw [if_pos h2, if_pos h2]
      exact (bp_ne (by decide)).trans ((bp_rw (by decide)).trans digB_at)
    · rw [if_neg h2, if_neg h2]
      exact (bp_ne (by decide)).trans ((bp_rw (by decide)).trans numB_at)
theorem rpB_len {r : rB} {A L P : Nat} {v : Int32} (h : r 5 2 = v) : rpB r A L P 5 2 = v := Rd_rpB.2.2.2.trans h
theorem rpF_eq {q : rB} {w : Int32} {P : Nat} (h : q 5 4 = w) : rpF q w P 5 5 = nI (P + (if rpF q w P 5 4 = 0 then 0 else 1)) := by
  have h2 : rpF q w P 5 4 = w := (bp_ne (by decide)).trans h
  rw [h2]
  exact bp_eq
theorem rpB_manyP {r : rB} {A L P : Nat} : rpB r A L P 5 5 = nI (rpP r A L P) := by
  unfold rpP rpB
  by_cases h1 : sgn r A L = 119
  · rw [if_pos h1]
    exact rpF_eq ((bp_rw (by decide)).trans (bp_ne (by decide)))
  · rw [if_neg h1]
    by_cases h2 : sgn r A L = 99
    · rw [if_pos h2]
      exact rpF_eq (bp_rw (by decide))
    · rw [if_neg h2]
      exact rpF_eq (bp_rw (by decide))
theorem rpA_le {r : rB} {A L P : Nat} : rpA r A L P ≤ A + 5 := by
  unfold rpA
  have h1 := digA_le (r := rpC1 r A P) (A := A + 1) (L := L) (x := 0) (y := 5)
  have h2 := numA_le (r := rpR2 r A L P) (A := rpA2 r A L P) (L := L) (x := 1) (y := 60)
  have h3 := rpA2_le (r := r) (A := A) (L := L) (P := P)
  split
  · omega
  · split <;> omega
theorem digB_well {r : rB} {A L : Nat} {x y : Int32} : digB r A L x y 5 4 = digW r A L x y := (bp_ne (by decide)).trans bp_eq
theorem numB_well {r : rB} {A L : Nat} {x y : Int32} : numB r A L x y 5 4 = digW r A L x 9 := by
  unfold numB
  split
  · exact digB_well
  · exact (bp_ne (by decide)).trans digB_well
theorem digA_ge {r : rB} {A L : Nat} {x y : Int32} : A ≤ digA r A L x y := by unfold digA; omega
theorem numA_ge {r : rB} {A L : Nat} {x y : Int32} : A ≤ numA r A L x y := by
  have := digA_ge (r := r) (A := A) (L := L) (x := x) (y := 9)
  unfold numA; split <;> omega
theorem rpA_ge {r : rB} {A L P : Nat} : A ≤ rpA r A L P := by
  have h1 := digA_ge (r := rpC1 r A P) (A := A + 1) (L := L) (x := 0) (y := 5)
  have h2 := numA_ge (r := rpR2 r A L P) (A := rpA2 r A L P) (L := L) (x := 1) (y := 60)
  have h3 : A ≤ rpA2 r A L P := by
    have := numA_ge (r := r) (A := A) (L := L) (x := 0) (y := 99)
    unfold rpA2; omega
  unfold rpA
  split
  · omega
  · split <;> omega
theorem rpA_gt {r : rB} {A L P : Nat} (h : ¬ rpB r A L P 5 4 = 0) : A + 1 ≤ rpA r A L P := by
  unfold rpB at h
  unfold rpA
  by_cases h1 : sgn r A L = 119
  · rw [if_pos h1]; omega
  · rw [if_neg h1] at h ⊢
    by_cases h2 : sgn r A L = 99
    · rw [if_pos h2]
      exact digA_ge
    · rw [if_neg h2] at h ⊢
      have e : rpF (rpN r A L P) (numB (rpR2 r A L P) (rpA2 r A L P) L 1 60 5 4) P 5 4 = digW (rpR2 r A L P) (rpA2 r A L P) L 1 9 := (bp_ne (by decide)).trans ((bp_rw (by decide)).trans numB_well)
      rw [e] at h
      unfold digW at h
      have e2 : rpR2 r A L P 5 4 = rpX r A L P := (bp_ne (by decide)).trans bp_eq
      rw [e2] at h
      by_cases h3 : rpX r A L P = 0
      · rw [if_pos h3] at h; exact absurd rfl h
      · have h4 : rpA2 r A L P = numA r A L 0 99 + 1 := by unfold rpA2; rw [if_neg h3]
        have h5 := numA_ge (r := r) (A := A) (L := L) (x := 0) (y := 99)
        have h6 := numA_ge (r := rpR2 r A L P) (A := rpA2 r A L P) (L := L) (x := 1) (y := 60)
        omega
theorem rpP_le {r : rB} {A L P : Nat} (h : 2 * P ≤ A) : 2 * rpP r A L P ≤ rpA r A L P + 1 := by
  unfold rpP
  by_cases h1 : rpB r A L P 5 4 = 0
  · rw [if_pos h1]
    have := rpA_ge (r := r) (A := A) (L := L) (P := P)
    omega
  · rw [if_neg h1]
    have := rpA_gt h1
    omega
def rsS (r : rB) (A : Nat) : rB := bp (bp r 5 4 1) 5 3 (nI (A + 1))
def rsE (r : rB) (A : Nat) : rB := bp (bp r 5 4 0) 5 3 (nI (A + 0))
def raF : Nat → rB → Nat → Nat → Nat → rB
  | 0, r, _, _, _ => r
  | n + 1, r, A, L, P => if r 5 4 = 0 then r else if A < L then (if sgn r A L = 59 then raF n (rpB (rsS r A) (A + 1) L P) (rpA (rsS r A) (A + 1) L P) L (rpP (rsS r A) (A + 1) L P) else raF n (rsE r A) (A + 0) L P) else r
theorem raF_bad {n : Nat} {r : rB} {A L P : Nat} (h : r 5 4 = 0) : raF n r A L P = r := by
  cases n with
  | zero => rfl
  | succ n => unfold raF; rw [if_pos h]
theorem raF_end {n : Nat} {r : rB} {A L P : Nat} (h : ¬ A < L) : raF n r A L P = r := by
  cases n with
  | zero => rfl
  | succ n => unfold raF; rw [if_neg h]; split <;> rfl
theorem raF_go {n : Nat} {r : rB} {A L P : Nat} (h : ¬ r 5 4 = 0) (h2 : A < L) (h3 : sgn r A L = 59) : raF (n + 1) r A L P = raF n (rpB (rsS r A) (A + 1) L P) (rpA (rsS r A) (A + 1) L P) L (rpP (rsS r A) (A + 1) L P) := by
  unfold raF; rw [if_neg h, if_pos h2, if_pos h3]; cases n <;> rfl
theorem raF_no {n : Nat} {r : rB} {A L P : Nat} (h : ¬ r 5 4 = 0) (h2 : A < L) (h3 : ¬ sgn r A L = 59) : raF (n + 1) r A L P = rsE r A := by
  have e : raF (n + 1) r A L P = raF n (rsE r A) (A + 0) L P := by unfold raF; rw [if_neg h, if_pos h2, if_neg h3]; cases n <;> rfl
  rw [e]
  exact raF_bad ((bp_ne (by decide)).trans bp_eq)
def ra0 (r : rB) : rB := bp (bp (bp r 5 3 0) 5 4 1) 5 5 0
def raB (r : rB) (L : Nat) : rB := raF 60 (rpB (ra0 r) 0 L 0) (rpA (ra0 r) 0 L 0) L (rpP (ra0 r) 0 L 0)
