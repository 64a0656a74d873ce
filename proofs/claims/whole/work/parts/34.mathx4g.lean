/-! looks of the model -/
def tgM (r : rB) (i w : Nat) : Int32 := match w with
  | 0 => r 0 (33 + 7 * i + 0)
  | 1 => r 0 (33 + 7 * i + 1)
  | 2 => r 0 (33 + 7 * i + 2)
  | 3 => r 0 (33 + 7 * i + 3) - 1
  | 4 => r 0 (33 + 7 * i + 4)
  | 5 => roomM r i
  | 6 => takM r i
  | 7 => r 0 (33 + 7 * i + 5)
  | _ => r 0 (33 + 7 * i + 6)
def cnM (r : rB) (w : Nat) : Int32 := match w with
  | 0 => r 0 3
  | 1 => r 0 4
  | 2 => r 0 5
  | 3 => stM r 6 0 0
  | 4 => r 0 6
  | 5 => r 0 7
  | 6 => r 0 8
  | 7 => lvM r 6 0 0
  | _ => r 5 1
def z0 (r : rB) : rB := bp r 5 0 0
def plnV (r : rB) (x y : Int32) : Int32 := if zW x 0 5 = 0 then 0 else if zW y 0 3 = 0 then 0 else bp r 5 0 0 0 (9 + 4 * x.toNatClampNeg + y.toNatClampNeg)
def plnB (r : rB) (x y : Int32) : rB := if zW x 0 5 = 0 then bp (bp r 5 0 0) 5 0 1 else if zW y 0 3 = 0 then bp (bp r 5 0 0) 5 0 2 else bp r 5 0 0
def gtnV (r : rB) (x y : Int32) : Int32 := if zW x 0 5 = 0 then 0 else if zW y 0 8 = 0 then 0 else tgM (bp r 5 0 0) x.toNatClampNeg y.toNatClampNeg
def gtnB (r : rB) (x y : Int32) : rB := if zW x 0 5 = 0 then bp (bp r 5 0 0) 5 0 1 else if zW y 0 8 = 0 then bp (bp r 5 0 0) 5 0 2 else bp r 5 0 0
def cntV (r : rB) (x : Int32) : Int32 := if zW x 0 8 = 0 then 0 else cnM (bp r 5 0 0) x.toNatClampNeg
def cntB (r : rB) (x : Int32) : rB := if zW x 0 8 = 0 then bp (bp r 5 0 0) 5 0 1 else bp r 5 0 0
def stgV (r : rB) (x : Int32) : Int32 := if zW x 0 2 = 0 then 0 else r 0 x.toNatClampNeg
def stgB (r : rB) (x : Int32) : rB := if zW x 0 2 = 0 then bp (bp r 5 0 0) 5 0 1 else bp r 5 0 0
def ifrV (r : rB) (x y : Int32) : Int32 := if zW x 1 60 = 0 then 0 else if zW y 0 2 = 0 then 0 else wouldV (bp r 5 0 0) x.toNatClampNeg y
def ifrB (r : rB) (x y : Int32) : rB := if zW x 1 60 = 0 then bp (bp r 5 0 0) 5 0 1 else if zW y 0 2 = 0 then bp (bp r 5 0 0) 5 0 1 else asd (bp r 5 0 0)
def sfiV (r : rB) (x : Int32) : Int32 := if zW x 0 1 = 0 then 0 else fsV (bp r 5 0 0) x
def sfiB (r : rB) (x : Int32) : rB := if zW x 0 1 = 0 then bp (bp r 5 0 0) 5 0 1 else asd (bp r 5 0 0)
def mraV (r : rB) (x : Int32) : Int32 := if zW x 1 60 = 0 then 0 else grL (bp r 5 0 0) x.toNatClampNeg 100
def mraB (r : rB) (x : Int32) : rB := if zW x 1 60 = 0 then bp (bp r 5 0 0) 5 0 1 else asd (bp r 5 0 0)
/-- where the valleys lead -/
def nxM (r : rB) (q : Int32) : Int32 := r 0 (33 + 7 * q.toNatClampNeg + 3) - 1
def chS (r : rB) : Nat → Int32 → Prop
  | 0, q => q = -1
  | n + 1, q => q = -1 ∨ chS r n (nxM r q)
def ldL (r : rB) (t : Int32) : Nat → Int32 → Int32
  | 0, q => q
  | n + 1, q => if q = -1 then q else if q = t then q else ldL r t n (nxM r q)
def ledV (r : rB) (q t : Int32) : Int32 := if ldL r t 6 q = t then 1 else 0
theorem ldL_m1 {r : rB} {t : Int32} : ∀ n, ldL r t n (-1) = -1
  | 0 => rfl
  | n + 1 => if_pos rfl
theorem ldL_t {r : rB} {t : Int32} : ∀ n, ldL r t n t = t
  | 0 => rfl
  | n + 1 => by unfold ldL; split <;> simp
theorem okS_nx {r : rB} {i : Nat} (h : okS (r 0)) (hi : i < 6) : nxM r (nI i) = -1 ∨ ∃ j, j < 6 ∧ nxM r (nI i) = nI j := by
  obtain ⟨-, j, hj, e⟩ := h i hi
  unfold nxM
  rw [nI_clamp (by omega), e]
  rcases Nat.eq_zero_or_pos j with hz | hz
  · subst hz; exact Or.inl (by decide)
  · exact Or.inr ⟨j - 1, by omega, pk_sub (a := j) (b := 1) hz⟩
def valV (r : rB) (N : Nat) (x y : Int32) : Int32 := if zW x 0 5 = 0 then 0 else if y = -1 then svB (bp r 5 0 0) N 0 (33 + 7 * x.toNatClampNeg + 3) - 1 else if zW y 0 5 = 0 then 0 else if x = y then 0 else if ledV (bp r 5 0 0) y x = 0 then svB (bp r 5 0 0) N 0 (33 + 7 * x.toNatClampNeg + 3) - 1 else 0
def valU (r : rB) (N : Nat) (x y : Int32) : rB := bp (svB (bp r 5 0 0) N) 0 (33 + 7 * x.toNatClampNeg + 3) (y + 1)
def valB (r : rB) (N : Nat) (x y : Int32) : rB := if zW x 0 5 = 0 then bp (bp r 5 0 0) 5 0 1 else if y = -1 then valU r N x y else if zW y 0 5 = 0 then bp (bp r 5 0 0) 5 0 1 else if x = y then bp (bp r 5 0 0) 5 0 2 else if ledV (bp r 5 0 0) y x = 0 then valU r N x y else bp (bp r 5 0 0) 5 0 3
theorem nI_nm1 {i : Nat} (h : i < 2 ^ 31) : ¬ nI i = -1 := by
  intro h2
  have h3 := nI_toInt h
  rw [h2] at h3
  have h5 : (-1 : Int32).toInt = -1 := by decide
  omega
