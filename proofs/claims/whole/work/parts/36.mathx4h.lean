/-! what a text's parts hold -/
theorem zW_b {q : Int32} {a b : Nat} (ha : a < 2 ^ 31) (hb : b < 2 ^ 31) (h : ¬ zW q (nI a) (nI b) = 0) : ∃ j, a ≤ j ∧ j ≤ b ∧ q = nI j := by
  unfold zW at h
  by_cases h1 : q < nI a
  · rw [if_pos h1] at h; exact absurd rfl h
  · rw [if_neg h1] at h
    by_cases h2 : nI b < q
    · rw [if_pos h2] at h; exact absurd rfl h
    · rw [Int32.lt_iff_toInt_lt, nI_toInt ha] at h1
      rw [Int32.lt_iff_toInt_lt, nI_toInt hb] at h2
      refine ⟨q.toInt.toNat, by omega, by omega, ?_⟩
      apply Int32.toInt_inj.mp
      rw [nI_toInt (by omega)]
      omega
theorem dig_ex {r : rB} {A L : Nat} {x y : Int32} {a b : Nat} (hx : 48 + x = nI a) (hy : 48 + y = nI b) (ha : a < 2 ^ 31) (hb : b < 2 ^ 31) (h : ¬ digW r A L x y = 0) : ¬ r 5 4 = 0 ∧ ∃ j, a ≤ j ∧ j ≤ b ∧ sgn r A L = nI j := by
  unfold digW at h
  by_cases h1 : r 5 4 = 0
  · rw [if_pos h1] at h; exact absurd rfl h
  · rw [if_neg h1] at h
    refine ⟨h1, ?_⟩
    by_cases h2 : zW (sgn r A L) (48 + x) (48 + y) = 0
    · rw [if_pos h2] at h; exact absurd rfl h
    · rw [hx, hy] at h2
      exact zW_b ha hb h2
theorem digV_ex {r : rB} {A L : Nat} {j : Nat} (h : sgn r A L = nI j) (hj : 48 ≤ j) : digV r A L = nI (j - 48) := by
  unfold digV
  rw [h]
  exact pk_sub (a := j) (b := 48) hj
theorem num_ex {r : rB} {A L : Nat} {x y : Int32} {a : Nat} (hx : 48 + x = nI a) (ha : 48 ≤ a) (ha2 : a < 2 ^ 31) (h : ¬ digW r A L x 9 = 0) : ∃ v, v ≤ 99 ∧ numV r A L x y = nI v := by
  obtain ⟨-, j, hj1, hj2, hj⟩ := dig_ex hx (b := 57) (by decide) ha2 (by decide) h
  have hd := digV_ex hj (by omega)
  unfold numV
  by_cases hc : numC r A L x y = 0
  · rw [if_pos hc]
    exact ⟨j - 48, by omega, hd⟩
  · rw [if_neg hc]
    unfold numC at hc
    by_cases c1 : digB r A L x 9 5 4 = 0
    · rw [if_pos c1] at hc; exact absurd rfl hc
    · rw [if_neg c1] at hc
      by_cases c2 : digV r A L ≤ 0
      · rw [if_pos c2] at hc; exact absurd rfl hc
      · rw [if_neg c2] at hc
        by_cases c3 : zW (sgn (digB r A L x 9) (digA r A L x 9) L) 48 57 = 0
        · rw [if_pos c3] at hc; exact absurd rfl hc
        · obtain ⟨k, hk1, hk2, hk⟩ := zW_b (a := 48) (b := 57) (by decide) (by decide) c3
          rw [hk, hd]
          refine ⟨10 * (j - 48) + k - 48, by omega, ?_⟩
          have e1 : (10 : Int32) * nI (j - 48) = nI (10 * (j - 48)) := pk_mul 10 (j - 48)
          rw [e1, nI_add]
          exact pk_sub (a := 10 * (j - 48) + k) (b := 48) (by omega)
theorem nI_nm2 {i : Nat} (h : i < 2 ^ 31) : ¬ nI i = -2 := by
  intro h2
  have h3 := nI_toInt h
  rw [h2] at h3
  have h5 : (-2 : Int32).toInt = -2 := by decide
  omega
def pkP (r : rB) (P : Nat) : Prop := ∀ k, k < P → r 4 (2 * k) = -2 → ∃ j, j < 6 ∧ r 4 (2 * k + 1) = nI j
theorem dig_4 {r : rB} {A L k : Nat} {x y : Int32} : digB r A L x y 4 k = r 4 k := (bp_rw (by decide)).trans (bp_rw (by decide))
theorem num_4 {r : rB} {A L k : Nat} {x y : Int32} : numB r A L x y 4 k = r 4 k := by
  unfold numB
  split
  · exact dig_4
  · exact (bp_rw (by decide)).trans dig_4
theorem rpR2_4 {r : rB} {A L P k : Nat} (h : k ≠ 2 * P) : rpR2 r A L P 4 k = r 4 k := (bp_rw (by decide)).trans ((bp_rw (by decide)).trans ((bp_ne h).trans num_4))
theorem rpR2_4e {r : rB} {A L P : Nat} : rpR2 r A L P 4 (2 * P) = numV r A L 0 99 := (bp_rw (by decide)).trans ((bp_rw (by decide)).trans bp_eq)
theorem rpB_low {r : rB} {A L P k : Nat} (h : k < 2 * P) : rpB r A L P 4 k = r 4 k := by
  unfold rpB
  split
  · exact (bp_rw (by decide)).trans ((bp_ne (by omega)).trans (bp_rw (by decide)))
  · split
    · exact (bp_rw (by decide)).trans ((bp_ne (by omega)).trans (dig_4.trans ((bp_ne (by omega)).trans (bp_rw (by decide)))))
    · exact (bp_rw (by decide)).trans ((bp_ne (by omega)).trans (num_4.trans (rpR2_4 (by omega))))
theorem rpB_top {r : rB} {A L P : Nat} (h : ¬ rpB r A L P 5 4 = 0) (h2 : rpB r A L P 4 (2 * P) = -2) : ∃ j, j < 6 ∧ rpB r A L P 4 (2 * P + 1) = nI j := by
  unfold rpB at h h2 ⊢
  by_cases h1 : sgn r A L = 119
  · rw [if_pos h1] at h2
    have e : rpF (rpW r A P) (r 5 4) P 4 (2 * P) = -1 := (bp_rw (by decide)).trans bp_eq
    rw [e] at h2
    exact absurd h2 (by decide)
  · rw [if_neg h1] at h h2 ⊢
    by_cases h3 : sgn r A L = 99
    · rw [if_pos h3] at h ⊢
      have e : rpF (rpC r A L P) (digB (rpC1 r A P) (A + 1) L 0 5 5 4) P 5 4 = digW (rpC1 r A P) (A + 1) L 0 5 := (bp_ne (by decide)).trans ((bp_rw (by decide)).trans digB_well)
      rw [e] at h
      obtain ⟨-, j, hj1, hj2, hj⟩ := dig_ex (a := 48) (b := 53) (by decide) (by decide) (by decide) (by decide) h
      refine ⟨j - 48, by omega, ?_⟩
      exact (bp_rw (by decide)).trans (bp_eq.trans (digV_ex hj hj1))
    · rw [if_neg h3] at h h2 ⊢
      have e : rpF (rpN r A L P) (numB (rpR2 r A L P) (rpA2 r A L P) L 1 60 5 4) P 5 4 = digW (rpR2 r A L P) (rpA2 r A L P) L 1 9 := (bp_ne (by decide)).trans ((bp_rw (by decide)).trans numB_well)
      rw [e] at h
      have hx : ¬ rpX r A L P = 0 := by
        have := (dig_ex (a := 49) (b := 57) (by decide) (by decide) (by decide) (by decide) h).1
        have e2 : rpR2 r A L P 5 4 = rpX r A L P := (bp_ne (by decide)).trans bp_eq
        rwa [e2] at this
      have hw : ¬ digW r A L 0 9 = 0 := by
        intro h9
        apply hx
        unfold rpX
        rw [numB_well, if_pos h9]
      obtain ⟨v, hv, ev⟩ := num_ex (y := 99) (a := 48) (by decide) (by decide) (by decide) hw
      have e3 : rpF (rpN r A L P) (numB (rpR2 r A L P) (rpA2 r A L P) L 1 60 5 4) P 4 (2 * P) = nI v := (bp_rw (by decide)).trans ((bp_ne (by omega)).trans (num_4.trans (rpR2_4e.trans ev)))
      rw [e3] at h2
      exact absurd h2 (nI_nm2 (by omega))
theorem rpB_pk {r : rB} {A L P : Nat} (h : pkP r P) : pkP (rpB r A L P) (rpP r A L P) := by
  intro k hk h2
  by_cases hkP : k < P
  · rw [rpB_low (by omega)] at h2 ⊢
    exact h k hkP h2
  · unfold rpP at hk
    by_cases h1 : rpB r A L P 5 4 = 0
    · rw [if_pos h1] at hk; omega
    · rw [if_neg h1] at hk
      obtain rfl : k = P := by omega
      exact rpB_top h1 h2
theorem pk_rs {r : rB} {P A : Nat} (h : pkP r P) : pkP (rsS r A) P := h
theorem pk_re {r : rB} {P A : Nat} (h : pkP r P) : pkP (rsE r A) P := h
theorem Rd_rs {r : rB} {A : Nat} : Rd (rsS r A) r := (Rd_5 (by decide)).tr (Rd_5 (by decide))
theorem Rd_re {r : rB} {A : Nat} : Rd (rsE r A) r := (Rd_5 (by decide)).tr (Rd_5 (by decide))
theorem sgn_lt {r : rB} {A L : Nat} (h : ¬ sgn r A L = 0) : A < L := by
  unfold sgn at h
  by_cases h1 : A < L
  · exact h1
  · rw [if_neg h1] at h; exact absurd rfl h
theorem sgn_lt2 {r : rB} {A L j : Nat} (h : sgn r A L = nI j) (h1 : 1 ≤ j) (h2 : j < 2 ^ 31) : A < L := by
  refine sgn_lt (r := r) (fun h9 => ?_)
  rw [h] at h9
  have h3 := nI_toInt h2
  rw [h9] at h3
  have h5 : (0 : Int32).toInt = 0 := by decide
  omega
theorem digA_L {r : rB} {A L : Nat} {x y : Int32} {a b : Nat} (hx : 48 + x = nI a) (hy : 48 + y = nI b) (ha1 : 1 ≤ a) (ha : a < 2 ^ 31) (hb : b < 2 ^ 31) (h : A ≤ L) : digA r A L x y ≤ L := by
  unfold digA
  by_cases h1 : digW r A L x y = 0
  · rw [if_pos h1]; omega
  · rw [if_neg h1]
    obtain ⟨-, j, hj1, hj2, hj⟩ := dig_ex hx hy ha hb h1
    have := sgn_lt2 hj (by omega) (by omega)
    omega
theorem numA_L {r : rB} {A L : Nat} {x y : Int32} {a : Nat} (hx : 48 + x = nI a) (ha1 : 1 ≤ a) (ha : a < 2 ^ 31) (h : A ≤ L) : numA r A L x y ≤ L := by
  have h2 := digA_L (r := r) (x := x) (y := 9) hx (b := 57) (by decide) ha1 ha (by decide) h
  unfold numA
  by_cases hc : numC r A L x y = 0
  · rw [if_pos hc]; exact h2
  · rw [if_neg hc]
    unfold numC at hc
    by_cases c1 : digB r A L x 9 5 4 = 0
    · rw [if_pos c1] at hc; exact absurd rfl hc
    · rw [if_neg c1] at hc
      by_cases c2 : digV r A L ≤ 0
      · rw [if_pos c2] at hc; exact absurd rfl hc
      · rw [if_neg c2] at hc
        by_cases c3 : zW (sgn (digB r A L x 9) (digA r A L x 9) L) 48 57 = 0
        · rw [if_pos c3] at hc; exact absurd rfl hc
        · obtain ⟨k, hk1, hk2, hk⟩ := zW_b (a := 48) (b := 57) (by decide) (by decide) c3
          have := sgn_lt2 hk (by omega) (by omega)
          omega
theorem rpA_L {r : rB} {A L P : Nat} (h : A ≤ L) : rpA r A L P ≤ L := by
  unfold rpA
  by_cases h1 : sgn r A L = 119
  · rw [if_pos h1]
    have := sgn_lt (r := r) (A := A) (L := L) (by rw [h1]; decide)
    omega
  · rw [if_neg h1]
    by_cases h2 : sgn r A L = 99
    · rw [if_pos h2]
      have := sgn_lt (r := r) (A := A) (L := L) (by rw [h2]; decide)
      exact digA_L (a := 48) (b := 53) (by decide) (by decide) (by decide) (by decide) (by decide) (by omega)
    · rw [if_neg h2]
      refine numA_L (a := 49) (by decide) (by decide) (by decide) ?_
      have h3 := numA_L (r := r) (A := A) (L := L) (x := 0) (y := 99) (a := 48) (by decide) (by decide) (by decide) h
      unfold rpA2
      by_cases h4 : rpX r A L P = 0
      · rw [if_pos h4]; omega
      · rw [if_neg h4]
        unfold rpX at h4
        by_cases h5 : numB r A L 0 99 5 4 = 0
        · rw [if_pos h5] at h4; exact absurd rfl h4
        · rw [if_neg h5] at h4
          by_cases h6 : sgn (rpR1 r A L P) (numA r A L 0 99) L = 42
          · have := sgn_lt (r := rpR1 r A L P) (A := numA r A L 0 99) (L := L) (by rw [h6]; decide)
            omega
          · rw [if_neg h6] at h4; exact absurd rfl h4
theorem raF_ex : ∀ (n : Nat) (r : rB) (A L P : Nat), L ≤ 60 → A ≤ L → 2 * P ≤ A + 1 → r 5 3 = nI A → r 5 5 = nI P → pkP r P → ∃ A' P', A' ≤ L ∧ 2 * P' ≤ A' + 1 ∧ raF n r A L P 5 3 = nI A' ∧ raF n r A L P 5 5 = nI P' ∧ pkP (raF n r A L P) P' ∧ Rd (raF n r A L P) r
  | 0, r, A, L, P, hL, hA, hP, h3, h5, hk => ⟨A, P, hA, hP, h3, h5, hk, Rd.rf⟩
  | n + 1, r, A, L, P, hL, hA, hP, h3, h5, hk => by
    by_cases c1 : r 5 4 = 0
    · rw [raF_bad c1]; exact ⟨A, P, hA, hP, h3, h5, hk, Rd.rf⟩
    · by_cases c2 : A < L
      · by_cases c3 : sgn r A L = 59
        · rw [raF_go c1 c2 c3]
          have hge : A + 1 ≤ rpA (rsS r A) (A + 1) L P := rpA_ge
          have hle : rpA (rsS r A) (A + 1) L P ≤ L := rpA_L (by omega)
          obtain ⟨A', P', q1, q2, q3, q4, q5, q6⟩ := raF_ex n (rpB (rsS r A) (A + 1) L P) (rpA (rsS r A) (A + 1) L P) L (rpP (rsS r A) (A + 1) L P) hL (by omega) (rpP_le (by omega)) rpB_at rpB_manyP (rpB_pk (pk_rs hk))
          exact ⟨A', P', q1, q2, q3, q4, q5, q6.tr (Rd_rpB.tr Rd_rs)⟩
        · rw [raF_no c1 c2 c3]
          exact ⟨A, P, hA, hP, bp_eq, (bp_ne (by decide)).trans ((bp_ne (by decide)).trans h5), pk_re hk, Rd_re⟩
      · rw [raF_end c2]; exact ⟨A, P, hA, hP, h3, h5, hk, Rd.rf⟩
theorem raB_ex {r : rB} {L : Nat} (hL : L ≤ 60) : ∃ A' P', A' ≤ L ∧ 2 * P' ≤ A' + 1 ∧ raB r L 5 3 = nI A' ∧ raB r L 5 5 = nI P' ∧ pkP (raB r L) P' ∧ Rd (raB r L) r := by
  have h0 : rpA (ra0 r) 0 L 0 ≤ L := rpA_L (by omega)
  obtain ⟨A', P', q1, q2, q3, q4, q5, q6⟩ := raF_ex 60 (rpB (ra0 r) 0 L 0) (rpA (ra0 r) 0 L 0) L (rpP (ra0 r) 0 L 0) hL (by omega) (rpP_le (by omega)) rpB_at rpB_manyP (rpB_pk (fun k hk => absurd hk (by omega)))
  exact ⟨A', P', q1, q2, q3, q4, q5, q6.tr (Rd_rpB.tr ((Rd_5 (by decide)).tr ((Rd_5 (by decide)).tr (Rd_5 (by decide)))))⟩
/-! a text played by the model -/
def plyL : Nat → Nat → rB → Int32 → rB × Int32
  | 0, _, r, v => (r, v)
  | n + 1, k, r, v => if r 4 (2 * k) = -1 then plyL n (k + 1) (weekM r) v else if r 4 (2 * k) = -2 then plyL n (k + 1) (bp r 0 (33 + 7 * (r 4 (2 * k + 1)).toNatClampNeg + 2) 0) v else plyL n (k + 1) (minsM (r 4 (2 * k + 1)).toNatClampNeg r (r 4 (2 * k))) (v + (minsM (r 4 (2 * k + 1)).toNatClampNeg r (r 4 (2 * k)) 0 7 - r 0 7))
theorem Sm_week {r : rB} : Sm (weekM r) r := by
  have h : ∀ (n i : Nat) (r : rB), Sm (wkL n i r) r := by
    intro n
    induction n with
    | zero => intro i r; exact Sm.rf
    | succ n ih => intro i r; exact (ih (i + 1) _).tr Sm_bp
  exact Sm_bp.tr (h 6 0 r)
def plyS (r : rB) (N L : Nat) : rB := bp (svB (raB (bp r 5 0 0) L) N) 5 2 0
def plyP (r : rB) (L : Nat) : Nat := (raB (bp r 5 0 0) L 5 5).toNatClampNeg
def plyV (r : rB) (N L : Nat) : Int32 := if raB (bp r 5 0 0) L 5 4 = 0 then 0 else (plyL (plyP r L) 0 (plyS r N L) 0).2
def plyB (r : rB) (N L : Nat) : rB := if raB (bp r 5 0 0) L 5 4 = 0 then bp (raB (bp r 5 0 0) L) 5 0 1 else (plyL (plyP r L) 0 (plyS r N L) 0).1
theorem svB_ne {r : rB} {N k : Nat} (h2 : k ≠ 2) (h5 : k ≠ 5) : svB r N k = r k := (bpr h5).trans (sr_ne h2)
theorem svB_5 {r : rB} {N k : Nat} (h : k ≠ 1) : svB r N 5 k = r 5 k := (bp_ne h).trans (congrFun (sr_ne (by decide)) k)
