/-! a text read by the class, and by the model -/
theorem zW0 {c : Int32} {a b : Nat} (ha : a < 2 ^ 31) (hb : b < 2 ^ 31) : zW c (nI a) (nI b) = 0 ↔ c.toInt < a ∨ (b : Int) < c.toInt := by
  have q1 : c < nI a ↔ c.toInt < a := by rw [Int32.lt_iff_toInt_lt, nI_toInt ha]
  have q2 : nI b < c ↔ (b : Int) < c.toInt := by rw [Int32.lt_iff_toInt_lt, nI_toInt hb]
  unfold zW
  by_cases h1 : c.toInt < a
  · rw [if_pos (q1.mpr h1)]; exact ⟨fun _ => Or.inl h1, fun _ => rfl⟩
  · rw [if_neg (fun h => h1 (q1.mp h))]
    by_cases h2 : (b : Int) < c.toInt
    · rw [if_pos (q2.mpr h2)]; exact ⟨fun _ => Or.inr h2, fun _ => rfl⟩
    · rw [if_neg (fun h => h2 (q2.mp h))]
      exact ⟨fun h => absurd h (by decide), fun h => by omega⟩
theorem zW48 {c : Int32} : zW c 48 57 = 0 ↔ c.toInt < 48 ∨ 57 < c.toInt := zW0 (a := 48) (b := 57) (by decide) (by decide)
theorem zW49 {c : Int32} : zW c 49 57 = 0 ↔ c.toInt < 49 ∨ 57 < c.toInt := zW0 (a := 49) (b := 57) (by decide) (by decide)
theorem zW53 {c : Int32} : zW c 48 53 = 0 ↔ c.toInt < 48 ∨ 53 < c.toInt := zW0 (a := 48) (b := 53) (by decide) (by decide)
theorem zW95 {c : Int32} : zW c 49 53 = 0 ↔ c.toInt < 49 ∨ 53 < c.toInt := zW0 (a := 49) (b := 53) (by decide) (by decide)
theorem zW55 {c : Int32} : zW c 55 57 = 0 ↔ c.toInt < 55 ∨ 57 < c.toInt := zW0 (a := 55) (b := 57) (by decide) (by decide)
theorem c_eq {c : Int32} {n : Nat} (hn : n < 2 ^ 31) : c = nI n ↔ c.toInt = n := by
  rw [← Int32.toInt_inj, nI_toInt hn]
theorem dA_w : dA 1 119 = 7 := by decide
theorem dA_c : dA 1 99 = 8 := by decide
theorem dA_semi {d : Nat} (h : ¬ zM (nI d) = 0) : dA d 59 = 1 := by
  unfold dA
  rw [if_pos rfl, if_neg h]
theorem dA0 (c : Int32) : dA 0 c = 0 := by
  unfold dA
  by_cases h : c = 59
  · rw [if_pos h, if_pos (by decide)]
  · rw [if_neg h]; rfl
theorem dA_59 {d : Nat} (h : zM (nI d) = 0) : dA d 59 = 0 := by
  unfold dA
  rw [if_pos rfl, if_pos h]
theorem dA1_no {c : Int32} (h1 : ¬ c = 119) (h2 : ¬ c = 99) (h3 : zW c 48 57 = 0) : dA 1 c = 0 := by
  by_cases h : c = 59
  · subst h; decide
  · unfold dA
    rw [if_neg h]
    show d1 c = 0
    unfold d1
    have h4 : ¬ c = 48 := fun e => by subst e; exact absurd h3 (by decide)
    rw [if_neg h1, if_neg h2, if_neg h4, if_pos (zW49.mpr (by have := zW48.mp h3; omega))]
theorem dA1_0 : dA 1 48 = 3 := by decide
theorem dA1_dig {c : Int32} (h3 : ¬ zW c 48 57 = 0) (h0 : ¬ c = 48) : dA 1 c = 2 := by
  have a1 : ¬ c = 59 := fun e => by subst e; exact h3 (by decide)
  have a2 : ¬ c = 119 := fun e => by subst e; exact h3 (by decide)
  have a3 : ¬ c = 99 := fun e => by subst e; exact h3 (by decide)
  unfold dA
  rw [if_neg a1]
  show d1 c = 2
  unfold d1
  rw [zW48] at h3
  have h4 : ¬ c.toInt = 48 := fun e => h0 ((c_eq (n := 48) (by decide)).mpr e)
  rw [if_neg a2, if_neg a3, if_neg h0, if_neg (fun h => by have := zW49.mp h; omega)]
theorem dA2_dig {c : Int32} (h3 : ¬ zW c 48 57 = 0) : dA 2 c = 3 := by
  have a1 : ¬ c = 59 := fun e => by subst e; exact h3 (by decide)
  unfold dA
  rw [if_neg a1]
  exact if_neg h3
theorem dA2_star : dA 2 42 = 4 := by decide
theorem dA2_no {c : Int32} (h3 : zW c 48 57 = 0) (h : ¬ c = 42) : dA 2 c = 0 := by
  by_cases h1 : c = 59
  · subst h1; decide
  · unfold dA
    rw [if_neg h1]
    show (if zW c 48 57 = 0 then d2 c else 3) = 0
    rw [if_pos h3]
    exact if_neg h
theorem dA3_star : dA 3 42 = 4 := by decide
theorem dA3_no {c : Int32} (h : ¬ c = 42) : dA 3 c = 0 := by
  by_cases h1 : c = 59
  · subst h1; decide
  · unfold dA
    rw [if_neg h1]
    exact if_neg h
theorem dA4_15 {c : Int32} (h : ¬ zW c 49 53 = 0) : dA 4 c = 5 := by
  have a1 : ¬ c = 59 := fun e => by subst e; exact h (by decide)
  unfold dA
  rw [if_neg a1]
  exact if_neg h
theorem dA4_6 : dA 4 54 = 6 := by decide
theorem dA4_79 {c : Int32} (h : ¬ zW c 55 57 = 0) : dA 4 c = 7 := by
  have a1 : ¬ c = 59 := fun e => by subst e; exact h (by decide)
  have a2 : ¬ c = 54 := fun e => by subst e; exact h (by decide)
  unfold dA
  rw [if_neg a1]
  show d3 c = 7
  unfold d3
  rw [zW55] at h
  rw [if_pos (zW95.mpr (by omega)), if_neg a2, if_neg (fun h9 => h (zW55.mp h9))]
theorem dA4_no {c : Int32} (h : zW c 49 57 = 0) : dA 4 c = 0 := by
  by_cases h1 : c = 59
  · subst h1; decide
  · have a2 : ¬ c = 54 := fun e => by subst e; exact absurd h (by decide)
    unfold dA
    rw [if_neg h1]
    show d3 c = 0
    unfold d3
    rw [zW49] at h
    rw [if_pos (zW95.mpr (by omega)), if_neg a2, if_pos (zW55.mpr (by omega))]
theorem dA5_dig {c : Int32} (h3 : ¬ zW c 48 57 = 0) : dA 5 c = 7 := by
  have a1 : ¬ c = 59 := fun e => by subst e; exact h3 (by decide)
  unfold dA
  rw [if_neg a1]
  exact if_neg h3
theorem dA5_no {c : Int32} (h1 : ¬ c = 59) (h3 : zW c 48 57 = 0) : dA 5 c = 0 := by
  unfold dA
  rw [if_neg h1]
  exact if_pos h3
theorem dA6_0 : dA 6 48 = 7 := by decide
theorem dA6_no {c : Int32} (h1 : ¬ c = 59) (h3 : ¬ c = 48) : dA 6 c = 0 := by
  unfold dA
  rw [if_neg h1]
  exact if_neg h3
theorem dA7_no {c : Int32} (h1 : ¬ c = 59) : dA 7 c = 0 := by
  unfold dA
  rw [if_neg h1]; rfl
theorem dA8_dig {c : Int32} (h3 : ¬ zW c 48 53 = 0) : dA 8 c = 7 := by
  have a1 : ¬ c = 59 := fun e => by subst e; exact h3 (by decide)
  unfold dA
  rw [if_neg a1]
  exact if_neg h3
theorem dA8_no {c : Int32} (h3 : zW c 48 53 = 0) : dA 8 c = 0 := by
  by_cases h1 : c = 59
  · subst h1; decide
  · unfold dA
    rw [if_neg h1]
    exact if_pos h3
/-- the state behind the first n characters -/
def bT (b : Nat → Int32) : rB := fun _ => b
def sT (b : Nat → Int32) : Nat → Nat
  | 0 => 1
  | n + 1 => dA (sT b n) (b n)
theorem ic_sT {b : Nat → Int32} : ∀ (n i : Nat), icL (bT b) n i (sT b i) = sT b (i + n)
  | 0, _ => rfl
  | n + 1, i => by
    show icL (bT b) n (i + 1) (sT b (i + 1)) = sT b (i + (n + 1))
    rw [ic_sT n (i + 1), show i + 1 + n = i + (n + 1) by omega]
theorem sT_0 {b : Nat → Int32} {k : Nat} (h : sT b k = 0) : ∀ n, sT b (k + n) = 0
  | 0 => h
  | n + 1 => by
    show dA (sT b (k + n)) (b (k + n)) = 0
    rw [sT_0 h n, dA0]
theorem sT_le {b : Nat → Int32} : ∀ n, sT b n ≤ 8
  | 0 => Nat.le_of_ble_eq_true rfl
  | n + 1 => dA_le _ _
theorem fw_sT {b : Nat → Int32} {L A : Nat} (hA : A < L) (h : ¬ sT b A = 0) (h2 : sT b (A + 1) = 0) : ∀ (n i : Nat), i + n = L → i ≤ A → fwL (bT b) n i (sT b i) = nI A
  | 0, i, hi, hiA => by omega
  | n + 1, i, hi, hiA => by
    have hne : ¬ sT b i = 0 := fun e => h (by have := sT_0 e (A - i); rwa [show i + (A - i) = A by omega] at this)
    show (if nI (sT b (i + 1)) = 0 then nI i else fwL (bT b) n (i + 1) (sT b (i + 1))) = nI A
    by_cases e : i = A
    · subst e; rw [h2]; rfl
    · have hne2 : ¬ sT b (i + 1) = 0 := fun e2 => h (by have := sT_0 e2 (A - (i + 1)); rwa [show i + 1 + (A - (i + 1)) = A by omega] at this)
      rw [if_neg (fun e2 => hne2 (nI_inj0 (by have := sT_le (b := b) (i + 1); omega) e2))]
      exact fw_sT hA h h2 n (i + 1) (by omega) (by omega)
theorem fw_end {b : Nat → Int32} {L : Nat} (h : ¬ sT b L = 0) : ∀ (n i : Nat), i + n = L → fwL (bT b) n i (sT b i) = nI L
  | 0, i, hi => by show nI i = nI L; rw [show i = L by omega]
  | n + 1, i, hi => by
    have hne2 : ¬ sT b (i + 1) = 0 := fun e2 => h (by have := sT_0 e2 (L - (i + 1)); rwa [show i + 1 + (L - (i + 1)) = L by omega] at this)
    show (if nI (sT b (i + 1)) = 0 then nI i else fwL (bT b) n (i + 1) (sT b (i + 1))) = nI L
    rw [if_neg (fun e2 => hne2 (nI_inj0 (by have := sT_le (b := b) (i + 1); omega) e2))]
    exact fw_end h n (i + 1) (by omega)
theorem ic_cong {t q : rB} : ∀ (n i d : Nat), (∀ j, i ≤ j → j < i + n → t 0 j = q 0 j) → icL t n i d = icL q n i d
  | 0, _, _, _ => rfl
  | n + 1, i, d, h => by
    show icL t n (i + 1) (dA d (t 0 i)) = icL q n (i + 1) (dA d (q 0 i))
    rw [h i (by omega) (by omega)]
    exact ic_cong n (i + 1) _ (fun j h1 h2 => h j (by omega) (by omega))
theorem fw_cong {t q : rB} : ∀ (n i d : Nat), (∀ j, i ≤ j → j < i + n → t 0 j = q 0 j) → fwL t n i d = fwL q n i d
  | 0, _, _, _ => rfl
  | n + 1, i, d, h => by
    show (if nI (dA d (t 0 i)) = 0 then nI i else fwL t n (i + 1) (dA d (t 0 i))) = (if nI (dA d (q 0 i)) = 0 then nI i else fwL q n (i + 1) (dA d (q 0 i)))
    rw [h i (by omega) (by omega), fw_cong n (i + 1) _ (fun j h1 h2 => h j (by omega) (by omega))]
/-- how far the model has read, and how well -/
def RS (b : Nat → Int32) (L A : Nat) (w : Int32) : Prop := A ≤ L ∧ ¬ sT b A = 0 ∧ (¬ w = 0 → ¬ zM (nI (sT b A)) = 0 ∧ (A < L → ¬ b A = 59 → sT b (A + 1) = 0)) ∧ (w = 0 → (A = L → zM (nI (sT b A)) = 0) ∧ (A < L → sT b (A + 1) = 0))
theorem sgn_of {q r : rB} {A L : Nat} (h : q 3 = r 3) : sgn q A L = sgn r A L := by unfold sgn; rw [h]
theorem sgn_b {r : rB} {A L : Nat} (h : A < L) : sgn r A L = r 3 A := if_pos h
theorem sgn_0 {r : rB} {A L : Nat} (h : ¬ A < L) : sgn r A L = 0 := if_neg h
theorem sT_s {b : Nat → Int32} {n d : Nat} (h : sT b n = d) : sT b (n + 1) = dA d (b n) := by subst h; rfl
/-- the digits of a number: the first, and whether a second was taken -/
theorem num_no {r : rB} {A L : Nat} {x y : Int32} (h : digW r A L x 9 = 0) : numA r A L x y = A := by
  have e : digB r A L x 9 5 4 = 0 := digB_well.trans h
  unfold numA numC
  rw [if_pos e, if_pos rfl]
  unfold digA
  rw [if_pos h]; rfl
theorem num_yes {r : rB} {A L : Nat} {x y : Int32} {j yn : Nat} (h : ¬ digW r A L x 9 = 0) (hj : sgn r A L = nI j) (hj1 : 48 ≤ j) (hj2 : j ≤ 57) (hy : y = nI yn) (hyn : yn < 2 ^ 31) :
    (48 < j ∧ (∃ k, 48 ≤ k ∧ k ≤ 57 ∧ sgn r (A + 1) L = nI k ∧ 10 * (j - 48) + k - 48 ≤ yn ∧ numV r A L x y = nI (10 * (j - 48) + k - 48)) ∧ numA r A L x y = A + 2) ∨
    (numA r A L x y = A + 1 ∧ numV r A L x y = nI (j - 48) ∧ (48 < j → ∀ k, 48 ≤ k → k ≤ 57 → sgn r (A + 1) L = nI k → yn < 10 * (j - 48) + k - 48)) := by
  have e : ¬ digB r A L x 9 5 4 = 0 := fun h9 => h (digB_well.symm.trans h9)
  have ea : digA r A L x 9 = A + 1 := by unfold digA; rw [if_neg h]
  have ev : digV r A L = nI (j - 48) := digV_ex hj hj1
  have eg : sgn (digB r A L x 9) (digA r A L x 9) L = sgn r (A + 1) L := by rw [digB_sgn, ea]
  have cN : numC r A L x y = if nI (j - 48) ≤ 0 then 0 else if zW (sgn r (A + 1) L) 48 57 = 0 then 0 else if y < 10 * nI (j - 48) + sgn r (A + 1) L - 48 then 0 else 1 := by
    unfold numC
    rw [if_neg e, ev, eg]
  by_cases c0 : j = 48
  · right
    have hz : numC r A L x y = 0 := by rw [cN, if_pos (by rw [c0]; decide)]
    unfold numA numV
    rw [if_pos hz, if_pos hz, ea]
    exact ⟨rfl, ev, fun h9 => by omega⟩
  · have c0' : ¬ nI (j - 48) ≤ 0 := by rw [nI_le0 (by omega)]; omega
    by_cases c1 : zW (sgn r (A + 1) L) 48 57 = 0
    · right
      have hz : numC r A L x y = 0 := by rw [cN, if_neg c0', if_pos c1]
      unfold numA numV
      rw [if_pos hz, if_pos hz, ea]
      refine ⟨rfl, ev, fun _ k hk1 hk2 hk => ?_⟩
      rw [hk, zW48, nI_toInt (by omega)] at c1
      omega
    · obtain ⟨k, hk1, hk2, hk⟩ := zW_b (a := 48) (b := 57) (by decide) (by decide) c1
      have es : 10 * nI (j - 48) + sgn r (A + 1) L - 48 = nI (10 * (j - 48) + k - 48) := by
        have e1 : (10 : Int32) * nI (j - 48) = nI (10 * (j - 48)) := pk_mul 10 (j - 48)
        rw [hk, e1, nI_add]
        exact pk_sub (a := 10 * (j - 48) + k) (b := 48) (by omega)
      by_cases c2 : y < 10 * nI (j - 48) + sgn r (A + 1) L - 48
      · right
        have hz : numC r A L x y = 0 := by rw [cN, if_neg c0', if_neg c1, if_pos c2]
        unfold numA numV
        rw [if_pos hz, if_pos hz, ea]
        refine ⟨rfl, ev, fun _ k' hk1' hk2' hk' => ?_⟩
        rw [es, hy, nI_ltI hyn (by omega)] at c2
        have : k' = k := by
          have h9 := hk'.symm.trans hk
          have h8 := congrArg Int32.toInt h9
          rw [nI_toInt (by omega), nI_toInt (by omega)] at h8
          omega
        omega
      · left
        have hz : ¬ numC r A L x y = 0 := by rw [cN, if_neg c0', if_neg c1, if_neg c2]; decide
        refine ⟨by omega, ⟨k, hk1, hk2, hk, ?_, ?_⟩, ?_⟩
        · rw [es, hy, nI_ltI hyn (by omega)] at c2
          omega
        · unfold numV
          rw [if_neg hz, ev, eg]
          exact es
        · unfold numA
          rw [if_neg hz, ea]
