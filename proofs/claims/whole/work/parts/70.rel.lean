/-! the roof of the class and the row of the model -/
def Rl (r : rB) (s : Nat → Int32) : Prop :=
  (∀ k, k < 6 → r 0 k = s (9 + 4 * k + 0)) ∧ (∀ k, k < 6 → r 1 k = s (9 + 4 * k + 1)) ∧ (∀ k, k < 6 → r 2 k = s (9 + 4 * k + 2)) ∧ (∀ k, k < 6 → r 3 k = s (9 + 4 * k + 3)) ∧
  (∀ k, k < 6 → r 4 k = s (33 + 7 * k + 0)) ∧ (∀ k, k < 6 → r 5 k = s (33 + 7 * k + 1)) ∧ (∀ k, k < 6 → r 6 k = s (33 + 7 * k + 2)) ∧ (∀ k, k < 6 → r 7 k = s (33 + 7 * k + 3) - 1) ∧
  (∀ k, k < 6 → r 8 k = s (33 + 7 * k + 4)) ∧ (∀ k, k < 6 → r 9 k = s (33 + 7 * k + 5)) ∧ (∀ k, k < 6 → r 10 k = s (33 + 7 * k + 6)) ∧
  (∀ k, k < 3 → r 11 k = s k) ∧ r 12 0 = s 3 ∧ r 12 1 = s 4 ∧ r 12 2 = s 5 ∧ r 12 3 = s 8 ∧ smI (r 10) 6 0 0 = s 6 ∧ smI (r 9) 6 0 0 = s 7
theorem upd_ne {f : Nat → Int32} {k j : Nat} {x : Int32} (h : j ≠ k) : upd f k x j = f j := if_neg h
theorem upd_eq {f : Nat → Int32} {k : Nat} {x : Int32} : upd f k x k = x := if_pos rfl
theorem upd_upd {f : Nat → Int32} {k : Nat} {x y : Int32} : upd (upd f k x) k y = upd f k y := by
  funext j
  by_cases h : j = k
  · subst h; rw [upd_eq, upd_eq]
  · rw [upd_ne h, upd_ne h, upd_ne h]
theorem upd_self {f : Nat → Int32} {k : Nat} {x : Int32} (h : x = f k) : upd f k x = f := by
  funext j
  by_cases hj : j = k
  · subst hj; rw [upd_eq, h]
  · rw [upd_ne hj]
theorem upd_comm {f : Nat → Int32} {k j : Nat} {x y : Int32} (h : k ≠ j) : upd (upd f k x) j y = upd (upd f j y) k x := by
  funext i
  by_cases h1 : i = k
  · subst h1; rw [upd_ne h, upd_eq, upd_eq]
  · by_cases h2 : i = j
    · subst h2; rw [upd_eq, upd_ne h1, upd_eq]
    · rw [upd_ne h2, upd_ne h1, upd_ne h1, upd_ne h2]
theorem bp_bp {r : rB} {k i : Nat} {x y : Int32} : bp (bp r k i x) k i y = bp r k i y := by
  funext a
  by_cases h : a = k
  · subst h; rw [bpk, bpk, bpk, upd_upd]
  · rw [bpr h, bpr h, bpr h]
theorem rel_row {r : rB} {s : Nat → Int32} {a b i p : Nat} {v w : Int32} {g : Nat → Nat} {F : Int32 → Int32} (hp : ∀ k, k < 6 → g k = p → (a = b ∧ k = i)) (hg : a = b → g i = p) (hv : a = b → v = F w) (h : ∀ k, k < 6 → r a k = F (s (g k))) : ∀ k, k < 6 → bp r b i v a k = F (upd s p w (g k)) := by
  intro k hk
  by_cases hk1 : g k = p
  · obtain ⟨h1, h2⟩ := hp k hk hk1
    subst h1; subst h2
    rw [hk1, upd_eq, bp_eq]; exact hv rfl
  · rw [upd_ne hk1]
    by_cases h1 : a = b
    · subst h1
      have h2 : k ≠ i := fun e => hk1 (by rw [e]; exact hg rfl)
      rw [bp_ne h2]; exact h k hk
    · rw [bp_rw h1]; exact h k hk
theorem smI6 (f : Nat → Int32) : smI f 6 0 0 = 0 + f 0 + f 1 + f 2 + f 3 + f 4 + f 5 := rfl
theorem smI_upd {f : Nat → Int32} {i : Nat} (hi : i < 6) (v : Int32) : smI (upd f i v) 6 0 0 = smI f 6 0 0 + (v - f i) := by
  have h : i = 0 ∨ i = 1 ∨ i = 2 ∨ i = 3 ∨ i = 4 ∨ i = 5 := by omega
  rw [smI6, smI6]
  rcases h with rfl | rfl | rfl | rfl | rfl | rfl <;> simp only [upd] <;> grind
/-- a plane's number, a gutter's number that no sum is of -/
theorem Rl_u {r : rB} {s : Nat → Int32} (h : Rl r s) (b i p : Nat) (v w : Int32) (hi : i < 6) (hb : (b < 4 ∧ p = 9 + 4 * i + b ∧ v = w) ∨ (3 < b ∧ b < 9 ∧ b ≠ 7 ∧ p = 33 + 7 * i + (b - 4) ∧ v = w) ∨ (b = 7 ∧ p = 33 + 7 * i + 3 ∧ v = w - 1)) : Rl (bp r b i v) (upd s p w) := by
  obtain ⟨h0, h1, h2, h3, h4, h5, h6, h7, h8, h9, h10, h11, h12, h13, h14, h15, h16, h17⟩ := h
  refine ⟨rel_row (F := fun z => z) ?_ ?_ ?_ h0, rel_row (F := fun z => z) ?_ ?_ ?_ h1, rel_row (F := fun z => z) ?_ ?_ ?_ h2, rel_row (F := fun z => z) ?_ ?_ ?_ h3, rel_row (F := fun z => z) ?_ ?_ ?_ h4, rel_row (F := fun z => z) ?_ ?_ ?_ h5, rel_row (F := fun z => z) ?_ ?_ ?_ h6, rel_row (F := fun z => z - 1) ?_ ?_ ?_ h7, rel_row (F := fun z => z) ?_ ?_ ?_ h8, rel_row (F := fun z => z) ?_ ?_ ?_ h9, rel_row (F := fun z => z) ?_ ?_ ?_ h10, ?_, ?_, ?_, ?_, ?_, ?_, ?_⟩
  all_goals first
    | (intro k hk hkp; omega)
    | (intro e; omega)
    | (intro e; rcases hb with ⟨_, _, e2⟩ | ⟨_, _, _, _, e2⟩ | ⟨e1, _, e2⟩ <;> first | exact e2 | omega)
    | skip
  · intro k hk; rw [bp_rw (by omega), upd_ne (by omega)]; exact h11 k hk
  · rw [bp_rw (by omega), upd_ne (by omega)]; exact h12
  · rw [bp_rw (by omega), upd_ne (by omega)]; exact h13
  · rw [bp_rw (by omega), upd_ne (by omega)]; exact h14
  · rw [bp_rw (by omega), upd_ne (by omega)]; exact h15
  · rw [bpr (by omega), upd_ne (by omega)]; exact h16
  · rw [bpr (by omega), upd_ne (by omega)]; exact h17
/-- a count, a setting -/
theorem Rl_v {r : rB} {s : Nat → Int32} (h : Rl r s) (b i p : Nat) (v : Int32) (hb : (b = 11 ∧ i < 3 ∧ p = i) ∨ (b = 12 ∧ i = 0 ∧ p = 3) ∨ (b = 12 ∧ i = 1 ∧ p = 4) ∨ (b = 12 ∧ i = 2 ∧ p = 5) ∨ (b = 12 ∧ i = 3 ∧ p = 8)) : Rl (bp r b i v) (upd s p v) := by
  obtain ⟨h0, h1, h2, h3, h4, h5, h6, h7, h8, h9, h10, h11, h12, h13, h14, h15, h16, h17⟩ := h
  have key : ∀ (a : Nat) (g : Nat → Nat) (F : Int32 → Int32), a < 11 → (∀ k, k < 6 → 9 ≤ g k) → (∀ k, k < 6 → r a k = F (s (g k))) → ∀ k, k < 6 → bp r b i v a k = F (upd s p v (g k)) := by
    intro a g F ha hg hh k hk
    rw [bp_rw (by omega), upd_ne (by have := hg k hk; omega)]
    exact hh k hk
  refine ⟨key 0 (fun k => 9 + 4 * k + 0) (fun z => z) (by omega) (fun k _ => by omega) h0, key 1 (fun k => 9 + 4 * k + 1) (fun z => z) (by omega) (fun k _ => by omega) h1, key 2 (fun k => 9 + 4 * k + 2) (fun z => z) (by omega) (fun k _ => by omega) h2, key 3 (fun k => 9 + 4 * k + 3) (fun z => z) (by omega) (fun k _ => by omega) h3, key 4 (fun k => 33 + 7 * k + 0) (fun z => z) (by omega) (fun k _ => by omega) h4, key 5 (fun k => 33 + 7 * k + 1) (fun z => z) (by omega) (fun k _ => by omega) h5, key 6 (fun k => 33 + 7 * k + 2) (fun z => z) (by omega) (fun k _ => by omega) h6, key 7 (fun k => 33 + 7 * k + 3) (fun z => z - 1) (by omega) (fun k _ => by omega) h7, key 8 (fun k => 33 + 7 * k + 4) (fun z => z) (by omega) (fun k _ => by omega) h8, key 9 (fun k => 33 + 7 * k + 5) (fun z => z) (by omega) (fun k _ => by omega) h9, key 10 (fun k => 33 + 7 * k + 6) (fun z => z) (by omega) (fun k _ => by omega) h10, ?_, ?_, ?_, ?_, ?_, ?_, ?_⟩
  · intro k hk
    by_cases e : b = 11 ∧ k = i
    · obtain ⟨e1, e2⟩ := e
      subst e1; subst e2
      have : p = k := by omega
      subst this
      rw [bp_eq, upd_eq]
    · rw [upd_ne (by omega)]
      by_cases e1 : b = 11
      · subst e1; rw [bp_ne (fun e2 => e ⟨rfl, e2⟩)]; exact h11 k hk
      · rw [bp_rw (fun e2 => e1 e2.symm)]; exact h11 k hk
  · by_cases e : b = 12 ∧ i = 0
    · obtain ⟨e1, e2⟩ := e
      subst e1; subst e2
      have : p = 3 := by omega
      subst this
      rw [bp_eq, upd_eq]
    · rw [upd_ne (by omega)]
      by_cases e1 : b = 12
      · subst e1; rw [bp_ne (by omega)]; exact h12
      · rw [bp_rw (fun e2 => e1 e2.symm)]; exact h12
  · by_cases e : b = 12 ∧ i = 1
    · obtain ⟨e1, e2⟩ := e
      subst e1; subst e2
      have : p = 4 := by omega
      subst this
      rw [bp_eq, upd_eq]
    · rw [upd_ne (by omega)]
      by_cases e1 : b = 12
      · subst e1; rw [bp_ne (by omega)]; exact h13
      · rw [bp_rw (fun e2 => e1 e2.symm)]; exact h13
  · by_cases e : b = 12 ∧ i = 2
    · obtain ⟨e1, e2⟩ := e
      subst e1; subst e2
      have : p = 5 := by omega
      subst this
      rw [bp_eq, upd_eq]
    · rw [upd_ne (by omega)]
      by_cases e1 : b = 12
      · subst e1; rw [bp_ne (by omega)]; exact h14
      · rw [bp_rw (fun e2 => e1 e2.symm)]; exact h14
  · by_cases e : b = 12 ∧ i = 3
    · obtain ⟨e1, e2⟩ := e
      subst e1; subst e2
      have : p = 8 := by omega
      subst this
      rw [bp_eq, upd_eq]
    · rw [upd_ne (by omega)]
      by_cases e1 : b = 12
      · subst e1; rw [bp_ne (by omega)]; exact h15
      · rw [bp_rw (fun e2 => e1 e2.symm)]; exact h15
  · rw [bpr (by omega), upd_ne (by omega)]; exact h16
  · rw [bpr (by omega), upd_ne (by omega)]; exact h17
theorem Rl_sum {r : rB} {s : Nat → Int32} (h : Rl r s) {i b p t : Nat} (hi : i < 6) (hb : (b = 9 ∧ p = 33 + 7 * i + 5 ∧ t = 7) ∨ (b = 10 ∧ p = 33 + 7 * i + 6 ∧ t = 6)) (y : Int32) : Rl (bp r b i (r b i + y)) (upd (upd s p (s p + y)) t (s t + y)) := by
  obtain ⟨h0, h1, h2, h3, h4, h5, h6, h7, h8, h9, h10, h11, h12, h13, h14, h15, h16, h17⟩ := h
  have ep : r b i = s p := by
    rcases hb with ⟨e1, e2, _⟩ | ⟨e1, e2, _⟩
    · rw [e1, e2]; exact h9 i hi
    · rw [e1, e2]; exact h10 i hi
  have key : ∀ (a : Nat) (g : Nat → Nat) (F : Int32 → Int32), (∀ k, k < 6 → g k ≠ t) → (∀ k, k < 6 → g k = p → (a = b ∧ k = i)) → (a = b → g i = p) → (a = b → F = fun z => z) → (∀ k, k < 6 → r a k = F (s (g k))) → ∀ k, k < 6 → bp r b i (r b i + y) a k = F (upd (upd s p (s p + y)) t (s t + y) (g k)) := by
    intro a g F hgt hp hg hF hh k hk
    rw [upd_ne (hgt k hk)]
    refine rel_row (F := F) hp hg (fun e => ?_) hh k hk
    rw [hF e, ep]
  refine ⟨key 0 (fun k => 9 + 4 * k + 0) (fun z => z) ?_ ?_ ?_ ?_ h0, key 1 (fun k => 9 + 4 * k + 1) (fun z => z) ?_ ?_ ?_ ?_ h1, key 2 (fun k => 9 + 4 * k + 2) (fun z => z) ?_ ?_ ?_ ?_ h2, key 3 (fun k => 9 + 4 * k + 3) (fun z => z) ?_ ?_ ?_ ?_ h3, key 4 (fun k => 33 + 7 * k + 0) (fun z => z) ?_ ?_ ?_ ?_ h4, key 5 (fun k => 33 + 7 * k + 1) (fun z => z) ?_ ?_ ?_ ?_ h5, key 6 (fun k => 33 + 7 * k + 2) (fun z => z) ?_ ?_ ?_ ?_ h6, key 7 (fun k => 33 + 7 * k + 3) (fun z => z - 1) ?_ ?_ ?_ ?_ h7, key 8 (fun k => 33 + 7 * k + 4) (fun z => z) ?_ ?_ ?_ ?_ h8, key 9 (fun k => 33 + 7 * k + 5) (fun z => z) ?_ ?_ ?_ ?_ h9, key 10 (fun k => 33 + 7 * k + 6) (fun z => z) ?_ ?_ ?_ ?_ h10, ?_, ?_, ?_, ?_, ?_, ?_, ?_⟩
  all_goals first
    | (intro k hk; show _ ≠ _; omega)
    | (intro k hk hkp; dsimp only at hkp; omega)
    | (intro e; first | rfl | (dsimp only; omega) | omega)
    | skip
  · intro k hk; rw [bp_rw (by omega), upd_ne (by omega), upd_ne (by omega)]; exact h11 k hk
  · rw [bp_rw (by omega), upd_ne (by omega), upd_ne (by omega)]; exact h12
  · rw [bp_rw (by omega), upd_ne (by omega), upd_ne (by omega)]; exact h13
  · rw [bp_rw (by omega), upd_ne (by omega), upd_ne (by omega)]; exact h14
  · rw [bp_rw (by omega), upd_ne (by omega), upd_ne (by omega)]; exact h15
  · rcases hb with ⟨e1, e2, e3⟩ | ⟨e1, e2, e3⟩
    · subst e1; subst e3; rw [bpr (by omega), upd_ne (by omega), upd_ne (by omega)]; exact h16
    · subst e1; subst e3; rw [bpk, upd_eq, smI_upd hi, h16]; grind
  · rcases hb with ⟨e1, e2, e3⟩ | ⟨e1, e2, e3⟩
    · subst e1; subst e3; rw [bpk, upd_eq, smI_upd hi, h17]; grind
    · subst e1; subst e3; rw [bpr (by omega), upd_ne (by omega), upd_ne (by omega)]; exact h17
/-- the numbers that are set are in their ranges -/
def Cf (r : rB) : Prop := (∀ i, i < 6 → (∃ n, n ≤ 200 ∧ r 0 i = nI n) ∧ (∃ n, n ≤ 9 ∧ r 1 i = nI n) ∧ (∃ n, n < 6 ∧ r 2 i = nI n) ∧ (∃ n, 1 ≤ n ∧ n ≤ 500 ∧ r 4 i = nI n) ∧ (∃ n, n ≤ 99 ∧ r 5 i = nI n) ∧ (∃ n, n ≤ 100 ∧ r 6 i = nI n) ∧ (r 7 i = -1 ∨ ∃ n, n < 6 ∧ r 7 i = nI n)) ∧ (∃ n, n ≤ 600 ∧ r 11 0 = nI n) ∧ (∃ n, n ≤ 50 ∧ r 11 1 = nI n) ∧ (∃ n, n ≤ 99 ∧ r 11 2 = nI n)
/-- the rows that a minute writes -/
def wr5 (k : Nat) : Prop := k ≠ 3 ∧ k ≠ 8 ∧ k ≠ 9 ∧ k ≠ 10 ∧ k ≠ 12
theorem wet_ne {r : rB} {i k : Nat} {x : Int32} (h : wr5 k) : wet r i x k = r k := by
  obtain ⟨h1, h2, h3, h4, h5⟩ := h
  unfold wet
  split
  · rw [bpr h1, bpr h1, bpr h5]
  · rw [bpr h2, bpr h1, bpr h1, bpr h5]
theorem drStep_ne {r : rB} {i k : Nat} {x : Int32} (h : wr5 k) : drStep r x i k = r k := by
  obtain ⟨h1, h2, h3, h4, h5⟩ := h
  unfold drStep
  rw [bpr h4, bpr h2]
theorem ovf_ne {r : rB} {i k : Nat} (h : wr5 k) : ovf r i k = r k := by
  obtain ⟨h1, h2, h3, h4, h5⟩ := h
  unfold ovf
  split
  · split
    · rw [bpr h3, bpr h2]
    · rw [bpr h2, bpr h2]
  · rfl
theorem wetAll_ne {k : Nat} (h : wr5 k) : ∀ (n i : Nat) (r : rB) (x : Int32), wetAll n i r x k = r k
  | 0, _, _, _ => rfl
  | n + 1, i, r, x => (wetAll_ne h n (i + 1) _ x).trans (wet_ne h)
theorem drL_ne {k : Nat} (h : wr5 k) : ∀ (n i : Nat) (r : rB) (l b : Int32), (drL n i r l b).1 k = r k
  | 0, _, _, _, _ => rfl
  | n + 1, i, r, l, b => (drL_ne h n (i + 1) _ _ _).trans (drStep_ne h)
theorem emptyD_ne {k : Nat} {r : rB} (h : wr5 k) : emptyD r k = r k := by
  unfold emptyD
  split
  · exact drL_ne h 6 0 r _ _
  · rw [bpr h.2.2.2.2]; exact drL_ne h 6 0 r _ _
theorem ovfAll_ne {k : Nat} (h : wr5 k) : ∀ (n i : Nat) (r : rB), ovfAll n i r k = r k
  | 0, _, _ => rfl
  | n + 1, i, r => (ovfAll_ne h n (i + 1) _).trans (ovf_ne h)
theorem minuteC_ne {k : Nat} {r : rB} {x : Int32} (h : wr5 k) : minuteC r x k = r k := by
  unfold minuteC
  rw [bpr h.2.2.2.2, ovfAll_ne h, emptyD_ne h, wetAll_ne h]
theorem minutesC_ne {k : Nat} (h : wr5 k) : ∀ (n : Nat) (r : rB) (x : Int32), minutesC n r x k = r k
  | 0, _, _ => rfl
  | n + 1, r, x => (minutesC_ne h n _ x).trans (minuteC_ne h)
theorem Cf_of {r q : rB} (h : ∀ k, wr5 k → q k = r k) (hc : Cf r) : Cf q := by
  have e0 := h 0 ⟨by decide, by decide, by decide, by decide, by decide⟩
  have e1 := h 1 ⟨by decide, by decide, by decide, by decide, by decide⟩
  have e2 := h 2 ⟨by decide, by decide, by decide, by decide, by decide⟩
  have e4 := h 4 ⟨by decide, by decide, by decide, by decide, by decide⟩
  have e5 := h 5 ⟨by decide, by decide, by decide, by decide, by decide⟩
  have e6 := h 6 ⟨by decide, by decide, by decide, by decide, by decide⟩
  have e7 := h 7 ⟨by decide, by decide, by decide, by decide, by decide⟩
  have e11 := h 11 ⟨by decide, by decide, by decide, by decide, by decide⟩
  unfold Cf
  rw [e0, e1, e2, e4, e5, e6, e7, e11]
  exact hc
theorem Cf_wet {r : rB} {i : Nat} {x : Int32} (h : Cf r) : Cf (wet r i x) := Cf_of (fun _ hk => wet_ne hk) h
theorem Cf_dr {r : rB} {i : Nat} {x : Int32} (h : Cf r) : Cf (drStep r x i) := Cf_of (fun _ hk => drStep_ne hk) h
theorem Cf_ovf {r : rB} {i : Nat} (h : Cf r) : Cf (ovf r i) := Cf_of (fun _ hk => ovf_ne hk) h
theorem Cf_min {r : rB} {x : Int32} (h : Cf r) : Cf (minuteC r x) := Cf_of (fun _ hk => minuteC_ne hk) h
theorem Cf_mins {r : rB} {x : Int32} {n : Nat} (h : Cf r) : Cf (minutesC n r x) := Cf_of (fun _ hk => minutesC_ne hk n r x) h
theorem zL_nI {j : Nat} (h : j < 6) : ¬ zL (nI j) 6 = 0 := zL_ok (n := 6) rfl (by decide) h
theorem zL_m1 : zL (-1) 6 = 0 := by decide
/-- water comes to a plane -/
theorem Rl_wet {r m : rB} {i : Nat} {y : Int32} (h : Rl r (m 0)) (hi : i < 6) (hc : Cf r) : Rl (wet r i y) (sndM m i y 0) := by
  obtain ⟨j, hj, ej⟩ := (hc.1 i hi).2.2.1
  have h0 := h.1 i hi
  have h1 := h.2.1 i hi
  have h2 := h.2.2.1 i hi
  have h3 := h.2.2.2.1 i hi
  have h8 := h.2.2.2.2.2.2.2.2.1 j hj
  have h14 := h.2.2.2.2.2.2.2.2.2.2.2.2.2.2.1
  have em : m 0 (9 + 4 * i + 2) = nI j := h2.symm.trans ej
  unfold wet sndM
  dsimp only
  rw [ej, em, if_neg (zL_nI hj), nI_clamp (show j < 2 ^ 31 by omega), ← h0, ← h1, ← h3, ← h14]
  generalize hl : r 0 i * y / 10 = l
  generalize hw : r 3 i + l = w
  generalize hf : (if w * (5 + r 1 i) / 14 = 0 then (if w ≤ 0 then w * (5 + r 1 i) / 14 else 1) else w * (5 + r 1 i) / 14) = g
  rw [bp_bp]
  unfold addM
  rw [bpk, bpk, bpk]
  have k1 : Rl (bp (bp r 12 2 (r 12 2 + l)) 3 i (w - g)) (upd (upd (m 0) 5 (r 12 2 + l)) (9 + 4 * i + 3) (w - g)) :=
    Rl_u (Rl_v h 12 2 5 _ (by omega)) 3 i (9 + 4 * i + 3) _ _ hi (Or.inl ⟨by omega, rfl, rfl⟩)
  refine Rl_u k1 8 j (33 + 7 * j + 4) _ _ hj (Or.inr (Or.inl ⟨by omega, by omega, by omega, by omega, ?_⟩))
  rw [upd_ne (by omega), upd_ne (by omega), h8]
theorem Rl_wetAll {y : Int32} : ∀ (n i : Nat) (r m : rB), i + n ≤ 6 → Rl r (m 0) → Cf r → Rl (wetAll n i r y) (sndAll n i m y 0)
  | 0, _, _, _, _, h, _ => h
  | n + 1, i, r, m, hi, h, hc => Rl_wetAll n (i + 1) _ _ (by omega) (Rl_wet h (by omega) hc) (Cf_wet hc)
theorem mn_eq (x y : Int32) : mn x y = mn2 x y := by
  unfold mn mn2
  by_cases h : y < x
  · rw [if_pos h, if_pos (by rw [Int32.le_iff_toInt_le]; rw [Int32.lt_iff_toInt_lt] at h; omega)]
  · rw [if_neg h]
    by_cases h2 : y ≤ x
    · rw [if_pos h2]
      apply Int32.toInt_inj.mp
      rw [Int32.lt_iff_toInt_lt] at h
      rw [Int32.le_iff_toInt_le] at h2
      omega
    · rw [if_neg h2]
theorem nI_eq0 {n : Nat} (h : n < 2 ^ 31) : (nI n = 0) = (n = 0) := by
  apply propext
  constructor
  · exact nI_inj0 h
  · intro e; subst e; rfl
theorem nI_le0 {n : Nat} (h : n < 2 ^ 31) : (nI n ≤ 0) = (n = 0) := by
  apply propext
  rw [Int32.le_iff_toInt_le, nI_toInt h]
  have : (0 : Int32).toInt = 0 := by decide
  omega
theorem pipe_eq {r m : rB} {i : Nat} (h : Rl r (m 0)) (hi : i < 6) (hc : Cf r) : pipeT r i = takM m i := by
  obtain ⟨n, hn, en⟩ := (hc.1 i hi).2.2.2.2.1
  have h5 := h.2.2.2.2.2.1 i hi
  have h6 := h.2.2.2.2.2.2.1 i hi
  unfold pipeT takM
  dsimp only
  rw [← h5, ← h6, en]
  by_cases h0 : n = 0
  · subst h0
    rw [if_pos (show nI 0 = 0 from rfl), if_pos (show nI 0 ≤ 0 by decide)]
  · rw [if_neg (show ¬ nI n = 0 from fun h => h0 (nI_inj0 (by omega) h)), if_neg (show ¬ nI n ≤ 0 by rw [nI_le0 (show n < 2 ^ 31 by omega)]; exact h0)]
theorem room_eq {r m : rB} {i : Nat} (h : Rl r (m 0)) (hi : i < 6) : roomT r i = roomM m i := by
  unfold roomT roomM
  rw [← h.2.2.2.2.1 i hi, ← h.2.2.2.2.2.2.1 i hi]
theorem dr_eq {r m : rB} {i : Nat} {x : Int32} (h : Rl r (m 0)) (hi : i < 6) (hc : Cf r) : drW r i = drnW m i ∧ drS r i x = drnF m i x := by
  have e : drW r i = drnW m i := by
    unfold drW drnW
    rw [pipe_eq h hi hc, h.2.2.2.2.2.2.2.2.1 i hi, mn_eq]
  refine ⟨e, ?_⟩
  unfold drS drnF
  rw [e, mn_eq]
theorem Rl_dr {r m : rB} {i : Nat} {x : Int32} (h : Rl r (m 0)) (hi : i < 6) (hc : Cf r) : Rl (drStep r x i) (drnStep m x i 0) := by
  have e := (dr_eq (x := x) h hi hc).2
  unfold drStep drnStep
  rw [e]
  generalize drnF m i x = f
  unfold addM
  rw [bpk, bpk, bpk]
  have h8 := h.2.2.2.2.2.2.2.2.1 i hi
  have k1 : Rl (bp r 8 i (r 8 i - f)) (upd (m 0) (33 + 7 * i + 4) (m 0 (33 + 7 * i + 4) + -f)) :=
    Rl_u h 8 i (33 + 7 * i + 4) _ _ hi (Or.inr (Or.inl ⟨by omega, by omega, by omega, by omega, by rw [h8, Int32.sub_eq_add_neg]⟩))
  have k2 := Rl_sum k1 (i := i) (b := 10) (p := 33 + 7 * i + 6) (t := 6) hi (Or.inr ⟨rfl, rfl, rfl⟩) f
  rw [bp_rw (show (10 : Nat) ≠ 8 by decide)] at k2
  rw [upd_ne (show 6 ≠ 33 + 7 * i + 6 by omega)]
  exact k2
theorem Rl_drL : ∀ (n i : Nat) (r m : rB) (l b : Int32), i + n ≤ 6 → Rl r (m 0) → Cf r → Rl (drL n i r l b).1 ((drnL n i m l b).1 0) ∧ (drL n i r l b).2 = (drnL n i m l b).2
  | 0, _, _, _, _, _, _, h, _ => ⟨h, rfl⟩
  | n + 1, i, r, m, l, b, hi, h, hc => by
    have e := dr_eq (x := l) h (show i < 6 by omega) hc
    have k := Rl_drL n (i + 1) (drStep r l i) (drnStep m l i) (l - drS r i l) (if b = 0 then (if drW r i ≤ drS r i l then 0 else 1) else 1) (by omega) (Rl_dr h (by omega) hc) (Cf_dr hc)
    unfold drL drnL
    rw [e.1, e.2] at k ⊢
    exact k
theorem le0_iff (x : Int32) : (0 < x) ↔ ¬ x ≤ 0 := by
  rw [Int32.lt_iff_toInt_lt, Int32.le_iff_toInt_le]
  have : (0 : Int32).toInt = 0 := by decide
  omega
theorem Rl_ovf {r m : rB} {i : Nat} (h : Rl r (m 0)) (hi : i < 6) (hc : Cf r) : Rl (ovf r i) (fovM m i 0) := by
  have h8 := h.2.2.2.2.2.2.2.2.1 i hi
  have h7 := h.2.2.2.2.2.2.2.1 i hi
  have hr := room_eq h hi
  have hv := (hc.1 i hi).2.2.2.2.2.2
  unfold ovf fovM
  dsimp only
  rw [hr, h8]
  generalize hT : m 0 (33 + 7 * i + 4) - roomM m i = o
  have k1 : Rl (bp r 8 i (m 0 (33 + 7 * i + 4) - o)) (upd (m 0) (33 + 7 * i + 4) (m 0 (33 + 7 * i + 4) + -o)) :=
    Rl_u h 8 i (33 + 7 * i + 4) _ _ hi (Or.inr (Or.inl ⟨by omega, by omega, by omega, by omega, by rw [Int32.sub_eq_add_neg]⟩))
  by_cases ho : o ≤ 0
  · rw [if_neg (fun h9 => (le0_iff o).mp h9 ho), if_pos ho]
    exact h
  · rw [if_pos ((le0_iff o).mpr ho), if_neg ho]
    have ev : addM m i 4 (-o) 0 (33 + 7 * i + 3) = m 0 (33 + 7 * i + 3) := addM_ne (by omega)
    have em : m 0 (33 + 7 * i + 3) = r 7 i + 1 := by rw [h7]; simp
    rw [ev, em]
    rcases hv with hv | ⟨j, hj, hv⟩
    · rw [hv, if_pos zL_m1, if_pos (by decide)]
      unfold addM
      rw [bpk, bpk, bpk]
      have k2 := Rl_sum k1 (i := i) (b := 9) (p := 33 + 7 * i + 5) (t := 7) hi (Or.inl ⟨rfl, rfl, rfl⟩) o
      rw [bp_rw (show (9 : Nat) ≠ 8 by decide)] at k2
      rw [upd_ne (show 7 ≠ 33 + 7 * i + 5 by omega)]
      exact k2
    · have ej : nI (j + 1) - 1 = nI j := pk_sub (a := j + 1) (b := 1) (by omega)
      rw [hv, if_neg (zL_nI hj), nI_1, if_neg (by rw [nI_le0 (by omega)]; omega), ej, nI_clamp (show j < 2 ^ 31 by omega)]
      unfold addM
      rw [bpk, bpk]
      refine Rl_u k1 8 j (33 + 7 * j + 4) _ _ hj (Or.inr (Or.inl ⟨by omega, by omega, by omega, by omega, ?_⟩))
      have e8 := k1.2.2.2.2.2.2.2.2.1 j hj
      rw [bpk] at e8
      rw [e8, bpk]
theorem Rl_ovfAll : ∀ (n i : Nat) (r m : rB), i + n ≤ 6 → Rl r (m 0) → Cf r → Rl (ovfAll n i r) (fovAll n i m 0)
  | 0, _, _, _, _, h, _ => h
  | n + 1, i, r, m, hi, h, hc => Rl_ovfAll n (i + 1) _ _ (by omega) (Rl_ovf h (by omega) hc) (Cf_ovf hc)
theorem drnL_8 : ∀ (n i : Nat) (m : rB) (l b : Int32), (drnL n i m l b).1 0 8 = m 0 8
  | 0, _, _, _, _ => rfl
  | n + 1, i, m, l, b => (drnL_8 n (i + 1) _ _ _).trans ((bp_ne (by omega)).trans ((addM_ne (by omega)).trans (addM_ne (by omega))))
theorem Rl_min {r m : rB} {y : Int32} (h : Rl r (m 0)) (hc : Cf r) : Rl (minuteC r y) (minM m y 0) := by
  have k1 := Rl_wetAll (y := y) 6 0 r m (by omega) h hc
  have c1 : Cf (wetAll 6 0 r y) := Cf_of (fun _ hk => wetAll_ne hk 6 0 r y) hc
  have e11 : wetAll 6 0 r y 11 0 = sndAll 6 0 m y 0 0 := k1.2.2.2.2.2.2.2.2.2.2.2.1 0 (by omega)
  have k2 := Rl_drL 6 0 (wetAll 6 0 r y) (sndAll 6 0 m y) (wetAll 6 0 r y 11 0) 0 (by omega) k1 c1
  have c2 : Cf (drL 6 0 (wetAll 6 0 r y) (wetAll 6 0 r y 11 0) 0).1 := Cf_of (fun _ hk => drL_ne hk 6 0 _ _ _) c1
  have e8 : sndAll 6 0 m y 0 8 = (drnL 6 0 (sndAll 6 0 m y) (wetAll 6 0 r y 11 0) 0).1 0 8 := (drnL_8 6 0 _ _ _).symm
  have k3 : Rl (emptyD (wetAll 6 0 r y)) (minA m y 0) := by
    unfold emptyD minA
    rw [← e11, k2.2, e8]
    by_cases hb : (drnL 6 0 (sndAll 6 0 m y) (wetAll 6 0 r y 11 0) 0).2 = 0
    · rw [if_pos hb, if_pos hb, bpk, upd_self (by simp)]
      exact k2.1
    · rw [if_neg hb, if_neg hb, bpk]
      have h15 := k2.1.2.2.2.2.2.2.2.2.2.2.2.2.2.2.2.1
      rw [h15]
      exact Rl_v k2.1 12 3 8 _ (by omega)
  have c3 : Cf (emptyD (wetAll 6 0 r y)) := Cf_of (fun _ hk => emptyD_ne hk) c1
  have k4 := Rl_ovfAll 6 0 _ (minA m y) (by omega) k3 c3
  unfold minuteC minM
  rw [bpk]
  have h12 := k4.2.2.2.2.2.2.2.2.2.2.2.2.1
  rw [h12]
  exact Rl_v k4 12 0 3 _ (by omega)
theorem Rl_mins {y : Int32} : ∀ (n : Nat) (r m : rB), Rl r (m 0) → Cf r → Rl (minutesC n r y) (minsM n m y 0)
  | 0, _, _, h, _ => h
  | n + 1, r, m, h, hc => Rl_mins n _ _ (Rl_min h hc) (Cf_min hc)
theorem mn100 (x : Int32) : mn 100 x = if x ≤ 100 then x else 100 := by
  rw [mn_eq]; rfl
theorem Rl_weekL : ∀ (n i : Nat) (r m : rB), i + n ≤ 6 → Rl r (m 0) → Rl (weekL n i r) (wkL n i m 0)
  | 0, _, _, _, _, h => h
  | n + 1, i, r, m, hi, h => by
    unfold weekL wkL
    refine Rl_weekL n (i + 1) _ _ (by omega) ?_
    rw [bpk]
    refine Rl_u h 6 i (33 + 7 * i + 2) _ _ (by omega) (Or.inr (Or.inl ⟨by omega, by omega, by omega, by omega, ?_⟩))
    have h6 := h.2.2.2.2.2.2.1 i (by omega)
    have h11 := h.2.2.2.2.2.2.2.2.2.2.2.1 1 (by omega)
    rw [mn100, h6, h11]
theorem Rl_week {r m : rB} (h : Rl r (m 0)) : Rl (weekC r) (weekM m 0) := by
  have k := Rl_weekL 6 0 r m (by omega) h
  unfold weekC weekM
  rw [bpk, k.2.2.2.2.2.2.2.2.2.2.2.2.2.1]
  exact Rl_v k 12 1 4 _ (by omega)
theorem Rl_wks : ∀ (n : Nat) (r m : rB), Rl r (m 0) → Rl (wksC n r) (wksM n m 0)
  | 0, _, _, h => h
  | n + 1, r, m, h => Rl_wks n _ _ (Rl_week h)
/-- the sums -/
theorem Rl_lv {r m : rB} (h : Rl r (m 0)) : smI (r 6) 6 0 0 = lvM m 6 0 0 := by
  have h6 := h.2.2.2.2.2.2.1
  rw [smI6, h6 0 (by omega), h6 1 (by omega), h6 2 (by omega), h6 3 (by omega), h6 4 (by omega), h6 5 (by omega)]
  rfl
theorem Rl_st {r m : rB} (h : Rl r (m 0)) : standC r = stM m 6 0 0 := by
  have h3 := h.2.2.2.1
  have h8 := h.2.2.2.2.2.2.2.2.1
  unfold standC
  rw [smI6, smI6, h3 0 (by omega), h3 1 (by omega), h3 2 (by omega), h3 3 (by omega), h3 4 (by omega), h3 5 (by omega), h8 0 (by omega), h8 1 (by omega), h8 2 (by omega), h8 3 (by omega), h8 4 (by omega), h8 5 (by omega)]
  show _ = 0 + (_ + _) + (_ + _) + (_ + _) + (_ + _) + (_ + _) + (_ + _)
  grind
