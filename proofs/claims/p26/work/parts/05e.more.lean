/-- a whole row put -/
def sr (r : rB) (k : Nat) (f : Nat → Int32) : rB := fun a => if a = k then f else r a
theorem sr_eq {r : rB} {k : Nat} {f : Nat → Int32} : sr r k f k = f := by simp [sr]
theorem sr_ne {r : rB} {k a : Nat} {f : Nat → Int32} (h : a ≠ k) : sr r k f a = r a := by simp [sr, h]

theorem arrV_cong {cA : ClassId} {n : Nat} {f g : Nat → Value} (h : ∀ j, j < n → f j = g j) : arrV cA n f = arrV cA n g := by
  unfold arrV
  congr 1
  apply Array.ext
  · simp
  · intro i h1 h2
    simp only [Array.getElem_ofFn]
    exact h i (by simpa using h1)
theorem P_arr {D : va_G} {cl : List vw_C} {ws ws' : va_W} {H : Heap} {A : Nat → Prop} (hP : va_P D cl ws H) (hD : va_D A ws) (q0 : Nat) {a : Nat} {cA : ClassId} {n : Nat} {f : Nat → Int32} (g : Nat → Int32) (ha : ws[q0]? = some (a, .inl (cA, n, .inl f))) (h : ∀ j, j < n → f j = g j) (hw : ws.set q0 (a, .inl (cA, n, .inl g)) = ws') : va_P D cl ws' H ∧ va_D A ws' := by
  subst hw
  have h1 : H[a]? = some (vp_cell cA (n, .inl f)) := hP q0 _ ha
  refine ⟨fun k q hk => ?_, hD.set ha⟩
  by_cases hkq : k = q0
  · subst hkq
    rw [List.getElem?_set_self (List.getElem?_eq_some_iff.mp ha).1] at hk
    cases hk
    show H[a]? = some (vp_cell cA (n, .inl g))
    rw [h1, vp_cell_i, vp_cell_i, arrV_cong (fun j hj => congrArg Value.int (h j hj))]
  · rw [List.getElem?_set_ne (Ne.symm hkq)] at hk
    exact hP k q hk
theorem g_nI {x : Int32} {n : Nat} (h : x + 1 = nI (n + 1)) : x = nI n := by
  have := nI_succ n
  rw [this] at h
  have h3 := congrArg (fun z => z - 1) h
  simpa using h3
theorem g_m1 {x : Int32} (h : x + 1 = nI 0) : x = -1 := by
  have h2 : x + 1 = -1 + 1 := h.trans (by decide)
  have h3 := congrArg (fun z => z - 1) h2
  simpa using h3
theorem zW_ex {q N : Int32} {n : Nat} (hN : N + 1 = nI n) (hn : decide (n < 2 ^ 31) = true) (h : ¬ zW q 0 N = 0) : ∃ i, i < n ∧ q = nI i := by
  have hn := of_decide_eq_true hn
  unfold zW at h
  by_cases h1 : q < 0
  · rw [if_pos h1] at h; exact absurd rfl h
  · rw [if_neg h1] at h
    by_cases h2 : N < q
    · rw [if_pos h2] at h; exact absurd rfl h
    · rcases pk_ix q hn with h3 | h3 | ⟨j, hj, rfl⟩
      · exact absurd h3 h1
      · rcases Nat.eq_zero_or_pos n with hz | hz
        · subst hz
          have e : N = -1 := g_m1 hN
          subst e
          exact absurd (by
            rw [Int32.lt_iff_toInt_lt]
            rw [Int32.le_iff_toInt_le] at h3
            have : (nI 0).toInt = 0 := by decide
            have h5 : (-1 : Int32).toInt = -1 := by decide
            omega) h2
        · obtain ⟨k, rfl⟩ : ∃ k, n = k + 1 := ⟨n - 1, by omega⟩
          have e : N = nI k := g_nI hN
          subst e
          exact absurd (by
            rw [Int32.lt_iff_toInt_lt, nI_toInt (by omega)]
            rw [Int32.le_iff_toInt_le, nI_toInt (by omega)] at h3
            omega) h2
      · exact ⟨j, hj, rfl⟩
