/-! the roof: numbers in their ranges, water kept, no ring of valleys -/
theorem bpr {r : rB} {k i a : Nat} {x : Int32} (h : a ≠ k) : bp r k i x a = r a := if_neg h
theorem bpk {r : rB} {k i : Nat} {x : Int32} : bp r k i x k = upd (r k) i x := if_pos rfl
theorem nI_nm1 {i : Nat} (h : i < 2 ^ 31) : ¬ nI i = -1 := by
  intro h2
  have h3 := nI_toInt h
  rw [h2] at h3
  have h5 : (-1 : Int32).toInt = -1 := by decide
  omega

theorem zW_b {q : Int32} {a b : Nat} (ha : a < 2 ^ 31) (hb : b < 2 ^ 31) (h : ¬ zW q (nI a) (nI b) = 0) : ∃ j, a ≤ j ∧ j ≤ b ∧ q = nI j := by
  unfold zW at h
  by_cases h1 : q < nI a
  · rw [if_pos h1] at h; exact absurd rfl h
  · rw [if_neg h1] at h
    by_cases h2 : nI b < q
    · rw [if_pos h2] at h; exact absurd rfl h
    · rw [Int32.lt_iff_toInt_lt, nI_toInt ha] at h1
      rw [Int32.lt_iff_toInt_lt, nI_toInt hb] at h2
      refine ⟨q.toInt.toNat, by omega, by omega, ?_⟩
      apply Int32.toInt_inj.mp
      rw [nI_toInt (by omega)]
      omega
theorem upd_ne {f : Nat → Int32} {k j : Nat} {x : Int32} (h : j ≠ k) : upd f k x j = f j := if_neg h
theorem upd_eq {f : Nat → Int32} {k : Nat} {x : Int32} : upd f k x k = x := if_pos rfl
theorem upd_upd {f : Nat → Int32} {k : Nat} {x y : Int32} : upd (upd f k x) k y = upd f k y := by
  funext j
  by_cases h : j = k
  · subst h; rw [upd_eq, upd_eq]
  · rw [upd_ne h, upd_ne h, upd_ne h]
theorem bp_bp {r : rB} {k i : Nat} {x y : Int32} : bp (bp r k i x) k i y = bp r k i y := by
  funext a
  by_cases h : a = k
  · subst h; rw [bpk, bpk, bpk, upd_upd]
  · rw [bpr h, bpr h, bpr h]
theorem smI6 (f : Nat → Int32) : smI f 6 0 0 = 0 + f 0 + f 1 + f 2 + f 3 + f 4 + f 5 := rfl
/-- the numbers that are set are in their ranges -/
def Cf (r : rB) : Prop := (∀ i, i < 6 → (∃ n, n ≤ 200 ∧ r 0 i = nI n) ∧ (∃ n, n ≤ 9 ∧ r 1 i = nI n) ∧ (∃ n, n < 6 ∧ r 2 i = nI n) ∧ (∃ n, 1 ≤ n ∧ n ≤ 500 ∧ r 4 i = nI n) ∧ (∃ n, n ≤ 99 ∧ r 5 i = nI n) ∧ (∃ n, n ≤ 100 ∧ r 6 i = nI n) ∧ (r 7 i = -1 ∨ ∃ n, n < 6 ∧ r 7 i = nI n)) ∧ (∃ n, n ≤ 600 ∧ r 11 0 = nI n) ∧ (∃ n, n ≤ 50 ∧ r 11 1 = nI n) ∧ (∃ n, n ≤ 99 ∧ r 11 2 = nI n)
/-- the rows that a minute writes -/
def wr5 (k : Nat) : Prop := k ≠ 3 ∧ k ≠ 8 ∧ k ≠ 9 ∧ k ≠ 10 ∧ k ≠ 12
theorem wet_ne {r : rB} {i k : Nat} {x : Int32} (h : wr5 k) : wet r i x k = r k := by
  obtain ⟨h1, h2, h3, h4, h5⟩ := h
  unfold wet
  split
  · rw [bpr h1, bpr h1, bpr h5]
  · rw [bpr h2, bpr h1, bpr h1, bpr h5]
theorem drStep_ne {r : rB} {i k : Nat} {x : Int32} (h : wr5 k) : drStep r x i k = r k := by
  obtain ⟨h1, h2, h3, h4, h5⟩ := h
  unfold drStep
  rw [bpr h4, bpr h2]
theorem ovf_ne {r : rB} {i k : Nat} (h : wr5 k) : ovf r i k = r k := by
  obtain ⟨h1, h2, h3, h4, h5⟩ := h
  unfold ovf
  split
  · split
    · rw [bpr h3, bpr h2]
    · rw [bpr h2, bpr h2]
  · rfl
theorem wetAll_ne {k : Nat} (h : wr5 k) : ∀ (n i : Nat) (r : rB) (x : Int32), wetAll n i r x k = r k
  | 0, _, _, _ => rfl
  | n + 1, i, r, x => (wetAll_ne h n (i + 1) _ x).trans (wet_ne h)
theorem drL_ne {k : Nat} (h : wr5 k) : ∀ (n i : Nat) (r : rB) (l b : Int32), (drL n i r l b).1 k = r k
  | 0, _, _, _, _ => rfl
  | n + 1, i, r, l, b => (drL_ne h n (i + 1) _ _ _).trans (drStep_ne h)
theorem emptyD_ne {k : Nat} {r : rB} (h : wr5 k) : emptyD r k = r k := by
  unfold emptyD
  split
  · exact drL_ne h 6 0 r _ _
  · rw [bpr h.2.2.2.2]; exact drL_ne h 6 0 r _ _
theorem ovfAll_ne {k : Nat} (h : wr5 k) : ∀ (n i : Nat) (r : rB), ovfAll n i r k = r k
  | 0, _, _ => rfl
  | n + 1, i, r => (ovfAll_ne h n (i + 1) _).trans (ovf_ne h)
theorem minuteC_ne {k : Nat} {r : rB} {x : Int32} (h : wr5 k) : minuteC r x k = r k := by
  unfold minuteC
  rw [bpr h.2.2.2.2, ovfAll_ne h, emptyD_ne h, wetAll_ne h]
theorem minutesC_ne {k : Nat} (h : wr5 k) : ∀ (n : Nat) (r : rB) (x : Int32), minutesC n r x k = r k
  | 0, _, _ => rfl
  | n + 1, r, x => (minutesC_ne h n _ x).trans (minuteC_ne h)
theorem Cf_of {r q : rB} (h : ∀ k, wr5 k → q k = r k) (hc : Cf r) : Cf q := by
  have e0 := h 0 ⟨by decide, by decide, by decide, by decide, by decide⟩
  have e1 := h 1 ⟨by decide, by decide, by decide, by decide, by decide⟩
  have e2 := h 2 ⟨by decide, by decide, by decide, by decide, by decide⟩
  have e4 := h 4 ⟨by decide, by decide, by decide, by decide, by decide⟩
  have e5 := h 5 ⟨by decide, by decide, by decide, by decide, by decide⟩
  have e6 := h 6 ⟨by decide, by decide, by decide, by decide, by decide⟩
  have e7 := h 7 ⟨by decide, by decide, by decide, by decide, by decide⟩
  have e11 := h 11 ⟨by decide, by decide, by decide, by decide, by decide⟩
  unfold Cf
  rw [e0, e1, e2, e4, e5, e6, e7, e11]
  exact hc
theorem Cf_wet {r : rB} {i : Nat} {x : Int32} (h : Cf r) : Cf (wet r i x) := Cf_of (fun _ hk => wet_ne hk) h
theorem Cf_dr {r : rB} {i : Nat} {x : Int32} (h : Cf r) : Cf (drStep r x i) := Cf_of (fun _ hk => drStep_ne hk) h
theorem Cf_ovf {r : rB} {i : Nat} (h : Cf r) : Cf (ovf r i) := Cf_of (fun _ hk => ovf_ne hk) h
theorem Cf_min {r : rB} {x : Int32} (h : Cf r) : Cf (minuteC r x) := Cf_of (fun _ hk => minuteC_ne hk) h
theorem Cf_mins {r : rB} {x : Int32} {n : Nat} (h : Cf r) : Cf (minutesC n r x) := Cf_of (fun _ hk => minutesC_ne hk n r x) h
theorem zL_nI {j : Nat} (h : j < 6) : ¬ zL (nI j) 6 = 0 := zL_ok (n := 6) rfl (by decide) h
theorem zL_m1 : zL (-1) 6 = 0 := by decide
theorem nI_eq0 {n : Nat} (h : n < 2 ^ 31) : (nI n = 0) = (n = 0) := by
  apply propext
  constructor
  · exact nI_inj0 h
  · intro e; subst e; rfl
theorem nI_le0 {n : Nat} (h : n < 2 ^ 31) : (nI n ≤ 0) = (n = 0) := by
  apply propext
  rw [Int32.le_iff_toInt_le, nI_toInt h]
  have : (0 : Int32).toInt = 0 := by decide
  omega
theorem i_add {a b : Int32} (h1 : -2147483648 ≤ a.toInt + b.toInt) (h2 : a.toInt + b.toInt < 2147483648) : (a + b).toInt = a.toInt + b.toInt := by
  rw [Int32.toInt_add]
  exact Int.bmod_eq_of_le (by omega) (by omega)
theorem i_sub {a b : Int32} (h1 : -2147483648 ≤ a.toInt - b.toInt) (h2 : a.toInt - b.toInt < 2147483648) : (a - b).toInt = a.toInt - b.toInt := by
  rw [Int32.toInt_sub]
  exact Int.bmod_eq_of_le (by omega) (by omega)
theorem nn_of {x : Int32} (h : 0 ≤ x.toInt) : ∃ n : Nat, n < 2 ^ 31 ∧ x = nI n ∧ x.toInt = (n : Int) := by
  have h2 := x.toInt_lt
  refine ⟨x.toInt.toNat, by omega, ?_, by omega⟩
  apply Int32.toInt_inj.mp
  rw [nI_toInt (by omega)]
  omega
def Nn (f : Nat → Int32) : Prop := ∀ i, i < 6 → 0 ≤ (f i).toInt
def S6 (f : Nat → Int32) : Int := (f 0).toInt + (f 1).toInt + (f 2).toInt + (f 3).toInt + (f 4).toInt + (f 5).toInt
theorem S6_upd {f : Nat → Int32} {i : Nat} {v : Int32} (hi : i < 6) : S6 (upd f i v) = S6 f + v.toInt - (f i).toInt := by
  have h : i = 0 ∨ i = 1 ∨ i = 2 ∨ i = 3 ∨ i = 4 ∨ i = 5 := by omega
  unfold S6
  rcases h with rfl | rfl | rfl | rfl | rfl | rfl <;> simp [upd] <;> omega
theorem Nn_upd {f : Nat → Int32} {i : Nat} {v : Int32} (h : Nn f) (hv : 0 ≤ v.toInt) : Nn (upd f i v) := by
  intro k hk
  by_cases e : k = i
  · subst e; rw [upd_eq]; exact hv
  · rw [upd_ne e]; exact h k hk
theorem S6_ge {f : Nat → Int32} (h : Nn f) {i : Nat} (hi : i < 6) : (f i).toInt ≤ S6 f ∧ 0 ≤ S6 f := by
  have a0 := h 0 (by omega)
  have a1 := h 1 (by omega)
  have a2 := h 2 (by omega)
  have a3 := h 3 (by omega)
  have a4 := h 4 (by omega)
  have a5 := h 5 (by omega)
  have hh : i = 0 ∨ i = 1 ∨ i = 2 ∨ i = 3 ∨ i = 4 ∨ i = 5 := by omega
  unfold S6
  rcases hh with rfl | rfl | rfl | rfl | rfl | rfl <;> omega
def Gw (K : Int) (r : rB) : Prop := Nn (r 3) ∧ Nn (r 8) ∧ Nn (r 9) ∧ Nn (r 10) ∧ S6 (r 3) + S6 (r 8) + S6 (r 9) + S6 (r 10) = (r 12 2).toInt ∧ (r 12 2).toInt ≤ K ∧ ∀ i, i < 6 → (r 3 i).toInt ≤ 6000
theorem Gw.mono {K J : Int} {r : rB} (h : Gw K r) (hk : K ≤ J) : Gw J r := ⟨h.1, h.2.1, h.2.2.1, h.2.2.2.1, h.2.2.2.2.1, by have := h.2.2.2.2.2.1; omega, h.2.2.2.2.2.2⟩
/-- each is no more than all -/
theorem Gw.le {K : Int} {r : rB} (h : Gw K r) {i : Nat} (hi : i < 6) : (r 3 i).toInt ≤ K ∧ (r 8 i).toInt ≤ K ∧ (r 9 i).toInt ≤ K ∧ (r 10 i).toInt ≤ K ∧ S6 (r 9) ≤ K ∧ S6 (r 10) ≤ (r 12 2).toInt ∧ S6 (r 3) + S6 (r 8) ≤ K := by
  obtain ⟨h1, h2, h3, h4, h5, h6, -⟩ := h
  have a := S6_ge h1 hi
  have b := S6_ge h2 hi
  have c := S6_ge h3 hi
  have d := S6_ge h4 hi
  omega
/-- the spilt only grows -/
def Mo (r q : rB) : Prop := ∀ k, k < 6 → (r 9 k).toInt ≤ (q 9 k).toInt
theorem Mo.rf {r : rB} : Mo r r := fun _ _ => Int.le_refl _
theorem Mo.tr {r q t : rB} (h : Mo r q) (h2 : Mo q t) : Mo r t := fun k hk => Int.le_trans (h k hk) (h2 k hk)
theorem Mo_of {r q : rB} (h : q 9 = r 9) : Mo r q := fun k _ => by rw [h]; exact Int.le_refl _
theorem Gw_wet {K : Int} {r : rB} {i : Nat} {x : Int32} (hc : Cf r) (h : Gw K r) (hK : K ≤ 2000000000) (hi : i < 6) (hx : ∃ n, n ≤ 99 ∧ x = nI n) : Gw (K + 1980) (wet r i x) ∧ wet r i x 9 = r 9 := by
  obtain ⟨xn, hxn, rfl⟩ := hx
  obtain ⟨⟨an, han, ea⟩, ⟨sn, hsn, es⟩, ⟨j, hj, ej⟩, -⟩ := hc.1 i hi
  obtain ⟨h3, h8, h9, h10, hT, hR, hP⟩ := h
  obtain ⟨pn, hpn, ep, ep2⟩ := nn_of (h3 i hi)
  have hp6 := hP i hi
  have hR0 : 0 ≤ (r 12 2).toInt := by
    have a := (S6_ge h3 hi).2
    have b := (S6_ge h8 hi).2
    have c := (S6_ge h9 hi).2
    have d := (S6_ge h10 hi).2
    omega
  have hax : an * xn ≤ 200 * 99 := Nat.mul_le_mul han hxn
  have el : r 0 i * nI xn / 10 = nI (an * xn / 10) := by
    rw [ea, pk_mul]
    exact pk_div (a := an * xn) (d := 10) (by omega) (by decide) (by decide)
  generalize hln : an * xn / 10 = ln at el
  have hl : ln ≤ 1980 := by omega
  have ew : r 3 i + nI ln = nI (pn + ln) := by rw [ep, nI_add]
  have hq1 : (pn + ln) * 5 ≤ (pn + ln) * (5 + sn) := Nat.mul_le_mul_left _ (by omega)
  have hq2 : (pn + ln) * (5 + sn) ≤ (pn + ln) * 14 := Nat.mul_le_mul_left _ (by omega)
  have ef : nI (pn + ln) * (5 + r 1 i) / 14 = nI ((pn + ln) * (5 + sn) / 14) := by
    have e5 : (5 : Int32) + nI sn = nI (5 + sn) := nI_add 5 sn
    rw [es, e5, pk_mul]
    exact pk_div (a := (pn + ln) * (5 + sn)) (d := 14) (by omega) (by decide) (by decide)
  generalize hqn : (pn + ln) * (5 + sn) = qn at *
  obtain ⟨gn, hg1, hg2, eg⟩ : ∃ gn, gn ≤ pn + ln ∧ qn / 14 ≤ gn ∧ (if nI (qn / 14) = 0 then (if nI (pn + ln) ≤ 0 then nI (qn / 14) else 1) else nI (qn / 14)) = nI gn := by
    by_cases c1 : qn / 14 = 0
    · rw [if_pos (show nI (qn / 14) = 0 by rw [nI_eq0 (show qn / 14 < 2 ^ 31 by omega)]; exact c1)]
      by_cases c2 : pn + ln = 0
      · exact ⟨qn / 14, by omega, by omega, if_pos (by rw [nI_le0 (show pn + ln < 2 ^ 31 by omega)]; exact c2)⟩
      · exact ⟨1, by omega, by omega, if_neg (by rw [nI_le0 (show pn + ln < 2 ^ 31 by omega)]; exact c2)⟩
    · rw [if_neg (show ¬ nI (qn / 14) = 0 by rw [nI_eq0 (show qn / 14 < 2 ^ 31 by omega)]; exact c1)]
      exact ⟨qn / 14, by omega, by omega, rfl⟩
  have e8 := h8 j hj
  have hle := (S6_ge h8 hj).1
  have hl2 : (nI ln).toInt = (ln : Int) := nI_toInt (by omega)
  have hg3 : (nI gn).toInt = (gn : Int) := nI_toInt (by omega)
  have s3 := (S6_ge h3 hi).2
  have s8 := (S6_ge h8 hi).2
  have s9 := (S6_ge h9 hi).2
  have s10 := (S6_ge h10 hi).2
  have eT : (r 12 2 + nI ln).toInt = (r 12 2).toInt + ln := by rw [i_add (by omega) (by omega), hl2]
  have eW : (nI (pn + ln) - nI gn).toInt = (pn : Int) + ln - gn := by rw [pk_sub (by omega), nI_toInt (by omega)]; omega
  have e8g : (r 8 j + nI gn).toInt = (r 8 j).toInt + gn := by rw [i_add (by omega) (by omega), hg3]
  have hw : wet r i (nI xn) = bp (bp (bp r 12 2 (r 12 2 + nI ln)) 3 i (nI (pn + ln) - nI gn)) 8 j (r 8 j + nI gn) := by
    unfold wet
    dsimp only
    rw [el, ew, ef, eg, ej, if_neg (zL_nI hj), nI_clamp (show j < 2 ^ 31 by omega), bp_bp]
  rw [hw]
  refine ⟨⟨?_, ?_, ?_, ?_, ?_, ?_, ?_⟩, ?_⟩
  · rw [bpr (by decide), bpk, bpr (by decide)]; exact Nn_upd h3 (by omega)
  · rw [bpk, bpr (by decide), bpr (by decide)]; exact Nn_upd h8 (by omega)
  · rw [bpr (by decide), bpr (by decide), bpr (by decide)]; exact h9
  · rw [bpr (by decide), bpr (by decide), bpr (by decide)]; exact h10
  · rw [show bp (bp (bp r 12 2 (r 12 2 + nI ln)) 3 i (nI (pn + ln) - nI gn)) 8 j (r 8 j + nI gn) 3 = upd (r 3) i (nI (pn + ln) - nI gn) by rw [bpr (by decide), bpk, bpr (by decide)],
      show bp (bp (bp r 12 2 (r 12 2 + nI ln)) 3 i (nI (pn + ln) - nI gn)) 8 j (r 8 j + nI gn) 8 = upd (r 8) j (r 8 j + nI gn) by rw [bpk, bpr (by decide), bpr (by decide)],
      show bp (bp (bp r 12 2 (r 12 2 + nI ln)) 3 i (nI (pn + ln) - nI gn)) 8 j (r 8 j + nI gn) 9 = r 9 by rw [bpr (by decide), bpr (by decide), bpr (by decide)],
      show bp (bp (bp r 12 2 (r 12 2 + nI ln)) 3 i (nI (pn + ln) - nI gn)) 8 j (r 8 j + nI gn) 10 = r 10 by rw [bpr (by decide), bpr (by decide), bpr (by decide)],
      show bp (bp (bp r 12 2 (r 12 2 + nI ln)) 3 i (nI (pn + ln) - nI gn)) 8 j (r 8 j + nI gn) 12 2 = r 12 2 + nI ln by rw [bpr (by decide), bpr (by decide), bp_eq],
      S6_upd hi, S6_upd hj]
    omega
  · rw [bpr (by decide), bpr (by decide), bp_eq]; omega
  · intro k hk
    rw [bpr (by decide), bpk, bpr (by decide)]
    by_cases e : k = i
    · subst e; rw [upd_eq]; omega
    · rw [upd_ne e]; exact hP k hk
  · rw [bpr (by decide), bpr (by decide), bpr (by decide)]
theorem Gw_wetAll {x : Int32} (hx : ∃ n, n ≤ 99 ∧ x = nI n) : ∀ (n i : Nat) (K : Int) (r : rB), i + n ≤ 6 → K + n * 1980 ≤ 2000000000 → Cf r → Gw K r → Gw (K + n * 1980) (wetAll n i r x) ∧ wetAll n i r x 9 = r 9
  | 0, _, K, r, _, _, _, h => ⟨h.mono (by omega), rfl⟩
  | n + 1, i, K, r, hi, hK, hc, h => by
    have k1 := Gw_wet (i := i) hc h (by omega) (by omega) hx
    have k2 := Gw_wetAll hx n (i + 1) (K + 1980) (wet r i x) (by omega) (by omega) (Cf_wet hc) k1.1
    exact ⟨k2.1.mono (by omega), k2.2.trans k1.2⟩
theorem mn_nI {a b : Nat} (ha : a < 2 ^ 31) (hb : b < 2 ^ 31) : mn (nI a) (nI b) = nI (min a b) := by
  unfold mn
  by_cases h : nI b < nI a
  · rw [if_pos h]
    rw [nI_ltI hb ha] at h
    rw [Nat.min_eq_right (by omega)]
  · rw [if_neg h]
    rw [nI_ltI hb ha] at h
    rw [Nat.min_eq_left (by omega)]
theorem nar_ex {r : rB} {i bn : Nat} {v : Int32} (hc : Cf r) (hi : i < 6) (hv : v = nI bn) (hb : bn ≤ 500) : ∃ n, n ≤ 500 ∧ v * (100 - r 6 i) / 100 = nI n := by
  obtain ⟨ln, hl, el⟩ := (hc.1 i hi).2.2.2.2.2.1
  have e1 : (100 : Int32) - nI ln = nI (100 - ln) := pk_sub (a := 100) (b := ln) hl
  have h2 : bn * (100 - ln) ≤ 500 * 100 := Nat.mul_le_mul hb (by omega)
  refine ⟨bn * (100 - ln) / 100, by omega, ?_⟩
  rw [hv, el, e1, pk_mul]
  exact pk_div (a := bn * (100 - ln)) (d := 100) (by omega) (by decide) (by decide)
theorem pipe_ex {r : rB} {i : Nat} (hc : Cf r) (hi : i < 6) : ∃ n, n ≤ 500 ∧ pipeT r i = nI n := by
  obtain ⟨bn, hb, eb⟩ := (hc.1 i hi).2.2.2.2.1
  obtain ⟨n, hn, en⟩ := nar_ex hc hi eb (by omega)
  unfold pipeT
  dsimp only
  rw [en]
  split
  · split
    · exact ⟨n, hn, rfl⟩
    · exact ⟨1, by omega, rfl⟩
  · exact ⟨n, hn, rfl⟩
theorem room_ex {r : rB} {i : Nat} (hc : Cf r) (hi : i < 6) : ∃ n, n ≤ 500 ∧ roomT r i = nI n := by
  obtain ⟨bn, h1, hb, eb⟩ := (hc.1 i hi).2.2.2.1
  exact nar_ex hc hi eb hb
/-- water moved between two cells -/
theorem Gw_dr {K : Int} {r : rB} {i ln : Nat} (hc : Cf r) (h : Gw K r) (hK : K ≤ 2000000000) (hi : i < 6) (hl : ln < 2 ^ 31) : (∃ m, m < 2 ^ 31 ∧ nI ln - drS r i (nI ln) = nI m) ∧ Gw K (drStep r (nI ln) i) := by
  obtain ⟨pn, hpn, ep⟩ := pipe_ex hc hi
  obtain ⟨h3, h8, h9, h10, hT, hR, hP⟩ := h
  obtain ⟨wn, hwn, ew, ew2⟩ := nn_of (h8 i hi)
  have ed : drS r i (nI ln) = nI (min (min pn wn) ln) := by
    unfold drS drW
    rw [ep, ew, mn_nI (by omega) hwn, mn_nI (by omega) hl]
  have hf1 : min (min pn wn) ln ≤ wn := by omega
  have hf2 : min (min pn wn) ln ≤ ln := by omega
  generalize min (min pn wn) ln = fn at *
  have hf3 : (nI fn).toInt = (fn : Int) := nI_toInt (by omega)
  have s3 := (S6_ge h3 hi).2
  have s8 := S6_ge h8 hi
  have s9 := (S6_ge h9 hi).2
  have s10 := S6_ge h10 hi
  have hd0 := h10 i hi
  have e1 : (r 8 i - nI fn).toInt = (r 8 i).toInt - fn := by rw [i_sub (by omega) (by omega), hf3]
  have e2 : (r 10 i + nI fn).toInt = (r 10 i).toInt + fn := by rw [i_add (by omega) (by omega), hf3]
  refine ⟨⟨ln - fn, by omega, by rw [ed, pk_sub hf2]⟩, ?_⟩
  unfold drStep
  rw [ed]
  refine ⟨?_, ?_, ?_, ?_, ?_, ?_, ?_⟩
  · rw [bpr (by decide), bpr (by decide)]; exact h3
  · rw [bpr (by decide), bpk]; exact Nn_upd h8 (by omega)
  · rw [bpr (by decide), bpr (by decide)]; exact h9
  · rw [bpk, bpr (by decide)]; exact Nn_upd h10 (by omega)
  · rw [show bp (bp r 8 i (r 8 i - nI fn)) 10 i (r 10 i + nI fn) 3 = r 3 by rw [bpr (by decide), bpr (by decide)],
      show bp (bp r 8 i (r 8 i - nI fn)) 10 i (r 10 i + nI fn) 8 = upd (r 8) i (r 8 i - nI fn) by rw [bpr (by decide), bpk],
      show bp (bp r 8 i (r 8 i - nI fn)) 10 i (r 10 i + nI fn) 9 = r 9 by rw [bpr (by decide), bpr (by decide)],
      show bp (bp r 8 i (r 8 i - nI fn)) 10 i (r 10 i + nI fn) 10 = upd (r 10) i (r 10 i + nI fn) by rw [bpk, bpr (by decide)],
      show bp (bp r 8 i (r 8 i - nI fn)) 10 i (r 10 i + nI fn) 12 = r 12 by rw [bpr (by decide), bpr (by decide)], S6_upd hi, S6_upd hi]
    omega
  · rw [bpr (by decide), bpr (by decide)]; exact hR
  · intro k hk; rw [bpr (by decide), bpr (by decide)]; exact hP k hk
theorem dr_9 {r : rB} {i : Nat} {x : Int32} : drStep r x i 9 = r 9 := by
  unfold drStep; rw [bpr (by decide), bpr (by decide)]
theorem Gw_drL : ∀ (n i : Nat) (K : Int) (r : rB) (ln : Nat) (b : Int32), i + n ≤ 6 → K ≤ 2000000000 → ln < 2 ^ 31 → Cf r → Gw K r → Gw K (drL n i r (nI ln) b).1 ∧ (drL n i r (nI ln) b).1 9 = r 9
  | 0, _, _, _, _, _, _, _, _, _, h => ⟨h, rfl⟩
  | n + 1, i, K, r, ln, b, hi, hK, hl, hc, h => by
    obtain ⟨⟨m, hm, em⟩, k1⟩ := Gw_dr (i := i) hc h hK (by omega) hl
    unfold drL
    rw [em]
    have k2 := Gw_drL n (i + 1) K (drStep r (nI ln) i) m (if b = 0 then (if drW r i ≤ drS r i (nI ln) then 0 else 1) else 1) (by omega) hK hm (Cf_dr hc) k1
    exact ⟨k2.1, k2.2.trans dr_9⟩
theorem Gw_12 {K : Int} {r : rB} {k : Nat} {v : Int32} (h : Gw K r) (hk : k ≠ 2) : Gw K (bp r 12 k v) := by
  unfold Gw
  rw [bpr (by decide), bpr (by decide), bpr (by decide), bpr (by decide), bp_ne (by omega)]
  exact h
theorem Gw_empty {K : Int} {r : rB} (hc : Cf r) (h : Gw K r) (hK : K ≤ 2000000000) : Gw K (emptyD r) ∧ emptyD r 9 = r 9 := by
  obtain ⟨dn, hd, ed⟩ := hc.2.1
  have k := Gw_drL 6 0 K r dn 0 (by omega) hK (by omega) hc h
  unfold emptyD
  rw [ed]
  split
  · exact k
  · exact ⟨Gw_12 k.1 (by decide), (bpr (by decide)).trans k.2⟩
theorem Gw_ovf {K : Int} {r : rB} {i : Nat} (hc : Cf r) (h : Gw K r) (hK : K ≤ 2000000000) (hi : i < 6) : Gw K (ovf r i) ∧ Mo r (ovf r i) := by
  obtain ⟨rn, hrn, er⟩ := room_ex hc hi
  have hv := (hc.1 i hi).2.2.2.2.2.2
  obtain ⟨h3, h8, h9, h10, hT, hR, hP⟩ := h
  have h8i := h8 i hi
  have hr2 : (nI rn).toInt = (rn : Int) := nI_toInt (by omega)
  have s3 := (S6_ge h3 hi).2
  have s8 := S6_ge h8 hi
  have s9 := S6_ge h9 hi
  have s10 := (S6_ge h10 hi).2
  have h9i := h9 i hi
  have et : (r 8 i - nI rn).toInt = (r 8 i).toInt - rn := by rw [i_sub (by omega) (by omega), hr2]
  unfold ovf
  dsimp only
  rw [er]
  by_cases ht : 0 < r 8 i - nI rn
  · rw [if_pos ht]
    rw [Int32.lt_iff_toInt_lt, show (0 : Int32).toInt = 0 by decide] at ht
    generalize hte : r 8 i - nI rn = tt at *
    have e1 : (r 8 i - tt).toInt = (r 8 i).toInt - tt.toInt := i_sub (by omega) (by omega)
    rcases hv with hv | ⟨j, hj, hv⟩
    · rw [hv, if_pos zL_m1]
      have e2 : (r 9 i + tt).toInt = (r 9 i).toInt + tt.toInt := i_add (by omega) (by omega)
      refine ⟨⟨?_, ?_, ?_, ?_, ?_, ?_, ?_⟩, ?_⟩
      · rw [bpr (by decide), bpr (by decide)]; exact h3
      · rw [bpr (by decide), bpk]; exact Nn_upd h8 (by omega)
      · rw [bpk, bpr (by decide)]; exact Nn_upd h9 (by omega)
      · rw [bpr (by decide), bpr (by decide)]; exact h10
      · rw [show bp (bp r 8 i (r 8 i - tt)) 9 i (r 9 i + tt) 3 = r 3 by rw [bpr (by decide), bpr (by decide)],
          show bp (bp r 8 i (r 8 i - tt)) 9 i (r 9 i + tt) 8 = upd (r 8) i (r 8 i - tt) by rw [bpr (by decide), bpk],
          show bp (bp r 8 i (r 8 i - tt)) 9 i (r 9 i + tt) 9 = upd (r 9) i (r 9 i + tt) by rw [bpk, bpr (by decide)],
          show bp (bp r 8 i (r 8 i - tt)) 9 i (r 9 i + tt) 10 = r 10 by rw [bpr (by decide), bpr (by decide)],
          show bp (bp r 8 i (r 8 i - tt)) 9 i (r 9 i + tt) 12 = r 12 by rw [bpr (by decide), bpr (by decide)], S6_upd hi, S6_upd hi]
        omega
      · rw [bpr (by decide), bpr (by decide)]; exact hR
      · intro k hk; rw [bpr (by decide), bpr (by decide)]; exact hP k hk
      · intro k hk
        rw [bpk, bpr (by decide)]
        by_cases e : k = i
        · subst e; rw [upd_eq]; omega
        · rw [upd_ne e]; exact Int.le_refl _
    · rw [hv, if_neg (zL_nI hj), nI_clamp (show j < 2 ^ 31 by omega)]
      have hN : Nn (upd (r 8) i (r 8 i - tt)) := Nn_upd h8 (by omega)
      have hS : S6 (upd (r 8) i (r 8 i - tt)) = S6 (r 8) + (r 8 i - tt).toInt - (r 8 i).toInt := S6_upd hi
      have s8j := S6_ge hN hj
      have n8j := hN j hj
      have e2 : (upd (r 8) i (r 8 i - tt) j + tt).toInt = (upd (r 8) i (r 8 i - tt) j).toInt + tt.toInt := i_add (by omega) (by omega)
      have e3 : bp (bp r 8 i (r 8 i - tt)) 8 j (bp r 8 i (r 8 i - tt) 8 j + tt) 8 = upd (upd (r 8) i (r 8 i - tt)) j (upd (r 8) i (r 8 i - tt) j + tt) := by rw [bpk, bpk]
      refine ⟨⟨?_, ?_, ?_, ?_, ?_, ?_, ?_⟩, ?_⟩
      · rw [bpr (by decide), bpr (by decide)]; exact h3
      · rw [e3]; exact Nn_upd hN (by omega)
      · rw [bpr (by decide), bpr (by decide)]; exact h9
      · rw [bpr (by decide), bpr (by decide)]; exact h10
      · rw [e3, show bp (bp r 8 i (r 8 i - tt)) 8 j (bp r 8 i (r 8 i - tt) 8 j + tt) 3 = r 3 by rw [bpr (by decide), bpr (by decide)],
          show bp (bp r 8 i (r 8 i - tt)) 8 j (bp r 8 i (r 8 i - tt) 8 j + tt) 9 = r 9 by rw [bpr (by decide), bpr (by decide)],
          show bp (bp r 8 i (r 8 i - tt)) 8 j (bp r 8 i (r 8 i - tt) 8 j + tt) 10 = r 10 by rw [bpr (by decide), bpr (by decide)],
          show bp (bp r 8 i (r 8 i - tt)) 8 j (bp r 8 i (r 8 i - tt) 8 j + tt) 12 = r 12 by rw [bpr (by decide), bpr (by decide)], S6_upd hj, hS]
        omega
      · rw [bpr (by decide), bpr (by decide)]; exact hR
      · intro k hk; rw [bpr (by decide), bpr (by decide)]; exact hP k hk
      · exact Mo_of (by rw [bpr (by decide), bpr (by decide)])
  · rw [if_neg ht]
    exact ⟨⟨h3, h8, h9, h10, hT, hR, hP⟩, Mo.rf⟩
theorem Gw_ovfAll : ∀ (n i : Nat) (K : Int) (r : rB), i + n ≤ 6 → K ≤ 2000000000 → Cf r → Gw K r → Gw K (ovfAll n i r) ∧ Mo r (ovfAll n i r)
  | 0, _, _, _, _, _, _, h => ⟨h, Mo.rf⟩
  | n + 1, i, K, r, hi, hK, hc, h => by
    have k1 := Gw_ovf (i := i) hc h hK (by omega)
    have k2 := Gw_ovfAll n (i + 1) K (ovf r i) (by omega) hK (Cf_ovf hc) k1.1
    exact ⟨k2.1, k1.2.tr k2.2⟩
theorem Gw_min {K : Int} {r : rB} {x : Int32} (hx : ∃ n, n ≤ 99 ∧ x = nI n) (hc : Cf r) (h : Gw K r) (hK : K + 11880 ≤ 2000000000) : Gw (K + 11880) (minuteC r x) ∧ Mo r (minuteC r x) := by
  have k1 := Gw_wetAll hx 6 0 K r (by omega) (by omega) hc h
  have c1 : Cf (wetAll 6 0 r x) := Cf_of (fun _ hk => wetAll_ne hk 6 0 r x) hc
  have g1 : Gw (K + 11880) (wetAll 6 0 r x) := k1.1.mono (by omega)
  have k2 := Gw_empty c1 g1 hK
  have c2 : Cf (emptyD (wetAll 6 0 r x)) := Cf_of (fun _ hk => emptyD_ne hk) c1
  have k3 := Gw_ovfAll 6 0 (K + 11880) _ (by omega) hK c2 k2.1
  unfold minuteC
  refine ⟨Gw_12 k3.1 (by decide), ?_⟩
  intro k hk
  rw [bpr (by decide)]
  have := k3.2 k hk
  rw [k2.2, k1.2] at this
  exact this
theorem Gw_mins {x : Int32} (hx : ∃ n, n ≤ 99 ∧ x = nI n) : ∀ (n : Nat) (K : Int) (r : rB), Cf r → Gw K r → K + n * 11880 ≤ 2000000000 → Gw (K + n * 11880) (minutesC n r x) ∧ Mo r (minutesC n r x)
  | 0, K, r, _, h, _ => ⟨h.mono (by omega), Mo.rf⟩
  | n + 1, K, r, hc, h, hK => by
    have k1 := Gw_min hx hc h (by omega)
    have k2 := Gw_mins hx n (K + 11880) (minuteC r x) (Cf_min hc) k1.1 (by omega)
    exact ⟨k2.1.mono (by omega), k1.2.tr k2.2⟩
theorem smI_S6 {f : Nat → Int32} (h : Nn f) (hb : S6 f ≤ 2000000000) : (smI f 6 0 0).toInt = S6 f := by
  have a0 := h 0 (by omega)
  have a1 := h 1 (by omega)
  have a2 := h 2 (by omega)
  have a3 := h 3 (by omega)
  have a4 := h 4 (by omega)
  have a5 := h 5 (by omega)
  unfold S6 at hb ⊢
  have z : (0 : Int32).toInt = 0 := by decide
  rw [smI6]
  have e0 : (0 + f 0).toInt = (f 0).toInt := by rw [i_add (by omega) (by omega)]; omega
  have e1 : (0 + f 0 + f 1).toInt = (f 0).toInt + (f 1).toInt := by rw [i_add (by omega) (by omega), e0]
  have e2 : (0 + f 0 + f 1 + f 2).toInt = (f 0).toInt + (f 1).toInt + (f 2).toInt := by rw [i_add (by omega) (by omega), e1]
  have e3 : (0 + f 0 + f 1 + f 2 + f 3).toInt = (f 0).toInt + (f 1).toInt + (f 2).toInt + (f 3).toInt := by rw [i_add (by omega) (by omega), e2]
  have e4 : (0 + f 0 + f 1 + f 2 + f 3 + f 4).toInt = (f 0).toInt + (f 1).toInt + (f 2).toInt + (f 3).toInt + (f 4).toInt := by rw [i_add (by omega) (by omega), e3]
  rw [i_add (by omega) (by omega), e4]
theorem stand_S6 {K : Int} {r : rB} (h : Gw K r) (hK : K ≤ 2000000000) : (standC r).toInt = S6 (r 3) + S6 (r 8) := by
  have hl := h.le (i := 0) (by omega)
  have s3 := (S6_ge h.1 (i := 0) (by omega)).2
  have s8 := (S6_ge h.2.1 (i := 0) (by omega)).2
  unfold standC
  rw [i_add (by rw [smI_S6 h.1 (by omega), smI_S6 h.2.1 (by omega)]; omega) (by rw [smI_S6 h.1 (by omega), smI_S6 h.2.1 (by omega)]; omega), smI_S6 h.1 (by omega), smI_S6 h.2.1 (by omega)]

theorem php : ∀ (n : Nat) (c : Nat → Nat), (∀ k, k ≤ n → c k < n) → ∃ i j, i < j ∧ j ≤ n ∧ c i = c j
  | 0, c, h => absurd (h 0 (Nat.le_refl 0)) (by omega)
  | n + 1, c, h => by
    by_cases h1 : ∃ i, i ≤ n ∧ c i = c (n + 1)
    · obtain ⟨i, hi, e⟩ := h1
      exact ⟨i, n + 1, by omega, by omega, e⟩
    · have hne : ∀ i, i ≤ n → c i ≠ c (n + 1) := fun i hi e => h1 ⟨i, hi, e⟩
      have hv := h (n + 1) (by omega)
      obtain ⟨i, j, hij, hj, e⟩ := php n (fun k => if c k = n then c (n + 1) else c k) (fun k hk => by
        have h2 := h k (by omega)
        have h3 := hne k hk
        show (if c k = n then c (n + 1) else c k) < n
        split <;> omega)
      refine ⟨i, j, hij, by omega, ?_⟩
      have hi1 := hne i (by omega)
      have hj1 := hne j hj
      have e' : (if c i = n then c (n + 1) else c i) = (if c j = n then c (n + 1) else c j) := e
      by_cases a : c i = n
      · by_cases b : c j = n
        · omega
        · rw [if_pos a, if_neg b] at e'; omega
      · by_cases b : c j = n
        · rw [if_neg a, if_pos b] at e'; omega
        · rw [if_neg a, if_neg b] at e'; exact e'
/-- the valleys from a end within n steps -/
def vE (r : rB) : Nat → Int32 → Prop
  | 0, a => a = -1
  | n + 1, a => a = -1 ∨ vE r n (r 7 a.toNatClampNeg)
def Vy (r : rB) : Prop := ∀ i, i < 6 → vE r 6 (nI i)
def vg (a : Int32) : Prop := a = -1 ∨ ∃ i, i < 6 ∧ a = nI i
theorem Cf.v {r : rB} (h : Cf r) {i : Nat} (hi : i < 6) : vg (r 7 i) := (h.1 i hi).2.2.2.2.2.2
theorem vE_mono {r : rB} : ∀ (n k : Nat) (a : Int32), vE r n a → vE r (n + k) a
  | 0, 0, _, h => h
  | 0, k + 1, _, h => by rw [Nat.zero_add]; exact Or.inl h
  | n + 1, k, a, h => by
    rw [show n + 1 + k = (n + k) + 1 by omega]
    rcases h with h | h
    · exact Or.inl h
    · exact Or.inr (vE_mono n k _ h)
theorem vE_m1 {r : rB} : ∀ n, vE r n (-1)
  | 0 => rfl
  | _ + 1 => Or.inl rfl
def vC (r : rB) (a : Int32) : Nat → Int32
  | 0 => a
  | k + 1 => r 7 (vC r a k).toNatClampNeg
theorem vC_s {r : rB} {a : Int32} : ∀ k, vC r (r 7 a.toNatClampNeg) k = vC r a (k + 1)
  | 0 => rfl
  | k + 1 => by
    show r 7 (vC r (r 7 a.toNatClampNeg) k).toNatClampNeg = r 7 (vC r a (k + 1)).toNatClampNeg
    rw [vC_s k]
theorem vE_C {r : rB} : ∀ (n : Nat) (a : Int32), vE r n a → ∃ k, k ≤ n ∧ vC r a k = -1
  | 0, a, h => ⟨0, Nat.le_refl 0, h⟩
  | n + 1, a, h => by
    rcases h with h | h
    · exact ⟨0, Nat.zero_le _, h⟩
    · obtain ⟨k, hk, e⟩ := vE_C n _ h
      exact ⟨k + 1, by omega, by rw [← vC_s]; exact e⟩
theorem vC_E {r : rB} : ∀ (n : Nat) (a : Int32), (∃ k, k ≤ n ∧ vC r a k = -1) → vE r n a
  | 0, a, h => by
    obtain ⟨k, hk, e⟩ := h
    obtain rfl : k = 0 := by omega
    exact e
  | n + 1, a, h => by
    obtain ⟨k, hk, e⟩ := h
    cases k with
    | zero => exact Or.inl e
    | succ k => exact Or.inr (vC_E n _ ⟨k, by omega, by rw [vC_s]; exact e⟩)
/-- what ends at all ends within six steps -/
theorem vE_6 {r : rB} (hc : Cf r) {N : Nat} {a : Int32} (ha : vg a) (h : vE r N a) : vE r 6 a := by
  by_cases h6 : ∃ k, k ≤ 6 ∧ vC r a k = -1
  · exact vC_E 6 a h6
  · exfalso
    obtain ⟨K, -, hK⟩ := vE_C N a h
    have hne : ∀ k, k ≤ 6 → vC r a k ≠ -1 := fun k hk e => h6 ⟨k, hk, e⟩
    have hvg : ∀ k, k ≤ 6 → vg (vC r a k) := by
      intro k
      induction k with
      | zero => intro _; exact ha
      | succ k ih =>
        intro hk
        rcases ih (by omega) with e | ⟨i, hi, e⟩
        · exact absurd e (hne k (by omega))
        · show vg (r 7 (vC r a k).toNatClampNeg)
          rw [e, nI_clamp (show i < 2 ^ 31 by omega)]
          exact hc.v hi
    have hex : ∀ k, k ≤ 6 → (vC r a k).toNatClampNeg < 6 := by
      intro k hk
      rcases hvg k hk with e | ⟨i, hi, e⟩
      · exact absurd e (hne k hk)
      · rw [e, nI_clamp (show i < 2 ^ 31 by omega)]; exact hi
    obtain ⟨i, j, hij, hj, e⟩ := php 6 (fun k => (vC r a k).toNatClampNeg) hex
    have e : (vC r a i).toNatClampNeg = (vC r a j).toNatClampNeg := e
    have heq : ∀ d, vC r a (i + 1 + d) = vC r a (j + 1 + d) := by
      intro d
      induction d with
      | zero => show r 7 (vC r a i).toNatClampNeg = r 7 (vC r a j).toNatClampNeg; rw [e]
      | succ d ih => show r 7 (vC r a (i + 1 + d)).toNatClampNeg = r 7 (vC r a (j + 1 + d)).toNatClampNeg; rw [ih]
    have hall : ∀ k, vC r a k ≠ -1 := by
      intro k
      induction k using Nat.strongRecOn with
      | _ k ih =>
        by_cases hk : k ≤ 6
        · exact hne k hk
        · have := heq (k - (j + 1))
          rw [show j + 1 + (k - (j + 1)) = k by omega] at this
          rw [← this]
          exact ih _ (by omega)
    exact hall K hK
/-- a valley that leads nowhere back -/
theorem vE_no {r : rB} {g : Nat} {tt : Int32} (hg : g < 6) (hc : Cf r) : ∀ (n : Nat) (a : Int32), vg a → vE r n a → vlead r (nI g) n a = 0 → vE (bp r 7 g tt) n a
  | 0, a, _, h, _ => h
  | n + 1, a, ha, h, hv => by
    rcases ha with e | ⟨i, hi, e⟩
    · exact Or.inl e
    · have h1 : ¬ a = -1 := by rw [e]; exact nI_nm1 (by omega)
      rcases h with h | h
      · exact absurd h h1
      · have hz : ¬ zL a 6 = 0 := by rw [e]; exact zL_nI hi
        unfold vlead at hv
        rw [if_neg hz] at hv
        by_cases hag : a = nI g
        · rw [if_pos hag] at hv; exact absurd hv (by decide)
        · rw [if_neg hag] at hv
          have hig : i ≠ g := fun q => hag (by rw [e, q])
          refine Or.inr ?_
          rw [e, nI_clamp (show i < 2 ^ 31 by omega)] at h hv ⊢
          rw [bp_ne hig]
          exact vE_no hg hc n _ (hc.v hi) h hv
theorem vE_to {r : rB} {g M : Nat} {tt : Int32} (hc : Cf r) (ht : vE (bp r 7 g tt) M tt) : ∀ (n : Nat) (a : Int32), vg a → vE r n a → vE (bp r 7 g tt) (n + M) a
  | 0, a, _, h => by
    rw [show a = -1 from h]; exact vE_m1 _
  | n + 1, a, ha, h => by
    rw [show n + 1 + M = (n + M) + 1 by omega]
    rcases ha with e | ⟨i, hi, e⟩
    · exact Or.inl e
    · rcases h with h | h
      · exact Or.inl h
      · refine Or.inr ?_
        rw [e, nI_clamp (show i < 2 ^ 31 by omega)] at h ⊢
        by_cases hig : i = g
        · subst hig; rw [bp_eq, Nat.add_comm]; exact vE_mono M n _ ht
        · rw [bp_ne hig]; exact vE_to hc ht n _ (hc.v hi) h
theorem Cf_7 {r : rB} {g : Nat} {tt : Int32} (hc : Cf r) (ht : vg tt) : Cf (bp r 7 g tt) := by
  refine ⟨fun i hi => ?_, ?_⟩
  · have h := hc.1 i hi
    rw [bpr (show 0 ≠ 7 by decide), bpr (show 1 ≠ 7 by decide), bpr (show 2 ≠ 7 by decide), bpr (show 4 ≠ 7 by decide), bpr (show 5 ≠ 7 by decide), bpr (show 6 ≠ 7 by decide)]
    refine ⟨h.1, h.2.1, h.2.2.1, h.2.2.2.1, h.2.2.2.2.1, h.2.2.2.2.2.1, ?_⟩
    rw [bpk]
    by_cases e : i = g
    · subst e; rw [upd_eq]; exact ht
    · rw [upd_ne e]; exact h.2.2.2.2.2.2
  · rw [bpr (show 11 ≠ 7 by decide)]; exact hc.2
theorem Vy_set {r : rB} {g : Nat} {tt : Int32} (hg : g < 6) (hc : Cf r) (hv : Vy r) (ht : tt = -1 ∨ ∃ k, k < 6 ∧ tt = nI k ∧ vlead r (nI g) 6 tt = 0) : Vy (bp r 7 g tt) := by
  have hvg : vg tt := by
    rcases ht with e | ⟨k, hk, e, -⟩
    · exact Or.inl e
    · exact Or.inr ⟨k, hk, e⟩
  have h6 : vE (bp r 7 g tt) 6 tt := by
    rcases ht with e | ⟨k, hk, e, h⟩
    · rw [e]; exact vE_m1 6
    · exact vE_no hg hc 6 tt hvg (by rw [e]; exact hv k hk) h
  intro i hi
  exact vE_6 (Cf_7 hc hvg) (N := 6 + 6) (Or.inr ⟨i, hi, rfl⟩) (vE_to hc h6 6 _ (Or.inr ⟨i, hi, rfl⟩) (hv i hi))
def Gd (K : Int) (r : rB) : Prop := Cf r ∧ Gw K r ∧ Vy r
theorem Gd.mono {K J : Int} {r : rB} (h : Gd K r) (hk : K ≤ J) : Gd J r := ⟨h.1, h.2.1.mono hk, h.2.2⟩
theorem zL6 (q : Int32) : zL q 6 = zW q 0 5 := by
  unfold zL zW
  by_cases h : q < 0
  · rw [if_pos h, if_pos h]
  · rw [if_neg h, if_neg h]
    have e : (6 ≤ q) ↔ (5 < q) := by
      rw [Int32.le_iff_toInt_le, Int32.lt_iff_toInt_lt, show (6 : Int32).toInt = 6 by decide, show (5 : Int32).toInt = 5 by decide]; omega
    by_cases h2 : 5 < q
    · rw [if_pos h2, if_pos (e.mpr h2)]
    · rw [if_neg h2, if_neg (fun h9 => h2 (e.mp h9))]
theorem zL3 (q : Int32) : zL q 3 = zW q 0 2 := by
  unfold zL zW
  by_cases h : q < 0
  · rw [if_pos h, if_pos h]
  · rw [if_neg h, if_neg h]
    have e : (3 ≤ q) ↔ (2 < q) := by
      rw [Int32.le_iff_toInt_le, Int32.lt_iff_toInt_lt, show (3 : Int32).toInt = 3 by decide, show (2 : Int32).toInt = 2 by decide]; omega
    by_cases h2 : 2 < q
    · rw [if_pos h2, if_pos (e.mpr h2)]
    · rw [if_neg h2, if_neg (fun h9 => h2 (e.mp h9))]
theorem zW_nI {q : Int32} {a b : Nat} (ha : a < 2 ^ 31) (hb : b < 2 ^ 31) (h : ¬ zW q (nI a) (nI b) = 0) : ∃ i, a ≤ i ∧ i ≤ b ∧ q = nI i := zW_b ha hb h
theorem Gw_ne {K : Int} {r : rB} {k i : Nat} {v : Int32} (h : Gw K r) (hk : wr5 k) : Gw K (bp r k i v) := by
  obtain ⟨h1, h2, h3, h4, h5⟩ := hk
  unfold Gw
  rw [bpr (Ne.symm h1), bpr (Ne.symm h2), bpr (Ne.symm h3), bpr (Ne.symm h4), bpr (Ne.symm h5)]
  exact h
theorem vE_cong {r q : rB} (h : q 7 = r 7) : ∀ (n : Nat) (a : Int32), vE r n a → vE q n a
  | 0, _, e => e
  | n + 1, a, e => by
    rcases e with e | e
    · exact Or.inl e
    · exact Or.inr (by rw [h]; exact vE_cong h n _ e)
theorem Vy_of {r q : rB} (h : q 7 = r 7) (hv : Vy r) : Vy q := fun i hi => vE_cong h 6 _ (hv i hi)
/-- one row's entry of a good roof -/
theorem Cf_set {r : rB} {k g : Nat} {v : Int32} (hc : Cf r) (hv : (k = 0 ∧ ∃ n, n ≤ 200 ∧ v = nI n) ∨ (k = 1 ∧ ∃ n, n ≤ 9 ∧ v = nI n) ∨ (k = 2 ∧ ∃ n, n < 6 ∧ v = nI n) ∨ (k = 4 ∧ ∃ n, 1 ≤ n ∧ n ≤ 500 ∧ v = nI n) ∨ (k = 5 ∧ ∃ n, n ≤ 99 ∧ v = nI n) ∨ (k = 6 ∧ ∃ n, n ≤ 100 ∧ v = nI n)) : Cf (bp r k g v) := by
  have key : ∀ (a i : Nat) (Q : Int32 → Prop), Q (r a i) → (a = k → Q v) → Q (bp r k g v a i) := by
    intro a i Q h1 h2
    by_cases e : a = k
    · subst e
      rw [bpk]
      by_cases e2 : i = g
      · subst e2; rw [upd_eq]; exact h2 rfl
      · rw [upd_ne e2]; exact h1
    · rw [bpr e]; exact h1
  refine ⟨fun i hi => ?_, ?_⟩
  · obtain ⟨q0, q1, q2, q4, q5, q6, q7⟩ := hc.1 i hi
    refine ⟨key 0 i (fun x => ∃ n, n ≤ 200 ∧ x = nI n) q0 (fun e => ?_), key 1 i (fun x => ∃ n, n ≤ 9 ∧ x = nI n) q1 (fun e => ?_), key 2 i (fun x => ∃ n, n < 6 ∧ x = nI n) q2 (fun e => ?_), key 4 i (fun x => ∃ n, 1 ≤ n ∧ n ≤ 500 ∧ x = nI n) q4 (fun e => ?_), key 5 i (fun x => ∃ n, n ≤ 99 ∧ x = nI n) q5 (fun e => ?_), key 6 i (fun x => ∃ n, n ≤ 100 ∧ x = nI n) q6 (fun e => ?_), key 7 i (fun x => x = -1 ∨ ∃ n, n < 6 ∧ x = nI n) q7 (fun e => ?_)⟩ <;> subst e <;> rcases hv with ⟨e, h⟩ | ⟨e, h⟩ | ⟨e, h⟩ | ⟨e, h⟩ | ⟨e, h⟩ | ⟨e, h⟩ <;> first | exact h | (exact absurd e (by decide))
  · have h11 : bp r k g v 11 = r 11 := bpr (by rcases hv with ⟨e, _⟩ | ⟨e, _⟩ | ⟨e, _⟩ | ⟨e, _⟩ | ⟨e, _⟩ | ⟨e, _⟩ <;> omega)
    rw [h11]; exact hc.2
theorem Gd_set {K : Int} {r : rB} {k g : Nat} {v : Int32} (h : Gd K r) (hv : (k = 0 ∧ ∃ n, n ≤ 200 ∧ v = nI n) ∨ (k = 1 ∧ ∃ n, n ≤ 9 ∧ v = nI n) ∨ (k = 2 ∧ ∃ n, n < 6 ∧ v = nI n) ∨ (k = 4 ∧ ∃ n, 1 ≤ n ∧ n ≤ 500 ∧ v = nI n) ∨ (k = 5 ∧ ∃ n, n ≤ 99 ∧ v = nI n) ∨ (k = 6 ∧ ∃ n, n ≤ 100 ∧ v = nI n)) : Gd K (bp r k g v) :=
  ⟨Cf_set h.1 hv, Gw_ne h.2.1 ⟨by omega, by omega, by omega, by omega, by omega⟩, Vy_of (bpr (by omega)) h.2.2⟩
theorem Gd_12 {K : Int} {r : rB} {k : Nat} {v : Int32} (h : Gd K r) (hk : k ≠ 2) : Gd K (bp r 12 k v) := by
  refine ⟨?_, Gw_12 h.2.1 hk, Vy_of (bpr (by decide)) h.2.2⟩
  unfold Cf
  rw [bpr (show 0 ≠ 12 by decide), bpr (show 1 ≠ 12 by decide), bpr (show 2 ≠ 12 by decide), bpr (show 4 ≠ 12 by decide), bpr (show 5 ≠ 12 by decide), bpr (show 6 ≠ 12 by decide), bpr (show 7 ≠ 12 by decide), bpr (show 11 ≠ 12 by decide)]
  exact h.1
theorem Gd_weekL {K : Int} : ∀ (n i : Nat) (r : rB), i + n ≤ 6 → Gd K r → Gd K (weekL n i r)
  | 0, _, _, _, h => h
  | n + 1, i, r, hi, h => by
    refine Gd_weekL n (i + 1) _ (by omega) (Gd_set h (Or.inr (Or.inr (Or.inr (Or.inr (Or.inr ⟨rfl, ?_⟩))))))
    obtain ⟨a, ha, ea⟩ := (h.1.1 i (by omega)).2.2.2.2.2.1
    obtain ⟨b, hb, eb⟩ := h.1.2.2.1
    rw [ea, eb, nI_add]
    exact ⟨min 100 (a + b), by omega, mn_nI (a := 100) (by decide) (by omega)⟩
theorem Gd_week {K : Int} {r : rB} (h : Gd K r) : Gd K (weekC r) := Gd_12 (Gd_weekL 6 0 r (by omega) h) (by decide)
theorem Gd_wks {K : Int} : ∀ (n : Nat) (r : rB), Gd K r → Gd K (wksC n r)
  | 0, _, h => h
  | n + 1, _, h => Gd_wks n _ (Gd_week h)
theorem Gd_mins {K : Int} {r : rB} {x : Int32} {n : Nat} (hx : ∃ n, n ≤ 99 ∧ x = nI n) (h : Gd K r) (hK : K + n * 11880 ≤ 2000000000) : Gd (K + n * 11880) (minutesC n r x) :=
  ⟨Cf_mins h.1, (Gw_mins hx n K r h.1 h.2.1 hK).1, Vy_of (minutesC_ne ⟨by decide, by decide, by decide, by decide, by decide⟩ n r x) h.2.2⟩
