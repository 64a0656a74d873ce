/-! water is kept; what is spilt only grows -/
theorem i_add {a b : Int32} (h1 : -2147483648 ≤ a.toInt + b.toInt) (h2 : a.toInt + b.toInt < 2147483648) : (a + b).toInt = a.toInt + b.toInt := by
  rw [Int32.toInt_add]
  exact Int.bmod_eq_of_le (by omega) (by omega)
theorem i_sub {a b : Int32} (h1 : -2147483648 ≤ a.toInt - b.toInt) (h2 : a.toInt - b.toInt < 2147483648) : (a - b).toInt = a.toInt - b.toInt := by
  rw [Int32.toInt_sub]
  exact Int.bmod_eq_of_le (by omega) (by omega)
theorem nn_of {x : Int32} (h : 0 ≤ x.toInt) : ∃ n : Nat, n < 2 ^ 31 ∧ x = nI n ∧ x.toInt = (n : Int) := by
  have h2 := x.toInt_lt
  refine ⟨x.toInt.toNat, by omega, ?_, by omega⟩
  apply Int32.toInt_inj.mp
  rw [nI_toInt (by omega)]
  omega
def Nn (f : Nat → Int32) : Prop := ∀ i, i < 6 → 0 ≤ (f i).toInt
def S6 (f : Nat → Int32) : Int := (f 0).toInt + (f 1).toInt + (f 2).toInt + (f 3).toInt + (f 4).toInt + (f 5).toInt
theorem S6_upd {f : Nat → Int32} {i : Nat} {v : Int32} (hi : i < 6) : S6 (upd f i v) = S6 f + v.toInt - (f i).toInt := by
  have h : i = 0 ∨ i = 1 ∨ i = 2 ∨ i = 3 ∨ i = 4 ∨ i = 5 := by omega
  unfold S6
  rcases h with rfl | rfl | rfl | rfl | rfl | rfl <;> simp [upd] <;> omega
theorem Nn_upd {f : Nat → Int32} {i : Nat} {v : Int32} (h : Nn f) (hv : 0 ≤ v.toInt) : Nn (upd f i v) := by
  intro k hk
  by_cases e : k = i
  · subst e; rw [upd_eq]; exact hv
  · rw [upd_ne e]; exact h k hk
theorem S6_ge {f : Nat → Int32} (h : Nn f) {i : Nat} (hi : i < 6) : (f i).toInt ≤ S6 f ∧ 0 ≤ S6 f := by
  have a0 := h 0 (by omega)
  have a1 := h 1 (by omega)
  have a2 := h 2 (by omega)
  have a3 := h 3 (by omega)
  have a4 := h 4 (by omega)
  have a5 := h 5 (by omega)
  have hh : i = 0 ∨ i = 1 ∨ i = 2 ∨ i = 3 ∨ i = 4 ∨ i = 5 := by omega
  unfold S6
  rcases hh with rfl | rfl | rfl | rfl | rfl | rfl <;> omega
def Gw (K : Int) (r : rB) : Prop := Nn (r 3) ∧ Nn (r 8) ∧ Nn (r 9) ∧ Nn (r 10) ∧ S6 (r 3) + S6 (r 8) + S6 (r 9) + S6 (r 10) = (r 12 2).toInt ∧ (r 12 2).toInt ≤ K ∧ ∀ i, i < 6 → (r 3 i).toInt ≤ 6000
theorem Gw.mono {K J : Int} {r : rB} (h : Gw K r) (hk : K ≤ J) : Gw J r := ⟨h.1, h.2.1, h.2.2.1, h.2.2.2.1, h.2.2.2.2.1, by have := h.2.2.2.2.2.1; omega, h.2.2.2.2.2.2⟩
/-- each is no more than all -/
theorem Gw.le {K : Int} {r : rB} (h : Gw K r) {i : Nat} (hi : i < 6) : (r 3 i).toInt ≤ K ∧ (r 8 i).toInt ≤ K ∧ (r 9 i).toInt ≤ K ∧ (r 10 i).toInt ≤ K ∧ S6 (r 9) ≤ K ∧ S6 (r 10) ≤ (r 12 2).toInt ∧ S6 (r 3) + S6 (r 8) ≤ K := by
  obtain ⟨h1, h2, h3, h4, h5, h6, -⟩ := h
  have a := S6_ge h1 hi
  have b := S6_ge h2 hi
  have c := S6_ge h3 hi
  have d := S6_ge h4 hi
  omega
/-- the spilt only grows -/
def Mo (r q : rB) : Prop := ∀ k, k < 6 → (r 9 k).toInt ≤ (q 9 k).toInt
theorem Mo.rf {r : rB} : Mo r r := fun _ _ => Int.le_refl _
theorem Mo.tr {r q t : rB} (h : Mo r q) (h2 : Mo q t) : Mo r t := fun k hk => Int.le_trans (h k hk) (h2 k hk)
theorem Mo_of {r q : rB} (h : q 9 = r 9) : Mo r q := fun k _ => by rw [h]; exact Int.le_refl _
theorem Gw_wet {K : Int} {r : rB} {i : Nat} {x : Int32} (hc : Cf r) (h : Gw K r) (hK : K ≤ 2000000000) (hi : i < 6) (hx : ∃ n, n ≤ 99 ∧ x = nI n) : Gw (K + 1980) (wet r i x) ∧ wet r i x 9 = r 9 := by
  obtain ⟨xn, hxn, rfl⟩ := hx
  obtain ⟨⟨an, han, ea⟩, ⟨sn, hsn, es⟩, ⟨j, hj, ej⟩, -⟩ := hc.1 i hi
  obtain ⟨h3, h8, h9, h10, hT, hR, hP⟩ := h
  obtain ⟨pn, hpn, ep, ep2⟩ := nn_of (h3 i hi)
  have hp6 := hP i hi
  have hR0 : 0 ≤ (r 12 2).toInt := by
    have a := (S6_ge h3 hi).2
    have b := (S6_ge h8 hi).2
    have c := (S6_ge h9 hi).2
    have d := (S6_ge h10 hi).2
    omega
  have hax : an * xn ≤ 200 * 99 := Nat.mul_le_mul han hxn
  have el : r 0 i * nI xn / 10 = nI (an * xn / 10) := by
    rw [ea, pk_mul]
    exact pk_div (a := an * xn) (d := 10) (by omega) (by decide) (by decide)
  generalize hln : an * xn / 10 = ln at el
  have hl : ln ≤ 1980 := by omega
  have ew : r 3 i + nI ln = nI (pn + ln) := by rw [ep, nI_add]
  have hq1 : (pn + ln) * 5 ≤ (pn + ln) * (5 + sn) := Nat.mul_le_mul_left _ (by omega)
  have hq2 : (pn + ln) * (5 + sn) ≤ (pn + ln) * 14 := Nat.mul_le_mul_left _ (by omega)
  have ef : nI (pn + ln) * (5 + r 1 i) / 14 = nI ((pn + ln) * (5 + sn) / 14) := by
    have e5 : (5 : Int32) + nI sn = nI (5 + sn) := nI_add 5 sn
    rw [es, e5, pk_mul]
    exact pk_div (a := (pn + ln) * (5 + sn)) (d := 14) (by omega) (by decide) (by decide)
  generalize hqn : (pn + ln) * (5 + sn) = qn at *
  obtain ⟨gn, hg1, hg2, eg⟩ : ∃ gn, gn ≤ pn + ln ∧ qn / 14 ≤ gn ∧ (if nI (qn / 14) = 0 then (if nI (pn + ln) ≤ 0 then nI (qn / 14) else 1) else nI (qn / 14)) = nI gn := by
    by_cases c1 : qn / 14 = 0
    · rw [if_pos (show nI (qn / 14) = 0 by rw [nI_eq0 (show qn / 14 < 2 ^ 31 by omega)]; exact c1)]
      by_cases c2 : pn + ln = 0
      · exact ⟨qn / 14, by omega, by omega, if_pos (by rw [nI_le0 (show pn + ln < 2 ^ 31 by omega)]; exact c2)⟩
      · exact ⟨1, by omega, by omega, if_neg (by rw [nI_le0 (show pn + ln < 2 ^ 31 by omega)]; exact c2)⟩
    · rw [if_neg (show ¬ nI (qn / 14) = 0 by rw [nI_eq0 (show qn / 14 < 2 ^ 31 by omega)]; exact c1)]
      exact ⟨qn / 14, by omega, by omega, rfl⟩
  have e8 := h8 j hj
  have hle := (S6_ge h8 hj).1
  have hl2 : (nI ln).toInt = (ln : Int) := nI_toInt (by omega)
  have hg3 : (nI gn).toInt = (gn : Int) := nI_toInt (by omega)
  have s3 := (S6_ge h3 hi).2
  have s8 := (S6_ge h8 hi).2
  have s9 := (S6_ge h9 hi).2
  have s10 := (S6_ge h10 hi).2
  have eT : (r 12 2 + nI ln).toInt = (r 12 2).toInt + ln := by rw [i_add (by omega) (by omega), hl2]
  have eW : (nI (pn + ln) - nI gn).toInt = (pn : Int) + ln - gn := by rw [pk_sub (by omega), nI_toInt (by omega)]; omega
  have e8g : (r 8 j + nI gn).toInt = (r 8 j).toInt + gn := by rw [i_add (by omega) (by omega), hg3]
  have hw : wet r i (nI xn) = bp (bp (bp r 12 2 (r 12 2 + nI ln)) 3 i (nI (pn + ln) - nI gn)) 8 j (r 8 j + nI gn) := by
    unfold wet
    dsimp only
    rw [el, ew, ef, eg, ej, if_neg (zL_nI hj), nI_clamp (show j < 2 ^ 31 by omega), bp_bp]
  rw [hw]
  refine ⟨⟨?_, ?_, ?_, ?_, ?_, ?_, ?_⟩, ?_⟩
  · rw [bpr (by decide), bpk, bpr (by decide)]; exact Nn_upd h3 (by omega)
  · rw [bpk, bpr (by decide), bpr (by decide)]; exact Nn_upd h8 (by omega)
  · rw [bpr (by decide), bpr (by decide), bpr (by decide)]; exact h9
  · rw [bpr (by decide), bpr (by decide), bpr (by decide)]; exact h10
  · rw [show bp (bp (bp r 12 2 (r 12 2 + nI ln)) 3 i (nI (pn + ln) - nI gn)) 8 j (r 8 j + nI gn) 3 = upd (r 3) i (nI (pn + ln) - nI gn) by rw [bpr (by decide), bpk, bpr (by decide)],
      show bp (bp (bp r 12 2 (r 12 2 + nI ln)) 3 i (nI (pn + ln) - nI gn)) 8 j (r 8 j + nI gn) 8 = upd (r 8) j (r 8 j + nI gn) by rw [bpk, bpr (by decide), bpr (by decide)],
      show bp (bp (bp r 12 2 (r 12 2 + nI ln)) 3 i (nI (pn + ln) - nI gn)) 8 j (r 8 j + nI gn) 9 = r 9 by rw [bpr (by decide), bpr (by decide), bpr (by decide)],
      show bp (bp (bp r 12 2 (r 12 2 + nI ln)) 3 i (nI (pn + ln) - nI gn)) 8 j (r 8 j + nI gn) 10 = r 10 by rw [bpr (by decide), bpr (by decide), bpr (by decide)],
      show bp (bp (bp r 12 2 (r 12 2 + nI ln)) 3 i (nI (pn + ln) - nI gn)) 8 j (r 8 j + nI gn) 12 2 = r 12 2 + nI ln by rw [bpr (by decide), bpr (by decide), bp_eq],
      S6_upd hi, S6_upd hj]
    omega
  · rw [bpr (by decide), bpr (by decide), bp_eq]; omega
  · intro k hk
    rw [bpr (by decide), bpk, bpr (by decide)]
    by_cases e : k = i
    · subst e; rw [upd_eq]; omega
    · rw [upd_ne e]; exact hP k hk
  · rw [bpr (by decide), bpr (by decide), bpr (by decide)]
theorem Gw_wetAll {x : Int32} (hx : ∃ n, n ≤ 99 ∧ x = nI n) : ∀ (n i : Nat) (K : Int) (r : rB), i + n ≤ 6 → K + n * 1980 ≤ 2000000000 → Cf r → Gw K r → Gw (K + n * 1980) (wetAll n i r x) ∧ wetAll n i r x 9 = r 9
  | 0, _, K, r, _, _, _, h => ⟨h.mono (by omega), rfl⟩
  | n + 1, i, K, r, hi, hK, hc, h => by
    have k1 := Gw_wet (i := i) hc h (by omega) (by omega) hx
    have k2 := Gw_wetAll hx n (i + 1) (K + 1980) (wet r i x) (by omega) (by omega) (Cf_wet hc) k1.1
    exact ⟨k2.1.mono (by omega), k2.2.trans k1.2⟩
theorem mn_nI {a b : Nat} (ha : a < 2 ^ 31) (hb : b < 2 ^ 31) : mn (nI a) (nI b) = nI (min a b) := by
  unfold mn
  by_cases h : nI b < nI a
  · rw [if_pos h]
    rw [nI_ltI hb ha] at h
    rw [Nat.min_eq_right (by omega)]
  · rw [if_neg h]
    rw [nI_ltI hb ha] at h
    rw [Nat.min_eq_left (by omega)]
theorem nar_ex {r : rB} {i bn : Nat} {v : Int32} (hc : Cf r) (hi : i < 6) (hv : v = nI bn) (hb : bn ≤ 500) : ∃ n, n ≤ 500 ∧ v * (100 - r 6 i) / 100 = nI n := by
  obtain ⟨ln, hl, el⟩ := (hc.1 i hi).2.2.2.2.2.1
  have e1 : (100 : Int32) - nI ln = nI (100 - ln) := pk_sub (a := 100) (b := ln) hl
  have h2 : bn * (100 - ln) ≤ 500 * 100 := Nat.mul_le_mul hb (by omega)
  refine ⟨bn * (100 - ln) / 100, by omega, ?_⟩
  rw [hv, el, e1, pk_mul]
  exact pk_div (a := bn * (100 - ln)) (d := 100) (by omega) (by decide) (by decide)
theorem pipe_ex {r : rB} {i : Nat} (hc : Cf r) (hi : i < 6) : ∃ n, n ≤ 500 ∧ pipeT r i = nI n := by
  obtain ⟨bn, hb, eb⟩ := (hc.1 i hi).2.2.2.2.1
  obtain ⟨n, hn, en⟩ := nar_ex hc hi eb (by omega)
  unfold pipeT
  dsimp only
  rw [en]
  split
  · split
    · exact ⟨n, hn, rfl⟩
    · exact ⟨1, by omega, rfl⟩
  · exact ⟨n, hn, rfl⟩
theorem room_ex {r : rB} {i : Nat} (hc : Cf r) (hi : i < 6) : ∃ n, n ≤ 500 ∧ roomT r i = nI n := by
  obtain ⟨bn, h1, hb, eb⟩ := (hc.1 i hi).2.2.2.1
  exact nar_ex hc hi eb hb
/-- water moved between two cells -/
theorem Gw_dr {K : Int} {r : rB} {i ln : Nat} (hc : Cf r) (h : Gw K r) (hK : K ≤ 2000000000) (hi : i < 6) (hl : ln < 2 ^ 31) : (∃ m, m < 2 ^ 31 ∧ nI ln - drS r i (nI ln) = nI m) ∧ Gw K (drStep r (nI ln) i) := by
  obtain ⟨pn, hpn, ep⟩ := pipe_ex hc hi
  obtain ⟨h3, h8, h9, h10, hT, hR, hP⟩ := h
  obtain ⟨wn, hwn, ew, ew2⟩ := nn_of (h8 i hi)
  have ed : drS r i (nI ln) = nI (min (min pn wn) ln) := by
    unfold drS drW
    rw [ep, ew, mn_nI (by omega) hwn, mn_nI (by omega) hl]
  have hf1 : min (min pn wn) ln ≤ wn := by omega
  have hf2 : min (min pn wn) ln ≤ ln := by omega
  generalize min (min pn wn) ln = fn at *
  have hf3 : (nI fn).toInt = (fn : Int) := nI_toInt (by omega)
  have s3 := (S6_ge h3 hi).2
  have s8 := S6_ge h8 hi
  have s9 := (S6_ge h9 hi).2
  have s10 := S6_ge h10 hi
  have hd0 := h10 i hi
  have e1 : (r 8 i - nI fn).toInt = (r 8 i).toInt - fn := by rw [i_sub (by omega) (by omega), hf3]
  have e2 : (r 10 i + nI fn).toInt = (r 10 i).toInt + fn := by rw [i_add (by omega) (by omega), hf3]
  refine ⟨⟨ln - fn, by omega, by rw [ed, pk_sub hf2]⟩, ?_⟩
  unfold drStep
  rw [ed]
  refine ⟨?_, ?_, ?_, ?_, ?_, ?_, ?_⟩
  · rw [bpr (by decide), bpr (by decide)]; exact h3
  · rw [bpr (by decide), bpk]; exact Nn_upd h8 (by omega)
  · rw [bpr (by decide), bpr (by decide)]; exact h9
  · rw [bpk, bpr (by decide)]; exact Nn_upd h10 (by omega)
  · rw [show bp (bp r 8 i (r 8 i - nI fn)) 10 i (r 10 i + nI fn) 3 = r 3 by rw [bpr (by decide), bpr (by decide)],
      show bp (bp r 8 i (r 8 i - nI fn)) 10 i (r 10 i + nI fn) 8 = upd (r 8) i (r 8 i - nI fn) by rw [bpr (by decide), bpk],
      show bp (bp r 8 i (r 8 i - nI fn)) 10 i (r 10 i + nI fn) 9 = r 9 by rw [bpr (by decide), bpr (by decide)],
      show bp (bp r 8 i (r 8 i - nI fn)) 10 i (r 10 i + nI fn) 10 = upd (r 10) i (r 10 i + nI fn) by rw [bpk, bpr (by decide)],
      show bp (bp r 8 i (r 8 i - nI fn)) 10 i (r 10 i + nI fn) 12 = r 12 by rw [bpr (by decide), bpr (by decide)], S6_upd hi, S6_upd hi]
    omega
  · rw [bpr (by decide), bpr (by decide)]; exact hR
  · intro k hk; rw [bpr (by decide), bpr (by decide)]; exact hP k hk
theorem dr_9 {r : rB} {i : Nat} {x : Int32} : drStep r x i 9 = r 9 := by
  unfold drStep; rw [bpr (by decide), bpr (by decide)]
theorem Gw_drL : ∀ (n i : Nat) (K : Int) (r : rB) (ln : Nat) (b : Int32), i + n ≤ 6 → K ≤ 2000000000 → ln < 2 ^ 31 → Cf r → Gw K r → Gw K (drL n i r (nI ln) b).1 ∧ (drL n i r (nI ln) b).1 9 = r 9
  | 0, _, _, _, _, _, _, _, _, _, h => ⟨h, rfl⟩
  | n + 1, i, K, r, ln, b, hi, hK, hl, hc, h => by
    obtain ⟨⟨m, hm, em⟩, k1⟩ := Gw_dr (i := i) hc h hK (by omega) hl
    unfold drL
    rw [em]
    have k2 := Gw_drL n (i + 1) K (drStep r (nI ln) i) m (if b = 0 then (if drW r i ≤ drS r i (nI ln) then 0 else 1) else 1) (by omega) hK hm (Cf_dr hc) k1
    exact ⟨k2.1, k2.2.trans dr_9⟩
theorem Gw_12 {K : Int} {r : rB} {k : Nat} {v : Int32} (h : Gw K r) (hk : k ≠ 2) : Gw K (bp r 12 k v) := by
  unfold Gw
  rw [bpr (by decide), bpr (by decide), bpr (by decide), bpr (by decide), bp_ne (by omega)]
  exact h
theorem Gw_empty {K : Int} {r : rB} (hc : Cf r) (h : Gw K r) (hK : K ≤ 2000000000) : Gw K (emptyD r) ∧ emptyD r 9 = r 9 := by
  obtain ⟨dn, hd, ed⟩ := hc.2.1
  have k := Gw_drL 6 0 K r dn 0 (by omega) hK (by omega) hc h
  unfold emptyD
  rw [ed]
  split
  · exact k
  · exact ⟨Gw_12 k.1 (by decide), (bpr (by decide)).trans k.2⟩
theorem Gw_ovf {K : Int} {r : rB} {i : Nat} (hc : Cf r) (h : Gw K r) (hK : K ≤ 2000000000) (hi : i < 6) : Gw K (ovf r i) ∧ Mo r (ovf r i) := by
  obtain ⟨rn, hrn, er⟩ := room_ex hc hi
  have hv := (hc.1 i hi).2.2.2.2.2.2
  obtain ⟨h3, h8, h9, h10, hT, hR, hP⟩ := h
  have h8i := h8 i hi
  have hr2 : (nI rn).toInt = (rn : Int) := nI_toInt (by omega)
  have s3 := (S6_ge h3 hi).2
  have s8 := S6_ge h8 hi
  have s9 := S6_ge h9 hi
  have s10 := (S6_ge h10 hi).2
  have h9i := h9 i hi
  have et : (r 8 i - nI rn).toInt = (r 8 i).toInt - rn := by rw [i_sub (by omega) (by omega), hr2]
  unfold ovf
  dsimp only
  rw [er]
  by_cases ht : 0 < r 8 i - nI rn
  · rw [if_pos ht]
    rw [Int32.lt_iff_toInt_lt, show (0 : Int32).toInt = 0 by decide] at ht
    generalize hte : r 8 i - nI rn = tt at *
    have e1 : (r 8 i - tt).toInt = (r 8 i).toInt - tt.toInt := i_sub (by omega) (by omega)
    rcases hv with hv | ⟨j, hj, hv⟩
    · rw [hv, if_pos zL_m1]
      have e2 : (r 9 i + tt).toInt = (r 9 i).toInt + tt.toInt := i_add (by omega) (by omega)
      refine ⟨⟨?_, ?_, ?_, ?_, ?_, ?_, ?_⟩, ?_⟩
      · rw [bpr (by decide), bpr (by decide)]; exact h3
      · rw [bpr (by decide), bpk]; exact Nn_upd h8 (by omega)
      · rw [bpk, bpr (by decide)]; exact Nn_upd h9 (by omega)
      · rw [bpr (by decide), bpr (by decide)]; exact h10
      · rw [show bp (bp r 8 i (r 8 i - tt)) 9 i (r 9 i + tt) 3 = r 3 by rw [bpr (by decide), bpr (by decide)],
          show bp (bp r 8 i (r 8 i - tt)) 9 i (r 9 i + tt) 8 = upd (r 8) i (r 8 i - tt) by rw [bpr (by decide), bpk],
          show bp (bp r 8 i (r 8 i - tt)) 9 i (r 9 i + tt) 9 = upd (r 9) i (r 9 i + tt) by rw [bpk, bpr (by decide)],
          show bp (bp r 8 i (r 8 i - tt)) 9 i (r 9 i + tt) 10 = r 10 by rw [bpr (by decide), bpr (by decide)],
          show bp (bp r 8 i (r 8 i - tt)) 9 i (r 9 i + tt) 12 = r 12 by rw [bpr (by decide), bpr (by decide)], S6_upd hi, S6_upd hi]
        omega
      · rw [bpr (by decide), bpr (by decide)]; exact hR
      · intro k hk; rw [bpr (by decide), bpr (by decide)]; exact hP k hk
      · intro k hk
        rw [bpk, bpr (by decide)]
        by_cases e : k = i
        · subst e; rw [upd_eq]; omega
        · rw [upd_ne e]; exact Int.le_refl _
    · rw [hv, if_neg (zL_nI hj), nI_clamp (show j < 2 ^ 31 by omega)]
      have hN : Nn (upd (r 8) i (r 8 i - tt)) := Nn_upd h8 (by omega)
      have hS : S6 (upd (r 8) i (r 8 i - tt)) = S6 (r 8) + (r 8 i - tt).toInt - (r 8 i).toInt := S6_upd hi
      have s8j := S6_ge hN hj
      have n8j := hN j hj
      have e2 : (upd (r 8) i (r 8 i - tt) j + tt).toInt = (upd (r 8) i (r 8 i - tt) j).toInt + tt.toInt := i_add (by omega) (by omega)
      have e3 : bp (bp r 8 i (r 8 i - tt)) 8 j (bp r 8 i (r 8 i - tt) 8 j + tt) 8 = upd (upd (r 8) i (r 8 i - tt)) j (upd (r 8) i (r 8 i - tt) j + tt) := by rw [bpk, bpk]
      refine ⟨⟨?_, ?_, ?_, ?_, ?_, ?_, ?_⟩, ?_⟩
      · rw [bpr (by decide), bpr (by decide)]; exact h3
      · rw [e3]; exact Nn_upd hN (by omega)
      · rw [bpr (by decide), bpr (by decide)]; exact h9
      · rw [bpr (by decide), bpr (by decide)]; exact h10
      · rw [e3, show bp (bp r 8 i (r 8 i - tt)) 8 j (bp r 8 i (r 8 i - tt) 8 j + tt) 3 = r 3 by rw [bpr (by decide), bpr (by decide)],
          show bp (bp r 8 i (r 8 i - tt)) 8 j (bp r 8 i (r 8 i - tt) 8 j + tt) 9 = r 9 by rw [bpr (by decide), bpr (by decide)],
          show bp (bp r 8 i (r 8 i - tt)) 8 j (bp r 8 i (r 8 i - tt) 8 j + tt) 10 = r 10 by rw [bpr (by decide), bpr (by decide)],
          show bp (bp r 8 i (r 8 i - tt)) 8 j (bp r 8 i (r 8 i - tt) 8 j + tt) 12 = r 12 by rw [bpr (by decide), bpr (by decide)], S6_upd hj, hS]
        omega
      · rw [bpr (by decide), bpr (by decide)]; exact hR
      · intro k hk; rw [bpr (by decide), bpr (by decide)]; exact hP k hk
      · exact Mo_of (by rw [bpr (by decide), bpr (by decide)])
  · rw [if_neg ht]
    exact ⟨⟨h3, h8, h9, h10, hT, hR, hP⟩, Mo.rf⟩
theorem Gw_ovfAll : ∀ (n i : Nat) (K : Int) (r : rB), i + n ≤ 6 → K ≤ 2000000000 → Cf r → Gw K r → Gw K (ovfAll n i r) ∧ Mo r (ovfAll n i r)
  | 0, _, _, _, _, _, _, h => ⟨h, Mo.rf⟩
  | n + 1, i, K, r, hi, hK, hc, h => by
    have k1 := Gw_ovf (i := i) hc h hK (by omega)
    have k2 := Gw_ovfAll n (i + 1) K (ovf r i) (by omega) hK (Cf_ovf hc) k1.1
    exact ⟨k2.1, k1.2.tr k2.2⟩
theorem Gw_min {K : Int} {r : rB} {x : Int32} (hx : ∃ n, n ≤ 99 ∧ x = nI n) (hc : Cf r) (h : Gw K r) (hK : K + 11880 ≤ 2000000000) : Gw (K + 11880) (minuteC r x) ∧ Mo r (minuteC r x) := by
  have k1 := Gw_wetAll hx 6 0 K r (by omega) (by omega) hc h
  have c1 : Cf (wetAll 6 0 r x) := Cf_of (fun _ hk => wetAll_ne hk 6 0 r x) hc
  have g1 : Gw (K + 11880) (wetAll 6 0 r x) := k1.1.mono (by omega)
  have k2 := Gw_empty c1 g1 hK
  have c2 : Cf (emptyD (wetAll 6 0 r x)) := Cf_of (fun _ hk => emptyD_ne hk) c1
  have k3 := Gw_ovfAll 6 0 (K + 11880) _ (by omega) hK c2 k2.1
  unfold minuteC
  refine ⟨Gw_12 k3.1 (by decide), ?_⟩
  intro k hk
  rw [bpr (by decide)]
  have := k3.2 k hk
  rw [k2.2, k1.2] at this
  exact this
theorem Gw_mins {x : Int32} (hx : ∃ n, n ≤ 99 ∧ x = nI n) : ∀ (n : Nat) (K : Int) (r : rB), Cf r → Gw K r → K + n * 11880 ≤ 2000000000 → Gw (K + n * 11880) (minutesC n r x) ∧ Mo r (minutesC n r x)
  | 0, K, r, _, h, _ => ⟨h.mono (by omega), Mo.rf⟩
  | n + 1, K, r, hc, h, hK => by
    have k1 := Gw_min hx hc h (by omega)
    have k2 := Gw_mins hx n (K + 11880) (minuteC r x) (Cf_min hc) k1.1 (by omega)
    exact ⟨k2.1.mono (by omega), k1.2.tr k2.2⟩
theorem smI_S6 {f : Nat → Int32} (h : Nn f) (hb : S6 f ≤ 2000000000) : (smI f 6 0 0).toInt = S6 f := by
  have a0 := h 0 (by omega)
  have a1 := h 1 (by omega)
  have a2 := h 2 (by omega)
  have a3 := h 3 (by omega)
  have a4 := h 4 (by omega)
  have a5 := h 5 (by omega)
  unfold S6 at hb ⊢
  have z : (0 : Int32).toInt = 0 := by decide
  rw [smI6]
  have e0 : (0 + f 0).toInt = (f 0).toInt := by rw [i_add (by omega) (by omega)]; omega
  have e1 : (0 + f 0 + f 1).toInt = (f 0).toInt + (f 1).toInt := by rw [i_add (by omega) (by omega), e0]
  have e2 : (0 + f 0 + f 1 + f 2).toInt = (f 0).toInt + (f 1).toInt + (f 2).toInt := by rw [i_add (by omega) (by omega), e1]
  have e3 : (0 + f 0 + f 1 + f 2 + f 3).toInt = (f 0).toInt + (f 1).toInt + (f 2).toInt + (f 3).toInt := by rw [i_add (by omega) (by omega), e2]
  have e4 : (0 + f 0 + f 1 + f 2 + f 3 + f 4).toInt = (f 0).toInt + (f 1).toInt + (f 2).toInt + (f 3).toInt + (f 4).toInt := by rw [i_add (by omega) (by omega), e3]
  rw [i_add (by omega) (by omega), e4]
theorem stand_S6 {K : Int} {r : rB} (h : Gw K r) (hK : K ≤ 2000000000) : (standC r).toInt = S6 (r 3) + S6 (r 8) := by
  have hl := h.le (i := 0) (by omega)
  have s3 := (S6_ge h.1 (i := 0) (by omega)).2
  have s8 := (S6_ge h.2.1 (i := 0) (by omega)).2
  unfold standC
  rw [i_add (by rw [smI_S6 h.1 (by omega), smI_S6 h.2.1 (by omega)]; omega) (by rw [smI_S6 h.1 (by omega), smI_S6 h.2.1 (by omega)]; omega), smI_S6 h.1 (by omega), smI_S6 h.2.1 (by omega)]
