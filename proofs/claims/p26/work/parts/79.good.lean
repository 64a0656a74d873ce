/-! what act leaves is good, and what its answers are -/
theorem Gd_7 {K : Int} {r : rB} {sv sw : Int32} (h : Gd K r) (hb : ¬ bkV r sv sw) : Gd K (bp r 7 (aG sv).toNatClampNeg (lo sw 7 - 1)) := by
  have h0 := vl0 h.1 h.2.2 hb
  have hv := vto_g sw
  obtain ⟨g, hg, eg⟩ := aG_nI sv
  rw [eg] at h0
  rw [eg, nI_clamp (show g < 2 ^ 31 by omega)]
  refine ⟨Cf_7 h.1 hv, Gw_ne h.2.1 ⟨by decide, by decide, by decide, by decide, by decide⟩, Vy_set hg h.1 h.2.2 ?_⟩
  rcases hv with e | ⟨k, hk, e⟩
  · exact Or.inl e
  · exact Or.inr ⟨k, hk, e, h0⟩
theorem Gd_11 {K : Int} {r : rB} {i j : Nat} {v : Int32} (h : Gd K r) (hi : i < 3) (ev : v = nI j) (hj : j ≤ mxS i) : Gd K (bp r 11 i v) := by
  refine ⟨⟨fun k hk' => ?_, ?_⟩, Gw_ne h.2.1 ⟨by decide, by decide, by decide, by decide, by decide⟩, Vy_of (bpr (by decide)) h.2.2⟩
  · rw [bpr (show 0 ≠ 11 by decide), bpr (show 1 ≠ 11 by decide), bpr (show 2 ≠ 11 by decide), bpr (show 4 ≠ 11 by decide), bpr (show 5 ≠ 11 by decide), bpr (show 6 ≠ 11 by decide), bpr (show 7 ≠ 11 by decide)]
    exact h.1.1 k hk'
  · rw [bpk]
    obtain ⟨q0, q1, q2⟩ := h.1.2
    rcases (show i = 0 ∨ i = 1 ∨ i = 2 by omega) with rfl | rfl | rfl
    · exact ⟨⟨j, hj, by rw [upd_eq]; exact ev⟩, by rw [upd_ne (by decide)]; exact q1, by rw [upd_ne (by decide)]; exact q2⟩
    · exact ⟨by rw [upd_ne (by decide)]; exact q0, ⟨j, hj, by rw [upd_eq]; exact ev⟩, by rw [upd_ne (by decide)]; exact q2⟩
    · exact ⟨by rw [upd_ne (by decide)]; exact q0, by rw [upd_ne (by decide)]; exact q1, ⟨j, hj, by rw [upd_eq]; exact ev⟩⟩
theorem nn_ge {x : Int32} {n : Nat} (e : x = nI n) (h : n < 2 ^ 31) : -1 ≤ x.toInt := by
  rw [e, nI_toInt h]; omega
theorem vg_ge {x : Int32} (h : vg x) : -1 ≤ x.toInt := by
  rcases h with e | ⟨i, hi, e⟩
  · rw [e]; decide
  · exact nn_ge e (by omega)
theorem S6_lv {r : rB} (hc : Cf r) : Nn (r 6) ∧ S6 (r 6) ≤ 600 := by
  have h : ∀ i, i < 6 → 0 ≤ (r 6 i).toInt ∧ (r 6 i).toInt ≤ 100 := fun i hi => by
    obtain ⟨n, hn, e⟩ := (hc.1 i hi).2.2.2.2.2.1
    rw [e, nI_toInt (by omega)]; omega
  refine ⟨fun i hi => (h i hi).1, ?_⟩
  have a0 := h 0 (by omega)
  have a1 := h 1 (by omega)
  have a2 := h 2 (by omega)
  have a3 := h 3 (by omega)
  have a4 := h 4 (by omega)
  have a5 := h 5 (by omega)
  unfold S6
  omega
theorem acC_good {K : Int} {r : rB} {sv sw : Int32} (h : Gd K r) (hK : K + 712800 ≤ 2000000000) (hb : ¬ blk r sv sw) : Gd (K + 712800) (acC r sv sw).1 ∧ -1 ≤ (acC r sv sw).2.toInt := by
  obtain ⟨k, hk, ek⟩ := pk_andE sv (m := 15) 4 (by decide)
  have hk : k < 16 := hk
  rw [acC_k ek hk]
  rw [blk_k ek hk] at hb
  have hm : Gd (K + 712800) r := h.mono (by omega)
  obtain ⟨g, hg, eg⟩ := aG_nI sv
  have egc : (aG sv).toNatClampNeg = g := by rw [eg, nI_clamp (show g < 2 ^ 31 by omega)]
  obtain ⟨q0, q1, q2, q4, q5, q6, q7⟩ := h.1.1 g hg
  have pl : Gd (K + 712800) (aPl r sv sw).1 ∧ -1 ≤ (aPl r sv sw).2.toInt := by
    obtain ⟨j, hj, ej⟩ := lo201 sw
    obtain ⟨k, hk, ek⟩ := lo10 (sw >>> (8 &&& 31))
    obtain ⟨n, hn, en⟩ := lo6 (sw >>> (12 &&& 31))
    refine ⟨Gd_set (Gd_set (Gd_set hm (Or.inl ⟨rfl, j, by omega, ej⟩)) (Or.inr (Or.inl ⟨rfl, k, by omega, ek⟩))) (Or.inr (Or.inr (Or.inl ⟨rfl, n, hn, en⟩))), ?_⟩
    show -1 ≤ (r 0 (aG sv).toNatClampNeg).toInt
    rw [egc]
    obtain ⟨n, hn, e⟩ := q0
    exact nn_ge e (by omega)
  have gu : Gd (K + 712800) (aGu r sv sw).1 ∧ -1 ≤ (aGu r sv sw).2.toInt := by
    obtain ⟨j, hj, ej⟩ := lo_gN sw sw
    obtain ⟨k, hk, ek⟩ := lo100 (sw >>> (9 &&& 31))
    refine ⟨Gd_set (Gd_set hm (Or.inr (Or.inr (Or.inr (Or.inl ⟨rfl, 1 + j, by omega, by omega, one_add ej⟩))))) (Or.inr (Or.inr (Or.inr (Or.inr (Or.inl ⟨rfl, k, by omega, ek⟩))))), ?_⟩
    show -1 ≤ (r 4 (aG sv).toNatClampNeg).toInt
    rw [egc]
    obtain ⟨n, -, hn, e⟩ := q4
    exact nn_ge e (by omega)
  have wk : Gd (K + 712800) (aWk r sw).1 ∧ -1 ≤ (aWk r sw).2.toInt := by
    have hw : Gd (K + 712800) (aWk r sw).1 := Gd_wks _ r hm
    refine ⟨hw, ?_⟩
    obtain ⟨a, b⟩ := S6_lv hw.1
    show -1 ≤ (smI ((aWk r sw).1 6) 6 0 0).toInt
    rw [smI_S6 a (by omega)]
    have := (S6_ge a (i := 0) (by omega)).2
    omega
  have ra : Gd (K + 712800) (aRa r sw).1 ∧ -1 ≤ (aRa r sw).2.toInt := by
    obtain ⟨j, hj, ej⟩ := lo_rN sw sw
    obtain ⟨n, hn, en⟩ := lo_mN (sw >>> (7 &&& 31)) sw
    have e1 : ((1 : Int32) + lo (sw >>> (7 &&& 31)) (mN sw)).toNatClampNeg = 1 + n := by rw [one_add en, nI_clamp (show 1 + n < 2 ^ 31 by omega)]
    unfold aRa
    rw [e1]
    have hx : ∃ n, n ≤ 99 ∧ lo sw (rN sw) = nI n := ⟨j, by omega, ej⟩
    have hw := Gd_mins (n := 1 + n) hx h (by omega)
    have hmo := (Gw_mins hx (1 + n) K r h.1 h.2.1 (by omega)).2
    refine ⟨hw.mono (by omega), ?_⟩
    show -1 ≤ (smI (minutesC (1 + n) r (lo sw (rN sw)) 9) 6 0 0 - smI (r 9) 6 0 0).toInt
    generalize minutesC (1 + n) r (lo sw (rN sw)) = y at *
    have hy := hw.2.1.le (i := 0) (by omega)
    have hr := h.2.1.le (i := 0) (by omega)
    have s1 := smI_S6 hw.2.1.2.2.1 (by omega)
    have s2 := smI_S6 h.2.1.2.2.1 (by omega)
    have g1 := (S6_ge hw.2.1.2.2.1 (i := 0) (by omega)).2
    have g2 := (S6_ge h.2.1.2.2.1 (i := 0) (by omega)).2
    have m0 := hmo 0 (by omega)
    have m1 := hmo 1 (by omega)
    have m2 := hmo 2 (by omega)
    have m3 := hmo 3 (by omega)
    have m4 := hmo 4 (by omega)
    have m5 := hmo 5 (by omega)
    have hle : S6 (r 9) ≤ S6 (y 9) := by unfold S6; omega
    rw [i_sub (by omega) (by omega), s1, s2]
    omega
  rcases (show k = 0 ∨ k = 1 ∨ k = 2 ∨ k = 3 ∨ k = 4 ∨ k = 5 ∨ k = 6 ∨ k = 7 ∨ k = 8 ∨ k = 9 ∨ k = 10 ∨ k = 11 ∨ k = 12 ∨ k = 13 ∨ k = 14 ∨ k = 15 by omega) with rfl | rfl | rfl | rfl | rfl | rfl | rfl | rfl | rfl | rfl | rfl | rfl | rfl | rfl | rfl | rfl
  · exact pl
  · exact pl
  · exact gu
  · exact gu
  · refine ⟨Gd_7 hm (fun h9 => hb ⟨by decide, h9⟩), ?_⟩
    show -1 ≤ (r 7 (aG sv).toNatClampNeg).toInt
    rw [egc]; exact vg_ge q7
  · refine ⟨Gd_7 hm (fun h9 => hb ⟨by decide, h9⟩), ?_⟩
    show -1 ≤ (r 7 (aG sv).toNatClampNeg).toInt
    rw [egc]; exact vg_ge q7
  · refine ⟨Gd_set hm (Or.inr (Or.inr (Or.inr (Or.inr (Or.inr ⟨rfl, 0, by omega, rfl⟩))))), ?_⟩
    show -1 ≤ (r 6 (aG sv).toNatClampNeg).toInt
    rw [egc]
    obtain ⟨n, hn, e⟩ := q6
    exact nn_ge e (by omega)
  · obtain ⟨i, j, hi, ei, ej, hj⟩ := sV_in sw
    have eic : (lo sw 3).toNatClampNeg = i := by rw [ei, nI_clamp (show i < 2 ^ 31 by omega)]
    show Gd (K + 712800) (bp r 11 (lo sw 3).toNatClampNeg (sV sw)) ∧ -1 ≤ (r 11 (lo sw 3).toNatClampNeg).toInt
    rw [eic]
    refine ⟨Gd_11 hm hi ej hj, ?_⟩
    obtain ⟨⟨a, ha, ea⟩, ⟨b, hb', eb⟩, ⟨c, hc', ec⟩⟩ := h.1.2
    rcases (show i = 0 ∨ i = 1 ∨ i = 2 by omega) with rfl | rfl | rfl
    · exact nn_ge ea (by omega)
    · exact nn_ge eb (by omega)
    · exact nn_ge ec (by omega)
  · exact wk
  · exact wk
  all_goals exact ra
/-! holds: what a good roof shows -/
theorem ring_L {r : rB} {t : Int32} (hc : Cf r) : ∀ (m : Nat) (b : Int32) (n : Nat), vg b → vlead r t m b = 1 → vE r n b → vE r n t
  | 0, _, _, _, h, _ => absurd (show (0 : Int32) = 1 from h) (by decide)
  | m + 1, b, n, hb, h, he => by
    unfold vlead at h
    by_cases hz : zL b 6 = 0
    · rw [if_pos hz] at h; exact absurd h (by decide)
    · rw [if_neg hz] at h
      by_cases hbt : b = t
      · rw [← hbt]; exact he
      · rw [if_neg hbt] at h
        rcases hb with e | ⟨i, hi, e⟩
        · exact absurd (by rw [e]; exact zL_m1) hz
        · cases n with
          | zero => exact absurd (he.symm.trans e).symm (nI_nm1 (show i < 2 ^ 31 by omega))
          | succ n =>
            rcases he with he | he
            · exact absurd (he.symm.trans e).symm (nI_nm1 (show i < 2 ^ 31 by omega))
            · rw [e, nI_clamp (show i < 2 ^ 31 by omega)] at h he
              exact vE_mono n 1 _ (ring_L hc m _ n (hc.v hi) h he)
theorem ring_no {r : rB} {k m : Nat} (hc : Cf r) (hk : k < 6) (h : vlead r (nI k) m (r 7 k) = 1) : ∀ n, ¬ vE r n (nI k)
  | 0, he => nI_nm1 (show k < 2 ^ 31 by omega) he
  | n + 1, he => by
    rcases he with he | he
    · exact nI_nm1 (show k < 2 ^ 31 by omega) he
    · rw [nI_clamp (show k < 2 ^ 31 by omega)] at he
      exact ring_no hc hk h n (ring_L hc m _ n (hc.v hk) h he)
theorem h_ring {K : Int} {r : rB} (h : Gd K r) : ∀ i, i < 6 → ¬ r 7 i < 0 → ¬ ldV r (nI i) 6 (r 7 i) = nI i := by
  intro i hi _ e
  have e2 := led_v hi h.1 6 (r 7 i) (h.1.v hi) (vE_of h.2.2 (h.1.v hi))
  rw [if_pos e] at e2
  exact ring_no h.1 hi e2.symm 6 (h.2.2 i hi)
theorem h_self {K : Int} {r : rB} (h : Gd K r) {i : Nat} (hi : i < 6) : ¬ r 7 i = nI i := by
  intro e
  refine h_ring h i hi (by rw [e]; exact nI_pos (by omega)) ?_
  rw [e]
  show (if nI i < 0 then nI i else if nI i = nI i then nI i else _) = nI i
  rw [if_neg (nI_pos (by omega)), if_pos rfl]
theorem nar_le {r : rB} {i bn : Nat} {v : Int32} (hc : Cf r) (hi : i < 6) (hv : v = nI bn) (hb : bn ≤ 500) : ∃ n, n ≤ bn ∧ v * (100 - r 6 i) / 100 = nI n := by
  obtain ⟨ln, hl, el⟩ := (hc.1 i hi).2.2.2.2.2.1
  have e1 : (100 : Int32) - nI ln = nI (100 - ln) := pk_sub (a := 100) (b := ln) hl
  have h1 : bn * (100 - ln) ≤ bn * 100 := Nat.mul_le_mul_left _ (by omega)
  refine ⟨bn * (100 - ln) / 100, by omega, ?_⟩
  rw [hv, el, e1, pk_mul]
  exact pk_div (a := bn * (100 - ln)) (d := 100) (by omega) (by decide) (by decide)
theorem nIle_nlt {a b : Nat} (h : b ≤ a) (ha : a < 2 ^ 31) : ¬ nI a < nI b := by
  intro h9
  rw [Int32.lt_iff_toInt_lt, nI_toInt ha, nI_toInt (by omega)] at h9
  omega
theorem h_room {r : rB} (hc : Cf r) : ∀ i, i < 6 → ¬ r 4 i < roomT r i := by
  intro i hi
  obtain ⟨bn, -, hb, eb⟩ := (hc.1 i hi).2.2.2.1
  obtain ⟨n, hn, en⟩ := nar_le hc hi eb hb
  unfold roomT
  rw [en, eb]
  exact nIle_nlt hn (by omega)
theorem h_pipe {r : rB} (hc : Cf r) : ∀ i, i < 6 → ¬ r 5 i < pipeT r i ∧ (pipeT r i = 0 ↔ r 5 i = 0) := by
  intro i hi
  obtain ⟨bn, hb, eb⟩ := (hc.1 i hi).2.2.2.2.1
  obtain ⟨n, hn, en⟩ := nar_le hc hi eb (by omega)
  unfold pipeT
  dsimp only
  rw [en, eb]
  by_cases h0 : n = 0
  · subst h0
    rw [if_pos (show nI 0 = 0 from rfl)]
    by_cases h1 : bn = 0
    · subst h1
      rw [if_pos (show nI 0 = 0 from rfl)]
      exact ⟨nIle_nlt (Nat.le_refl _) (by decide), Iff.rfl⟩
    · have h2 : ¬ nI bn = 0 := by rw [nI_eq0 (show bn < 2 ^ 31 by omega)]; exact h1
      rw [if_neg h2]
      exact ⟨nIle_nlt (a := bn) (b := 1) (by omega) (by omega), fun h => absurd h (by decide), fun h => absurd h h2⟩
  · have h1 : ¬ nI n = 0 := by rw [nI_eq0 (show n < 2 ^ 31 by omega)]; exact h0
    have h2 : ¬ nI bn = 0 := by rw [nI_eq0 (show bn < 2 ^ 31 by omega)]; omega
    rw [if_neg h1]
    exact ⟨nIle_nlt hn (by omega), fun h => absurd h h1, fun h => absurd h h2⟩
theorem h_leaf {r : rB} (hc : Cf r) : ∀ i, i < 6 → ¬ 100 < r 6 i := by
  intro i hi
  obtain ⟨n, hn, e⟩ := (hc.1 i hi).2.2.2.2.2.1
  rw [e]
  exact nIle_nlt (a := 100) hn (by decide)
theorem h_in {K : Int} {r : rB} (h : Gw K r) : ∀ i, i < 6 → 0 ≤ r 8 i := by
  intro i hi
  rw [Int32.le_iff_toInt_le]
  exact h.2.1 i hi
theorem h_sum {K : Int} {r : rB} (h : Gw K r) (hK : K ≤ 2000000000) : r 12 2 = standC r + smI (r 10) 6 0 0 + smI (r 9) 6 0 0 := by
  have hl := h.le (i := 0) (by omega)
  have hs := stand_S6 h hK
  obtain ⟨h3, h8, h9, h10, hT, hR, -⟩ := h
  have g3 := (S6_ge h3 (i := 0) (by omega)).2
  have g8 := (S6_ge h8 (i := 0) (by omega)).2
  have g9 := (S6_ge h9 (i := 0) (by omega)).2
  have g10 := (S6_ge h10 (i := 0) (by omega)).2
  have s9 := smI_S6 h9 (by omega)
  have s10 := smI_S6 h10 (by omega)
  have e1 : (standC r + smI (r 10) 6 0 0).toInt = (standC r).toInt + (smI (r 10) 6 0 0).toInt := i_add (by omega) (by omega)
  apply Int32.toInt_inj.mp
  rw [i_add (by omega) (by omega), e1]
  omega
theorem dy_ne : ∀ (n i : Nat) (q : rB), 0 < i → i + n < 2 ^ 31 → ¬ (dyC n i q).2 = 0
  | 0, _, _, _, _ => by show ¬ (-1 : Int32) = 0; decide
  | n + 1, i, q, h0, h => by
    unfold dyC
    by_cases hs : standC q = 0
    · rw [if_pos hs]
      show ¬ nI i = 0
      rw [nI_eq0 (show i < 2 ^ 31 by omega)]; omega
    · rw [if_neg hs]
      exact dy_ne n (i + 1) _ (by omega) (by omega)
theorem h_dry (r : rB) : standC r = 0 ↔ (dyC 301 0 r).2 = 0 := by
  show _ ↔ (if standC r = 0 then (r, nI 0) else dyC 300 (0 + 1) (minuteC r 0)).2 = 0
  by_cases hs : standC r = 0
  · rw [if_pos hs]; exact ⟨fun _ => rfl, fun _ => hs⟩
  · rw [if_neg hs]; exact ⟨fun h => absurd h hs, fun h => absurd h (dy_ne _ _ _ (by omega) (by omega))⟩
/-! behind a minute, a gutter that no later one feeds holds no more than its room -/
theorem fd_0 {r : rB} {i : Nat} : ∀ (n e : Nat) (b : Int32), fdV r i n e b = 0 → b = 0 ∧ ∀ k, e ≤ k → k < e + n → ¬ r 7 k = nI i
  | 0, _, _, h => ⟨h, fun k h1 h2 => absurd h2 (by omega)⟩
  | n + 1, e, b, h => by
    obtain ⟨h1, h2⟩ := fd_0 n (e + 1) _ h
    by_cases hb : b = 0
    · rw [if_pos hb] at h1
      refine ⟨hb, fun k hk1 hk2 => ?_⟩
      by_cases hke : k = e
      · subst hke
        intro h9
        rw [if_pos h9] at h1
        exact absurd h1 (by decide)
      · exact h2 k (by omega) (by omega)
    · rw [if_neg hb] at h1
      exact absurd h1 (by decide)
theorem ovf_oth {r : rB} {e i : Nat} (hc : Cf r) (he : e < 6) (hi : i < 6) (hei : i ≠ e) (hv : ¬ r 7 e = nI i) : ovf r e 8 i = r 8 i := by
  unfold ovf
  by_cases ht : 0 < r 8 e - roomT r e
  · rw [if_pos ht]
    rcases hc.v he with e1 | ⟨j, hj, e1⟩
    · rw [e1, if_pos zL_m1, bpr (by decide), bp_ne hei]
    · have hij : i ≠ j := fun q => hv (by rw [e1, q])
      rw [e1, if_neg (zL_nI hj), nI_clamp (show j < 2 ^ 31 by omega), bp_ne hij, bp_ne hei]
  · rw [if_neg ht]
theorem ovf_own {K : Int} {r : rB} {i : Nat} (hc : Cf r) (h : Gw K r) (hK : K ≤ 2000000000) (hi : i < 6) (hv : ¬ r 7 i = nI i) : ovf r i 8 i ≤ roomT r i := by
  obtain ⟨rn, hrn, er⟩ := room_ex hc hi
  have h8i := h.2.1 i hi
  have hl := (h.le hi).2.1
  have hr2 : (nI rn).toInt = (rn : Int) := nI_toInt (by omega)
  have et : (r 8 i - nI rn).toInt = (r 8 i).toInt - rn := by rw [i_sub (by omega) (by omega), hr2]
  unfold ovf
  rw [er]
  by_cases ht : 0 < r 8 i - nI rn
  · rw [if_pos ht]
    have e1 : r 8 i - (r 8 i - nI rn) = nI rn := by grind
    rcases hc.v hi with e2 | ⟨j, hj, e2⟩
    · rw [e2, if_pos zL_m1, bpr (by decide), bp_eq, e1, Int32.le_iff_toInt_le]; exact Int.le_refl _
    · have hij : i ≠ j := fun q => hv (by rw [e2, q])
      rw [e2, if_neg (zL_nI hj), nI_clamp (show j < 2 ^ 31 by omega), bp_ne hij, bp_eq, e1, Int32.le_iff_toInt_le]; exact Int.le_refl _
  · rw [if_neg ht]
    rw [Int32.lt_iff_toInt_lt, et, show (0 : Int32).toInt = 0 by decide] at ht
    rw [Int32.le_iff_toInt_le, hr2]; omega
theorem ov_keep {i : Nat} (hi : i < 6) : ∀ (n e : Nat) (r : rB), i < e → e + n = 6 → Cf r → (∀ k, e ≤ k → k < 6 → ¬ r 7 k = nI i) → ovfAll n e r 8 i = r 8 i
  | 0, _, _, _, _, _, _ => rfl
  | n + 1, e, r, h1, h2, hc, hv => by
    have h7 : ovf r e 7 = r 7 := ovf_ne ⟨by decide, by decide, by decide, by decide, by decide⟩
    show ovfAll n (e + 1) (ovf r e) 8 i = r 8 i
    rw [ov_keep hi n (e + 1) (ovf r e) (by omega) (by omega) (Cf_ovf hc) (fun k h3 h4 => by rw [h7]; exact hv k (by omega) h4)]
    exact ovf_oth hc (by omega) hi (by omega) (hv e (Nat.le_refl _) (by omega))
theorem roomT_cong {r q : rB} {i : Nat} (h4 : q 4 = r 4) (h6 : q 6 = r 6) : roomT q i = roomT r i := by unfold roomT; rw [h4, h6]
theorem ov_le {i : Nat} {K : Int} (hi : i < 6) (hK : K ≤ 2000000000) : ∀ (n e : Nat) (r : rB), e ≤ i → e + n = 6 → Cf r → Gw K r → ¬ r 7 i = nI i → (∀ k, i < k → k < 6 → ¬ r 7 k = nI i) → ovfAll n e r 8 i ≤ roomT r i
  | 0, e, _, h1, h2, _, _, _, _ => absurd h2 (by omega)
  | n + 1, e, r, h1, h2, hc, hG, hs, hv => by
    have h7 : ovf r e 7 = r 7 := ovf_ne ⟨by decide, by decide, by decide, by decide, by decide⟩
    have h4 : ovf r e 4 = r 4 := ovf_ne ⟨by decide, by decide, by decide, by decide, by decide⟩
    have h6 : ovf r e 6 = r 6 := ovf_ne ⟨by decide, by decide, by decide, by decide, by decide⟩
    show ovfAll n (e + 1) (ovf r e) 8 i ≤ roomT r i
    by_cases hei : e = i
    · subst hei
      rw [ov_keep hi n (e + 1) (ovf r e) (by omega) (by omega) (Cf_ovf hc) (fun k h3 h4 => by rw [h7]; exact hv k (by omega) h4)]
      exact ovf_own hc hG hK hi hs
    · rw [← roomT_cong (i := i) h4 h6]
      exact ov_le hi hK n (e + 1) (ovf r e) (by omega) (by omega) (Cf_ovf hc) (Gw_ovf hc hG hK (by omega)).1 (by rw [h7]; exact hs) (fun k h3 h4 => by rw [h7]; exact hv k h3 h4)
theorem min_le {K : Int} {r : rB} {x : Int32} (hx : ∃ n, n ≤ 99 ∧ x = nI n) (h : Gd K r) (hK : K + 11880 ≤ 2000000000) {i : Nat} (hi : i < 6) (hv : ∀ k, i < k → k < 6 → ¬ r 7 k = nI i) : minuteC r x 8 i ≤ roomT r i := by
  have k1 := Gw_wetAll hx 6 0 K r (by omega) (by omega) h.1 h.2.1
  have c1 : Cf (wetAll 6 0 r x) := Cf_of (fun _ hk => wetAll_ne hk 6 0 r x) h.1
  have g1 : Gw (K + 11880) (wetAll 6 0 r x) := k1.1.mono (by omega)
  have k2 := Gw_empty c1 g1 hK
  have c2 : Cf (emptyD (wetAll 6 0 r x)) := Cf_of (fun _ hk => emptyD_ne hk) c1
  have w : ∀ k, wr5 k → emptyD (wetAll 6 0 r x) k = r k := fun k hk => (emptyD_ne hk).trans (wetAll_ne hk 6 0 r x)
  have h7 : emptyD (wetAll 6 0 r x) 7 = r 7 := w 7 ⟨by decide, by decide, by decide, by decide, by decide⟩
  have h4 : emptyD (wetAll 6 0 r x) 4 = r 4 := w 4 ⟨by decide, by decide, by decide, by decide, by decide⟩
  have h6 : emptyD (wetAll 6 0 r x) 6 = r 6 := w 6 ⟨by decide, by decide, by decide, by decide, by decide⟩
  unfold minuteC
  rw [bpr (by decide), ← roomT_cong (i := i) h4 h6]
  exact ov_le hi hK 6 0 _ (by omega) (by omega) c2 k2.1 (by rw [h7]; exact h_self h hi) (fun k h3 h4 => by rw [h7]; exact hv k h3 h4)
theorem mins_last {x : Int32} : ∀ (n : Nat) (r : rB), minutesC (n + 1) r x = minuteC (minutesC n r x) x
  | 0, _ => rfl
  | n + 1, r => mins_last n (minuteC r x)
theorem h_rained {K : Int} {r : rB} {sv sw : Int32} (h : Gd K r) (hK : K + 712800 ≤ 2000000000) (hk : ∃ k, 9 < k ∧ k < 16 ∧ sv &&& 15 = nI k) : ∀ i, i < 6 → fdV (acC r sv sw).1 i (6 - (i + 1)) (i + 1) 0 = 0 → (acC r sv sw).1 8 i ≤ roomT (acC r sv sw).1 i := by
  obtain ⟨k, h1, h2, ek⟩ := hk
  intro i hi hf
  have e : acC r sv sw = aRa r sw := by
    rw [acC_k ek h2]
    rcases (show k = 10 ∨ k = 11 ∨ k = 12 ∨ k = 13 ∨ k = 14 ∨ k = 15 by omega) with rfl | rfl | rfl | rfl | rfl | rfl <;> rfl
  obtain ⟨j, hj, ej⟩ := lo_rN sw sw
  obtain ⟨n, hn, en⟩ := lo_mN (sw >>> (7 &&& 31)) sw
  have e1 : ((1 : Int32) + lo (sw >>> (7 &&& 31)) (mN sw)).toNatClampNeg = n + 1 := by rw [one_add en, nI_clamp (show 1 + n < 2 ^ 31 by omega), Nat.add_comm]
  have hx : ∃ n, n ≤ 99 ∧ lo sw (rN sw) = nI n := ⟨j, by omega, ej⟩
  have e2 : (acC r sv sw).1 = minuteC (minutesC n r (lo sw (rN sw))) (lo sw (rN sw)) := by
    rw [e]
    show minutesC ((1 : Int32) + lo (sw >>> (7 &&& 31)) (mN sw)).toNatClampNeg r (lo sw (rN sw)) = _
    rw [e1]
    exact mins_last n r
  rw [e2] at hf ⊢
  have hw := Gd_mins (n := n) hx h (by omega)
  generalize minutesC n r (lo sw (rN sw)) = y at *
  have w : ∀ k, wr5 k → minuteC y (lo sw (rN sw)) k = y k := fun k hk => minuteC_ne hk
  have h7 := w 7 ⟨by decide, by decide, by decide, by decide, by decide⟩
  have h4 := w 4 ⟨by decide, by decide, by decide, by decide, by decide⟩
  have h6 := w 6 ⟨by decide, by decide, by decide, by decide, by decide⟩
  rw [roomT_cong (i := i) h4 h6]
  have hf2 := (fd_0 _ _ _ hf).2
  exact min_le hx hw (by omega) hi (fun k h3 h4 => by have := hf2 k (by omega) (by omega); rw [h7] at this; exact this)
