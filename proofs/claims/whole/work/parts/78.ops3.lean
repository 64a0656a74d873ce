/-! undo, looks, what would be -/
theorem o_undo {j : Nat} {r t : rB} {L n old held : Nat} {B : Nat → rB} {m : rB} (h : Inv j r t L n old held B m) :
    (¬ cUnd held = 0 → unB m held 5 0 = nI (cUnd held - 2) ∧ Inv (j + 1) r t L n old held B (unB m held)) ∧
    (cUnd held = 0 → unV held = nI (held - 1) ∧ unB m held 5 0 = 0 ∧ Inv (j + 1) (B ((old + (held - 1)) % 6)) t L n old (held - 1) B (unB m held)) := by
  unfold cUnd unB unV
  by_cases c : held = 0
  · rw [if_pos c, if_pos c, if_pos c]
    exact ⟨fun _ => fail_inv h, fun e => absurd e (by decide)⟩
  · rw [if_neg c, if_neg c, if_neg c]
    refine ⟨fun e => absurd rfl e, fun _ => ⟨rfl, ?_, ?_⟩⟩
    · rw [sr_ne (by decide)]; exact (bp_ne (by decide)).trans bp_eq
    · obtain ⟨a, b, cc, ⟨d1, d2, d3, d4⟩, ⟨e1, e2⟩, f⟩ := h
      have hk : KK j L ≤ KK (j + 1) L := by unfold KK; omega
      have hf := f (held - 1) (by omega)
      have h3 : sr (bp (bp m 5 0 0) 5 1 (nI (held - 1))) 0 (fun i => m 2 (75 * (held - 1) + i)) 3 = m 3 := (sr_ne (by decide)).trans ((bpr (by decide)).trans (bpr (by decide)))
      have h2 : sr (bp (bp m 5 0 0) 5 1 (nI (held - 1))) 0 (fun i => m 2 (75 * (held - 1) + i)) 2 = m 2 := (sr_ne (by decide)).trans ((bpr (by decide)).trans (bpr (by decide)))
      have h5 : sr (bp (bp m 5 0 0) 5 1 (nI (held - 1))) 0 (fun i => m 2 (75 * (held - 1) + i)) 5 = bp (bp m 5 0 0) 5 1 (nI (held - 1)) 5 := sr_ne (by decide)
      refine ⟨svOk_drop a, ?_, hf.2.mono hk, ⟨d1, d2, by omega, fun i hi => by rw [h3]; exact d4 i hi⟩, ⟨?_, ?_⟩, fun i hi => ?_⟩
      · rw [sr_eq]; exact hf.1
      · rw [h5]; exact (bp_ne (by decide)).trans ((bp_ne (by decide)).trans e1)
      · rw [h5]; exact bp_eq
      · rw [h2]
        exact ⟨(f i (by omega)).1, (f i (by omega)).2.mono hk⟩
theorem look_inv {j : Nat} {r t : rB} {L n old held : Nat} {B : Nat → rB} {m : rB} (h : Inv j r t L n old held B m) : Inv (j + 1) r t L n old held B (bp m 5 0 0) :=
  inv_frame h (bpr (by decide)) (bpr (by decide)) (bpr (by decide)) (bp_ne (by decide)) (bp_ne (by decide))
theorem asd_inv {j : Nat} {r t : rB} {L n old held : Nat} {B : Nat → rB} {m : rB} (h : Inv j r t L n old held B m) : Inv (j + 1) r t L n old held B (asd (bp m 5 0 0)) :=
  inv_frame h ((sr_ne (by decide)).trans (bpr (by decide))) ((sr_ne (by decide)).trans (bpr (by decide))) ((sr_ne (by decide)).trans (bpr (by decide))) ((congrFun (sr_ne (by decide)) 1).trans (bp_ne (by decide))) ((congrFun (sr_ne (by decide)) 2).trans (bp_ne (by decide)))
theorem pn_eq {r m : rB} {i w : Nat} (h : Rl r (m 0)) (hi : i < 6) (hw : w < 4) : pnC r i w = m 0 (9 + 4 * i + w) := by
  have e : w = 0 ∨ w = 1 ∨ w = 2 ∨ w = 3 := by omega
  rcases e with rfl | rfl | rfl | rfl
  · exact h.1 i hi
  · exact h.2.1 i hi
  · exact h.2.2.1 i hi
  · exact h.2.2.2.1 i hi
theorem gn_eq {r m : rB} {i w : Nat} (h : Rl r (m 0)) (hc : Cf r) (hi : i < 6) (hw : w < 9) : gnC r i w = tgM m i w := by
  have e : w = 0 ∨ w = 1 ∨ w = 2 ∨ w = 3 ∨ w = 4 ∨ w = 5 ∨ w = 6 ∨ w = 7 ∨ w = 8 := by omega
  rcases e with rfl | rfl | rfl | rfl | rfl | rfl | rfl | rfl | rfl
  · exact h.2.2.2.2.1 i hi
  · exact h.2.2.2.2.2.1 i hi
  · exact h.2.2.2.2.2.2.1 i hi
  · exact h.2.2.2.2.2.2.2.1 i hi
  · exact h.2.2.2.2.2.2.2.2.1 i hi
  · exact room_eq h hi
  · exact pipe_eq h hi hc
  · exact h.2.2.2.2.2.2.2.2.2.1 i hi
  · exact h.2.2.2.2.2.2.2.2.2.2.1 i hi
theorem cn_eq {r m : rB} {w held : Nat} (h : Rl r (m 0)) (h5 : m 5 1 = nI held) (hw : w < 9) : cnC r (nI held) w = cnM m w := by
  have e : w = 0 ∨ w = 1 ∨ w = 2 ∨ w = 3 ∨ w = 4 ∨ w = 5 ∨ w = 6 ∨ w = 7 ∨ w = 8 := by omega
  rcases e with rfl | rfl | rfl | rfl | rfl | rfl | rfl | rfl | rfl
  · exact h.2.2.2.2.2.2.2.2.2.2.2.2.1
  · exact h.2.2.2.2.2.2.2.2.2.2.2.2.2.1
  · exact h.2.2.2.2.2.2.2.2.2.2.2.2.2.2.1
  · exact Rl_st h
  · exact h.2.2.2.2.2.2.2.2.2.2.2.2.2.2.2.2.1
  · exact h.2.2.2.2.2.2.2.2.2.2.2.2.2.2.2.2.2
  · exact h.2.2.2.2.2.2.2.2.2.2.2.2.2.2.2.1
  · exact Rl_lv h
  · exact h5.symm
theorem o_planeOf {j : Nat} {r t : rB} {L n old held : Nat} {B : Nat → rB} {m : rB} (h : Inv j r t L n old held B m) (p w : Int32) :
    (¬ cPof p w = 0 → plnB m p w 5 0 = nI (cPof p w) ∧ Inv (j + 1) r t L n old held B (plnB m p w)) ∧
    (cPof p w = 0 → plnV m p w = pnC r p.toNatClampNeg w.toNatClampNeg ∧ plnB m p w 5 0 = 0 ∧ Inv (j + 1) r t L n old held B (plnB m p w)) := by
  unfold cPof plnV plnB
  rw [← zL6 p]
  by_cases c1 : zL p 6 = 0
  · rw [if_pos c1, if_pos c1, if_pos c1]
    exact ⟨fun _ => fail_inv h, fun e => absurd e (by decide)⟩
  · rw [if_neg c1, if_neg c1, if_neg c1]
    by_cases c3 : zW w 0 3 = 0
    · rw [if_pos c3, if_pos c3, if_pos c3]
      exact ⟨fun _ => fail_inv h, fun e => absurd e (by decide)⟩
    · rw [if_neg c3, if_neg c3, if_neg c3]
      refine ⟨fun e => absurd rfl e, fun _ => ?_⟩
      rw [zL6] at c1
      obtain ⟨i, -, hi, rfl⟩ := zW_b (a := 0) (b := 5) (by decide) (by decide) c1
      obtain ⟨u, -, hu, rfl⟩ := zW_b (a := 0) (b := 3) (by decide) (by decide) c3
      rw [nI_clamp (show i < 2 ^ 31 by omega), nI_clamp (show u < 2 ^ 31 by omega)]
      exact ⟨by rw [bpr (show 0 ≠ 5 by decide)]; exact (pn_eq h.2.1 (by omega) (by omega)).symm, bp_eq, look_inv h⟩
theorem o_gutterOf {j : Nat} {r t : rB} {L n old held : Nat} {B : Nat → rB} {m : rB} (h : Inv j r t L n old held B m) (p w : Int32) :
    (¬ cGof p w = 0 → gtnB m p w 5 0 = nI (cGof p w) ∧ Inv (j + 1) r t L n old held B (gtnB m p w)) ∧
    (cGof p w = 0 → gtnV m p w = gnC r p.toNatClampNeg w.toNatClampNeg ∧ gtnB m p w 5 0 = 0 ∧ Inv (j + 1) r t L n old held B (gtnB m p w)) := by
  unfold cGof gtnV gtnB
  rw [← zL6 p]
  by_cases c1 : zL p 6 = 0
  · rw [if_pos c1, if_pos c1, if_pos c1]
    exact ⟨fun _ => fail_inv h, fun e => absurd e (by decide)⟩
  · rw [if_neg c1, if_neg c1, if_neg c1]
    by_cases c3 : zW w 0 8 = 0
    · rw [if_pos c3, if_pos c3, if_pos c3]
      exact ⟨fun _ => fail_inv h, fun e => absurd e (by decide)⟩
    · rw [if_neg c3, if_neg c3, if_neg c3]
      refine ⟨fun e => absurd rfl e, fun _ => ?_⟩
      rw [zL6] at c1
      obtain ⟨i, -, hi, rfl⟩ := zW_b (a := 0) (b := 5) (by decide) (by decide) c1
      obtain ⟨u, -, hu, rfl⟩ := zW_b (a := 0) (b := 8) (by decide) (by decide) c3
      rw [nI_clamp (show i < 2 ^ 31 by omega), nI_clamp (show u < 2 ^ 31 by omega)]
      exact ⟨(gn_eq (m := bp m 5 0 0) (by rw [bpr (show 0 ≠ 5 by decide)]; exact h.2.1) h.2.2.1.1 (by omega) (by omega)).symm, bp_eq, look_inv h⟩
theorem o_count {j : Nat} {r t : rB} {L n old held : Nat} {B : Nat → rB} {m : rB} (h : Inv j r t L n old held B m) (w : Int32) :
    (¬ cCnt w = 0 → cntB m w 5 0 = nI (cCnt w - 1) ∧ Inv (j + 1) r t L n old held B (cntB m w)) ∧
    (cCnt w = 0 → cntV m w = cnC r (nI held) w.toNatClampNeg ∧ cntB m w 5 0 = 0 ∧ Inv (j + 1) r t L n old held B (cntB m w)) := by
  unfold cCnt cntV cntB
  by_cases c3 : zW w 0 8 = 0
  · rw [if_pos c3, if_pos c3, if_pos c3]
    exact ⟨fun _ => fail_inv h, fun e => absurd e (by decide)⟩
  · rw [if_neg c3, if_neg c3, if_neg c3]
    refine ⟨fun e => absurd rfl e, fun _ => ?_⟩
    obtain ⟨u, -, hu, rfl⟩ := zW_b (a := 0) (b := 8) (by decide) (by decide) c3
    rw [nI_clamp (show u < 2 ^ 31 by omega)]
    exact ⟨(cn_eq (m := bp m 5 0 0) (by rw [bpr (show 0 ≠ 5 by decide)]; exact h.2.1) ((bp_ne (by decide)).trans h.2.2.2.2.1.2) (by omega)).symm, bp_eq, look_inv h⟩
theorem o_setting {j : Nat} {r t : rB} {L n old held : Nat} {B : Nat → rB} {m : rB} (h : Inv j r t L n old held B m) (p : Int32) :
    (¬ cStg p = 0 → stgB m p 5 0 = nI (cStg p) ∧ Inv (j + 1) r t L n old held B (stgB m p)) ∧
    (cStg p = 0 → stgV m p = r 11 p.toNatClampNeg ∧ stgB m p 5 0 = 0 ∧ Inv (j + 1) r t L n old held B (stgB m p)) := by
  unfold cStg stgV stgB
  rw [← zL3 p]
  by_cases c1 : zL p 3 = 0
  · rw [if_pos c1, if_pos c1, if_pos c1]
    exact ⟨fun _ => fail_inv h, fun e => absurd e (by decide)⟩
  · rw [if_neg c1, if_neg c1, if_neg c1]
    refine ⟨fun e => absurd rfl e, fun _ => ?_⟩
    rw [zL3] at c1
    obtain ⟨i, -, hi, rfl⟩ := zW_b (a := 0) (b := 2) (by decide) (by decide) c1
    rw [nI_clamp (show i < 2 ^ 31 by omega)]
    exact ⟨(h.2.1.2.2.2.2.2.2.2.2.2.2.2.1 i (by omega)).symm, bp_eq, look_inv h⟩
/-- what a rain would bring -/
theorem if_eq {r m : rB} {k : Nat} {w : Int32} (h : Rl r (m 0)) (hc : Cf r) : ifC r k w = wouldV m k w := by
  have h2 : r 11 2 = m 0 2 := h.2.2.2.2.2.2.2.2.2.2.2.1 2 (by omega)
  have ha : asd m 0 = m 0 := sr_ne (by decide)
  have hR : Rl (minutesC k r (r 11 2)) (wouldR m k 0) := by
    unfold wouldR
    rw [ha, ← h2]
    exact Rl_mins k r (asd m) (by rw [ha]; exact h) hc
  have h1 : wouldR m k 1 = m 0 := (Sm_mins k (asd m) _ 1 (by decide)).trans sr_eq
  unfold ifC wouldV
  rw [h1, ha, hR.2.2.2.2.2.2.2.2.2.2.2.2.2.2.2.2.2, h.2.2.2.2.2.2.2.2.2.2.2.2.2.2.2.2.2, hR.2.2.2.2.2.2.2.2.2.2.2.2.2.2.2.2.1, h.2.2.2.2.2.2.2.2.2.2.2.2.2.2.2.2.1, Rl_st hR]
theorem o_ifRained {j : Nat} {r t : rB} {L n old held : Nat} {B : Nat → rB} {m : rB} (h : Inv j r t L n old held B m) (x w : Int32) :
    (¬ cIfr x w = 0 → ifrB m x w 5 0 = nI (cIfr x w - 1) ∧ Inv (j + 1) r t L n old held B (ifrB m x w)) ∧
    (cIfr x w = 0 → ifrV m x w = ifC r x.toNatClampNeg w ∧ ifrB m x w 5 0 = 0 ∧ Inv (j + 1) r t L n old held B (ifrB m x w)) := by
  unfold cIfr ifrV ifrB
  by_cases c1 : zW x 1 60 = 0
  · rw [if_pos c1, if_pos c1, if_pos c1]
    exact ⟨fun _ => fail_inv h, fun e => absurd e (by decide)⟩
  · rw [if_neg c1, if_neg c1, if_neg c1]
    by_cases c2 : zW w 0 2 = 0
    · rw [if_pos c2, if_pos c2, if_pos c2]
      exact ⟨fun _ => fail_inv h, fun e => absurd e (by decide)⟩
    · rw [if_neg c2, if_neg c2, if_neg c2]
      refine ⟨fun e => absurd rfl e, fun _ => ⟨(if_eq (by rw [bpr (show 0 ≠ 5 by decide)]; exact h.2.1) h.2.2.1.1).symm, (congrFun (sr_ne (by decide)) 0).trans bp_eq, asd_inv h⟩⟩
/-- the first gutter that has spilt more -/
theorem low_fs {q r s : rB} (hq : ∀ k, k < 6 → q 9 k = s 0 (33 + 7 * k + 5)) (hr : ∀ k, k < 6 → r 9 k = s 1 (33 + 7 * k + 5)) : lowL q r 6 0 = fsG s 6 (-1) := by
  have e : ∀ k, k < 6 → (s 0 (33 + 7 * k + 5) ≤ s 1 (33 + 7 * k + 5)) = (q 9 k ≤ r 9 k) := fun k hk => by rw [hq k hk, hr k hk]
  have f : ∀ k, k < 6 → ∀ a b : Int32, (if s 0 (33 + 7 * k + 5) ≤ s 1 (33 + 7 * k + 5) then a else b) = if q 9 k ≤ r 9 k then a else b := fun k hk a b => by
    by_cases c : q 9 k ≤ r 9 k
    · rw [if_pos c, if_pos ((e k hk).mpr c)]
    · rw [if_neg c, if_neg (fun h => c ((e k hk).mp h))]
  simp only [lowL, fsG]
  rw [f 5 (by omega), f 4 (by omega), f 3 (by omega), f 2 (by omega), f 1 (by omega), f 0 (by omega)]
theorem low_m1 {q r : rB} : lowL q r 6 0 = -1 ↔ ∀ k, k < 6 → q 9 k ≤ r 9 k := by
  have go : ∀ (n i : Nat), i + n = 6 → (lowL q r n i = -1 ↔ ∀ k, i ≤ k → k < 6 → q 9 k ≤ r 9 k) := by
    intro n
    induction n with
    | zero => intro i hi; exact ⟨fun _ k h1 h2 => by omega, fun _ => rfl⟩
    | succ n ih =>
      intro i hi
      unfold lowL
      by_cases c : q 9 i ≤ r 9 i
      · have e : (r 9 i ≥ q 9 i) = (q 9 i ≤ r 9 i) := rfl
        rw [if_pos c, ih (i + 1) (by omega)]
        constructor
        · intro h k h1 h2
          by_cases e : k = i
          · subst e; exact c
          · exact h k (by omega) h2
        · intro h k h1 h2; exact h k (by omega) h2
      · rw [if_neg c]
        exact ⟨fun h => absurd h (nI_nm1 (by omega)), fun h => absurd (h i (Nat.le_refl i) (by omega)) c⟩
  rw [go 6 0 (by omega)]
  exact ⟨fun h k hk => h k (Nat.zero_le k) hk, fun h k _ hk => h k hk⟩
theorem eq9 {q r : rB} (h : ∀ k, k < 6 → q 9 k = r 9 k) : smI (q 9) 6 0 0 = smI (r 9) 6 0 0 := by
  rw [smI6, smI6, h 0 (by omega), h 1 (by omega), h 2 (by omega), h 3 (by omega), h 4 (by omega), h 5 (by omega)]
/-- no gutter has spilt more just if the sums agree -/
theorem low_sum {q r : rB} {K : Int} (hm : Mo r q) (hq : Gw K q) (hr : Gw K r) (hK : K ≤ 2000000000) : lowL q r 6 0 = -1 ↔ smI (q 9) 6 0 0 = smI (r 9) 6 0 0 := by
  rw [low_m1]
  constructor
  · intro h
    refine eq9 (fun k hk => ?_)
    apply Int32.toInt_inj.mp
    have h1 := h k hk
    have h2 := hm k hk
    rw [Int32.le_iff_toInt_le] at h1
    omega
  · intro h k hk
    have e := congrArg Int32.toInt h
    have lq := hq.le hk
    have lr := hr.le hk
    rw [smI_S6 hq.2.2.1 (by omega), smI_S6 hr.2.2.1 (by omega)] at e
    rw [Int32.le_iff_toInt_le]
    have m0 := hm 0 (by omega)
    have m1 := hm 1 (by omega)
    have m2 := hm 2 (by omega)
    have m3 := hm 3 (by omega)
    have m4 := hm 4 (by omega)
    have m5 := hm 5 (by omega)
    unfold S6 at e
    have hh : k = 0 ∨ k = 1 ∨ k = 2 ∨ k = 3 ∨ k = 4 ∨ k = 5 := by omega
    rcases hh with rfl | rfl | rfl | rfl | rfl | rfl <;> omega
theorem sf_eq {r m : rB} {w : Int32} (hw : w = 0 ∨ w = 1) (hR : Rl r (m 0)) (hc : Cf r) : ∀ (n i : Nat) (q q0 s : rB) (K : Int), Rl q (s 0) → Cf q → Gw K q → Gw K r → K + n * 11880 ≤ 2000000000 → Mo r q → lowL q r 6 0 = -1 → s 1 = m 0 → s 0 2 = m 0 2 → i + n < 2 ^ 31 →
    (sfC r w n (i + 1) q).2 = (let z := fsL n i s; let fi := fsG z.1 6 (-1); if fi = -1 then fi else if w = 0 then fi else nI z.2)
  | 0, i, q, q0, s, K, h1, h2, h3, h4, h5, h6, h7, h8, h9, hi => by
    have e : fsG s 6 (-1) = -1 := by
      rw [← low_fs (q := q) (r := r) h1.2.2.2.2.2.2.2.2.2.1 (by rw [h8]; exact hR.2.2.2.2.2.2.2.2.2.1)]
      exact h7
    show (-1 : Int32) = (if fsG s 6 (-1) = -1 then fsG s 6 (-1) else if w = 0 then fsG s 6 (-1) else nI i)
    rw [if_pos e, e]
  | n + 1, i, q, q0, s, K, h1, h2, h3, h4, h5, h6, h7, h8, h9, hi => by
    have hx2 : r 11 2 = m 0 2 := hR.2.2.2.2.2.2.2.2.2.2.2.1 2 (by omega)
    have hs7 : s 0 7 = s 1 7 := by
      rw [h8, ← h1.2.2.2.2.2.2.2.2.2.2.2.2.2.2.2.2.2, ← hR.2.2.2.2.2.2.2.2.2.2.2.2.2.2.2.2.2]
      exact (low_sum h6 h3 h4 (by omega)).mp h7
    have hx := hc.2.2.2
    have g1 := Gw_min hx h2 h3 (by omega)
    have r1 : Rl (minuteC q (r 11 2)) (minM s (s 0 2) 0) := by rw [h9, ← hx2]; exact Rl_min h1 h2
    have c1 : Cf (minuteC q (r 11 2)) := Cf_min h2
    have m1 : Mo r (minuteC q (r 11 2)) := h6.tr g1.2
    have s1 : minM s (s 0 2) 1 = m 0 := (Sm_min 1 (by decide)).trans h8
    have e9 := r1.2.2.2.2.2.2.2.2.2.1
    have elow : lowL (minuteC q (r 11 2)) r 6 0 = fsG (minM s (s 0 2)) 6 (-1) := low_fs e9 (by rw [s1]; exact hR.2.2.2.2.2.2.2.2.2.1)
    have hs2 : minM s (s 0 2) 0 2 = m 0 2 := by
      rw [← r1.2.2.2.2.2.2.2.2.2.2.2.1 2 (by omega), minuteC_ne ⟨by decide, by decide, by decide, by decide, by decide⟩, h1.2.2.2.2.2.2.2.2.2.2.2.1 2 (by omega)]
      exact h9
    show (if lowL (minuteC q (r 11 2)) r 6 0 = -1 then sfC r w n (i + 1 + 1) (minuteC q (r 11 2)) else (minuteC q (r 11 2), if w = 0 then lowL (minuteC q (r 11 2)) r 6 0 else nI (i + 1))).2 = _
    have ef : fsL (n + 1) i s = fsL n (i + 1) (minM s (s 0 2)) := if_pos hs7
    rw [ef]
    by_cases cl : lowL (minuteC q (r 11 2)) r 6 0 = -1
    · rw [if_pos cl]
      exact sf_eq hw hR hc n (i + 1) _ q0 _ (K + 11880) r1 c1 g1.1 (h4.mono (by omega)) (by omega) m1 cl s1 hs2 (by omega)
    · rw [if_neg cl]
      have hne : ¬ minM s (s 0 2) 0 7 = minM s (s 0 2) 1 7 := by
        intro e
        apply cl
        apply (low_sum m1 g1.1 (h4.mono (by omega)) (by omega)).mpr
        rw [r1.2.2.2.2.2.2.2.2.2.2.2.2.2.2.2.2.2, hR.2.2.2.2.2.2.2.2.2.2.2.2.2.2.2.2.2, ← s1]
        exact e
      have ef2 : fsL n (i + 1) (minM s (s 0 2)) = (minM s (s 0 2), i + 1) := by
        cases n with
        | zero => rfl
        | succ n => exact if_neg hne
      rw [ef2]
      show (if w = 0 then lowL (minuteC q (r 11 2)) r 6 0 else nI (i + 1)) = (if fsG (minM s (s 0 2)) 6 (-1) = -1 then _ else if w = 0 then fsG (minM s (s 0 2)) 6 (-1) else nI (i + 1))
      rw [← elow, if_neg cl]
theorem low_self {r : rB} : lowL r r 6 0 = -1 := low_m1.mpr (fun k _ => by rw [Int32.le_iff_toInt_le]; exact Int.le_refl _)
theorem sfv_eq {r m : rB} {w : Int32} {K : Int} (hw : w = 0 ∨ w = 1) (hR : Rl r (m 0)) (hG : Gd K r) (hK : K + 712800 ≤ 2000000000) : (sfC r w (61 - 1) 1 r).2 = fsV m w := by
  have ha : asd m 0 = m 0 := sr_ne (by decide)
  exact sf_eq hw hR hG.1 60 0 r r (asd m) K (by rw [ha]; exact hR) hG.1 hG.2.1 hG.2.1 (by omega) Mo.rf low_self sr_eq (by rw [ha]) (by decide)
theorem o_spillsFirst {j : Nat} {r t : rB} {L n old held : Nat} {B : Nat → rB} {m : rB} (h : Inv j r t L n old held B m) (hj : j < 512) (w : Int32) :
    (¬ cSfi w = 0 → sfiB m w 5 0 = nI (cSfi w - 1) ∧ Inv (j + 1) r t L n old held B (sfiB m w)) ∧
    (cSfi w = 0 → sfiV m w = (sfC r w (61 - 1) 1 r).2 ∧ sfiB m w 5 0 = 0 ∧ Inv (j + 1) r t L n old held B (sfiB m w)) := by
  unfold cSfi sfiV sfiB
  by_cases c1 : zW w 0 1 = 0
  · rw [if_pos c1, if_pos c1, if_pos c1]
    exact ⟨fun _ => fail_inv h, fun e => absurd e (by decide)⟩
  · rw [if_neg c1, if_neg c1, if_neg c1]
    obtain ⟨u, -, hu, e⟩ := zW_b (a := 0) (b := 1) (by decide) (by decide) c1
    have hw : w = 0 ∨ w = 1 := by
      have : u = 0 ∨ u = 1 := by omega
      rcases this with rfl | rfl
      · exact Or.inl e
      · exact Or.inr e
    have hle := KK_le (j := j) (L := L) (by omega)
    refine ⟨fun e => absurd rfl e, fun _ => ⟨(sfv_eq hw (by rw [bpr (show 0 ≠ 5 by decide)]; exact h.2.1) h.2.2.1 (by omega)).symm, (congrFun (sr_ne (by decide)) 0).trans bp_eq, asd_inv h⟩⟩
/-- would it spill -/
theorem ws_eq {r : rB} {x : Int32} (hx : ∃ n, n ≤ 99 ∧ x = nI n) : ∀ (n : Nat) (q : rB) (K : Int), Cf q → Gw K q → Gw K r → K + n * 11880 ≤ 2000000000 → Mo r q → lowL q r 6 0 = -1 → ((wsC r x n q).2 = 0 ↔ lowL (minutesC n q x) r 6 0 = -1)
  | 0, q, K, _, _, _, _, _, h => ⟨fun _ => h, fun _ => rfl⟩
  | n + 1, q, K, h1, h2, h3, h4, h5, h6 => by
    have g1 := Gw_min hx h1 h2 (by omega)
    have m1 : Mo r (minuteC q x) := h5.tr g1.2
    show (if lowL (minuteC q x) r 6 0 = -1 then wsC r x n (minuteC q x) else (minuteC q x, 1)).2 = 0 ↔ lowL (minutesC n (minuteC q x) x) r 6 0 = -1
    by_cases cl : lowL (minuteC q x) r 6 0 = -1
    · rw [if_pos cl]
      exact ws_eq hx n _ (K + 11880) (Cf_min h1) g1.1 (h3.mono (by omega)) (by omega) m1 cl
    · rw [if_neg cl]
      refine ⟨fun e => absurd (show (1 : Int32) = 0 from e) (by decide), fun e => ?_⟩
      exfalso
      apply cl
      rw [low_m1] at e ⊢
      intro k hk
      have e1 := e k hk
      have e2 := (Gw_mins hx n (K + 11880) (minuteC q x) (Cf_min h1) g1.1 (by omega)).2 k hk
      rw [Int32.le_iff_toInt_le] at e1 ⊢
      omega
theorem sub0 (x y : Int32) : x - y = 0 ↔ x = y := by
  constructor
  · intro h
    have : x = (x - y) + y := by grind
    rw [this, h]; simp
  · intro h; subst h; simp
theorem mr_eq {r m : rB} {k : Nat} {K : Int} (hR : Rl r (m 0)) (hG : Gd K r) (hk : k ≤ 60) (hK : K + 712800 ≤ 2000000000) : ∀ (n : Nat) (q : rB), n ≤ 100 → (mrC r k n q).2 = grL m k n
  | 0, _, _ => rfl
  | n + 1, q, hn => by
    have ha : asd m 0 = m 0 := sr_ne (by decide)
    have hx : ∃ a, a ≤ 99 ∧ nI n = nI a := ⟨n, by omega, rfl⟩
    have w1 := ws_eq (r := r) hx k r K hG.1 hG.2.1 hG.2.1 (by omega) Mo.rf low_self
    have g1 := Gw_mins hx k K r hG.1 hG.2.1 (by omega)
    have r1 : Rl (minutesC k r (nI n)) (minsM k (asd m) (nI n) 0) := Rl_mins k r (asd m) (by rw [ha]; exact hR) hG.1
    have w2 : (wsC r (nI n) k r).2 = 0 ↔ minsM k (asd m) (nI n) 0 7 - asd m 0 7 = 0 := by
      rw [w1, low_sum g1.2 g1.1 (hG.2.1.mono (by omega)) (by omega), sub0, ha, r1.2.2.2.2.2.2.2.2.2.2.2.2.2.2.2.2.2, hR.2.2.2.2.2.2.2.2.2.2.2.2.2.2.2.2.2]
    show (if (wsC r (nI n) k r).2 = 0 then ((wsC r (nI n) k r).1, nI n) else mrC r k n (wsC r (nI n) k r).1).2 = (if minsM k (asd m) (nI n) 0 7 - asd m 0 7 = 0 then nI n else grL m k n)
    by_cases c : (wsC r (nI n) k r).2 = 0
    · rw [if_pos c, if_pos (w2.mp c)]
    · rw [if_neg c, if_neg (fun e => c (w2.mpr e))]
      exact mr_eq hR hG hk hK n _ (by omega)
theorem o_mostRain {j : Nat} {r t : rB} {L n old held : Nat} {B : Nat → rB} {m : rB} (h : Inv j r t L n old held B m) (hj : j < 512) (x : Int32) :
    (¬ cMra x = 0 → mraB m x 5 0 = nI (cMra x - 1) ∧ Inv (j + 1) r t L n old held B (mraB m x)) ∧
    (cMra x = 0 → mraV m x = (mrC r x.toNatClampNeg 100 r).2 ∧ mraB m x 5 0 = 0 ∧ Inv (j + 1) r t L n old held B (mraB m x)) := by
  unfold cMra mraV mraB
  by_cases c1 : zW x 1 60 = 0
  · rw [if_pos c1, if_pos c1, if_pos c1]
    exact ⟨fun _ => fail_inv h, fun e => absurd e (by decide)⟩
  · rw [if_neg c1, if_neg c1, if_neg c1]
    obtain ⟨k, -, hk, rfl⟩ := zW_b (a := 1) (b := 60) (by decide) (by decide) c1
    rw [nI_clamp (show k < 2 ^ 31 by omega)]
    have hle := KK_le (j := j) (L := L) (by omega)
    refine ⟨fun e => absurd rfl e, fun _ => ⟨(mr_eq (m := bp m 5 0 0) (by rw [bpr (show 0 ≠ 5 by decide)]; exact h.2.1) h.2.2.1 hk (by omega) 100 r (Nat.le_refl _)).symm, (congrFun (sr_ne (by decide)) 0).trans bp_eq, asd_inv h⟩⟩
/-- how long it drips -/
theorem dy_eq : ∀ (n i : Nat) (q s : rB) (K : Int), Rl q (s 0) → Cf q → Gw K q → K + n * 11880 ≤ 2000000000 → i + n = 301 → (dyC n i q).2 = (if nI (udL n i s).2 ≤ 300 then nI (udL n i s).2 else -1)
  | 0, i, q, s, K, _, _, _, _, hi => by
    obtain rfl : i = 301 := by omega
    rfl
  | n + 1, i, q, s, K, h1, h2, h3, h4, hi => by
    have hs := stand_S6 h3 (by omega)
    have s3 := (S6_ge h3.1 (i := 0) (by omega)).2
    have s8 := (S6_ge h3.2.1 (i := 0) (by omega)).2
    have est := Rl_st h1
    have ec : standC q = 0 ↔ stM s 6 0 0 ≤ 0 := by
      rw [← est, Int32.le_iff_toInt_le, ← Int32.toInt_inj, show (0 : Int32).toInt = 0 by decide]
      omega
    show (if standC q = 0 then (q, nI i) else dyC n (i + 1) (minuteC q 0)).2 = _
    by_cases c : standC q = 0
    · have ef : udL (n + 1) i s = (s, i) := if_pos (ec.mp c)
      rw [if_pos c, ef]
      show nI i = (if nI i ≤ 300 then nI i else -1)
      exact (if_pos (show nI i ≤ 300 from nI_le (a := i) (b := 300) (by omega) (by decide))).symm
    · have ef : udL (n + 1) i s = udL n (i + 1) (minM s 0) := if_neg (fun e => c (ec.mpr e))
      have g1 := Gw_min (x := 0) ⟨0, by omega, rfl⟩ h2 h3 (by omega)
      rw [if_neg c, ef]
      exact dy_eq n (i + 1) _ _ (K + 11880) (Rl_min h1 h2) (Cf_min h2) g1.1 (by omega) (by omega)
theorem dyv_eq {r m : rB} {K : Int} (hR : Rl r (m 0)) (hG : Gd K r) (hK : K + 301 * 11880 ≤ 2000000000) : (dyC 301 0 r).2 = udV m := by
  have ha : asd m 0 = m 0 := sr_ne (by decide)
  exact dy_eq 301 0 r (asd m) K (by rw [ha]; exact hR) hG.1 hG.2.1 (by omega) rfl
/-- the gutter that had best be cleaned -/
theorem sic_eq {r m : rB} {i : Nat} (hR : Rl r (m 0)) (hc : Cf r) (hi : i < 6) : sicV r i = wouldV (bp m 0 (33 + 7 * i + 2) 0) 30 0 := by
  have hR1 : Rl (bp r 6 i 0) (bp m 0 (33 + 7 * i + 2) 0 0) := by
    rw [bpk]
    exact Rl_u hR 6 i _ _ _ hi (Or.inr (Or.inl ⟨by omega, by omega, by omega, rfl, rfl⟩))
  have hc1 : Cf (bp r 6 i 0) := Cf_set hc (Or.inr (Or.inr (Or.inr (Or.inr (Or.inr ⟨rfl, 0, by omega, rfl⟩)))))
  have e := if_eq (k := 30) (w := 0) hR1 hc1
  rw [← e]
  unfold sicV sicB ifC
  rw [if_pos rfl, bpr (show 11 ≠ 6 by decide), bpr (show 9 ≠ 6 by decide)]
theorem boB_0 {m : rB} {i : Nat} : boB m i 0 = m 0 := by
  unfold boB
  rw [bpk, show asd (bp m 0 (33 + 7 * i + 2) 0) 0 = bp m 0 (33 + 7 * i + 2) 0 0 from sr_ne (by decide), bpk, upd_upd, upd_self rfl]
theorem bc_eq {r m : rB} (hR : Rl r (m 0)) (hc : Cf r) : ∀ (n i : Nat) (q s : rB) (be le : Int32), i + n ≤ 6 → s 0 = m 0 → (bcC r n i q be le).2 = (boL n i s be le).2
  | 0, _, _, _, _, _, _, _ => rfl
  | n + 1, i, q, s, be, le, hi, hs => by
    have e6 : r 6 i = s 0 (33 + 7 * i + 2) := by rw [hs]; exact hR.2.2.2.2.2.2.1 i (by omega)
    have ev : sicV r i = wouldV (bp s 0 (33 + 7 * i + 2) 0) 30 0 := sic_eq (m := s) (by rw [hs]; exact hR) hc (by omega)
    have et : bcT r i be le = boZ s i be le := by
      unfold bcT boZ hasL
      rw [← ev, e6]
      by_cases c : s 0 (33 + 7 * i + 2) ≤ 0
      · rw [if_pos c, if_pos c, if_pos rfl]
      · rw [if_neg c, if_neg c, if_neg (by decide)]
    unfold bcC boL
    rw [et, ev]
    exact bc_eq hR hc n (i + 1) _ _ _ _ (by omega) (boB_0.trans hs)
theorem boL_0 : ∀ (n i : Nat) (s : rB) (be le : Int32), (boL n i s be le).1 0 = s 0
  | 0, _, _, _, _ => rfl
  | n + 1, i, s, be, le => (boL_0 n (i + 1) _ _ _).trans boB_0
theorem o_best {j : Nat} {r t : rB} {L n old held : Nat} {B : Nat → rB} {m : rB} (h : Inv j r t L n old held B m) (q : rB) : (bcC r 6 0 q (-1) 0).2 = (boL 6 0 (bp m 5 0 0) (-1) 0).2 ∧ Inv (j + 1) r t L n old held B (boL 6 0 (bp m 5 0 0) (-1) 0).1 := by
  refine ⟨bc_eq h.2.1 h.2.2.1.1 6 0 q _ _ _ (by omega) (bpr (by decide)), inv_frame h ((boL_0 6 0 _ _ _).trans (bpr (by decide))) ?_ ?_ ?_ ?_⟩
  · rw [boL_ne (by decide) (by decide)]; exact bpr (by decide)
  · rw [boL_ne (by decide) (by decide)]; exact bpr (by decide)
  · rw [boL_ne (by decide) (by decide)]; exact bp_ne (by decide)
  · rw [boL_ne (by decide) (by decide)]; exact bp_ne (by decide)
theorem o_dry {j : Nat} {r t : rB} {L n old held : Nat} {B : Nat → rB} {m : rB} (h : Inv j r t L n old held B m) (hj : j < 512) : (dyC 301 0 r).2 = udV (bp m 5 0 0) ∧ Inv (j + 1) r t L n old held B (asd (bp m 5 0 0)) := by
  have hle := KK_le (j := j) (L := L) (by omega)
  exact ⟨dyv_eq (m := bp m 5 0 0) (by rw [bpr (show 0 ≠ 5 by decide)]; exact h.2.1) h.2.2.1 (by omega), asd_inv h⟩
/-- the share -/
theorem sh_eq {r m : rB} (h : Rl r (m 0)) : shC r = shM m := by
  unfold shC shM
  rw [h.2.2.2.2.2.2.2.2.2.2.2.2.2.2.1, h.2.2.2.2.2.2.2.2.2.2.2.2.2.2.2.2.1]
theorem o_share {j : Nat} {r t : rB} {L n old held : Nat} {B : Nat → rB} {m : rB} (h : Inv j r t L n old held B m) : shC r = shM (bp m 5 0 0) ∧ Inv (j + 1) r t L n old held B (bp m 5 0 0) :=
  ⟨sh_eq (by rw [bpr (show 0 ≠ 5 by decide)]; exact h.2.1), look_inv h⟩
