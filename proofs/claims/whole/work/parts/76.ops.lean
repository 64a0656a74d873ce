/-! each call keeps what holds, and answers alike: the calls that write -/
theorem zL6 (q : Int32) : zL q 6 = zW q 0 5 := by
  unfold zL zW
  by_cases h : q < 0
  · rw [if_pos h, if_pos h]
  · rw [if_neg h, if_neg h]
    have e : (6 ≤ q) ↔ (5 < q) := by
      rw [Int32.le_iff_toInt_le, Int32.lt_iff_toInt_lt, show (6 : Int32).toInt = 6 by decide, show (5 : Int32).toInt = 5 by decide]; omega
    by_cases h2 : 5 < q
    · rw [if_pos h2, if_pos (e.mpr h2)]
    · rw [if_neg h2, if_neg (fun h9 => h2 (e.mp h9))]
theorem zL3 (q : Int32) : zL q 3 = zW q 0 2 := by
  unfold zL zW
  by_cases h : q < 0
  · rw [if_pos h, if_pos h]
  · rw [if_neg h, if_neg h]
    have e : (3 ≤ q) ↔ (2 < q) := by
      rw [Int32.le_iff_toInt_le, Int32.lt_iff_toInt_lt, show (3 : Int32).toInt = 3 by decide, show (2 : Int32).toInt = 2 by decide]; omega
    by_cases h2 : 2 < q
    · rw [if_pos h2, if_pos (e.mpr h2)]
    · rw [if_neg h2, if_neg (fun h9 => h2 (e.mp h9))]
theorem zW_nI {q : Int32} {a b : Nat} (ha : a < 2 ^ 31) (hb : b < 2 ^ 31) (h : ¬ zW q (nI a) (nI b) = 0) : ∃ i, a ≤ i ∧ i ≤ b ∧ q = nI i := zW_b ha hb h
theorem M0_0 {m : rB} {N : Nat} : svB (bp m 5 0 0) N 0 = m 0 := (svB_ne (by decide) (by decide)).trans (bpr (by decide))
theorem M0_3 {m : rB} {N : Nat} : svB (bp m 5 0 0) N 3 = m 3 := (svB_ne (by decide) (by decide)).trans (bpr (by decide))
theorem M0_50 {m : rB} {N : Nat} : svB (bp m 5 0 0) N 5 0 = 0 := (svB_5 (by decide)).trans bp_eq
theorem M0_51 {m : rB} {N : Nat} : svB (bp m 5 0 0) N 5 1 = nI (kH N + 1) := bp_eq
theorem M0_52 {m : rB} {N : Nat} : svB (bp m 5 0 0) N 5 2 = m 5 2 := (svB_5 (by decide)).trans (bp_ne (by decide))
theorem fail_inv {j : Nat} {r t : rB} {L n old held : Nat} {B : Nat → rB} {m : rB} {c : Int32} (h : Inv j r t L n old held B m) : bp (bp m 5 0 0) 5 0 c 5 0 = c ∧ Inv (j + 1) r t L n old held B (bp (bp m 5 0 0) 5 0 c) :=
  ⟨bp_eq, inv_frame h ((bpr (by decide)).trans (bpr (by decide))) ((bpr (by decide)).trans (bpr (by decide))) ((bpr (by decide)).trans (bpr (by decide))) ((bp_ne (by decide)).trans (bp_ne (by decide))) ((bp_ne (by decide)).trans (bp_ne (by decide)))⟩
theorem save_inv {j : Nat} {r t : rB} {L n old held : Nat} {B : Nat → rB} {m m1 r1 : rB} (h : Inv j r t L n old held B m) (hm : ∀ a, a ≠ 0 → m1 a = svB (bp m 5 0 0) held a) (hR : Rl r1 (m1 0)) (hG : Gd (KK (j + 1) L) r1) : m1 5 0 = 0 ∧ Inv (j + 1) r1 t L (kN n old held) (kO old held) (kH held + 1) (kB B old held r) m1 := by
  have h5 := hm 5 (by decide)
  refine ⟨by rw [h5]; exact M0_50, inv_save h (hm 2 (by decide)) (by rw [h5]; exact M0_51) (by rw [h5]; exact M0_52.trans h.2.2.2.2.1.1) hR hG (Nat.le_refl _) h.2.2.2.1.1 (fun i hi => ?_)⟩
  rw [hm 3 (by decide), M0_3]
  exact h.2.2.2.1.2.2.2 i hi
theorem KK_1 (j L : Nat) : KK j L + 712800 = KK (j + 1) L := by unfold KK; omega
theorem KK_le {j L : Nat} (h : j ≤ 512) : KK j L ≤ 364953600 := by unfold KK; omega
theorem Gw_ne {K : Int} {r : rB} {k i : Nat} {v : Int32} (h : Gw K r) (hk : wr5 k) : Gw K (bp r k i v) := by
  obtain ⟨h1, h2, h3, h4, h5⟩ := hk
  unfold Gw
  rw [bpr (Ne.symm h1), bpr (Ne.symm h2), bpr (Ne.symm h3), bpr (Ne.symm h4), bpr (Ne.symm h5)]
  exact h
theorem vE_cong {r q : rB} (h : q 7 = r 7) : ∀ (n : Nat) (a : Int32), vE r n a → vE q n a
  | 0, _, e => e
  | n + 1, a, e => by
    rcases e with e | e
    · exact Or.inl e
    · exact Or.inr (by rw [h]; exact vE_cong h n _ e)
theorem Vy_of {r q : rB} (h : q 7 = r 7) (hv : Vy r) : Vy q := fun i hi => vE_cong h 6 _ (hv i hi)
/-- one row's entry of a good roof -/
theorem Cf_set {r : rB} {k g : Nat} {v : Int32} (hc : Cf r) (hv : (k = 0 ∧ ∃ n, n ≤ 200 ∧ v = nI n) ∨ (k = 1 ∧ ∃ n, n ≤ 9 ∧ v = nI n) ∨ (k = 2 ∧ ∃ n, n < 6 ∧ v = nI n) ∨ (k = 4 ∧ ∃ n, 1 ≤ n ∧ n ≤ 500 ∧ v = nI n) ∨ (k = 5 ∧ ∃ n, n ≤ 99 ∧ v = nI n) ∨ (k = 6 ∧ ∃ n, n ≤ 100 ∧ v = nI n)) : Cf (bp r k g v) := by
  have key : ∀ (a i : Nat) (Q : Int32 → Prop), Q (r a i) → (a = k → Q v) → Q (bp r k g v a i) := by
    intro a i Q h1 h2
    by_cases e : a = k
    · subst e
      rw [bpk]
      by_cases e2 : i = g
      · subst e2; rw [upd_eq]; exact h2 rfl
      · rw [upd_ne e2]; exact h1
    · rw [bpr e]; exact h1
  refine ⟨fun i hi => ?_, ?_⟩
  · obtain ⟨q0, q1, q2, q4, q5, q6, q7⟩ := hc.1 i hi
    refine ⟨key 0 i (fun x => ∃ n, n ≤ 200 ∧ x = nI n) q0 (fun e => ?_), key 1 i (fun x => ∃ n, n ≤ 9 ∧ x = nI n) q1 (fun e => ?_), key 2 i (fun x => ∃ n, n < 6 ∧ x = nI n) q2 (fun e => ?_), key 4 i (fun x => ∃ n, 1 ≤ n ∧ n ≤ 500 ∧ x = nI n) q4 (fun e => ?_), key 5 i (fun x => ∃ n, n ≤ 99 ∧ x = nI n) q5 (fun e => ?_), key 6 i (fun x => ∃ n, n ≤ 100 ∧ x = nI n) q6 (fun e => ?_), key 7 i (fun x => x = -1 ∨ ∃ n, n < 6 ∧ x = nI n) q7 (fun e => ?_)⟩ <;> subst e <;> rcases hv with ⟨e, h⟩ | ⟨e, h⟩ | ⟨e, h⟩ | ⟨e, h⟩ | ⟨e, h⟩ | ⟨e, h⟩ <;> first | exact h | (exact absurd e (by decide))
  · have h11 : bp r k g v 11 = r 11 := bpr (by rcases hv with ⟨e, _⟩ | ⟨e, _⟩ | ⟨e, _⟩ | ⟨e, _⟩ | ⟨e, _⟩ | ⟨e, _⟩ <;> omega)
    rw [h11]; exact hc.2
theorem Gd_set {K : Int} {r : rB} {k g : Nat} {v : Int32} (h : Gd K r) (hv : (k = 0 ∧ ∃ n, n ≤ 200 ∧ v = nI n) ∨ (k = 1 ∧ ∃ n, n ≤ 9 ∧ v = nI n) ∨ (k = 2 ∧ ∃ n, n < 6 ∧ v = nI n) ∨ (k = 4 ∧ ∃ n, 1 ≤ n ∧ n ≤ 500 ∧ v = nI n) ∨ (k = 5 ∧ ∃ n, n ≤ 99 ∧ v = nI n) ∨ (k = 6 ∧ ∃ n, n ≤ 100 ∧ v = nI n)) : Gd K (bp r k g v) :=
  ⟨Cf_set h.1 hv, Gw_ne h.2.1 ⟨by omega, by omega, by omega, by omega, by omega⟩, Vy_of (bpr (by omega)) h.2.2⟩
theorem Gd_12 {K : Int} {r : rB} {k : Nat} {v : Int32} (h : Gd K r) (hk : k ≠ 2) : Gd K (bp r 12 k v) := by
  refine ⟨?_, Gw_12 h.2.1 hk, Vy_of (bpr (by decide)) h.2.2⟩
  unfold Cf
  rw [bpr (show 0 ≠ 12 by decide), bpr (show 1 ≠ 12 by decide), bpr (show 2 ≠ 12 by decide), bpr (show 4 ≠ 12 by decide), bpr (show 5 ≠ 12 by decide), bpr (show 6 ≠ 12 by decide), bpr (show 7 ≠ 12 by decide), bpr (show 11 ≠ 12 by decide)]
  exact h.1
theorem Gd_weekL {K : Int} : ∀ (n i : Nat) (r : rB), i + n ≤ 6 → Gd K r → Gd K (weekL n i r)
  | 0, _, _, _, h => h
  | n + 1, i, r, hi, h => by
    refine Gd_weekL n (i + 1) _ (by omega) (Gd_set h (Or.inr (Or.inr (Or.inr (Or.inr (Or.inr ⟨rfl, ?_⟩))))))
    obtain ⟨a, ha, ea⟩ := (h.1.1 i (by omega)).2.2.2.2.2.1
    obtain ⟨b, hb, eb⟩ := h.1.2.2.1
    rw [ea, eb, nI_add]
    exact ⟨min 100 (a + b), by omega, mn_nI (a := 100) (by decide) (by omega)⟩
theorem Gd_week {K : Int} {r : rB} (h : Gd K r) : Gd K (weekC r) := Gd_12 (Gd_weekL 6 0 r (by omega) h) (by decide)
theorem Gd_wks {K : Int} : ∀ (n : Nat) (r : rB), Gd K r → Gd K (wksC n r)
  | 0, _, h => h
  | n + 1, _, h => Gd_wks n _ (Gd_week h)
theorem Gd_mins {K : Int} {r : rB} {x : Int32} {n : Nat} (hx : ∃ n, n ≤ 99 ∧ x = nI n) (h : Gd K r) (hK : K + n * 11880 ≤ 2000000000) : Gd (K + n * 11880) (minutesC n r x) :=
  ⟨Cf_mins h.1, (Gw_mins hx n K r h.1 h.2.1 hK).1, Vy_of (minutesC_ne ⟨by decide, by decide, by decide, by decide, by decide⟩ n r x) h.2.2⟩
/-! the calls one by one -/
theorem o_plane {j : Nat} {r t : rB} {L n old held : Nat} {B : Nat → rB} {m : rB} (h : Inv j r t L n old held B m) (p x y q : Int32) :
    (¬ cPla p x y q = 0 → plaB m held p x y q 5 0 = nI (cPla p x y q) ∧ Inv (j + 1) r t L n old held B (plaB m held p x y q)) ∧
    (cPla p x y q = 0 → plaV m held p x y q = r 0 p.toNatClampNeg ∧ plaB m held p x y q 5 0 = 0 ∧ Inv (j + 1) (bp (bp (bp r 0 p.toNatClampNeg x) 1 p.toNatClampNeg y) 2 p.toNatClampNeg q) t L (kN n old held) (kO old held) (kH held + 1) (kB B old held r) (plaB m held p x y q)) := by
  unfold cPla plaV plaB
  rw [← zL6 p, ← zL6 q]
  by_cases c1 : zL p 6 = 0
  · rw [if_pos c1, if_pos c1, if_pos c1]
    exact ⟨fun _ => fail_inv h, fun e => absurd e (by decide)⟩
  · rw [if_neg c1, if_neg c1, if_neg c1]
    by_cases c2 : zL q 6 = 0
    · rw [if_pos c2, if_pos c2, if_pos c2]
      exact ⟨fun _ => fail_inv h, fun e => absurd e (by decide)⟩
    · rw [if_neg c2, if_neg c2, if_neg c2]
      by_cases c3 : zW x 0 200 = 0
      · rw [if_pos c3, if_pos c3, if_pos c3]
        exact ⟨fun _ => fail_inv h, fun e => absurd e (by decide)⟩
      · rw [if_neg c3, if_neg c3, if_neg c3]
        by_cases c4 : zW y 0 9 = 0
        · rw [if_pos c4, if_pos c4, if_pos c4]
          exact ⟨fun _ => fail_inv h, fun e => absurd e (by decide)⟩
        · rw [if_neg c4, if_neg c4, if_neg c4]
          refine ⟨fun e => absurd rfl e, fun _ => ?_⟩
          rw [zL6] at c1 c2
          obtain ⟨i, -, hi, rfl⟩ := zW_b (a := 0) (b := 5) (by decide) (by decide) c1
          obtain ⟨g, -, hg, rfl⟩ := zW_b (a := 0) (b := 5) (by decide) (by decide) c2
          obtain ⟨a, -, ha, rfl⟩ := zW_b (a := 0) (b := 200) (by decide) (by decide) c3
          obtain ⟨s, -, hs, rfl⟩ := zW_b (a := 0) (b := 9) (by decide) (by decide) c4
          rw [nI_clamp (show i < 2 ^ 31 by omega)]
          have hR := h.2.1
          refine ⟨by rw [M0_0]; exact (hR.1 i (by omega)).symm, ?_⟩
          refine save_inv h (fun a' ha' => by rw [bpr ha', bpr ha', bpr ha']) ?_ ?_
          · rw [bpk, bpk, bpk, M0_0]
            exact Rl_u (Rl_u (Rl_u hR 0 i _ _ _ (by omega) (Or.inl ⟨by omega, rfl, rfl⟩)) 1 i _ _ _ (by omega) (Or.inl ⟨by omega, rfl, rfl⟩)) 2 i _ _ _ (by omega) (Or.inl ⟨by omega, rfl, rfl⟩)
          · refine Gd_set (Gd_set (Gd_set (h.2.2.1.mono ?_) (Or.inl ⟨rfl, a, ha, rfl⟩)) (Or.inr (Or.inl ⟨rfl, s, hs, rfl⟩))) (Or.inr (Or.inr (Or.inl ⟨rfl, g, by omega, rfl⟩)))
            have := KK_1 j L; omega
theorem o_gutter {j : Nat} {r t : rB} {L n old held : Nat} {B : Nat → rB} {m : rB} (h : Inv j r t L n old held B m) (p x y : Int32) :
    (¬ cGut p x y = 0 → gutB m held p x y 5 0 = nI (cGut p x y) ∧ Inv (j + 1) r t L n old held B (gutB m held p x y)) ∧
    (cGut p x y = 0 → gutV m held p x y = r 4 p.toNatClampNeg ∧ gutB m held p x y 5 0 = 0 ∧ Inv (j + 1) (bp (bp r 4 p.toNatClampNeg x) 5 p.toNatClampNeg y) t L (kN n old held) (kO old held) (kH held + 1) (kB B old held r) (gutB m held p x y)) := by
  unfold cGut gutV gutB
  rw [← zL6 p]
  by_cases c1 : zL p 6 = 0
  · rw [if_pos c1, if_pos c1, if_pos c1]
    exact ⟨fun _ => fail_inv h, fun e => absurd e (by decide)⟩
  · rw [if_neg c1, if_neg c1, if_neg c1]
    by_cases c3 : zW x 1 500 = 0
    · rw [if_pos c3, if_pos c3, if_pos c3]
      exact ⟨fun _ => fail_inv h, fun e => absurd e (by decide)⟩
    · rw [if_neg c3, if_neg c3, if_neg c3]
      by_cases c4 : zW y 0 99 = 0
      · rw [if_pos c4, if_pos c4, if_pos c4]
        exact ⟨fun _ => fail_inv h, fun e => absurd e (by decide)⟩
      · rw [if_neg c4, if_neg c4, if_neg c4]
        refine ⟨fun e => absurd rfl e, fun _ => ?_⟩
        rw [zL6] at c1
        obtain ⟨i, -, hi, rfl⟩ := zW_b (a := 0) (b := 5) (by decide) (by decide) c1
        obtain ⟨a, ha1, ha, rfl⟩ := zW_b (a := 1) (b := 500) (by decide) (by decide) c3
        obtain ⟨s, -, hs, rfl⟩ := zW_b (a := 0) (b := 99) (by decide) (by decide) c4
        rw [nI_clamp (show i < 2 ^ 31 by omega)]
        have hR := h.2.1
        refine ⟨by rw [M0_0]; exact (hR.2.2.2.2.1 i (by omega)).symm, ?_⟩
        refine save_inv h (fun a' ha' => by rw [bpr ha', bpr ha']) ?_ ?_
        · rw [bpk, bpk, M0_0]
          exact Rl_u (Rl_u hR 4 i _ _ _ (by omega) (Or.inr (Or.inl ⟨by omega, by omega, by omega, rfl, rfl⟩))) 5 i _ _ _ (by omega) (Or.inr (Or.inl ⟨by omega, by omega, by omega, rfl, rfl⟩))
        · refine Gd_set (Gd_set (h.2.2.1.mono ?_) (Or.inr (Or.inr (Or.inr (Or.inl ⟨rfl, a, ha1, ha, rfl⟩))))) (Or.inr (Or.inr (Or.inr (Or.inr (Or.inl ⟨rfl, s, hs, rfl⟩)))))
          have := KK_1 j L; omega
theorem o_clean {j : Nat} {r t : rB} {L n old held : Nat} {B : Nat → rB} {m : rB} (h : Inv j r t L n old held B m) (p : Int32) :
    (¬ cCle p = 0 → cleB m held p 5 0 = nI (cCle p) ∧ Inv (j + 1) r t L n old held B (cleB m held p)) ∧
    (cCle p = 0 → cleV m held p = r 6 p.toNatClampNeg ∧ cleB m held p 5 0 = 0 ∧ Inv (j + 1) (bp r 6 p.toNatClampNeg 0) t L (kN n old held) (kO old held) (kH held + 1) (kB B old held r) (cleB m held p)) := by
  unfold cCle cleV cleB
  rw [← zL6 p]
  by_cases c1 : zL p 6 = 0
  · rw [if_pos c1, if_pos c1, if_pos c1]
    exact ⟨fun _ => fail_inv h, fun e => absurd e (by decide)⟩
  · rw [if_neg c1, if_neg c1, if_neg c1]
    refine ⟨fun e => absurd rfl e, fun _ => ?_⟩
    rw [zL6] at c1
    obtain ⟨i, -, hi, rfl⟩ := zW_b (a := 0) (b := 5) (by decide) (by decide) c1
    rw [nI_clamp (show i < 2 ^ 31 by omega)]
    have hR := h.2.1
    refine ⟨by rw [M0_0]; exact (hR.2.2.2.2.2.2.1 i (by omega)).symm, ?_⟩
    refine save_inv h (fun a' ha' => by rw [bpr ha']) ?_ ?_
    · rw [bpk, M0_0]
      exact Rl_u hR 6 i _ _ _ (by omega) (Or.inr (Or.inl ⟨by omega, by omega, by omega, rfl, rfl⟩))
    · refine Gd_set (h.2.2.1.mono ?_) (Or.inr (Or.inr (Or.inr (Or.inr (Or.inr ⟨rfl, 0, by omega, rfl⟩)))))
      have := KK_1 j L; omega
theorem mos_eq {i : Nat} (hi : i ≤ 2) : mosF i = msM (nI i) := by
  have h : i = 0 ∨ i = 1 ∨ i = 2 := by omega
  rcases h with rfl | rfl | rfl <;> rfl
theorem o_set {j : Nat} {r t : rB} {L n old held : Nat} {B : Nat → rB} {m : rB} (h : Inv j r t L n old held B m) (p x : Int32) :
    (¬ cSet p x = 0 → setB m held p x 5 0 = nI (cSet p x) ∧ Inv (j + 1) r t L n old held B (setB m held p x)) ∧
    (cSet p x = 0 → setV m held p x = r 11 p.toNatClampNeg ∧ setB m held p x 5 0 = 0 ∧ Inv (j + 1) (bp r 11 p.toNatClampNeg x) t L (kN n old held) (kO old held) (kH held + 1) (kB B old held r) (setB m held p x)) := by
  unfold cSet setV setB
  rw [← zL3 p]
  by_cases c1 : zL p 3 = 0
  · rw [if_pos c1, if_pos c1, if_pos c1]
    exact ⟨fun _ => fail_inv h, fun e => absurd e (by decide)⟩
  · rw [if_neg c1, if_neg c1, if_neg c1]
    rw [zL3] at c1
    obtain ⟨i, -, hi, rfl⟩ := zW_b (a := 0) (b := 2) (by decide) (by decide) c1
    rw [nI_clamp (show i < 2 ^ 31 by omega), mos_eq hi]
    by_cases c3 : zW x 0 (msM (nI i)) = 0
    · rw [if_pos c3, if_pos c3, if_pos c3]
      exact ⟨fun _ => fail_inv h, fun e => absurd e (by decide)⟩
    · rw [if_neg c3, if_neg c3, if_neg c3]
      refine ⟨fun e => absurd rfl e, fun _ => ?_⟩
      have hR := h.2.1
      refine ⟨by rw [M0_0]; exact (hR.2.2.2.2.2.2.2.2.2.2.2.1 i (by omega)).symm, ?_⟩
      have hk := KK_1 j L
      refine save_inv h (fun a' ha' => by rw [bpr ha']) ?_ ?_
      · rw [bpk, M0_0]
        exact Rl_v hR 11 i i x (Or.inl ⟨rfl, by omega, rfl⟩)
      · have hG := h.2.2.1.mono (show KK j L ≤ KK (j + 1) L by omega)
        refine ⟨?_, Gw_ne hG.2.1 ⟨by decide, by decide, by decide, by decide, by decide⟩, Vy_of (bpr (by decide)) hG.2.2⟩
        refine ⟨fun k hk' => ?_, ?_⟩
        · rw [bpr (show 0 ≠ 11 by decide), bpr (show 1 ≠ 11 by decide), bpr (show 2 ≠ 11 by decide), bpr (show 4 ≠ 11 by decide), bpr (show 5 ≠ 11 by decide), bpr (show 6 ≠ 11 by decide), bpr (show 7 ≠ 11 by decide)]
          exact hG.1.1 k hk'
        · rw [bpk]
          obtain ⟨q0, q1, q2⟩ := hG.1.2
          have hcs : i = 0 ∨ i = 1 ∨ i = 2 := by omega
          rcases hcs with rfl | rfl | rfl
          · obtain ⟨a, -, ha, rfl⟩ := zW_b (a := 0) (b := 600) (by decide) (by decide) c3
            exact ⟨⟨a, ha, upd_eq⟩, by rw [upd_ne (by decide)]; exact q1, by rw [upd_ne (by decide)]; exact q2⟩
          · obtain ⟨a, -, ha, rfl⟩ := zW_b (a := 0) (b := 50) (by decide) (by decide) c3
            exact ⟨by rw [upd_ne (by decide)]; exact q0, ⟨a, ha, upd_eq⟩, by rw [upd_ne (by decide)]; exact q2⟩
          · obtain ⟨a, -, ha, rfl⟩ := zW_b (a := 0) (b := 99) (by decide) (by decide) c3
            exact ⟨by rw [upd_ne (by decide)]; exact q0, by rw [upd_ne (by decide)]; exact q1, ⟨a, ha, upd_eq⟩⟩
theorem o_rain {j : Nat} {r t : rB} {L n old held : Nat} {B : Nat → rB} {m : rB} (h : Inv j r t L n old held B m) (hj : j < 512) (x y : Int32) :
    (¬ cRai x y = 0 → raiB m held x y 5 0 = nI (cRai x y - 1) ∧ Inv (j + 1) r t L n old held B (raiB m held x y)) ∧
    (cRai x y = 0 → raiV m held x y = smI (minutesC y.toNatClampNeg r x 9) 6 0 0 - smI (r 9) 6 0 0 ∧ raiB m held x y 5 0 = 0 ∧ Inv (j + 1) (minutesC y.toNatClampNeg r x) t L (kN n old held) (kO old held) (kH held + 1) (kB B old held r) (raiB m held x y)) := by
  unfold cRai raiV raiB
  by_cases c1 : zW x 0 99 = 0
  · rw [if_pos c1, if_pos c1, if_pos c1]
    exact ⟨fun _ => fail_inv h, fun e => absurd e (by decide)⟩
  · rw [if_neg c1, if_neg c1, if_neg c1]
    by_cases c2 : zW y 1 60 = 0
    · rw [if_pos c2, if_pos c2, if_pos c2]
      exact ⟨fun _ => fail_inv h, fun e => absurd e (by decide)⟩
    · rw [if_neg c2, if_neg c2, if_neg c2]
      refine ⟨fun e => absurd rfl e, fun _ => ?_⟩
      obtain ⟨a, -, ha, rfl⟩ := zW_b (a := 0) (b := 99) (by decide) (by decide) c1
      obtain ⟨k, -, hk, rfl⟩ := zW_b (a := 1) (b := 60) (by decide) (by decide) c2
      rw [nI_clamp (show k < 2 ^ 31 by omega)]
      have hR : Rl r (svB (bp m 5 0 0) held 0) := by rw [M0_0]; exact h.2.1
      have hR1 := Rl_mins (y := nI a) k r (svB (bp m 5 0 0) held) hR h.2.2.1.1
      refine ⟨?_, save_inv h (fun a' ha' => Sm_mins k _ _ a' ha') hR1 ?_⟩
      · rw [hR1.2.2.2.2.2.2.2.2.2.2.2.2.2.2.2.2.2, hR.2.2.2.2.2.2.2.2.2.2.2.2.2.2.2.2.2]
      · have hle := KK_le (j := j) (L := L) (by omega)
        have hq : KK j L + (k : Int) * 11880 ≤ KK (j + 1) L := by have := KK_1 j L; omega
        exact (Gd_mins ⟨a, ha, rfl⟩ h.2.2.1 (by omega)).mono hq
theorem o_weeks {j : Nat} {r t : rB} {L n old held : Nat} {B : Nat → rB} {m : rB} (h : Inv j r t L n old held B m) (y : Int32) :
    (¬ cWks y = 0 → wksB m held y 5 0 = nI (cWks y - 1) ∧ Inv (j + 1) r t L n old held B (wksB m held y)) ∧
    (cWks y = 0 → wksV m held y = smI (wksC y.toNatClampNeg r 6) 6 0 0 ∧ wksB m held y 5 0 = 0 ∧ Inv (j + 1) (wksC y.toNatClampNeg r) t L (kN n old held) (kO old held) (kH held + 1) (kB B old held r) (wksB m held y)) := by
  unfold cWks wksV wksB
  by_cases c2 : zW y 1 52 = 0
  · rw [if_pos c2, if_pos c2, if_pos c2]
    exact ⟨fun _ => fail_inv h, fun e => absurd e (by decide)⟩
  · rw [if_neg c2, if_neg c2, if_neg c2]
    refine ⟨fun e => absurd rfl e, fun _ => ?_⟩
    obtain ⟨k, -, hk, rfl⟩ := zW_b (a := 1) (b := 52) (by decide) (by decide) c2
    rw [nI_clamp (show k < 2 ^ 31 by omega)]
    have hR : Rl r (svB (bp m 5 0 0) held 0) := by rw [M0_0]; exact h.2.1
    have hR1 := Rl_wks k r (svB (bp m 5 0 0) held) hR
    have hSm : ∀ (n : Nat) (s : rB), Sm (wksM n s) s := by
      intro n
      induction n with
      | zero => intro s; exact Sm.rf
      | succ n ih => intro s; exact (ih _).tr Sm_week
    refine ⟨(Rl_lv hR1).symm, save_inv h (fun a' ha' => hSm k _ a' ha') hR1 ?_⟩
    exact Gd_wks k r (h.2.2.1.mono (by have := KK_1 j L; omega))
theorem o_valley {j : Nat} {r t : rB} {L n old held : Nat} {B : Nat → rB} {m : rB} (h : Inv j r t L n old held B m) (p x : Int32) :
    (¬ cVal r p x = 0 → valB m held p x 5 0 = nI (cVal r p x) ∧ Inv (j + 1) r t L n old held B (valB m held p x)) ∧
    (cVal r p x = 0 → valV m held p x = r 7 p.toNatClampNeg ∧ valB m held p x 5 0 = 0 ∧ Inv (j + 1) (bp r 7 p.toNatClampNeg x) t L (kN n old held) (kO old held) (kH held + 1) (kB B old held r) (valB m held p x)) := by
  have hR := h.2.1
  have hG := h.2.2.1
  have good : ∀ i, i < 6 → (x = -1 ∨ ∃ k, k < 6 ∧ x = nI k ∧ vlead r (nI i) 6 x = 0) → svB (bp m 5 0 0) held 0 (33 + 7 * (nI i).toNatClampNeg + 3) - 1 = r 7 (nI i).toNatClampNeg ∧ valU m held (nI i) x 5 0 = 0 ∧ Inv (j + 1) (bp r 7 (nI i).toNatClampNeg x) t L (kN n old held) (kO old held) (kH held + 1) (kB B old held r) (valU m held (nI i) x) := by
    intro i hi hx
    rw [nI_clamp (show i < 2 ^ 31 by omega)]
    unfold valU
    rw [nI_clamp (show i < 2 ^ 31 by omega)]
    refine ⟨by rw [M0_0]; exact (hR.2.2.2.2.2.2.2.1 i hi).symm, save_inv h (fun a' ha' => by rw [bpr ha']) ?_ ?_⟩
    · rw [bpk, M0_0]
      exact Rl_u hR 7 i _ _ _ hi (Or.inr (Or.inr ⟨rfl, rfl, by simp⟩))
    · have hG1 := hG.mono (show KK j L ≤ KK (j + 1) L by have := KK_1 j L; omega)
      refine ⟨Cf_7 hG1.1 ?_, Gw_ne hG1.2.1 ⟨by decide, by decide, by decide, by decide, by decide⟩, Vy_set hi hG1.1 hG1.2.2 hx⟩
      rcases hx with e | ⟨k, hk, e, -⟩
      · exact Or.inl e
      · exact Or.inr ⟨k, hk, e⟩
  unfold cVal valV valB
  rw [← zL6 p, ← zL6 x]
  by_cases c1 : zL p 6 = 0
  · rw [if_pos c1, if_pos c1, if_pos c1]
    exact ⟨fun _ => fail_inv h, fun e => absurd e (by decide)⟩
  · rw [if_neg c1, if_neg c1, if_neg c1]
    rw [zL6] at c1
    obtain ⟨i, -, hi, rfl⟩ := zW_b (a := 0) (b := 5) (by decide) (by decide) c1
    by_cases c2 : x = -1
    · rw [if_pos c2, if_pos c2, if_pos c2]
      have c3 : ¬ nI i = x := fun e => nI_nm1 (show i < 2 ^ 31 by omega) (e.trans c2)
      have c4 : vlead r (nI i) 6 x = 0 := by rw [c2]; unfold vlead; rw [if_pos zL_m1]
      rw [if_neg c3, if_pos c4]
      exact ⟨fun e => absurd rfl e, fun _ => good i (by omega) (Or.inl c2)⟩
    · rw [if_neg c2, if_neg c2, if_neg c2]
      by_cases c3 : zL x 6 = 0
      · rw [if_pos c3, if_pos c3, if_pos c3]
        exact ⟨fun _ => fail_inv h, fun e => absurd e (by decide)⟩
      · rw [if_neg c3, if_neg c3, if_neg c3]
        rw [zL6] at c3
        obtain ⟨k, -, hk, rfl⟩ := zW_b (a := 0) (b := 5) (by decide) (by decide) c3
        by_cases c4 : nI i = nI k
        · rw [if_pos c4, if_pos c4, if_pos c4]
          exact ⟨fun _ => fail_inv h, fun e => absurd e (by decide)⟩
        · rw [if_neg c4, if_neg c4, if_neg c4]
          have eL : ledV (bp m 5 0 0) (nI k) (nI i) = vlead r (nI i) 6 (nI k) := by
            unfold ledV
            exact led_eq (m := bp m 5 0 0) (by omega) (by rw [bpr (by decide)]; exact hR) hG.1 6 (nI k) (Or.inr ⟨k, by omega, rfl⟩) (hG.2.2 k (by omega))
          rw [eL]
          by_cases c5 : vlead r (nI i) 6 (nI k) = 0
          · rw [if_pos c5, if_pos c5, if_pos c5]
            exact ⟨fun e => absurd rfl e, fun _ => good i (by omega) (Or.inr ⟨k, by omega, rfl, c5⟩)⟩
          · rw [if_neg c5, if_neg c5, if_neg c5]
            exact ⟨fun _ => fail_inv h, fun e => absurd e (by decide)⟩
