/-- n parts from the part P on, from A to the end -/
def PL (q : rB) (b : Nat → Int32) (L : Nat) : Nat → Nat → Nat → Prop
  | 0, _, _ => False
  | n + 1, P, A => ∃ B, PT q b A B P ∧ ((n = 0 ∧ B = L) ∨ (0 < n ∧ B < L ∧ b B = 59 ∧ PL q b L n (P + 1) (B + 1)))
theorem PT_cong {q r : rB} {b : Nat → Int32} {A B P : Nat} (h1 : q 4 (2 * P) = r 4 (2 * P)) (h2 : q 4 (2 * P + 1) = r 4 (2 * P + 1)) (h : PT r b A B P) : PT q b A B P := by
  unfold PT at h ⊢
  rw [h1, h2]; exact h
theorem raF_all : ∀ (n : Nat) (r : rB) (A L P : Nat), RS (r 3) L A (r 5 4) → r 5 3 = nI A → r 5 5 = nI P → 2 * P ≤ A + 1 → (¬ r 5 4 = 0 → L ≤ A + n) →
    ∃ A' P', raF n r A L P 3 = r 3 ∧ RS (r 3) L A' (raF n r A L P 5 4) ∧ raF n r A L P 5 3 = nI A' ∧ raF n r A L P 5 5 = nI P' ∧ (∀ k, k < 2 * P → raF n r A L P 4 k = r 4 k) ∧
      (¬ raF n r A L P 5 4 = 0 → A' = L ∧ ¬ r 5 4 = 0 ∧ P ≤ P' ∧ ((P' = P ∧ A = L) ∨ (P < P' ∧ A < L ∧ r 3 A = 59 ∧ PL (raF n r A L P) (r 3) L (P' - P) P (A + 1))))
  | 0, r, A, L, P, hR, h3, h5, hP, hf => ⟨A, P, rfl, hR, h3, h5, fun _ _ => rfl, fun hw => by
      have e : A = L := by have := hf hw; have := hR.1; omega
      exact ⟨e, hw, Nat.le_refl _, Or.inl ⟨rfl, e⟩⟩⟩
  | n + 1, r, A, L, P, hR, h3, h5, hP, hf => by
    by_cases c1 : r 5 4 = 0
    · rw [raF_bad c1]
      exact ⟨A, P, rfl, hR, h3, h5, fun _ _ => rfl, fun hw => absurd c1 hw⟩
    · by_cases c2 : A < L
      · by_cases c3 : sgn r A L = 59
        · rw [raF_go c1 c2 c3]
          have hb : r 3 A = 59 := (sgn_b c2).symm.trans c3
          have hm3 : rsS r A 3 = r 3 := Rd_rs.1 3 (by decide) (by decide)
          have hm5 : ¬ rsS r A 5 4 = 0 := by
            have e : rsS r A 5 4 = 1 := (bp_ne (by decide)).trans bp_eq
            rw [e]; decide
          have hst : sT (rsS r A 3) (A + 1) = 1 := by
            rw [hm3]
            have := (hR.2.2.1 c1).1
            exact (sT_s rfl).trans (by rw [hb]; exact dA_semi this)
          obtain ⟨k1, k2⟩ := part_RS (P := P) hm5 (show A + 1 ≤ L by omega) hst
          have hq3 : rpB (rsS r A) (A + 1) L P 3 = rsS r A 3 := Rd_rpB.1 3 (by decide) (by decide)
          have hf2 : ¬ rpB (rsS r A) (A + 1) L P 5 4 = 0 → L ≤ rpA (rsS r A) (A + 1) L P + n := fun h => by
            have := rpA_gt h
            have := hf c1
            omega
          obtain ⟨A', P', g1, g2, g3, g4, g5, g6⟩ := raF_all n (rpB (rsS r A) (A + 1) L P) (rpA (rsS r A) (A + 1) L P) L (rpP (rsS r A) (A + 1) L P) (by rw [hq3]; exact k1) rpB_at rpB_manyP (rpP_le (by omega)) hf2
          rw [hq3, hm3] at g2 g6
          have hPP : P ≤ rpP (rsS r A) (A + 1) L P := by unfold rpP; omega
          refine ⟨A', P', g1.trans (hq3.trans hm3), g2, g3, g4, fun k hk => ?_, fun hw => ?_⟩
          · rw [g5 k (by omega), rpB_low hk]; rfl
          · obtain ⟨w1, w2, w3, w4⟩ := g6 hw
            have eP : rpP (rsS r A) (A + 1) L P = P + 1 := by unfold rpP; rw [if_neg w2]
            have hpt := k2 w2
            rw [hm3] at hpt
            rw [eP] at w3 w4 g5
            refine ⟨w1, c1, by omega, Or.inr ⟨by omega, c2, hb, ?_⟩⟩
            obtain ⟨d, hd⟩ : ∃ d, P' - P = d + 1 := ⟨P' - P - 1, by omega⟩
            rw [eP, hd]
            refine ⟨rpA (rsS r A) (A + 1) L P, PT_cong (g5 _ (by omega)) (g5 _ (by omega)) hpt, ?_⟩
            rcases w4 with ⟨u1, u2⟩ | ⟨u1, u2, u3, u4⟩
            · exact Or.inl ⟨by omega, u2⟩
            · rw [show P' - (P + 1) = d by omega] at u4
              exact Or.inr ⟨by omega, u2, u3, u4⟩
        · rw [raF_no c1 c2 c3]
          have e4 : rsE r A 5 4 = 0 := (bp_ne (by decide)).trans bp_eq
          have e3 : rsE r A 3 = r 3 := Rd_re.1 3 (by decide) (by decide)
          rw [e4]
          refine ⟨A, P, e3, ⟨hR.1, hR.2.1, fun h => absurd rfl h, fun _ => ⟨fun h => by omega, fun hl => ?_⟩⟩, bp_eq, (bp_ne (by decide)).trans ((bp_ne (by decide)).trans h5), fun k _ => (bp_rw (by decide)).trans (bp_rw (by decide)), fun h => absurd rfl h⟩
          exact (hR.2.2.1 c1).2 hl (fun h => c3 ((sgn_b hl).trans h))
      · rw [raF_end c2]
        exact ⟨A, P, rfl, hR, h3, h5, fun _ _ => rfl, fun hw => ⟨by have := hR.1; omega, hw, Nat.le_refl _, Or.inl ⟨rfl, by have := hR.1; omega⟩⟩⟩
theorem raB_n {m : rB} {L n : Nat} (hL : L ≤ n) : ∃ A' P', (raF n (rpB (ra0 m) 0 L 0) (rpA (ra0 m) 0 L 0) L (rpP (ra0 m) 0 L 0)) 3 = m 3 ∧ (raF n (rpB (ra0 m) 0 L 0) (rpA (ra0 m) 0 L 0) L (rpP (ra0 m) 0 L 0)) 5 3 = nI A' ∧ RS (m 3) L A' ((raF n (rpB (ra0 m) 0 L 0) (rpA (ra0 m) 0 L 0) L (rpP (ra0 m) 0 L 0)) 5 4) ∧ (raF n (rpB (ra0 m) 0 L 0) (rpA (ra0 m) 0 L 0) L (rpP (ra0 m) 0 L 0)) 5 5 = nI P' ∧ (¬ (raF n (rpB (ra0 m) 0 L 0) (rpA (ra0 m) 0 L 0) L (rpP (ra0 m) 0 L 0)) 5 4 = 0 → A' = L ∧ PL ((raF n (rpB (ra0 m) 0 L 0) (rpA (ra0 m) 0 L 0) L (rpP (ra0 m) 0 L 0))) (m 3) L P' 0 0) := by
  have hm3 : ra0 m 3 = m 3 := ((Rd_5 (by decide)).tr ((Rd_5 (by decide)).tr (Rd_5 (by decide)))).1 3 (by decide) (by decide)
  have hm5 : ¬ ra0 m 5 4 = 0 := by
    have e : ra0 m 5 4 = 1 := (bp_ne (by decide)).trans bp_eq
    rw [e]; decide
  obtain ⟨k1, k2⟩ := part_RS (P := 0) hm5 (Nat.zero_le L) (show sT (ra0 m 3) 0 = 1 from rfl)
  have hq3 : rpB (ra0 m) 0 L 0 3 = ra0 m 3 := Rd_rpB.1 3 (by decide) (by decide)
  obtain ⟨A', P', g1, g2, g3, g4, g5, g6⟩ := raF_all n (rpB (ra0 m) 0 L 0) (rpA (ra0 m) 0 L 0) L (rpP (ra0 m) 0 L 0) (by rw [hq3]; exact k1) rpB_at rpB_manyP (rpP_le (by omega)) (fun _ => by omega)
  rw [hq3, hm3] at g2 g6
  refine ⟨A', P', g1.trans (hq3.trans hm3), g3, g2, g4, fun hw => ?_⟩
  obtain ⟨w1, w2, w3, w4⟩ := g6 hw
  have eP : rpP (ra0 m) 0 L 0 = 1 := by unfold rpP; rw [if_neg w2]
  have hpt := k2 w2
  rw [hm3] at hpt
  rw [eP] at w3 w4 g5
  refine ⟨w1, ?_⟩
  obtain ⟨d, hd⟩ : ∃ d, P' = d + 1 := ⟨P' - 1, by omega⟩
  rw [hd, eP]
  refine ⟨rpA (ra0 m) 0 L 0, PT_cong (g5 _ (by omega)) (g5 _ (by omega)) hpt, ?_⟩
  rcases w4 with ⟨u1, u2⟩ | ⟨u1, u2, u3, u4⟩
  · exact Or.inl ⟨by omega, u2⟩
  · rw [show P' - 1 = d by omega] at u4
    exact Or.inr ⟨by omega, u2, u3, u4⟩
theorem raB_all {m : rB} {L : Nat} (hL : L ≤ 60) : ∃ A' P', raB m L 3 = m 3 ∧ raB m L 5 3 = nI A' ∧ RS (m 3) L A' (raB m L 5 4) ∧ raB m L 5 5 = nI P' ∧ (¬ raB m L 5 4 = 0 → A' = L ∧ PL (raB m L) (m 3) L P' 0 0) := by
  unfold raB
  exact raB_n hL
/-- the class's text and the model's buffer -/
def TX (t m : rB) (L : Nat) : Prop := ∀ j, j < L → t 0 j = m 3 j
theorem first_eq {t m : rB} {L : Nat} (hL : L ≤ 60) (h : TX t m L) : raB m L 5 3 = fwL t L 0 1 := by
  obtain ⟨A', P', g1, g3, g2, -, -⟩ := raB_all (m := m) hL
  have e : fwL t L 0 1 = fwL (bT (m 3)) L 0 1 := fw_cong L 0 1 (fun j _ hj => h j (by omega))
  rw [e, g3]
  by_cases c : A' < L
  · have hz : sT (m 3) (A' + 1) = 0 ∨ raB m L 5 4 ≠ 0 := by
      by_cases w : raB m L 5 4 = 0
      · exact Or.inl ((g2.2.2.2 w).2 c)
      · exact Or.inr w
    rcases hz with hz | hz
    · exact (fw_sT c g2.2.1 hz L 0 (by omega) (by omega)).symm
    · by_cases c59 : m 3 A' = 59
      · exfalso
        obtain ⟨A2, P2, -, g3', -, -, g5⟩ := raB_all (m := m) hL
        have := (g5 hz).1
        have h9 := g3'.symm.trans g3
        have h8 := congrArg Int32.toInt h9
        rw [nI_toInt (by omega), nI_toInt (by omega)] at h8
        omega
      · exact (fw_sT c g2.2.1 ((g2.2.2.1 hz).2 c c59) L 0 (by omega) (by omega)).symm
  · have eA : A' = L := by have := g2.1; omega
    subst eA
    exact (fw_end g2.2.1 A' 0 (by omega)).symm
theorem compl_eq {t m : rB} {L : Nat} (hL : L ≤ 60) (h : TX t m L) : zM (nI (icL t L 0 1)) = 0 ↔ raB m L 5 4 = 0 := by
  obtain ⟨A', P', g1, g3, g2, -, g5⟩ := raB_all (m := m) hL
  have e : icL t L 0 1 = sT (m 3) L := by
    rw [ic_cong (q := bT (m 3)) L 0 1 (fun j _ hj => h j (by omega))]
    exact (ic_sT L 0).trans (by rw [Nat.zero_add])
  rw [e]
  constructor
  · intro hz
    by_cases w : raB m L 5 4 = 0
    · exact w
    · have eA := (g5 w).1
      subst eA
      exact absurd hz (g2.2.2.1 w).1
  · intro w
    by_cases c : A' < L
    · have hz := (g2.2.2.2 w).2 c
      have := sT_0 hz (L - (A' + 1))
      rw [show A' + 1 + (L - (A' + 1)) = L by omega] at this
      rw [this]; decide
    · have eA : A' = L := by have := g2.1; omega
      subst eA
      exact (g2.2.2.2 w).1 rfl
/-- what a part does to a roof -/
def EF (q : rB) (P : Nat) (r : rB) : rB := if q 4 (2 * P) = -1 then weekC r else if q 4 (2 * P) = -2 then clnC r (q 4 (2 * P + 1)) else minutesC (q 4 (2 * P + 1)).toNatClampNeg r (q 4 (2 * P))
def EFs (q : rB) : Nat → Nat → rB → rB
  | 0, _, r => r
  | n + 1, P, r => EFs q n (P + 1) (EF q P r)
theorem pl_dig {b : Nat → Int32} {i u : Nat} {n : Nat} {r : rB} {k ra : Int32} {v : Nat} (h : b i = nI (48 + u)) (hu : u ≤ 9) : playL (bT b) (n + 1) i r k ra (nI v) = playL (bT b) n (i + 1) r k ra (nI (10 * v + u)) := by
  have h1 : ¬ b i = 59 := fun e => by
    have := (c_eq (c := b i) (n := 59) (by decide)).mp e
    rw [h, nI_toInt (by omega)] at this
    omega
  have h2 : ¬ zW (b i) 48 57 = 0 := fun e => by
    rw [h, zW48, nI_toInt (by omega)] at e
    omega
  have e : nI v * 10 + b i - 48 = nI (10 * v + u) := by
    have e1 : nI v * 10 = nI (v * 10) := pk_mul v 10
    rw [h, e1, nI_add, show 10 * v + u = v * 10 + (48 + u) - 48 by omega]
    exact pk_sub (a := v * 10 + (48 + u)) (b := 48) (by omega)
  show (if b i = 59 then playL (bT b) n (i + 1) (playP r k ra (nI v)) k ra 0 else if zW (b i) 48 57 = 0 then playL (bT b) n (i + 1) r (b i) (nI v) 0 else playL (bT b) n (i + 1) r k ra (nI v * 10 + b i - 48)) = _
  rw [if_neg h1, if_neg h2, e]
theorem pl_sign {b : Nat → Int32} {i : Nat} {n : Nat} {r : rB} {k ra nu : Int32} (h1 : ¬ b i = 59) (h2 : zW (b i) 48 57 = 0) : playL (bT b) (n + 1) i r k ra nu = playL (bT b) n (i + 1) r (b i) nu 0 := by
  show (if b i = 59 then playL (bT b) n (i + 1) (playP r k ra nu) k ra 0 else if zW (b i) 48 57 = 0 then playL (bT b) n (i + 1) r (b i) nu 0 else playL (bT b) n (i + 1) r k ra (nu * 10 + b i - 48)) = _
  rw [if_neg h1, if_pos h2]
theorem pl_num {b : Nat → Int32} {A p x : Nat} (h : dgT b A p x) (n : Nat) (r : rB) (k ra : Int32) : A < p ∧ playL (bT b) (p - A + n) A r k ra (nI 0) = playL (bT b) n p r k ra (nI x) := by
  rcases h with ⟨e1, h1, h2⟩ | ⟨e1, u, v, hu, hv, h1, h2, h3⟩
  · subst e1
    refine ⟨by omega, ?_⟩
    rw [show A + 1 - A + n = n + 1 by omega, pl_dig h1 h2, show 10 * 0 + x = x by omega]
  · subst e1
    refine ⟨by omega, ?_⟩
    rw [show A + 2 - A + n = (n + 1) + 1 by omega, pl_dig h1 hu, pl_dig h2 hv, show 10 * (10 * 0 + u) + v = x by omega]
theorem nI_m1 {n : Nat} (h : n < 2 ^ 31) : ¬ nI n = -1 := nI_nm1 h
theorem pl_part {q : rB} {b : Nat → Int32} {A B P : Nat} (h : PT q b A B P) (k ra : Int32) : A < B ∧ ∃ k' ra' nu', (∀ n r, playL (bT b) (B - A + n) A r k ra 0 = playL (bT b) n B r k' ra' nu') ∧ ∀ r, playP r k' ra' nu' = EF q P r := by
  rcases h with ⟨h1, h2, h3⟩ | ⟨g, hg, h1, h2, h3, h4, h5⟩ | ⟨x, y, p, hx, hy1, hy2, h1, h2, h3, h4, h5⟩
  · subst h2
    refine ⟨by omega, 119, 0, 0, fun n r => ?_, fun r => ?_⟩
    · rw [show A + 1 - A + n = n + 1 by omega, pl_sign (by rw [h3]; decide) (by rw [h3]; decide), h3]
    · unfold EF playP
      rw [h1, if_pos rfl, if_pos rfl]
  · subst h3
    refine ⟨by omega, 99, 0, nI g, fun n r => ?_, fun r => ?_⟩
    · rw [show A + 2 - A + n = (n + 1) + 1 by omega, pl_sign (by rw [h4]; decide) (by rw [h4]; decide), h4]
      have := pl_dig (n := n) (r := r) (k := 99) (ra := 0) (v := 0) h5 (by omega)
      rw [show 10 * 0 + g = g by omega] at this
      exact this
    · unfold EF playP
      rw [h1, h2, if_neg (by decide), if_pos rfl, if_neg (by decide), if_pos rfl]
  · have q1 := fun n r => pl_num h3 n r k ra
    have q2 := fun n r => pl_num h5 n r 42 (nI x)
    have l1 := (q1 0 q).1
    have l2 := (q2 0 q).1
    refine ⟨by omega, 42, nI x, nI y, fun n r => ?_, fun r => ?_⟩
    · rw [show B - A + n = p - A + ((B - (p + 1) + n) + 1) by omega]
      refine (q1 _ r).2.trans ?_
      rw [pl_sign (by rw [h4]; decide) (by rw [h4]; decide), h4]
      exact (q2 n r).2
    · unfold EF playP
      rw [h1, h2, if_neg (nI_m1 (by omega)), if_neg (nI_nm2 (by omega)), if_neg (by decide), if_neg (by decide)]
theorem pl_all {q : rB} {b : Nat → Int32} {L : Nat} : ∀ (n P A : Nat), PL q b L n P A → A ≤ L ∧ ∀ (r : rB) (k ra : Int32), playL (bT b) (L - A) A r k ra 0 = EFs q n P r
  | 0, _, _, h => h.elim
  | n + 1, P, A, h => by
    obtain ⟨B, hpt, h⟩ := h
    have hlt := (pl_part hpt 0 0).1
    rcases h with ⟨h1, h2⟩ | ⟨h1, h2, h3, h4⟩
    · subst h1; subst h2
      refine ⟨by omega, fun r k ra => ?_⟩
      obtain ⟨-, k', ra', nu', e1, e2⟩ := pl_part hpt k ra
      have := e1 0 r
      rw [Nat.add_zero] at this
      rw [this]
      exact e2 r
    · obtain ⟨i1, i2⟩ := pl_all n (P + 1) (B + 1) h4
      refine ⟨by omega, fun r k ra => ?_⟩
      obtain ⟨-, k', ra', nu', e1, e2⟩ := pl_part hpt k ra
      rw [show L - A = B - A + ((L - (B + 1)) + 1) by omega, e1]
      show (if b B = 59 then playL (bT b) (L - (B + 1)) (B + 1) (playP r k' ra' nu') k' ra' 0 else _) = _
      rw [if_pos h3, e2]
      exact i2 _ k' ra'
theorem play_cong {t q : rB} : ∀ (n i : Nat) (r : rB) (k ra nu : Int32), (∀ j, i ≤ j → j < i + n → t 0 j = q 0 j) → playL t n i r k ra nu = playL q n i r k ra nu
  | 0, _, _, _, _, _, _ => rfl
  | n + 1, i, r, k, ra, nu, h => by
    have hc : ∀ r k ra nu, playL t n (i + 1) r k ra nu = playL q n (i + 1) r k ra nu := fun r k ra nu => play_cong n (i + 1) r k ra nu (fun j h1 h2 => h j (by omega) (by omega))
    show (if t 0 i = 59 then playL t n (i + 1) (playP r k ra nu) k ra 0 else if zW (t 0 i) 48 57 = 0 then playL t n (i + 1) r (t 0 i) nu 0 else playL t n (i + 1) r k ra (nu * 10 + t 0 i - 48)) = (if q 0 i = 59 then playL q n (i + 1) (playP r k ra nu) k ra 0 else if zW (q 0 i) 48 57 = 0 then playL q n (i + 1) r (q 0 i) nu 0 else playL q n (i + 1) r k ra (nu * 10 + q 0 i - 48))
    rw [h i (by omega) (by omega), hc, hc, hc]
theorem play_eq {t m : rB} {L : Nat} (hL : L ≤ 60) (h : TX t m L) (hw : ¬ raB m L 5 4 = 0) : ∃ N, raB m L 5 5 = nI N ∧ N ≤ 64 ∧ PL (raB m L) (m 3) L N 0 0 ∧ ∀ r, playL t L 0 r 42 0 0 = EFs (raB m L) N 0 r := by
  obtain ⟨A2, P2, q1, q2, -, q4, -, -⟩ := raB_ex (r := m) hL
  obtain ⟨A', P', -, -, -, g4, g5⟩ := raB_all (m := m) hL
  obtain ⟨-, g6⟩ := g5 hw
  refine ⟨P', g4, ?_, g6, fun r => ?_⟩
  · have h9 := q4.symm.trans g4
    have hP2 : P2 < 2 ^ 31 := by omega
    have hb : ∀ (n P A : Nat), PL (raB m L) (m 3) L n P A → A + n ≤ L := by
      intro n
      induction n with
      | zero => intro P A h; exact h.elim
      | succ n ih =>
        intro P A h
        obtain ⟨B, hpt, h⟩ := h
        have hlt := (pl_part hpt 0 0).1
        rcases h with ⟨h1, h2⟩ | ⟨h1, h2, h3, h4⟩
        · omega
        · have := ih _ _ h4; omega
    have := hb P' 0 0 g6
    omega
  · rw [play_cong (q := bT (m 3)) L 0 r 42 0 0 (fun j _ hj => h j (by omega))]
    have := (pl_all P' 0 0 g6).2 r 42 0
    rw [Nat.sub_zero] at this
    exact this
