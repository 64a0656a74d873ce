/-! valleys without a ring; what holds between two calls -/
theorem php : ∀ (n : Nat) (c : Nat → Nat), (∀ k, k ≤ n → c k < n) → ∃ i j, i < j ∧ j ≤ n ∧ c i = c j
  | 0, c, h => absurd (h 0 (Nat.le_refl 0)) (by omega)
  | n + 1, c, h => by
    by_cases h1 : ∃ i, i ≤ n ∧ c i = c (n + 1)
    · obtain ⟨i, hi, e⟩ := h1
      exact ⟨i, n + 1, by omega, by omega, e⟩
    · have hne : ∀ i, i ≤ n → c i ≠ c (n + 1) := fun i hi e => h1 ⟨i, hi, e⟩
      have hv := h (n + 1) (by omega)
      obtain ⟨i, j, hij, hj, e⟩ := php n (fun k => if c k = n then c (n + 1) else c k) (fun k hk => by
        have h2 := h k (by omega)
        have h3 := hne k hk
        show (if c k = n then c (n + 1) else c k) < n
        split <;> omega)
      refine ⟨i, j, hij, by omega, ?_⟩
      have hi1 := hne i (by omega)
      have hj1 := hne j hj
      have e' : (if c i = n then c (n + 1) else c i) = (if c j = n then c (n + 1) else c j) := e
      by_cases a : c i = n
      · by_cases b : c j = n
        · omega
        · rw [if_pos a, if_neg b] at e'; omega
      · by_cases b : c j = n
        · rw [if_neg a, if_pos b] at e'; omega
        · rw [if_neg a, if_neg b] at e'; exact e'
/-- the valleys from a end within n steps -/
def vE (r : rB) : Nat → Int32 → Prop
  | 0, a => a = -1
  | n + 1, a => a = -1 ∨ vE r n (r 7 a.toNatClampNeg)
def Vy (r : rB) : Prop := ∀ i, i < 6 → vE r 6 (nI i)
def vg (a : Int32) : Prop := a = -1 ∨ ∃ i, i < 6 ∧ a = nI i
theorem Cf.v {r : rB} (h : Cf r) {i : Nat} (hi : i < 6) : vg (r 7 i) := (h.1 i hi).2.2.2.2.2.2
theorem vE_mono {r : rB} : ∀ (n k : Nat) (a : Int32), vE r n a → vE r (n + k) a
  | 0, 0, _, h => h
  | 0, k + 1, _, h => by rw [Nat.zero_add]; exact Or.inl h
  | n + 1, k, a, h => by
    rw [show n + 1 + k = (n + k) + 1 by omega]
    rcases h with h | h
    · exact Or.inl h
    · exact Or.inr (vE_mono n k _ h)
theorem vE_m1 {r : rB} : ∀ n, vE r n (-1)
  | 0 => rfl
  | _ + 1 => Or.inl rfl
def vC (r : rB) (a : Int32) : Nat → Int32
  | 0 => a
  | k + 1 => r 7 (vC r a k).toNatClampNeg
theorem vC_s {r : rB} {a : Int32} : ∀ k, vC r (r 7 a.toNatClampNeg) k = vC r a (k + 1)
  | 0 => rfl
  | k + 1 => by
    show r 7 (vC r (r 7 a.toNatClampNeg) k).toNatClampNeg = r 7 (vC r a (k + 1)).toNatClampNeg
    rw [vC_s k]
theorem vE_C {r : rB} : ∀ (n : Nat) (a : Int32), vE r n a → ∃ k, k ≤ n ∧ vC r a k = -1
  | 0, a, h => ⟨0, Nat.le_refl 0, h⟩
  | n + 1, a, h => by
    rcases h with h | h
    · exact ⟨0, Nat.zero_le _, h⟩
    · obtain ⟨k, hk, e⟩ := vE_C n _ h
      exact ⟨k + 1, by omega, by rw [← vC_s]; exact e⟩
theorem vC_E {r : rB} : ∀ (n : Nat) (a : Int32), (∃ k, k ≤ n ∧ vC r a k = -1) → vE r n a
  | 0, a, h => by
    obtain ⟨k, hk, e⟩ := h
    obtain rfl : k = 0 := by omega
    exact e
  | n + 1, a, h => by
    obtain ⟨k, hk, e⟩ := h
    cases k with
    | zero => exact Or.inl e
    | succ k => exact Or.inr (vC_E n _ ⟨k, by omega, by rw [vC_s]; exact e⟩)
/-- what ends at all ends within six steps -/
theorem vE_6 {r : rB} (hc : Cf r) {N : Nat} {a : Int32} (ha : vg a) (h : vE r N a) : vE r 6 a := by
  by_cases h6 : ∃ k, k ≤ 6 ∧ vC r a k = -1
  · exact vC_E 6 a h6
  · exfalso
    obtain ⟨K, -, hK⟩ := vE_C N a h
    have hne : ∀ k, k ≤ 6 → vC r a k ≠ -1 := fun k hk e => h6 ⟨k, hk, e⟩
    have hvg : ∀ k, k ≤ 6 → vg (vC r a k) := by
      intro k
      induction k with
      | zero => intro _; exact ha
      | succ k ih =>
        intro hk
        rcases ih (by omega) with e | ⟨i, hi, e⟩
        · exact absurd e (hne k (by omega))
        · show vg (r 7 (vC r a k).toNatClampNeg)
          rw [e, nI_clamp (show i < 2 ^ 31 by omega)]
          exact hc.v hi
    have hex : ∀ k, k ≤ 6 → (vC r a k).toNatClampNeg < 6 := by
      intro k hk
      rcases hvg k hk with e | ⟨i, hi, e⟩
      · exact absurd e (hne k hk)
      · rw [e, nI_clamp (show i < 2 ^ 31 by omega)]; exact hi
    obtain ⟨i, j, hij, hj, e⟩ := php 6 (fun k => (vC r a k).toNatClampNeg) hex
    have e : (vC r a i).toNatClampNeg = (vC r a j).toNatClampNeg := e
    have heq : ∀ d, vC r a (i + 1 + d) = vC r a (j + 1 + d) := by
      intro d
      induction d with
      | zero => show r 7 (vC r a i).toNatClampNeg = r 7 (vC r a j).toNatClampNeg; rw [e]
      | succ d ih => show r 7 (vC r a (i + 1 + d)).toNatClampNeg = r 7 (vC r a (j + 1 + d)).toNatClampNeg; rw [ih]
    have hall : ∀ k, vC r a k ≠ -1 := by
      intro k
      induction k using Nat.strongRecOn with
      | _ k ih =>
        by_cases hk : k ≤ 6
        · exact hne k hk
        · have := heq (k - (j + 1))
          rw [show j + 1 + (k - (j + 1)) = k by omega] at this
          rw [← this]
          exact ih _ (by omega)
    exact hall K hK
/-- a valley that leads nowhere back -/
theorem vE_no {r : rB} {g : Nat} {tt : Int32} (hg : g < 6) (hc : Cf r) : ∀ (n : Nat) (a : Int32), vg a → vE r n a → vlead r (nI g) n a = 0 → vE (bp r 7 g tt) n a
  | 0, a, _, h, _ => h
  | n + 1, a, ha, h, hv => by
    rcases ha with e | ⟨i, hi, e⟩
    · exact Or.inl e
    · have h1 : ¬ a = -1 := by rw [e]; exact nI_nm1 (by omega)
      rcases h with h | h
      · exact absurd h h1
      · have hz : ¬ zL a 6 = 0 := by rw [e]; exact zL_nI hi
        unfold vlead at hv
        rw [if_neg hz] at hv
        by_cases hag : a = nI g
        · rw [if_pos hag] at hv; exact absurd hv (by decide)
        · rw [if_neg hag] at hv
          have hig : i ≠ g := fun q => hag (by rw [e, q])
          refine Or.inr ?_
          rw [e, nI_clamp (show i < 2 ^ 31 by omega)] at h hv ⊢
          rw [bp_ne hig]
          exact vE_no hg hc n _ (hc.v hi) h hv
theorem vE_to {r : rB} {g M : Nat} {tt : Int32} (hc : Cf r) (ht : vE (bp r 7 g tt) M tt) : ∀ (n : Nat) (a : Int32), vg a → vE r n a → vE (bp r 7 g tt) (n + M) a
  | 0, a, _, h => by
    rw [show a = -1 from h]; exact vE_m1 _
  | n + 1, a, ha, h => by
    rw [show n + 1 + M = (n + M) + 1 by omega]
    rcases ha with e | ⟨i, hi, e⟩
    · exact Or.inl e
    · rcases h with h | h
      · exact Or.inl h
      · refine Or.inr ?_
        rw [e, nI_clamp (show i < 2 ^ 31 by omega)] at h ⊢
        by_cases hig : i = g
        · subst hig; rw [bp_eq, Nat.add_comm]; exact vE_mono M n _ ht
        · rw [bp_ne hig]; exact vE_to hc ht n _ (hc.v hi) h
theorem Cf_7 {r : rB} {g : Nat} {tt : Int32} (hc : Cf r) (ht : vg tt) : Cf (bp r 7 g tt) := by
  refine ⟨fun i hi => ?_, ?_⟩
  · have h := hc.1 i hi
    rw [bpr (show 0 ≠ 7 by decide), bpr (show 1 ≠ 7 by decide), bpr (show 2 ≠ 7 by decide), bpr (show 4 ≠ 7 by decide), bpr (show 5 ≠ 7 by decide), bpr (show 6 ≠ 7 by decide)]
    refine ⟨h.1, h.2.1, h.2.2.1, h.2.2.2.1, h.2.2.2.2.1, h.2.2.2.2.2.1, ?_⟩
    rw [bpk]
    by_cases e : i = g
    · subst e; rw [upd_eq]; exact ht
    · rw [upd_ne e]; exact h.2.2.2.2.2.2
  · rw [bpr (show 11 ≠ 7 by decide)]; exact hc.2
theorem Vy_set {r : rB} {g : Nat} {tt : Int32} (hg : g < 6) (hc : Cf r) (hv : Vy r) (ht : tt = -1 ∨ ∃ k, k < 6 ∧ tt = nI k ∧ vlead r (nI g) 6 tt = 0) : Vy (bp r 7 g tt) := by
  have hvg : vg tt := by
    rcases ht with e | ⟨k, hk, e, -⟩
    · exact Or.inl e
    · exact Or.inr ⟨k, hk, e⟩
  have h6 : vE (bp r 7 g tt) 6 tt := by
    rcases ht with e | ⟨k, hk, e, h⟩
    · rw [e]; exact vE_m1 6
    · exact vE_no hg hc 6 tt hvg (by rw [e]; exact hv k hk) h
  intro i hi
  exact vE_6 (Cf_7 hc hvg) (N := 6 + 6) (Or.inr ⟨i, hi, rfl⟩) (vE_to hc h6 6 _ (Or.inr ⟨i, hi, rfl⟩) (hv i hi))
/-- the model's chain -/
theorem nx_eq {r m : rB} {i : Nat} (h : Rl r (m 0)) (hi : i < 6) : nxM m (nI i) = r 7 i := by
  unfold nxM
  rw [nI_clamp (show i < 2 ^ 31 by omega)]
  exact (h.2.2.2.2.2.2.2.1 i hi).symm
theorem ch_eq {r m : rB} (h : Rl r (m 0)) (hc : Cf r) : ∀ (n : Nat) (a : Int32), vg a → vE r n a → chS m n a
  | 0, _, _, he => he
  | n + 1, a, ha, he => by
    rcases ha with e | ⟨i, hi, e⟩
    · exact Or.inl e
    · rcases he with he | he
      · exact Or.inl he
      · refine Or.inr ?_
        rw [e] at he ⊢
        rw [nI_clamp (show i < 2 ^ 31 by omega)] at he
        rw [nx_eq h hi]
        exact ch_eq h hc n _ (hc.v hi) he
theorem led_eq {r m : rB} {g : Nat} (hg : g < 6) (h : Rl r (m 0)) (hc : Cf r) : ∀ (n : Nat) (a : Int32), vg a → vE r n a → (if ldL m (nI g) n a = nI g then (1 : Int32) else 0) = vlead r (nI g) n a
  | 0, a, _, he => by
    show (if a = nI g then (1 : Int32) else 0) = 0
    rw [show a = -1 from he, if_neg (fun e => nI_nm1 (show g < 2 ^ 31 by omega) e.symm)]
  | n + 1, a, ha, he => by
    rcases ha with e | ⟨i, hi, e⟩
    · subst e
      rw [ldL_m1, if_neg (fun e => nI_nm1 (show g < 2 ^ 31 by omega) e.symm)]
      unfold vlead
      rw [if_pos zL_m1]
    · have h1 : ¬ a = -1 := by rw [e]; exact nI_nm1 (by omega)
      rcases he with he | he
      · exact absurd he h1
      · have hz : ¬ zL a 6 = 0 := by rw [e]; exact zL_nI hi
        unfold ldL vlead
        rw [if_neg h1, if_neg hz]
        by_cases hag : a = nI g
        · rw [if_pos hag, if_pos hag, if_pos hag]
        · rw [if_neg hag, if_neg hag]
          rw [e] at he ⊢
          rw [nI_clamp (show i < 2 ^ 31 by omega)] at he ⊢
          rw [nx_eq h hi]
          exact led_eq hg h hc n _ (hc.v hi) he
theorem okS_of {r m : rB} (h : Rl r (m 0)) (hc : Cf r) : okS (m 0) := by
  intro k hk
  obtain ⟨-, -, ⟨j, hj, ej⟩, -, -, -, hv⟩ := hc.1 k hk
  refine ⟨⟨j, hj, (h.2.2.1 k hk).symm.trans ej⟩, ?_⟩
  have em : m 0 (33 + 7 * k + 3) = r 7 k + 1 := by rw [h.2.2.2.2.2.2.2.1 k hk]; simp
  rcases hv with e | ⟨i, hi, e⟩
  · exact ⟨0, by omega, by rw [em, e]; rfl⟩
  · exact ⟨i + 1, by omega, by rw [em, e, nI_1]⟩
theorem Rl_cong {r : rB} {s u : Nat → Int32} (h : Rl r s) (e : ∀ k, k < 75 → u k = s k) : Rl r u := by
  obtain ⟨h0, h1, h2, h3, h4, h5, h6, h7, h8, h9, h10, h11, h12, h13, h14, h15, h16, h17⟩ := h
  refine ⟨fun k hk => ?_, fun k hk => ?_, fun k hk => ?_, fun k hk => ?_, fun k hk => ?_, fun k hk => ?_, fun k hk => ?_, fun k hk => ?_, fun k hk => ?_, fun k hk => ?_, fun k hk => ?_, fun k hk => ?_, ?_, ?_, ?_, ?_, ?_, ?_⟩
  · rw [e _ (by omega)]; exact h0 k hk
  · rw [e _ (by omega)]; exact h1 k hk
  · rw [e _ (by omega)]; exact h2 k hk
  · rw [e _ (by omega)]; exact h3 k hk
  · rw [e _ (by omega)]; exact h4 k hk
  · rw [e _ (by omega)]; exact h5 k hk
  · rw [e _ (by omega)]; exact h6 k hk
  · rw [e _ (by omega)]; exact h7 k hk
  · rw [e _ (by omega)]; exact h8 k hk
  · rw [e _ (by omega)]; exact h9 k hk
  · rw [e _ (by omega)]; exact h10 k hk
  · rw [e _ (by omega)]; exact h11 k hk
  · rw [e _ (by omega)]; exact h12
  · rw [e _ (by omega)]; exact h13
  · rw [e _ (by omega)]; exact h14
  · rw [e _ (by omega)]; exact h15
  · rw [e _ (by omega)]; exact h16
  · rw [e _ (by omega)]; exact h17
def Gd (K : Int) (r : rB) : Prop := Cf r ∧ Gw K r ∧ Vy r
theorem Gd.mono {K J : Int} {r : rB} (h : Gd K r) (hk : K ≤ J) : Gd J r := ⟨h.1, h.2.1.mono hk, h.2.2⟩
def KK (j L : Nat) : Int := 712800 * (j : Int) - 237600 * (L : Int)
/-- what holds between two calls, j of them made -/
def Inv (j : Nat) (r t : rB) (L n old held : Nat) (B : Nat → rB) (m : rB) : Prop :=
  svOk n old held ∧ Rl r (m 0) ∧ Gd (KK j L) r ∧ (t 1 0 = nI L ∧ L ≤ 60 ∧ L ≤ j ∧ TX t m L) ∧ (m 5 2 = nI L ∧ m 5 1 = nI held) ∧ ∀ i, i < held → Rl (B ((old + i) % 6)) (fun k => m 2 (75 * i + k)) ∧ Gd (KK j L) (B ((old + i) % 6))
theorem inv_frame {j : Nat} {r t : rB} {L n old held : Nat} {B : Nat → rB} {m m1 : rB} (h : Inv j r t L n old held B m) (h0 : m1 0 = m 0) (h2 : m1 2 = m 2) (h3 : m1 3 = m 3) (h51 : m1 5 1 = m 5 1) (h52 : m1 5 2 = m 5 2) : Inv (j + 1) r t L n old held B m1 := by
  obtain ⟨a, b, c, ⟨d1, d2, d3, d4⟩, ⟨e1, e2⟩, f⟩ := h
  have hk : KK j L ≤ KK (j + 1) L := by unfold KK; omega
  refine ⟨a, by rw [h0]; exact b, c.mono hk, ⟨d1, d2, by omega, fun i hi => by rw [h3]; exact d4 i hi⟩, ⟨h52.trans e1, h51.trans e2⟩, fun i hi => ?_⟩
  rw [h2]
  exact ⟨(f i hi).1, (f i hi).2.mono hk⟩
theorem inv_save {j : Nat} {r t : rB} {L n old held : Nat} {B : Nat → rB} {m m1 r1 t1 : rB} {L1 : Nat} (h : Inv j r t L n old held B m) (h2 : m1 2 = svB (bp m 5 0 0) held 2) (h51 : m1 5 1 = nI (kH held + 1)) (h52 : m1 5 2 = nI L1) (hR : Rl r1 (m1 0)) (hG : Gd (KK (j + 1) L1) r1) (hL1 : L1 ≤ L) (ht : t1 1 0 = nI L1) (hT : TX t1 m1 L1) : Inv (j + 1) r1 t1 L1 (kN n old held) (kO old held) (kH held + 1) (kB B old held r) m1 := by
  obtain ⟨a, b, c, ⟨d1, d2, d3, d4⟩, ⟨e1, e2⟩, f⟩ := h
  have hk : KK j L ≤ KK (j + 1) L1 := by unfold KK; omega
  have ha := a
  obtain ⟨a1, a2, a3, a4⟩ := a
  refine ⟨svOk_keep ha, hR, hG, ⟨ht, by omega, by omega, hT⟩, ⟨h52, h51⟩, fun i hi => ?_⟩
  rw [h2]
  have es : svB (bp m 5 0 0) held 2 = cpF (svG (bp m 5 0 0) held) (bp m 5 0 0 0) (75 * svN held) 75 := (bpr (by decide)).trans sr_eq
  have e0 : bp m 5 0 0 0 = m 0 := bpr (by decide)
  have e2' : bp m 5 0 0 2 = m 2 := bpr (by decide)
  rw [es, e0]
  by_cases h6 : held = 6
  · subst h6
    have eO : kO old 6 = (old + 1) % 6 := if_pos rfl
    have eH : kH 6 = 5 := if_pos rfl
    have eX : kX old 6 = old := by unfold kX; rw [eO, eH]; omega
    have eN : svN 6 = 5 := if_pos rfl
    rw [eO, eN]
    rw [eH] at hi
    by_cases hi5 : i = 5
    · subst hi5
      have eB : kB B old 6 r (((old + 1) % 6 + 5) % 6) = r := by unfold kB; rw [eX, if_pos (by omega)]
      rw [eB]
      refine ⟨Rl_cong b (fun k hk => ?_), c.mono hk⟩
      show cpF _ (m 0) (75 * 5) 75 (75 * 5 + k) = m 0 k
      unfold cpF
      rw [if_pos (by omega), show 75 * 5 + k - 75 * 5 = k by omega]
    · have eB : kB B old 6 r (((old + 1) % 6 + i) % 6) = B ((old + (i + 1)) % 6) := by
        unfold kB
        rw [eX, if_neg (by omega), show ((old + 1) % 6 + i) % 6 = (old + (i + 1)) % 6 by omega]
      rw [eB]
      have hf := f (i + 1) (by omega)
      refine ⟨Rl_cong hf.1 (fun k hk => ?_), hf.2.mono hk⟩
      show cpF (svG (bp m 5 0 0) 6) (m 0) (75 * 5) 75 (75 * i + k) = m 2 (75 * (i + 1) + k)
      unfold cpF
      rw [if_neg (by omega)]
      show shF (bp m 5 0 0) 375 (75 * i + k) = m 2 (75 * (i + 1) + k)
      unfold shF
      rw [if_pos (by omega), e2', show 75 * i + k + 75 = 75 * (i + 1) + k by omega]
  · have eO : kO old held = old := if_neg h6
    have eH : kH held = held := if_neg h6
    have eX : kX old held = (old + held) % 6 := by unfold kX; rw [eO, eH]
    have eN : svN held = held := if_neg h6
    have eG : svG (bp m 5 0 0) held = m 2 := (if_neg h6).trans e2'
    rw [eO, eN, eG]
    rw [eH] at hi
    by_cases hih : i = held
    · subst hih
      have eB : kB B old i r ((old + i) % 6) = r := by unfold kB; rw [eX, if_pos rfl]
      rw [eB]
      refine ⟨Rl_cong b (fun k hk => ?_), c.mono hk⟩
      show cpF _ (m 0) (75 * i) 75 (75 * i + k) = m 0 k
      unfold cpF
      rw [if_pos (by omega), show 75 * i + k - 75 * i = k by omega]
    · have eB : kB B old held r ((old + i) % 6) = B ((old + i) % 6) := by
        unfold kB
        rw [eX, if_neg (by omega)]
      rw [eB]
      have hf := f i (by omega)
      refine ⟨Rl_cong hf.1 (fun k hk => ?_), hf.2.mono hk⟩
      show cpF (m 2) (m 0) (75 * held) 75 (75 * i + k) = m 2 (75 * i + k)
      unfold cpF
      rw [if_neg (by omega)]
