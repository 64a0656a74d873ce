/-! texts, and looks -/
theorem inv_text {j : Nat} {r t : rB} {L n old held : Nat} {B : Nat → rB} {m m1 t1 : rB} {L1 : Nat} (h : Inv j r t L n old held B m) (h0 : m1 0 = m 0) (h2 : m1 2 = m 2) (h51 : m1 5 1 = m 5 1) (h52 : m1 5 2 = nI L1) (hL : L1 ≤ L + 1) (hL60 : L1 ≤ 60) (ht : t1 1 0 = nI L1) (hT : TX t1 m1 L1) : Inv (j + 1) r t1 L1 n old held B m1 := by
  obtain ⟨a, b, c, ⟨d1, d2, d3, d4⟩, ⟨e1, e2⟩, f⟩ := h
  have hk : KK j L ≤ KK (j + 1) L1 := by unfold KK; omega
  refine ⟨a, by rw [h0]; exact b, c.mono hk, ⟨ht, hL60, by omega, hT⟩, ⟨h52, h51.trans e2⟩, fun i hi => ?_⟩
  rw [h2]
  exact ⟨(f i hi).1, (f i hi).2.mono hk⟩
theorem full_eq {t : rB} {L : Nat} (hL : t 1 0 = nI L) (h60 : L ≤ 60) : fullC t = if L = 60 then 1 else 0 := by
  unfold fullC
  rw [hL]
  by_cases h : L = 60
  · subst h; decide
  · rw [if_neg h, if_pos (show nI L < 60 by rw [Int32.lt_iff_toInt_lt, nI_toInt (by omega), show (60 : Int32).toInt = 60 by decide]; omega)]
theorem o_append {j : Nat} {r t : rB} {L n old held : Nat} {B : Nat → rB} {m : rB} (h : Inv j r t L n old held B m) (x : Int32) :
    (¬ cApp t x = 0 → appB m L x 5 0 = nI (cApp t x - 1) ∧ Inv (j + 1) r t L n old held B (appB m L x)) ∧
    (cApp t x = 0 → appV m L x = nI (L + 1) ∧ appB m L x 5 0 = 0 ∧ Inv (j + 1) r (bp (bp t 0 L x) 1 0 (nI (L + 1))) (L + 1) n old held B (appB m L x)) := by
  obtain ⟨hL, h60, -, hT⟩ := h.2.2.2.1
  unfold cApp appV appB
  by_cases c1 : zW x 33 126 = 0
  · rw [if_pos c1, if_pos c1, if_pos c1]
    exact ⟨fun _ => fail_inv h, fun e => absurd e (by decide)⟩
  · rw [if_neg c1, if_neg c1, if_neg c1, full_eq hL h60]
    by_cases c2 : L = 60
    · rw [if_pos c2, if_pos c2, if_pos c2, if_neg (by decide)]
      exact ⟨fun _ => fail_inv h, fun e => absurd e (by decide)⟩
    · rw [if_neg c2, if_neg c2, if_neg c2, if_pos rfl]
      refine ⟨fun e => absurd rfl e, fun _ => ⟨rfl, (bp_ne (by decide)).trans ((bp_rw (by decide)).trans bp_eq), ?_⟩⟩
      refine inv_text h ((bpr (by decide)).trans ((bpr (by decide)).trans (bpr (by decide)))) ((bpr (by decide)).trans ((bpr (by decide)).trans (bpr (by decide)))) ((bp_ne (by decide)).trans ((bp_rw (by decide)).trans (bp_ne (by decide)))) bp_eq (Nat.le_refl _) (by omega) bp_eq (fun i hi => ?_)
      rw [bpr (show 0 ≠ 1 by decide), bpk, bpr (show 3 ≠ 5 by decide), bpk, bpr (show 3 ≠ 5 by decide)]
      by_cases e : i = L
      · subst e; rw [upd_eq, upd_eq]
      · rw [upd_ne e, upd_ne e]; exact hT i (by omega)
theorem o_clear {j : Nat} {r t : rB} {L n old held : Nat} {B : Nat → rB} {m : rB} (h : Inv j r t L n old held B m) : t 1 0 = m 5 2 ∧ Inv (j + 1) r (bp t 1 0 0) 0 n old held B (bp (bp m 5 0 0) 5 2 0) := by
  obtain ⟨hL, h60, -, hT⟩ := h.2.2.2.1
  refine ⟨hL.trans h.2.2.2.2.1.1.symm, ?_⟩
  exact inv_text h ((bpr (by decide)).trans (bpr (by decide))) ((bpr (by decide)).trans (bpr (by decide))) ((bp_ne (by decide)).trans (bp_ne (by decide))) bp_eq (Nat.zero_le _) (by omega) bp_eq (fun i hi => absurd hi (by omega))
theorem o_first {j : Nat} {r t : rB} {L n old held : Nat} {B : Nat → rB} {m : rB} (h : Inv j r t L n old held B m) : fwL t L 0 1 = raB (bp m 5 0 0) L 5 3 ∧ Inv (j + 1) r t L n old held B (raB (bp m 5 0 0) L) := by
  obtain ⟨hL, h60, -, hT⟩ := h.2.2.2.1
  have hT' : TX t (bp m 5 0 0) L := fun i hi => by rw [bpr (show 3 ≠ 5 by decide)]; exact hT i hi
  obtain ⟨_, _, -, -, -, -, -, hRd⟩ := raB_ex (r := bp m 5 0 0) h60
  refine ⟨(first_eq h60 hT').symm, inv_frame h ((hRd.1 0 (by decide) (by decide)).trans (bpr (by decide))) ((hRd.1 2 (by decide) (by decide)).trans (bpr (by decide))) ((hRd.1 3 (by decide) (by decide)).trans (bpr (by decide))) (hRd.2.2.1.trans (bp_ne (by decide))) (hRd.2.2.2.trans (bp_ne (by decide)))⟩
theorem wkL_7 : ∀ (n i : Nat) (s : rB), wkL n i s 0 7 = s 0 7
  | 0, _, _ => rfl
  | n + 1, i, s => (wkL_7 n (i + 1) _).trans (bp_ne (by omega))
theorem weekM_7 {s : rB} : weekM s 0 7 = s 0 7 := (bp_ne (by decide)).trans (wkL_7 6 0 s)
theorem dg_len {b : Nat → Int32} {A p x : Nat} (h : dgT b A p x) : A < p := by
  rcases h with ⟨h, -⟩ | ⟨h, -⟩ <;> omega
/-- the parts, one after the other, on the class's roof and on the model's row -/
theorem ply_rel {q : rB} {b : Nat → Int32} {L : Nat} : ∀ (n P A : Nat) (r s : rB) (v : Int32) (K : Int), PL q b L n P A → s 4 = q 4 → Rl r (s 0) → Gd K r → A ≤ L → K + 237600 * ((L : Int) - A) ≤ 2000000000 →
    Rl (EFs q n P r) ((plyL n P s v).1 0) ∧ Gd (K + 237600 * ((L : Int) - A)) (EFs q n P r) ∧ (plyL n P s v).2 = v + ((plyL n P s v).1 0 7 - s 0 7) ∧ ∀ a, a ≠ 0 → (plyL n P s v).1 a = s a
  | 0, _, _, _, _, _, _, h, _, _, _, _, _ => h.elim
  | n + 1, P, A, r, s, v, K, h, hs, hR, hG, hA, hK => by
    obtain ⟨B, hpt, h⟩ := h
    have hBL : B ≤ L := by rcases h with ⟨-, h2⟩ | ⟨-, h2, -, -⟩ <;> omega
    -- the part itself
    have hstep : ∃ s1 v1, plyL (n + 1) P s v = plyL n (P + 1) s1 v1 ∧ s1 4 = s 4 ∧ (∀ a, a ≠ 0 → s1 a = s a) ∧ Rl (EF q P r) (s1 0) ∧ A < B ∧ Gd (K + 237600 * ((B : Int) - A)) (EF q P r) ∧ v1 = v + (s1 0 7 - s 0 7) := by
      rcases hpt with ⟨h1, h2, h3⟩ | ⟨g, hg, h1, h2, h3, h4, h5⟩ | ⟨x, y, p, hx, hy1, hy2, h1, h2, h3, h4, h5⟩
      · refine ⟨weekM s, v, ?_, Sm_week 4 (by decide), fun a ha => Sm_week a ha, ?_, by omega, ?_, ?_⟩
        · show (if s 4 (2 * P) = -1 then plyL n (P + 1) (weekM s) v else _) = _
          rw [hs, if_pos h1]
        · unfold EF; rw [if_pos h1]; exact Rl_week hR
        · unfold EF; rw [if_pos h1]; exact (Gd_week hG).mono (by omega)
        · rw [weekM_7]; simp
      · have hn1 : ¬ q 4 (2 * P) = -1 := by rw [h1]; decide
        have eE : EF q P r = bp r 6 g 0 := by
          unfold EF clnC
          rw [if_neg hn1, if_pos h1, h2, if_neg (zL_nI hg), nI_clamp (show g < 2 ^ 31 by omega)]
        refine ⟨bp s 0 (33 + 7 * g + 2) 0, v, ?_, bpr (by decide), fun a ha => bpr ha, ?_, by omega, ?_, ?_⟩
        · show (if s 4 (2 * P) = -1 then _ else if s 4 (2 * P) = -2 then plyL n (P + 1) (bp s 0 (33 + 7 * (s 4 (2 * P + 1)).toNatClampNeg + 2) 0) v else _) = _
          rw [hs, if_neg hn1, if_pos h1, h2, nI_clamp (show g < 2 ^ 31 by omega)]
        · rw [eE, bpk]
          exact Rl_u hR 6 g _ _ _ hg (Or.inr (Or.inl ⟨by omega, by omega, by omega, rfl, rfl⟩))
        · rw [eE]
          exact (Gd_set hG (Or.inr (Or.inr (Or.inr (Or.inr (Or.inr ⟨rfl, 0, by omega, rfl⟩)))))).mono (by omega)
        · rw [bp_ne (by omega)]; simp
      · have hn1 : ¬ q 4 (2 * P) = -1 := by rw [h1]; exact nI_nm1 (by omega)
        have hn2 : ¬ q 4 (2 * P) = -2 := by rw [h1]; exact nI_nm2 (by omega)
        have eE : EF q P r = minutesC y r (nI x) := by
          unfold EF
          rw [if_neg hn1, if_neg hn2, h1, h2, nI_clamp (show y < 2 ^ 31 by omega)]
        have l1 := dg_len h3
        have l2 := dg_len h5
        refine ⟨minsM y s (nI x), v + (minsM y s (nI x) 0 7 - s 0 7), ?_, Sm_mins y s _ 4 (by decide), fun a ha => Sm_mins y s _ a ha, ?_, by omega, ?_, rfl⟩
        · show (if s 4 (2 * P) = -1 then _ else if s 4 (2 * P) = -2 then _ else plyL n (P + 1) (minsM (s 4 (2 * P + 1)).toNatClampNeg s (s 4 (2 * P))) (v + (minsM (s 4 (2 * P + 1)).toNatClampNeg s (s 4 (2 * P)) 0 7 - s 0 7))) = _
          rw [hs, if_neg hn1, if_neg hn2, h1, h2, nI_clamp (show y < 2 ^ 31 by omega)]
        · rw [eE]; exact Rl_mins y r s hR hG.1
        · rw [eE]
          exact (Gd_mins ⟨x, hx, rfl⟩ hG (by omega)).mono (by omega)
    obtain ⟨s1, v1, e1, e4, ea, hR1, hAB, hG1, ev⟩ := hstep
    rcases h with ⟨h1, h2⟩ | ⟨h1, h2, h3, h4⟩
    · subst h1; subst h2
      rw [e1]
      exact ⟨hR1, hG1, ev, ea⟩
    · obtain ⟨i1, i2, i3, i4⟩ := ply_rel n (P + 1) (B + 1) (EF q P r) s1 v1 (K + 237600 * ((B : Int) - A)) h4 (e4.trans hs) hR1 hG1 (by omega) (by omega)
      rw [e1]
      refine ⟨i1, i2.mono (by omega), ?_, fun a ha => (i4 a ha).trans (ea a ha)⟩
      rw [i3, ev]
      grind
theorem svB_2 {q r : rB} {N : Nat} (h0 : q 0 = r 0) (h2 : q 2 = r 2) : svB q N 2 = svB r N 2 := by
  have e : ∀ z : rB, svB z N 2 = cpF (svG z N) (z 0) (75 * svN N) 75 := fun z => (bpr (by decide)).trans sr_eq
  rw [e, e, h0]
  have eG : svG q N = svG r N := by
    unfold svG shF
    rw [h2]
  rw [eG]
theorem o_play {j : Nat} {r t : rB} {L n old held : Nat} {B : Nat → rB} {m : rB} (h : Inv j r t L n old held B m) (hj : j < 512) :
    (¬ cPly t L = 0 → plyB m held L 5 0 = nI (cPly t L - 1) ∧ Inv (j + 1) r t L n old held B (plyB m held L)) ∧
    (cPly t L = 0 → plyV m held L = smI (playL t L 0 r 42 0 0 9) 6 0 0 - smI (r 9) 6 0 0 ∧ plyB m held L 5 0 = 0 ∧ Inv (j + 1) (playL t L 0 r 42 0 0) (bp t 1 0 0) 0 (kN n old held) (kO old held) (kH held + 1) (kB B old held r) (plyB m held L)) := by
  obtain ⟨hL, h60, hLj, hT⟩ := h.2.2.2.1
  have hT' : TX t (bp m 5 0 0) L := fun i hi => by rw [bpr (show 3 ≠ 5 by decide)]; exact hT i hi
  obtain ⟨_, _, -, -, -, -, -, hRd⟩ := raB_ex (r := bp m 5 0 0) h60
  have hc := compl_eq h60 hT'
  unfold cPly plyB plyV plyP plyS
  by_cases c1 : raB (bp m 5 0 0) L 5 4 = 0
  · rw [if_pos c1, if_pos c1, if_pos (hc.mpr c1)]
    refine ⟨fun _ => ⟨bp_eq, inv_frame h ?_ ?_ ?_ ?_ ?_⟩, fun e => absurd e (by decide)⟩
    · exact (bpr (by decide)).trans ((hRd.1 0 (by decide) (by decide)).trans (bpr (by decide)))
    · exact (bpr (by decide)).trans ((hRd.1 2 (by decide) (by decide)).trans (bpr (by decide)))
    · exact (bpr (by decide)).trans ((hRd.1 3 (by decide) (by decide)).trans (bpr (by decide)))
    · exact (bp_ne (by decide)).trans (hRd.2.2.1.trans (bp_ne (by decide)))
    · exact (bp_ne (by decide)).trans (hRd.2.2.2.trans (bp_ne (by decide)))
  · rw [if_neg c1, if_neg c1, if_neg (fun e => c1 (hc.mp e))]
    refine ⟨fun e => absurd rfl e, fun _ => ?_⟩
    obtain ⟨N, hN, hN64, hPL, hpl⟩ := play_eq h60 hT' c1
    rw [hN, nI_clamp (show N < 2 ^ 31 by omega), hpl r]
    generalize hq : raB (bp m 5 0 0) L = q at *
    have hq0 : q 0 = m 0 := (hRd.1 0 (by decide) (by decide)).trans (bpr (by decide))
    have hs0 : bp (svB q held) 5 2 0 0 = m 0 := (bpr (by decide)).trans ((svB_ne (by decide) (by decide)).trans hq0)
    have hs4 : bp (svB q held) 5 2 0 4 = q 4 := (bpr (by decide)).trans (svB_ne (by decide) (by decide))
    have hle := KK_le (j := j) (L := L) (by omega)
    obtain ⟨i1, i2, i3, i4⟩ := ply_rel N 0 0 r (bp (svB q held) 5 2 0) 0 (KK j L) hPL hs4 (by rw [hs0]; exact h.2.1) h.2.2.1 (Nat.zero_le _) (by omega)
    have h5 := i4 5 (by decide)
    refine ⟨?_, ?_, ?_⟩
    · rw [i3, hs0, i1.2.2.2.2.2.2.2.2.2.2.2.2.2.2.2.2.2, h.2.1.2.2.2.2.2.2.2.2.2.2.2.2.2.2.2.2.2]
      simp
    · rw [h5]
      exact (bp_ne (by decide)).trans ((svB_5 (by decide)).trans (hRd.2.1.trans bp_eq))
    · refine inv_save h ?_ ?_ ?_ i1 (i2.mono ?_) (Nat.zero_le _) bp_eq (fun i hi => absurd hi (by omega))
      · rw [i4 2 (by decide), bpr (show 2 ≠ 5 by decide)]
        exact svB_2 (hq0.trans (bpr (by decide)).symm) (hRd.1 2 (by decide) (by decide))
      · rw [h5]
        exact (bp_ne (by decide)).trans bp_eq
      · rw [h5]; exact bp_eq
      · unfold KK; omega
