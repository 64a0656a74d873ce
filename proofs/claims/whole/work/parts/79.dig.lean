/-! the hash, and the start -/
theorem cc_eq {r m : rB} {held : Nat} (h : Rl r (m 0)) (h5 : m 5 1 = nI held) : ∀ (n i : Nat) (v : Int64), i + n ≤ 9 → ccH r (nI held) n i v = cnH m n i v
  | 0, _, _, _ => rfl
  | n + 1, i, v, hi => by
    unfold ccH cnH
    rw [cn_eq h h5 (by omega)]
    exact cc_eq h h5 n (i + 1) _ (by omega)
theorem cs_eq {r m : rB} (h : Rl r (m 0)) : ∀ (n i : Nat) (v : Int64), i + n ≤ 3 → csH r n i v = seH m n i v
  | 0, _, _, _ => rfl
  | n + 1, i, v, hi => by
    unfold csH seH
    rw [h.2.2.2.2.2.2.2.2.2.2.2.1 i (by omega)]
    exact cs_eq h n (i + 1) _ (by omega)
theorem plH_add (m : rB) : ∀ (a b i : Nat) (v : Int64), plH m (a + b) i v = plH m b (i + a) (plH m a i v)
  | 0, b, i, v => by rw [Nat.zero_add]; rfl
  | a + 1, b, i, v => by
    rw [show a + 1 + b = (a + b) + 1 by omega, show i + (a + 1) = (i + 1) + a by omega]
    exact plH_add m a b (i + 1) _
theorem gtH_add (m : rB) : ∀ (a b i : Nat) (v : Int64), gtH m (a + b) i v = gtH m b (i + a) (gtH m a i v)
  | 0, b, i, v => by rw [Nat.zero_add]; rfl
  | a + 1, b, i, v => by
    rw [show a + 1 + b = (a + b) + 1 by omega, show i + (a + 1) = (i + 1) + a by omega]
    exact gtH_add m a b (i + 1) _
theorem cpI_eq {r m : rB} {k : Nat} (h : Rl r (m 0)) (hk : k < 6) : ∀ (n w : Nat) (v : Int64), w + n ≤ 4 → cpI r k n w v = plH m n (4 * k + w) v
  | 0, _, _, _ => rfl
  | n + 1, w, v, hi => by
    unfold cpI plH
    rw [pn_eq (m := m) h hk (by omega), show (4 * k + w) / 4 = k by omega, show (4 * k + w) % 4 = w by omega]
    exact cpI_eq h hk n (w + 1) _ (by omega)
theorem cgI_eq {r m : rB} {k : Nat} (h : Rl r (m 0)) (hc : Cf r) (hk : k < 6) : ∀ (n w : Nat) (v : Int64), w + n ≤ 9 → cgI r k n w v = gtH m n (9 * k + w) v
  | 0, _, _, _ => rfl
  | n + 1, w, v, hi => by
    unfold cgI gtH
    rw [gn_eq (m := m) h hc hk (by omega), show (9 * k + w) / 9 = k by omega, show (9 * k + w) % 9 = w by omega]
    exact cgI_eq h hc hk n (w + 1) _ (by omega)
theorem cpH_eq {r m : rB} (h : Rl r (m 0)) : ∀ (n k : Nat) (v : Int64), k + n ≤ 6 → cpH r n k v = plH m (4 * n) (4 * k) v
  | 0, _, _, _ => rfl
  | n + 1, k, v, hi => by
    unfold cpH
    rw [cpI_eq (m := m) h (by omega) 4 0 v (by omega), cpH_eq h n (k + 1) _ (by omega), show 4 * (n + 1) = 4 + 4 * n by omega, plH_add]
    rfl
theorem cgH_eq {r m : rB} (h : Rl r (m 0)) (hc : Cf r) : ∀ (n k : Nat) (v : Int64), k + n ≤ 6 → cgH r n k v = gtH m (9 * n) (9 * k) v
  | 0, _, _, _ => rfl
  | n + 1, k, v, hi => by
    unfold cgH
    rw [cgI_eq (m := m) h hc (by omega) 9 0 v (by omega), cgH_eq h hc n (k + 1) _ (by omega), show 9 * (n + 1) = 9 + 9 * n by omega, gtH_add]
    rfl
theorem id_eq {r m : rB} (hR : Rl r (m 0)) (hc : Cf r) : ∀ (n i : Nat) (q : rB) (v : Int64), q 0 = m 0 → idL r n i v = (wdL n i q v).2
  | 0, _, _, _, _ => rfl
  | n + 1, i, q, v, hq => by
    unfold idL wdL
    rw [if_eq (m := q) (k := 20) (w := nI i) (by rw [hq]; exact hR) hc]
    exact id_eq hR hc n (i + 1) _ _ ((show asd q 0 = q 0 from sr_ne (by decide)).trans hq)
theorem wdL_0 : ∀ (n i : Nat) (q : rB) (v : Int64), (wdL n i q v).1 0 = q 0
  | 0, _, _, _ => rfl
  | n + 1, i, q, v => (wdL_0 n (i + 1) _ _).trans (sr_ne (by decide))
theorem ct_eq {t m : rB} : ∀ (n i : Nat) (v : Int64), (∀ k, k < i + n → t 0 k = m 3 k) → ctH t n i v = bfH m n i v
  | 0, _, _, _ => rfl
  | n + 1, i, v, h => by
    unfold ctH bfH
    rw [h i (by omega)]
    exact ct_eq n (i + 1) _ (fun k hk => h k (by omega))
theorem dgB_0 {m : rB} : dgB m 0 = m 0 := by
  have e : ∀ q : rB, asd q 0 = q 0 := fun q => sr_ne (by decide)
  unfold dgB dgW
  rw [e, e, boL_0, e, e, wdL_0]
  exact bpr (by decide)
theorem o_digest {j : Nat} {r t : rB} {L n old held : Nat} {B : Nat → rB} {m : rB} (h : Inv j r t L n old held B m) (hj : j < 512) : dgC r t (nI held) L = dgV m L ∧ Inv (j + 1) r t L n old held B (dgB m) := by
  have hle := KK_le (j := j) (L := L) (by omega)
  have hR := h.2.1
  have hG := h.2.2.1
  have hT := h.2.2.2.1.2.2.2
  have h5 := h.2.2.2.2.1.2
  have ea : ∀ q : rB, asd q 0 = q 0 := fun q => sr_ne (by decide)
  have e0 : bp m 5 0 0 0 = m 0 := bpr (by decide)
  have hR0 : Rl r (bp m 5 0 0 0) := by rw [e0]; exact hR
  refine ⟨?_, inv_frame h dgB_0 ((dgB_ne (by decide) (by decide)).trans (bpr (by decide))) ((dgB_ne (by decide) (by decide)).trans (bpr (by decide))) ((congrFun (dgB_ne (by decide) (by decide)) 1).trans (bp_ne (by decide))) ((congrFun (dgB_ne (by decide) (by decide)) 2).trans (bp_ne (by decide)))⟩
  have d1 : dcH r (nI held) = gtH (bp m 5 0 0) 54 0 (plH (bp m 5 0 0) 24 0 (seH m 3 0 (cnH (bp m 5 0 0) 9 0 3067))) := by
    unfold dcH
    rw [cc_eq (m := bp m 5 0 0) hR0 ((bp_ne (by decide)).trans h5) 9 0 _ (by omega), cs_eq (m := m) hR 3 0 _ (by omega), cpH_eq (m := bp m 5 0 0) hR0 6 0 _ (by omega), cgH_eq (m := bp m 5 0 0) hR0 hG.1 6 0 _ (by omega)]
  have d2 : idL r 3 0 (dcH r (nI held)) = (dgW m).2 := by
    rw [d1]
    exact id_eq (m := m) hR hG.1 3 0 _ _ e0
  have w0 : (dgW m).1 0 = m 0 := (wdL_0 3 0 _ _).trans e0
  obtain ⟨W, eW⟩ : ∃ W, W = (dgW m).1 := ⟨_, rfl⟩
  rw [← eW] at w0
  have hW : Rl r (W 0) := by rw [w0]; exact hR
  have hWa : Rl r (asd W 0) := by rw [ea]; exact hW
  have d3 := sfv_eq (r := r) (m := W) (w := 0) (Or.inl rfl) hW hG (by omega)
  have d4 := sfv_eq (r := r) (m := asd W) (w := 1) (Or.inr rfl) hWa hG (by omega)
  have d5 := bc_eq (m := m) hR hG.1 6 0 (sfC r 1 (61 - 1) 1 r).1 (asd (asd W)) (-1) 0 (by omega) (by rw [ea, ea]; exact w0)
  obtain ⟨V, eV⟩ : ∃ V, V = (boL 6 0 (asd (asd W)) (-1) 0).1 := ⟨_, rfl⟩
  have v0 : V 0 = m 0 := by rw [eV, boL_0, ea, ea]; exact w0
  have hV : Rl r (V 0) := by rw [v0]; exact hR
  have d6 := mr_eq (r := r) (m := V) (k := 10) hV hG (by omega) (by omega) 100 r (Nat.le_refl _)
  have d7 := dyv_eq (r := r) (m := asd V) (by rw [ea]; exact hV) hG (by omega)
  have d8 := sh_eq (r := r) (m := dgB m) (by rw [dgB_0]; exact hR)
  unfold dgC dgV dgH
  rw [← eW, ← eV, d2, d3, d4, d5, d6, d7, d8]
  exact ct_eq (m := dgB m) L 0 _ (fun k hk => (hT k (by omega)).trans dgB_3.symm)
