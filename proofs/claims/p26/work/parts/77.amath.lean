/-! what act does, as a function of banks -/
abbrev aG (sv : Int32) : Int32 := lo (sv >>> (4 &&& 31)) 6
def gN (sw : Int32) : Int32 := if (sw >>> (24 &&& 31)) &&& 1 = 0 then 60 else 500
def sV (sw : Int32) : Int32 := if lo sw 3 = 0 then lo (sw >>> (2 &&& 31)) (if (sw >>> (20 &&& 31)) &&& 1 = 0 then 60 else 601) else if lo sw 3 = 1 then lo (sw >>> (2 &&& 31)) 51 else lo (sw >>> (2 &&& 31)) 100
def rN (sw : Int32) : Int32 := if (sw >>> (20 &&& 31)) &&& 1 = 0 then 20 else 100
def mN (sw : Int32) : Int32 := if (sw >>> (21 &&& 31)) &&& 1 = 0 then 6 else 60
def aPl (r : rB) (sv sw : Int32) : rB × Int32 := (bp (bp (bp r 0 (aG sv).toNatClampNeg (lo sw 201)) 1 (aG sv).toNatClampNeg (lo (sw >>> (8 &&& 31)) 10)) 2 (aG sv).toNatClampNeg (lo (sw >>> (12 &&& 31)) 6), r 0 (aG sv).toNatClampNeg)
def aGu (r : rB) (sv sw : Int32) : rB × Int32 := (bp (bp r 4 (aG sv).toNatClampNeg (1 + lo sw (gN sw))) 5 (aG sv).toNatClampNeg (lo (sw >>> (9 &&& 31)) 100), r 4 (aG sv).toNatClampNeg)
def aVa (r : rB) (sv sw : Int32) : rB × Int32 := (bp r 7 (aG sv).toNatClampNeg (lo sw 7 - 1), r 7 (aG sv).toNatClampNeg)
def aCl (r : rB) (sv : Int32) : rB × Int32 := (bp r 6 (aG sv).toNatClampNeg 0, r 6 (aG sv).toNatClampNeg)
def aSe (r : rB) (sw : Int32) : rB × Int32 := (bp r 11 (lo sw 3).toNatClampNeg (sV sw), r 11 (lo sw 3).toNatClampNeg)
def aWk (r : rB) (sw : Int32) : rB × Int32 := (wksC ((1 : Int32) + lo sw 20).toNatClampNeg r, smI (wksC ((1 : Int32) + lo sw 20).toNatClampNeg r 6) 6 0 0)
def aRa (r : rB) (sw : Int32) : rB × Int32 := (minutesC ((1 : Int32) + lo (sw >>> (7 &&& 31)) (mN sw)).toNatClampNeg r (lo sw (rN sw)), smI (minutesC ((1 : Int32) + lo (sw >>> (7 &&& 31)) (mN sw)).toNatClampNeg r (lo sw (rN sw)) 9) 6 0 0 - smI (r 9) 6 0 0)
def acK (r : rB) (sv sw : Int32) (k : Nat) : rB × Int32 := match k with
  | 0 => aPl r sv sw
  | 1 => aPl r sv sw
  | 2 => aGu r sv sw
  | 3 => aGu r sv sw
  | 4 => aVa r sv sw
  | 5 => aVa r sv sw
  | 6 => aCl r sv
  | 7 => aSe r sw
  | 8 => aWk r sw
  | 9 => aWk r sw
  | _ => aRa r sw
def acC (r : rB) (sv sw : Int32) : rB × Int32 := acK r sv sw (sv &&& 15).toNatClampNeg
def bkV (r : rB) (sv sw : Int32) : Prop := lo sw 7 - 1 = aG sv ∨ (¬ lo sw 7 - 1 < 0 ∧ ldV r (aG sv) 6 (lo sw 7 - 1) = aG sv)
def blk (r : rB) (sv sw : Int32) : Prop := ((sv &&& 15).toNatClampNeg = 4 ∨ (sv &&& 15).toNatClampNeg = 5) ∧ bkV r sv sw
theorem acC_k {r : rB} {sv sw : Int32} {k : Nat} (h : sv &&& 15 = nI k) (hk : k < 16) : acC r sv sw = acK r sv sw k := by
  unfold acC; rw [h, nI_clamp (show k < 2 ^ 31 by omega)]
theorem blk_k {r : rB} {sv sw : Int32} {k : Nat} (h : sv &&& 15 = nI k) (hk : k < 16) : blk r sv sw ↔ (k = 4 ∨ k = 5) ∧ bkV r sv sw := by
  unfold blk; rw [h, nI_clamp (show k < 2 ^ 31 by omega)]
theorem nI_zW {j a b : Nat} {x y : Int32} (h1 : x = nI a) (h2 : y = nI b) (ha : a ≤ j) (hb : j ≤ b) (hb2 : b < 2 ^ 31) : ¬ zW (nI j) x y = 0 := by
  subst h1; subst h2
  refine zW_ok (fun h => ?_) (fun h => ?_)
  · rw [Int32.lt_iff_toInt_lt, nI_toInt (by omega), nI_toInt (by omega)] at h; omega
  · rw [Int32.lt_iff_toInt_lt, nI_toInt (by omega), nI_toInt (by omega)] at h; omega
theorem aG_nI (sv : Int32) : ∃ g, g < 6 ∧ aG sv = nI g := lo_nI (sv >>> (4 &&& 31)) (n := 6) (by decide) (by decide)
theorem lo201 (v : Int32) : ∃ j, j < 201 ∧ lo v 201 = nI j := lo_nI v (n := 201) (by decide) (by decide)
theorem lo10 (v : Int32) : ∃ j, j < 10 ∧ lo v 10 = nI j := lo_nI v (n := 10) (by decide) (by decide)
theorem lo6 (v : Int32) : ∃ j, j < 6 ∧ lo v 6 = nI j := lo_nI v (n := 6) (by decide) (by decide)
theorem lo3 (v : Int32) : ∃ j, j < 3 ∧ lo v 3 = nI j := lo_nI v (n := 3) (by decide) (by decide)
theorem lo7 (v : Int32) : ∃ j, j < 7 ∧ lo v 7 = nI j := lo_nI v (n := 7) (by decide) (by decide)
theorem lo20 (v : Int32) : ∃ j, j < 20 ∧ lo v 20 = nI j := lo_nI v (n := 20) (by decide) (by decide)
theorem lo51 (v : Int32) : ∃ j, j < 51 ∧ lo v 51 = nI j := lo_nI v (n := 51) (by decide) (by decide)
theorem lo60 (v : Int32) : ∃ j, j < 60 ∧ lo v 60 = nI j := lo_nI v (n := 60) (by decide) (by decide)
theorem lo100 (v : Int32) : ∃ j, j < 100 ∧ lo v 100 = nI j := lo_nI v (n := 100) (by decide) (by decide)
theorem lo_gN (v sw : Int32) : ∃ j, j < 500 ∧ lo v (gN sw) = nI j := by
  unfold gN
  split
  · obtain ⟨j, hj, e⟩ := lo60 v; exact ⟨j, by omega, e⟩
  · exact lo_nI v (n := 500) (by decide) (by decide)
theorem lo_rN (v sw : Int32) : ∃ j, j < 100 ∧ lo v (rN sw) = nI j := by
  unfold rN
  split
  · obtain ⟨j, hj, e⟩ := lo20 v; exact ⟨j, by omega, e⟩
  · exact lo100 v
theorem lo_mN (v sw : Int32) : ∃ j, j < 60 ∧ lo v (mN sw) = nI j := by
  unfold mN
  split
  · obtain ⟨j, hj, e⟩ := lo6 v; exact ⟨j, by omega, e⟩
  · exact lo60 v
theorem gN_ne (sw : Int32) : ¬ gN sw = 0 := by unfold gN; split <;> decide
theorem rN_ne (sw : Int32) : ¬ rN sw = 0 := by unfold rN; split <;> decide
theorem mN_ne (sw : Int32) : ¬ mN sw = 0 := by unfold mN; split <;> decide
theorem one_add {j : Nat} {v : Int32} (h : v = nI j) : 1 + v = nI (1 + j) := by rw [h]; exact nI_add 1 j
theorem cpla0 (sv sw : Int32) : cPla (aG sv) (lo sw 201) (lo (sw >>> (8 &&& 31)) 10) (lo (sw >>> (12 &&& 31)) 6) = 0 := by
  obtain ⟨g, hg, eg⟩ := aG_nI sv
  obtain ⟨j, hj, ej⟩ := lo201 sw
  obtain ⟨k, hk, ek⟩ := lo10 (sw >>> (8 &&& 31))
  obtain ⟨n, hn, en⟩ := lo6 (sw >>> (12 &&& 31))
  unfold cPla
  rw [eg, ej, ek, en, if_neg (zL_nI hg), if_neg (zL_nI hn), if_neg (nI_zW (x := 0) (y := 200) (a := 0) (b := 200) rfl rfl (by omega) (by omega) (by decide)), if_neg (nI_zW (x := 0) (y := 9) (a := 0) (b := 9) rfl rfl (by omega) (by omega) (by decide))]
theorem cgut0 (sv sw : Int32) : cGut (aG sv) (1 + lo sw (gN sw)) (lo (sw >>> (9 &&& 31)) 100) = 0 := by
  obtain ⟨g, hg, eg⟩ := aG_nI sv
  obtain ⟨j, hj, ej⟩ := lo_gN sw sw
  obtain ⟨k, hk, ek⟩ := lo100 (sw >>> (9 &&& 31))
  unfold cGut
  rw [eg, one_add ej, ek, if_neg (zL_nI hg), if_neg (nI_zW (x := 1) (y := 500) (a := 1) (b := 500) rfl rfl (by omega) (by omega) (by decide)), if_neg (nI_zW (x := 0) (y := 99) (a := 0) (b := 99) rfl rfl (by omega) (by omega) (by decide))]
theorem ccle0 (sv : Int32) : cCle (aG sv) = 0 := by
  obtain ⟨g, hg, eg⟩ := aG_nI sv
  unfold cCle
  rw [eg, if_neg (zL_nI hg)]
def mxS (i : Nat) : Nat := match i with
  | 0 => 600
  | 1 => 50
  | _ => 99
theorem sV_in (sw : Int32) : ∃ i j, i < 3 ∧ lo sw 3 = nI i ∧ sV sw = nI j ∧ j ≤ mxS i := by
  obtain ⟨i, hi, ei⟩ := lo3 sw
  unfold sV
  rcases (show i = 0 ∨ i = 1 ∨ i = 2 by omega) with rfl | rfl | rfl
  · rw [if_pos (show lo sw 3 = 0 from ei)]
    split
    · obtain ⟨j, hj, ej⟩ := lo60 (sw >>> (2 &&& 31)); exact ⟨0, j, by decide, ei, ej, by show j ≤ 600; omega⟩
    · obtain ⟨j, hj, ej⟩ := lo_nI (sw >>> (2 &&& 31)) (n := 601) (by decide) (by decide); exact ⟨0, j, by decide, ei, ej, by show j ≤ 600; omega⟩
  · rw [if_neg (show ¬ lo sw 3 = 0 by rw [ei]; decide), if_pos (show lo sw 3 = 1 from ei)]
    obtain ⟨j, hj, ej⟩ := lo51 (sw >>> (2 &&& 31)); exact ⟨1, j, by decide, ei, ej, by show j ≤ 50; omega⟩
  · rw [if_neg (show ¬ lo sw 3 = 0 by rw [ei]; decide), if_neg (show ¬ lo sw 3 = 1 by rw [ei]; decide)]
    obtain ⟨j, hj, ej⟩ := lo100 (sw >>> (2 &&& 31)); exact ⟨2, j, by decide, ei, ej, by show j ≤ 99; omega⟩
theorem cset0 (sw : Int32) : cSet (lo sw 3) (sV sw) = 0 := by
  obtain ⟨i, j, hi, ei, ej, hj⟩ := sV_in sw
  unfold cSet
  rw [ei, ej, nI_clamp (show i < 2 ^ 31 by omega), if_neg (zL_ok (N := 3) (n := 3) rfl (by decide) hi)]
  rcases (show i = 0 ∨ i = 1 ∨ i = 2 by omega) with rfl | rfl | rfl
  · exact if_neg (nI_zW (x := 0) (y := 600) (a := 0) (b := 600) rfl rfl (by omega) hj (by decide))
  · exact if_neg (nI_zW (x := 0) (y := 50) (a := 0) (b := 50) rfl rfl (by omega) hj (by decide))
  · exact if_neg (nI_zW (x := 0) (y := 99) (a := 0) (b := 99) rfl rfl (by omega) hj (by decide))
theorem cwks0 (sw : Int32) : cWks ((1 : Int32) + lo sw 20) = 0 := by
  obtain ⟨j, hj, ej⟩ := lo20 sw
  unfold cWks
  rw [one_add ej, if_neg (nI_zW (x := 1) (y := 52) (a := 1) (b := 52) rfl rfl (by omega) (by omega) (by decide))]
theorem crai0 (sw : Int32) : cRai (lo sw (rN sw)) ((1 : Int32) + lo (sw >>> (7 &&& 31)) (mN sw)) = 0 := by
  obtain ⟨j, hj, ej⟩ := lo_rN sw sw
  obtain ⟨k, hk, ek⟩ := lo_mN (sw >>> (7 &&& 31)) sw
  unfold cRai
  rw [ej, one_add ek, if_neg (nI_zW (x := 0) (y := 99) (a := 0) (b := 99) rfl rfl (by omega) (by omega) (by decide)), if_neg (nI_zW (x := 1) (y := 60) (a := 1) (b := 60) rfl rfl (by omega) (by omega) (by decide))]
theorem vto_g (sw : Int32) : vg (lo sw 7 - 1) := by
  obtain ⟨j, hj, ej⟩ := lo7 sw
  rw [ej]
  cases j with
  | zero => exact Or.inl (by decide)
  | succ k => exact Or.inr ⟨k, by omega, pk_sub (a := k + 1) (b := 1) (by omega)⟩
theorem led_v {r : rB} {g : Nat} (hg : g < 6) (hc : Cf r) : ∀ (n : Nat) (a : Int32), vg a → vE r n a → (if ldV r (nI g) n a = nI g then (1 : Int32) else 0) = vlead r (nI g) n a
  | 0, a, _, he => by
    show (if a = nI g then (1 : Int32) else 0) = 0
    rw [show a = -1 from he, if_neg (fun e => nI_nm1 (show g < 2 ^ 31 by omega) e.symm)]
  | n + 1, a, ha, he => by
    rcases ha with e | ⟨i, hi, e⟩
    · subst e
      rw [show ldV r (nI g) (n + 1) (-1) = -1 from if_pos (by decide), if_neg (fun e => nI_nm1 (show g < 2 ^ 31 by omega) e.symm)]
      unfold vlead
      rw [if_pos zL_m1]
    · have h1 : ¬ a = -1 := by rw [e]; exact nI_nm1 (by omega)
      rcases he with he | he
      · exact absurd he h1
      · have hz : ¬ zL a 6 = 0 := by rw [e]; exact zL_nI hi
        have h0 : ¬ a < 0 := by rw [e]; exact nI_pos (by omega)
        by_cases hag : a = nI g
        · have e2 : ldV r (nI g) (n + 1) a = a := by
            show (if a < 0 then a else if a = nI g then a else _) = a
            rw [if_neg h0, if_pos hag]
          unfold vlead
          rw [e2, if_neg hz, if_pos hag, if_pos hag]
        · subst e
          rw [nI_clamp (show i < 2 ^ 31 by omega)] at he
          rw [ldV_s hi h0 hag]
          unfold vlead
          rw [if_neg hz, if_neg hag, nI_clamp (show i < 2 ^ 31 by omega)]
          exact led_v hg hc n _ (hc.v hi) he
theorem vE_of {r : rB} (hy : Vy r) {a : Int32} (h : vg a) : vE r 6 a := by
  rcases h with e | ⟨k, hk, e⟩
  · rw [e]; exact vE_m1 6
  · rw [e]; exact hy k hk
theorem vl0 {r : rB} {sv sw : Int32} (hc : Cf r) (hy : Vy r) (h : ¬ bkV r sv sw) : vlead r (aG sv) 6 (lo sw 7 - 1) = 0 := by
  obtain ⟨g, hg, eg⟩ := aG_nI sv
  have hv := vto_g sw
  have e := led_v hg hc 6 _ hv (vE_of hy hv)
  rw [← eg] at e
  rw [← e]
  rcases hv with e1 | ⟨k, hk, e1⟩
  · rw [e1, show ldV r (aG sv) 6 (-1) = -1 from if_pos (by decide), if_neg (fun e => nI_nm1 (show g < 2 ^ 31 by omega) (eg.symm.trans e.symm))]
  · exact if_neg (fun e2 => h (Or.inr ⟨by rw [e1]; exact nI_pos (by omega), e2⟩))
theorem cval0 {r : rB} {sv sw : Int32} (hc : Cf r) (hy : Vy r) (h : ¬ bkV r sv sw) : cVal r (aG sv) (lo sw 7 - 1) = 0 := by
  have h0 := vl0 hc hy h
  obtain ⟨g, hg, eg⟩ := aG_nI sv
  have hne : ¬ aG sv = lo sw 7 - 1 := fun e => h (Or.inl e.symm)
  unfold cVal
  rw [if_neg (show ¬ zL (aG sv) 6 = 0 by rw [eg]; exact zL_nI hg)]
  rcases vto_g sw with e1 | ⟨k, hk, e1⟩
  · rw [if_pos e1, if_neg hne, if_pos h0]
  · rw [if_neg (show ¬ lo sw 7 - 1 = -1 by rw [e1]; exact nI_nm1 (by omega)), if_neg (show ¬ zL (lo sw 7 - 1) 6 = 0 by rw [e1]; exact zL_nI hk), if_neg hne, if_pos h0]
