/-! floating point: over the whole library -/
set_option exponentiation.threshold 2000
theorem fq_val {a : UInt64} {E T : Nat} (h1 : 1 ≤ E) (h2 : E ≤ 2046) (hT : T < 2 ^ 52) (h : a.toNat = E * 2 ^ 52 + T) : FP.Core.val64 a = .fin false (2 ^ 52 + T) ((E : Int) - 1075) := by
  have ha : a.toNat = FP.Core.assemble FP.Core.b64 false E T := by
    unfold FP.Core.assemble
    rw [FP.Core.tails_b64, h]
    simp
  have he : FP.Core.b64.exps = 2048 := by decide
  unfold FP.Core.val64
  rw [ha, FP.Core.decode_assemble _ _ _ _ (by rw [he]; omega) (by rw [FP.Core.tails_b64]; exact hT), if_neg (by rw [he]; omega), if_neg (by omega), FP.Core.tails_b64, FP.Core.qmin_b64]
  congr 1
  omega
theorem fq_fin {a : UInt64} {s : Bool} {c : Nat} {q : Int} (h : FP.Core.val64 a = .fin s c q) : FP.Core.val64 a ≠ .nan := by rw [h]; exact fun h => by cases h
theorem fq_two : FP.Core.val64 4611686018427387904 = .fin false (2 ^ 52) (-51) := (fq_val (E := 1024) (T := 0) (by omega) (by omega) (by omega) (by decide)).trans (by rfl)
theorem fq_one : FP.Core.val64 FP.dconst1 = .fin false (2 ^ 52) (-52) := (fq_val (E := 1023) (T := 0) (by omega) (by omega) (by omega) (by decide)).trans (by rfl)
theorem fq_big : FP.Core.val64 4841369599423283200 = .fin false (2 ^ 52) 0 := (fq_val (E := 1075) (T := 0) (by omega) (by omega) (by omega) (by decide)).trans (by rfl)
theorem fq_dbl {a : UInt64} {E T : Nat} (h1 : 1 ≤ E) (h2 : E ≤ 2045) (hT : T < 2 ^ 52) (h : a.toNat = E * 2 ^ 52 + T) : (FP.dmul a 4611686018427387904).toNat = (E + 1) * 2 ^ 52 + T := by
  have hb : (UInt64.ofNat ((E + 1) * 2 ^ 52 + T)).toNat = (E + 1) * 2 ^ 52 + T := by
    rw [UInt64.toNat_ofNat']
    exact Nat.mod_eq_of_lt (by omega)
  have hv := fq_val (a := UInt64.ofNat ((E + 1) * 2 ^ 52 + T)) (E := E + 1) (T := T) (by omega) (by omega) hT hb
  have hd : FP.Core.fits FP.Core.b64 (.fin false (2 ^ 52 + T) (((E + 1 : Nat) : Int) - 1075)) := by rw [← hv]; exact FP.Core.val64_fits _
  have e : FP.dmul a 4611686018427387904 = UInt64.ofNat ((E + 1) * 2 ^ 52 + T) := by
    have hr : FP.Core.val64 (FP.Core.dmul a 4611686018427387904) = .fin false (2 ^ 52 + T) (((E + 1 : Nat) : Int) - 1075) := by
      rw [FP.Core.val64_dmul, fq_val (E := E) (T := T) h1 (by omega) hT h, fq_two]
      show FP.Core.roundRatio FP.Core.b64 _ ((2 ^ 52 + T) * 2 ^ 52) 1 _ = _
      refine FP.Core.roundRatio_exact FP.Core.good_b64 (by decide) hd ?_
      rw [show ((E : Int) - 1075 + -51 - (((E + 1 : Nat) : Int) - 1075)).toNat = 0 by omega, show ((((E + 1 : Nat) : Int) - 1075) - ((E : Int) - 1075 + -51)).toNat = 52 by omega]
      omega
    exact FP.Core.val64_inj (fq_fin hr) (hr.trans hv.symm)
  rw [e, hb]
theorem fq_frac {y : UInt64} {T : Nat} (hT : T < 2 ^ 52) (h : y.toNat = 1023 * 2 ^ 52 + T) : FP.Core.val64 (FP.dsub y FP.dconst1) ≠ .nan ∧ FP.Core.DInt T (FP.dmul (FP.dsub y FP.dconst1) 4841369599423283200) := by
  have hy := fq_val (E := 1023) (T := T) (by omega) (by omega) hT h
  have e1 : FP.Core.sumUnits false (2 ^ 52 + T) (((1023 : Nat) : Int) - 1075) (!false) (2 ^ 52) (-52) (min (((1023 : Nat) : Int) - 1075) (-52)) = (T : Int) := by
    show ((2 ^ 52 + T) * 2 ^ 0 : Nat) + -(((2 ^ 52 * 2 ^ 0 : Nat)) : Int) = (T : Int)
    omega
  have hz : FP.Core.val64 (FP.Core.dsub y FP.dconst1) = FP.Core.round FP.Core.b64 (.fin (FP.Core.sumSign false (!false) (T : Int)) T (-52)) := by
    rw [FP.Core.val64_dsub, hy, fq_one]
    show FP.Core.round FP.Core.b64 (.fin (FP.Core.sumSign false (!false) (FP.Core.sumUnits false (2 ^ 52 + T) (((1023 : Nat) : Int) - 1075) (!false) (2 ^ 52) (-52) (min (((1023 : Nat) : Int) - 1075) (-52)))) (FP.Core.sumUnits false (2 ^ 52 + T) (((1023 : Nat) : Int) - 1075) (!false) (2 ^ 52) (-52) (min (((1023 : Nat) : Int) - 1075) (-52))).natAbs (min (((1023 : Nat) : Int) - 1075) (-52))) = _
    rw [e1]
    rfl
  obtain ⟨c', q', h2, h3⟩ := FP.Core.round_exact FP.Core.good_b64 (FP.Core.sumSign false (!false) (T : Int)) (c := T) (q := -52) (by show T < 2 ^ 53; omega) (by decide) (by decide)
  rw [h2] at hz
  have hfit : FP.Core.fits FP.Core.b64 (.fin (FP.Core.sumSign false (!false) (T : Int)) c' q') := by rw [← hz]; exact FP.Core.val64_fits _
  have hs : T ≠ 0 → FP.Core.sumSign false (!false) (T : Int) = false := by
    intro h0
    unfold FP.Core.sumSign
    rw [if_neg (by omega)]
    exact decide_eq_false (by omega)
  refine ⟨fq_fin hz, ?_⟩
  show FP.Core.Whole T (FP.Core.val64 (FP.Core.dmul (FP.Core.dsub y FP.dconst1) 4841369599423283200))
  rw [FP.Core.val64_dmul, hz, fq_big]
  refine FP.Core.whole_round FP.Core.good_b64 FP.Core.wide_b64 (show (T : Int).natAbs ≤ 2 ^ 53 by omega) ?_
  show FP.Core.signed (FP.Core.sumSign false (!false) (T : Int) != false) (c' * 2 ^ 52 * 2 ^ (q' + 0).toNat) = (T : Int) * ((2 ^ (-(q' + 0)).toNat : Nat) : Int)
  have hq := hfit.2.1
  rw [FP.Core.qmin_b64] at hq
  have h3 : c' * 2 ^ (q' - FP.Core.b64.qmin).toNat = T * 2 ^ ((-52 : Int) - FP.Core.b64.qmin).toNat := h3
  rw [FP.Core.qmin_b64, show ((-52 : Int) - -1074).toNat = 1022 by decide] at h3
  have h4 : c' * 2 ^ 52 * 2 ^ (q' + 0).toNat = T * 2 ^ (-(q' + 0)).toNat := by
    have e9 : (q' - -1074).toNat + (-(q' + 0)).toNat = 1074 + (q' + 0).toNat := by omega
    have p : 0 < 2 ^ (q' - -1074).toNat := Nat.two_pow_pos _
    refine Nat.eq_of_mul_eq_mul_right (Nat.two_pow_pos 1022) ?_
    calc c' * 2 ^ 52 * 2 ^ (q' + 0).toNat * 2 ^ 1022 = c' * 2 ^ (1074 + (q' + 0).toNat) := by
          rw [show (1074 + (q' + 0).toNat) = 52 + ((q' + 0).toNat + 1022) by omega, Nat.pow_add, Nat.pow_add]; ac_rfl
      _ = c' * 2 ^ (q' - -1074).toNat * 2 ^ (-(q' + 0)).toNat := by rw [← e9, Nat.pow_add, Nat.mul_assoc]
      _ = T * 2 ^ (-(q' + 0)).toNat * 2 ^ 1022 := by rw [h3]; ac_rfl
  rw [h4]
  by_cases h0 : T = 0
  · subst h0
    unfold FP.Core.signed
    simp
  · rw [hs h0]
    unfold FP.Core.signed
    simp
theorem fq_zmag {i : Int} {a : UInt64} (h : FP.Core.DInt i a) (hi : 0 < i) : ∃ c q, FP.Core.val64 a = .fin false c q ∧ (FP.Core.zmag FP.Core.b64 (.fin false c q) : Int) = i * (FP.Core.one64 : Int) := by
  have h1 := FP.Core.DInt_zval h
  have p := FP.Core.one64_pos
  have hpos : 0 < i * (FP.Core.one64 : Int) := Int.mul_pos hi (by omega)
  have hW : FP.Core.Whole i (FP.Core.val64 a) := h
  cases hv : FP.Core.val64 a with
  | nan => rw [hv] at hW; exact hW.elim
  | inf s => rw [hv] at hW; exact hW.elim
  | fin s c q =>
    rw [hv] at h1
    have h2 : FP.Core.signed s (FP.Core.zmag FP.Core.b64 (.fin s c q)) = i * (FP.Core.one64 : Int) := h1
    cases s with
    | false => exact ⟨c, q, rfl, h2⟩
    | true =>
      exfalso
      have h3 : -((FP.Core.zmag FP.Core.b64 (.fin true c q) : Nat) : Int) = i * (FP.Core.one64 : Int) := h2
      omega
theorem fq_ratio {d n : Int32} (hd : 0 < d.toInt) (hn : d.toInt ≤ n.toInt) : ∃ E T : Nat, 992 ≤ E ∧ E ≤ 1023 ∧ T < 2 ^ 52 ∧ (FP.ddiv (FP.i2d d) (FP.i2d n)).toNat = E * 2 ^ 52 + T := by
  obtain ⟨c, q, e1, z1⟩ := fq_zmag (FP.Core.i2d_int d) hd
  obtain ⟨c2, r, e2, z2⟩ := fq_zmag (FP.Core.i2d_int n) (by omega)
  have hn31 := n.toInt_lt
  have f1 : FP.Core.fits FP.Core.b64 (.fin false c q) := by rw [← e1]; exact FP.Core.val64_fits _
  have f2 : FP.Core.fits FP.Core.b64 (.fin false c2 r) := by rw [← e2]; exact FP.Core.val64_fits _
  have p := FP.Core.one64_pos
  have hc2 : 0 < c2 := by
    rcases Nat.eq_zero_or_pos c2 with h0 | h0
    · exfalso
      have h9 : FP.Core.zmag FP.Core.b64 (.fin false c2 r) = 0 := by rw [h0]; exact Nat.zero_mul _
      rw [h9] at z2
      have : 0 < n.toInt * (FP.Core.one64 : Int) := Int.mul_pos (by omega) (by omega)
      omega
    · exact h0
  have hv : FP.Core.val64 (FP.Core.ddiv (FP.Core.i2d d) (FP.Core.i2d n)) = FP.Core.roundRatio FP.Core.b64 false c c2 (q - r) := by
    rw [FP.Core.val64_ddiv, e1, e2]
    show (if c2 = 0 then _ else _) = _
    rw [if_neg (by omega)]
    rfl
  have hq1 := f1.2.1
  have hq2 := f2.2.1
  rw [FP.Core.qmin_b64] at hq1 hq2
  have a1 : FP.Core.inUnits c (q - r) (2 * FP.Core.b64.qmin - r) = FP.Core.zmag FP.Core.b64 (.fin false c q) * FP.Core.one64 := by
    rw [← FP.Core.pow_qmin64]
    show c * _ = c * _ * _
    rw [Nat.mul_assoc, ← Nat.pow_add]
    congr 2
    rw [FP.Core.qmin_b64]
    omega
  have a2 : 2 ^ (FP.Core.b64.qmin - (2 * FP.Core.b64.qmin - r)).toNat * c2 = FP.Core.zmag FP.Core.b64 (.fin false c2 r) := by
    show _ = c2 * _
    rw [Nat.mul_comm]
    congr 2
    rw [FP.Core.qmin_b64]
    omega
  obtain ⟨dn, hdn⟩ := Int.eq_ofNat_of_zero_le (show 0 ≤ d.toInt by omega)
  obtain ⟨nn, hnn⟩ := Int.eq_ofNat_of_zero_le (show 0 ≤ n.toInt by omega)
  have y1 : FP.Core.zmag FP.Core.b64 (.fin false c q) = dn * FP.Core.one64 := by rw [hdn] at z1; exact_mod_cast z1
  have y2 : FP.Core.zmag FP.Core.b64 (.fin false c2 r) = nn * FP.Core.one64 := by rw [hnn] at z2; exact_mod_cast z2
  have hne : FP.Core.val64 (FP.Core.ddiv (FP.Core.i2d d) (FP.Core.i2d n)) ≠ .nan := by rw [hv]; exact FP.Core.roundRatio_ne_nan _ _ _ _ _
  have one_v : FP.Core.zmag FP.Core.b64 (.fin false (2 ^ 52) (-52)) = FP.Core.one64 := by decide +kernel
  have low_v : FP.Core.zmag FP.Core.b64 (.fin false (2 ^ 52) (-83)) * 2 ^ 31 = FP.Core.one64 := by decide +kernel
  have up := FP.Core.zmag_roundRatio_le (f := FP.Core.b64) (s := false) (A := c) (B := c2) (e := q - r) (e0 := 2 * FP.Core.b64.qmin - r) (V := .fin false (2 ^ 52) (-52)) FP.Core.good_b64 hc2 (by rw [← fq_one]; exact FP.Core.val64_fits _) (fun h => by cases h) (by rw [FP.Core.qmin_b64]; omega) (by rw [FP.Core.qmin_b64]; omega) (by
    rw [a1, Nat.mul_assoc, a2, one_v, y1, y2, Nat.mul_comm (FP.Core.one64) (nn * FP.Core.one64)]
    exact Nat.mul_le_mul_right _ (Nat.mul_le_mul_right _ (by omega)))
  have low_f : FP.Core.fits FP.Core.b64 (.fin false (2 ^ 52) (-83)) := by
    refine ⟨by decide, by decide, by decide, Or.inr (by decide)⟩
  have lo := FP.Core.zmag_roundRatio_ge (f := FP.Core.b64) (s := false) (A := c) (B := c2) (e := q - r) (e0 := 2 * FP.Core.b64.qmin - r) (V := .fin false (2 ^ 52) (-83)) FP.Core.good_b64 hc2 low_f (by rw [FP.Core.qmin_b64]; omega) (by rw [FP.Core.qmin_b64]; omega) (by
    rw [a1, Nat.mul_assoc, a2, y1, y2, ← low_v]
    generalize FP.Core.zmag FP.Core.b64 (.fin false (2 ^ 52) (-83)) = z
    have h5 : nn ≤ dn * 2 ^ 31 := by omega
    calc z * (nn * (z * 2 ^ 31)) = nn * (z * (z * 2 ^ 31)) := by ac_rfl
      _ ≤ dn * 2 ^ 31 * (z * (z * 2 ^ 31)) := Nat.mul_le_mul_right _ h5
      _ = dn * (z * 2 ^ 31) * (z * 2 ^ 31) := by ac_rfl)
  rw [← hv, FP.Core.zmag_bits hne] at up lo
  have u1 : FP.Core.zmag FP.Core.b64 (.fin false (2 ^ 52) (-52)) = FP.Core.unitsOf FP.Core.b64 (1023 * 2 ^ 52) := by decide +kernel
  have u2 : FP.Core.zmag FP.Core.b64 (.fin false (2 ^ 52) (-83)) = FP.Core.unitsOf FP.Core.b64 (992 * 2 ^ 52) := by decide +kernel
  rw [u1] at up
  rw [u2] at lo
  have up := FP.Core.unitsOf_le_iff.mp up
  have lo := FP.Core.unitsOf_le_iff.mp lo
  have hs : (FP.Core.ddiv (FP.Core.i2d d) (FP.Core.i2d n)).toNat < 2 ^ 63 := by
    have h6 := FP.Core.sgn_bits hne
    rw [hv, FP.Core.sgn_roundRatio] at h6
    have h7 := of_decide_eq_false h6.symm
    omega
  obtain ⟨X, hX⟩ : ∃ X, X = (FP.Core.ddiv (FP.Core.i2d d) (FP.Core.i2d n)).toNat := ⟨_, rfl⟩
  show ∃ E T : Nat, 992 ≤ E ∧ E ≤ 1023 ∧ T < 2 ^ 52 ∧ (FP.Core.ddiv (FP.Core.i2d d) (FP.Core.i2d n)).toNat = E * 2 ^ 52 + T
  rw [← hX] at up lo hs ⊢
  exact ⟨X / 2 ^ 52, X % 2 ^ 52, by omega, by omega, by omega, by omega⟩
theorem n64_of {x : UInt64} (h : FP.Core.dIsNaN x = false) : vf_n64 x := by
  unfold vf_n64
  have h1 : ¬ FP.Core.dIsNaN x = true := by rw [h]; decide
  rw [FP.Core.isNaN_bits] at h1
  rw [UInt64.le_iff_toNat_le, UInt64.toNat_and]
  have h2 : (0x7fffffffffffffff : UInt64).toNat = 2 ^ 63 - 1 := by decide
  have h3 : (0x7ff0000000000000 : UInt64).toNat = 9218868437227405312 := by decide
  rw [h2, h3, Nat.and_two_pow_sub_one_eq_mod]
  omega
theorem n64_val {x : UInt64} (h : FP.Core.val64 x ≠ .nan) : vf_n64 x := n64_of ((FP.Core.notNaN_iff x).mpr h)
theorem fq_key {a : UInt64} (h : a.toNat < 2 ^ 63) : FP.Core.dkey a = (a.toNat : Int) := if_neg (by omega)
theorem fq_shift : ∀ E, E < 1024 → 992 ≤ E → ((1023 - Int64.ofNat (1023 - E)) <<< (Int32.toInt64 52 &&& 63)) = Int64.ofNat (E * 2 ^ 52) := by decide +kernel
theorem bs_bits {x0 : UInt64} {E T : Nat} (h1 : 992 ≤ E) (h2 : E ≤ 1023) (hT : T < 2 ^ 52) (h : x0.toNat = E * 2 ^ 52 + T) : BSok x0 := by
  have hb : ∀ j, j ≤ 1023 - E → (UInt64.ofNat ((E + j) * 2 ^ 52 + T)).toNat = (E + j) * 2 ^ 52 + T := by
    intro j hj
    rw [UInt64.toNat_ofNat']
    exact Nat.mod_eq_of_lt (by omega)
  have hx : UInt64.ofNat (E * 2 ^ 52 + T) = x0 := by
    apply UInt64.toNat_inj.mp
    rw [h]
    exact hb 0 (by omega)
  have nn : ∀ {a : UInt64} {E T : Nat}, 1 ≤ E → E ≤ 2046 → T < 2 ^ 52 → a.toNat = E * 2 ^ 52 + T → FP.Core.val64 a ≠ .nan := fun a b c d => fq_fin (fq_val a b c d)
  have d0 : FP.dconst0.toNat = 0 := by decide
  have d1 : FP.dconst1.toNat = 1023 * 2 ^ 52 := by decide
  have n0 : FP.Core.val64 FP.dconst0 ≠ .nan := fq_fin FP.Core.val64_zero
  have n1 : FP.Core.val64 FP.dconst1 ≠ .nan := fq_fin fq_one
  refine Or.inr ⟨?_, 1023 - E, fun j => UInt64.ofNat ((E + j) * 2 ^ 52 + T), by omega, hx, fun j hj => ?_, ?_, ?_, ?_, ?_⟩
  · have e : FP.dcmp x0 FP.dconst0 = some .gt := by
      show FP.Core.dcmp x0 FP.dconst0 = some .gt
      rw [FP.Core.dcmp_key (nn (by omega) (by omega) hT h) n0, fq_key (by omega), fq_key (by omega), d0, h, (FP.Core.compare_gt_iff _ _).mpr (by omega)]
    rw [e]; decide
  · have hj1 := hb j (by omega)
    have e : FP.dcmp (UInt64.ofNat ((E + j) * 2 ^ 52 + T)) FP.dconst1 = some .lt := by
      show FP.Core.dcmp _ FP.dconst1 = some .lt
      rw [FP.Core.dcmp_key (nn (by omega) (by omega) hT hj1) n1, fq_key (by omega), fq_key (by omega), d1, hj1, (FP.Core.compare_lt_iff _ _).mpr (by omega)]
    have hd := fq_dbl (a := UInt64.ofNat ((E + j) * 2 ^ 52 + T)) (E := E + j) (T := T) (by omega) (by omega) hT hj1
    refine ⟨?_, n64_val (nn (by omega) (by omega) hT hd), ?_⟩
    · show ¬ (0 : Int32) ≤ Op.cmpValue (FP.dcmp (UInt64.ofNat ((E + j) * 2 ^ 52 + T)) FP.dconst1) .g
      rw [e]; decide
    · apply UInt64.toNat_inj.mp
      show (UInt64.ofNat ((E + (j + 1)) * 2 ^ 52 + T)).toNat = _
      rw [hb (j + 1) (by omega)]
      exact hd.symm
  · have hk := hb (1023 - E) (by omega)
    show (0 : Int32) ≤ Op.cmpValue (FP.dcmp (UInt64.ofNat ((E + (1023 - E)) * 2 ^ 52 + T)) FP.dconst1) .g
    have h9 := (FP.Core.dcmp_ge (a := UInt64.ofNat ((E + (1023 - E)) * 2 ^ 52 + T)) (b := FP.dconst1))
    have e : FP.Core.dcmp (UInt64.ofNat ((E + (1023 - E)) * 2 ^ 52 + T)) FP.dconst1 = some (compare (((E + (1023 - E)) * 2 ^ 52 + T : Nat) : Int) ((1023 * 2 ^ 52 : Nat) : Int)) := by
      rw [FP.Core.dcmp_key (nn (E := E + (1023 - E)) (by omega) (by omega) hT hk) n1, fq_key (by omega), fq_key (by omega), d1, hk]
    show (0 : Int32) ≤ Op.cmpValue (FP.Core.dcmp (UInt64.ofNat ((E + (1023 - E)) * 2 ^ 52 + T)) FP.dconst1) .g
    rw [e]
    by_cases h0 : T = 0
    · rw [(FP.Core.compare_eq_iff _ _).mpr (by omega)]; decide
    · rw [(FP.Core.compare_gt_iff _ _).mpr (by omega)]; decide
  · have hk := hb (1023 - E) (by omega)
    exact n64_val (fq_frac (y := UInt64.ofNat ((E + (1023 - E)) * 2 ^ 52 + T)) hT (by rw [hk]; omega)).1
  · have hk := hb (1023 - E) (by omega)
    exact n64_val (FP.Core.DInt_ne_nan (fq_frac (y := UInt64.ofNat ((E + (1023 - E)) * 2 ^ 52 + T)) hT (by rw [hk]; omega)).2)
  · have hk := hb (1023 - E) (by omega)
    have hD := (fq_frac (y := UInt64.ofNat ((E + (1023 - E)) * 2 ^ 52 + T)) hT (by rw [hk]; omega)).2
    have ht : (Int64.ofNat T).toInt = (T : Int) := by rw [Int64.toInt_ofNat_of_lt (by omega)]
    rw [← ht] at hD
    have e := FP.Core.d2l_int hD
    show ((1023 - Int64.ofNat (1023 - E)) <<< (Int32.toInt64 52 &&& 63)) + FP.Core.d2l (FP.Core.dmul (FP.Core.dsub (UInt64.ofNat ((E + (1023 - E)) * 2 ^ 52 + T)) FP.dconst1) 4841369599423283200) = x0.toInt64
    rw [e, fq_shift E (by omega) h1, ← Int64.ofNat_add, ← hx]
    rfl
theorem bs_zero : BSok 0 := Or.inl (by decide +kernel)
theorem fq_zero {n : Int32} (hn : 0 < n.toInt) : FP.ddiv (FP.i2d 0) (FP.i2d n) = 0 := by
  obtain ⟨c2, r, e2, z2⟩ := fq_zmag (FP.Core.i2d_int n) hn
  have e1 : FP.Core.val64 (FP.Core.i2d 0) = .fin false 0 FP.Core.b64.qmin := by rw [FP.Core.val64_i2d]; rfl
  have hc2 : ¬ c2 = 0 := by
    intro h0
    have p := FP.Core.one64_pos
    have h9 : FP.Core.zmag FP.Core.b64 (.fin false c2 r) = 0 := by rw [h0]; exact Nat.zero_mul _
    rw [h9] at z2
    have : 0 < n.toInt * (FP.Core.one64 : Int) := Int.mul_pos hn (by omega)
    omega
  have hv : FP.Core.val64 (FP.Core.ddiv (FP.Core.i2d 0) (FP.Core.i2d n)) = .fin false 0 FP.Core.b64.qmin := by
    rw [FP.Core.val64_ddiv, e1, e2]
    show (if c2 = 0 then _ else _) = _
    rw [if_neg hc2]
    rfl
  exact FP.Core.val64_inj (fq_fin hv) (hv.trans FP.Core.val64_zero.symm)
theorem notNaN_i2d (x : Int32) : FP.Core.dIsNaN (FP.i2d x) = false := by
  cases h : FP.Core.dIsNaN (FP.i2d x) with
  | false => rfl
  | true =>
    have h1 := (FP.Core.isNaN_bits _).mp h
    have h2 := (FP.Core.fin_bits (FP.i2d x)).mp (FP.Core.i2d_fin x)
    omega
theorem notNaN_share (x : Int32) {y : Int32} (h : ¬ y = 0) : FP.Core.dIsNaN (FP.ddiv (FP.i2d x) (FP.i2d y)) = false :=
  FP.Core.ddiv_out (notNaN_i2d x) (FP.Core.i2d_fin y) (fun hz => FP.Core.i2d_ne_zero h ((FP.Core.zero_bits2 _).mp hz))
theorem shM_ok (r : rB) : FP.Core.dIsNaN (shM r) = false := by
  unfold shM
  by_cases h : r 0 5 = 0
  · rw [if_pos h]; decide +kernel
  · rw [if_neg h]; exact notNaN_share _ h
theorem cmp_self {x : UInt64} (h : FP.Core.dIsNaN x = false) (op : CmpOp) : Op.cmpValue (FP.dcmp x x) op = 0 := by
  have e : FP.dcmp x x = some .eq := FP.Core.dcmp_refl h
  rw [e]; rfl
theorem FPok_1 : FPok := ⟨fun x y h => n64_of (notNaN_share x h), fun r => cmp_self (shM_ok r) _⟩
theorem BS_1 (r : rB) (K : Int) (h : Gw K r) (hK : K ≤ 2000000000) : BSok (shC r) := by
  have hl := h.le (i := 0) (by omega)
  obtain ⟨h3, h8, h9, h10, hT, hR, -⟩ := h
  have g3 := (S6_ge h3 (i := 0) (by omega)).2
  have g8 := (S6_ge h8 (i := 0) (by omega)).2
  have g9 := (S6_ge h9 (i := 0) (by omega)).2
  have g10 := (S6_ge h10 (i := 0) (by omega)).2
  have es := smI_S6 h10 (by omega)
  unfold shC
  by_cases h0 : r 12 2 = 0
  · rw [if_pos h0]
    exact bs_bits (E := 1023) (T := 0) (by omega) (by omega) (by omega) (by decide)
  · rw [if_neg h0]
    have hn : 0 < (r 12 2).toInt := by
      have : (r 12 2).toInt ≠ 0 := fun e => h0 (Int32.toInt_inj.mp (by rw [e]; decide))
      omega
    by_cases hd : smI (r 10) 6 0 0 = 0
    · rw [hd, fq_zero hn]
      exact bs_zero
    · have hd2 : (smI (r 10) 6 0 0).toInt ≠ 0 := fun e => hd (Int32.toInt_inj.mp (by rw [e]; decide))
      obtain ⟨E, T, e1, e2, e3, e4⟩ := fq_ratio (d := smI (r 10) 6 0 0) (n := r 12 2) (by omega) (by omega)
      exact bs_bits e1 e2 e3 e4
