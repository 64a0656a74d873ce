set_option maxHeartbeats 4000000 in
set_option maxRecDepth 100000 in
theorem mX1_passWeek (l : Launch) (D : va_G) (cI cQ cJ : ClassId) (a : Nat → Nat) (r : rB)  : Mv l D (tY cI cQ cJ) yX1_passWeek wsX1_passWeek ({ frames := 1, cells := 0, slots := 0, locals := 21 } : Room) [.ref (a 0)] (cR cI a r) (cR cI a (weekC r)) := by
  refine M_of (cc := cX1_passWeek) (maxL := 2) (ret := none) (Qc := fun A => va_Qv (fun (_ : Unit) => True) (fun _ t => Wd D (cR cI a (weekC r)) t) A) (by decide) rfl (Nat.le_of_ble_eq_true rfl) ?_
  intro p e s m below meth c A ls hB hE hP hK hD hA hl
  obtain ⟨hx, hb, hr, hml, hts, hown, hlocks⟩ := hB
  have hS : va_S A s.heap s.heap [] := va_S.rf
  have hl : lv_has ls 2 [(0, .ref (a 0))] := hl
  have hinX1 : ∀ w ∈ u_ws RX1 TX1 16, w ∈ wsX1_passWeek := by decide +kernel
  have fl58 := hts (.fieldLink RX1 58 "RoofDrains$Roof" "weeksPassed" "I") (by decide +kernel)
  have fl30 := hts (.fieldLink RX1 30 "RoofDrains$Roof" "leaves" "[I") (by decide +kernel)
  have fl45 := hts (.fieldLink RX1 45 "RoofDrains$Roof" "values" "[I") (by decide +kernel)
  have mm1 := hts (.methodLink RX1 85 Lib.Math.min.name) (by decide +kernel)
  have mm2 := hts (.static Lib.Math.min.name) (by decide +kernel)
  have mm3 := hts (.initialized "java/lang/Math") (by decide +kernel)
  have mm4 := hts (.code Lib.Math.min.name Lib.Math.min.code 2 (some .int)) (by decide +kernel)
  refine lv_iconst (v := 0) hx hb dX1_passWeek_0 (by decide) ?_
  refine lv_istore_n (lv' := [(1, .int 0), (0, .ref (a 0))]) hx hb dX1_passWeek_1 rfl hl (by decide) rfl (fun ls hl => ?_)
  have Lp2 : ∀ (n i : Nat) (r1 : rB), i + n = 6 → weekL n i r1 = weekL 6 0 r → ∀ (H : Heap) (locs : List Loc), va_P D vwCl (cR cI a r1) H → va_D A (cR cI a r1) → va_S A s.heap H locs → ∀ (ls : Array Slot), lv_has ls 2 [(1, .int (nI i)), (0, .ref (a 0))] → W p l e ({ frames := 1, cells := 0, slots := 0, locals := 21 } : Room) s m ([.ref (a 0)] : List Value).toArray below meth c H locs 0 0 (MQ below (va_Qv (fun (_ : Unit) => True) (fun _ t => Wd D (cR cI a (weekC r)) t) A) ([.ref (a 0)] : List Value).toArray s 0 0 A) (F0 m 2 ls []) := by
    intro n
    induction n with
    | zero =>
      intro i r1 hin hres H locs hP hD hS ls hl
      have h9r1 : r1 = weekL 6 0 r := hres
      refine lv_iload_n hx hb dX1_passWeek_2 rfl (lv_at hl 0 rfl) ?_
      refine lv_bipush (v := 6) hx hb dX1_passWeek_3 (by decide) ?_
      refine lv_icmp_ge (tgt := 38) hx hb dX1_passWeek_5 (by decide) (fun _ => ?_) (fun h9 => absurd (nI_le (a := 6) (b := i) (by omega) (by omega)) h9)
      refine lv_aload_n hx hb dX1_passWeek_38 rfl (lv_at hl 1 rfl) ?_
      refine lv_dup hx hb dX1_passWeek_39 rfl ?_
      refine va_get (D := D) (ci := 1) (v := .int (r1 12 1)) (C := RX1) (T := TX1) (N := 16) hx hb hts hinX1 hown hK hP 0 rfl rfl 13 (by decide) fl58 (fun _ h9 => h9) (congrArg (fun z => some (Value.int z)) (rfl)) dX1_passWeek_40 ?_
      refine lv_iconst (v := 1) hx hb dX1_passWeek_43 (by decide) ?_
      refine lv_iadd hx hb dX1_passWeek_44 ?_
      refine lv_topi (fun f_1 ef_1 => ?_)
      refine k_put (D := D) (ci := 1) (v := .int f_1) (ty := .int) (C := RX1) (T := TX1) (N := 16) hx hb hts hinX1 tyX1 tyX1_ok nmX1 hown hK hP hD hS 0 rfl rfl 13 (by decide) fl58 (fun _ h9 => h9) rfl (by decide +kernel) rfl rfl (Nat.le_of_ble_eq_true rfl) (ws' := cR cI a (bp r1 12 1 f_1)) rfl dX1_passWeek_45 (fun H locs hP hD hS => ?_)
      have e9 : (bp r1 12 1 f_1 : rB) = weekC r := by (replace ef_1 := ef_1.symm; subst ef_1; replace h9r1 := h9r1.symm; subst h9r1; simp only [weekC, ↓reduceIte])
      rw [e9] at hP
      exact k_vret hx hb hr hlocks hS hP dX1_passWeek_48
    | succ n ih =>
      intro i r1 hin hres H locs hP hD hS ls hl
      refine lv_iload_n hx hb dX1_passWeek_2 rfl (lv_at hl 0 rfl) ?_
      refine lv_bipush (v := 6) hx hb dX1_passWeek_3 (by decide) ?_
      refine lv_icmp_ge (tgt := 38) hx hb dX1_passWeek_5 (by decide) (fun h9 => absurd h9 (nI_ge (a := i) (b := 6) (by omega) (by omega))) (fun _ => ?_)
      refine lv_aload_n hx hb dX1_passWeek_8 rfl (lv_at hl 1 rfl) ?_
      refine va_get (D := D) (ci := 1) (v := .ref (a 7)) (C := RX1) (T := TX1) (N := 16) hx hb hts hinX1 hown hK hP 0 rfl rfl 6 (by decide) fl30 (fun _ h9 => h9) rfl dX1_passWeek_9 ?_
      refine lv_iload_n hx hb dX1_passWeek_12 rfl (lv_at hl 0 rfl) ?_
      refine lv_bipush (v := 100) hx hb dX1_passWeek_13 (by decide) ?_
      refine lv_aload_n hx hb dX1_passWeek_15 rfl (lv_at hl 1 rfl) ?_
      refine va_get (D := D) (ci := 1) (v := .ref (a 7)) (C := RX1) (T := TX1) (N := 16) hx hb hts hinX1 hown hK hP 0 rfl rfl 6 (by decide) fl30 (fun _ h9 => h9) rfl dX1_passWeek_16 ?_
      refine lv_iload_n hx hb dX1_passWeek_19 rfl (lv_at hl 0 rfl) ?_
      refine k_iald (k := i) (v := r1 6 i) hx hb hK hP 7 0 rfl rfl (vp_in_nI (n := i) (by omega) (by omega)) (nI_clamp (n := i) (by omega)) (rfl) dX1_passWeek_20 ?_
      refine lv_aload_n hx hb dX1_passWeek_21 rfl (lv_at hl 1 rfl) ?_
      refine va_get (D := D) (ci := 1) (v := .ref (a 12)) (C := RX1) (T := TX1) (N := 16) hx hb hts hinX1 hown hK hP 0 rfl rfl 11 (by decide) fl45 (fun _ h9 => h9) rfl dX1_passWeek_22 ?_
      refine lv_iconst (v := 1) hx hb dX1_passWeek_25 (by decide) ?_
      refine k_iald (k := 1) (v := r1 11 1) hx hb hK hP 12 0 rfl rfl (vp_in_nI (n := 1) (by omega) (by omega)) (nI_clamp (n := 1) (by omega)) (rfl) dX1_passWeek_26 ?_
      refine lv_iadd hx hb dX1_passWeek_27 ?_
      refine va_mmin hx hb (hml.trans hl.1.symm) hown mm1 mm2 mm3 mm4 (Nat.le_of_ble_eq_true rfl) (Nat.le_of_ble_eq_true rfl) (Nat.zero_le _) (Nat.zero_le _) dX1_passWeek_28 ?_
      refine lv_eqi (y := mn 100 ((r1 6 i) + (r1 11 1))) rfl ?_
      refine lv_topi (fun mn_2 emn_2 => ?_)
      refine k_iast (k := i) (ws' := cR cI a (bp r1 6 i mn_2)) hx hb hK hP hD hS 7 0 rfl rfl (vp_in_nI (n := i) (by omega) (by omega)) (nI_clamp (n := i) (by omega)) rfl dX1_passWeek_31 (fun H locs hP hD hS => ?_)
      refine lv_iinc (v := nI (i + 1)) (lv' := [(1, .int (nI (i + 1))), (0, .ref (a 0))]) hx hb dX1_passWeek_32 hl (k := 0) rfl (nI_1 i) (by decide) rfl (fun ls hl => ?_)
      refine lv_goto (tgt := 2) hx hb dX1_passWeek_35 (by decide) ?_
      exact ih (i + 1) (bp r1 6 i mn_2) (by omega) (by replace emn_2 := emn_2.symm; subst emn_2; rw [← hres]; simp only [weekL, ↓reduceIte]) H locs hP hD hS ls (lv_sub hl [0, 1] rfl)
  exact Lp2 6 0 r (by omega) rfl _ _ hP hD hS ls (lv_sub hl [0, 1] rfl)
