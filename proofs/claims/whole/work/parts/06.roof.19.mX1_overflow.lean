set_option maxHeartbeats 4000000 in
set_option maxRecDepth 100000 in
theorem mX1_overflow (l : Launch) (D : va_G) (cI cQ cJ : ClassId) (a : Nat → Nat) (r : rB) (q : Int32) (i : Nat) (hq : vp_in q 6) (hi : q.toNatClampNeg = i) : Mv l D (tY cI cQ cJ) yX1_overflow wsX1_overflow ({ frames := 1, cells := 0, slots := 0, locals := 21 } : Room) [.ref (a 0), .int q] (cR cI a r) (cR cI a (ovf r i)) := by
  refine M_of (cc := cX1_overflow) (maxL := 4) (ret := none) (Qc := fun A => va_Qv (fun (_ : Unit) => True) (fun _ t => Wd D (cR cI a (ovf r i)) t) A) (by decide) rfl (Nat.le_of_ble_eq_true rfl) ?_
  intro p e s m below meth c A ls hB hE hP hK hD hA hl
  obtain ⟨hx, hb, hr, hml, hts, hown, hlocks⟩ := hB
  have hS : va_S A s.heap s.heap [] := va_S.rf
  have hl : lv_has ls 4 [(0, .ref (a 0)), (1, .int q)] := hl
  have hinX1 : ∀ w ∈ u_ws RX1 TX1 16, w ∈ wsX1_overflow := by decide +kernel
  have fl36 := hts (.fieldLink RX1 36 "RoofDrains$Roof" "inGutter" "[I") (by decide +kernel)
  have fl33 := hts (.fieldLink RX1 33 "RoofDrains$Roof" "valleyTo" "[I") (by decide +kernel)
  have fl39 := hts (.fieldLink RX1 39 "RoofDrains$Roof" "spilt" "[I") (by decide +kernel)
  refine lv_aload_n hx hb dX1_overflow_0 rfl (lv_at hl 0 rfl) ?_
  refine va_get (D := D) (ci := 1) (v := .ref (a 9)) (C := RX1) (T := TX1) (N := 16) hx hb hts hinX1 hown hK hP 0 rfl rfl 8 (by decide) fl36 (fun _ h9 => h9) rfl dX1_overflow_1 ?_
  refine lv_iload_n hx hb dX1_overflow_4 rfl (lv_at hl 1 rfl) ?_
  refine k_iald (k := i) (v := r 8 i) hx hb hK hP 9 0 rfl rfl hq hi (rfl) dX1_overflow_5 ?_
  refine lv_aload_n hx hb dX1_overflow_6 rfl (lv_at hl 0 rfl) ?_
  refine lv_iload_n hx hb dX1_overflow_7 rfl (lv_at hl 1 rfl) ?_
  refine k_calli (wc := cR cI a r) (w' := cR cI a r) (wn := cR cI a r) (va_runV (As := [.int q]) (rest := [.int (r 8 i)]) ⟨hx, hb, hml, hown, hts⟩ (mX1_room l D cI cQ cJ a r q i hq hi _) (cwV 1 hts gX1_overflow_X1_room rfl rfl rfl (by decide +kernel) ⟨Nat.le_of_ble_eq_true rfl, Nat.le_of_ble_eq_true rfl⟩) (k_preV (wc := cR cI a r) hE hK hP hD [0, 1, 2, 3, 4, 5, 6, 7, 8, 9, 10, 11, 12] (by decide) rfl (ci := 1) (q0 := 0) rfl rfl [.int q]) rfl rfl hl.1 rfl (lv_room (Nat.le_of_ble_eq_true rfl)) dX1_overflow_8 ⟨Nat.zero_le _, Nat.zero_le _⟩) hP hD hS hA [0, 1, 2, 3, 4, 5, 6, 7, 8, 9, 10, 11, 12] rfl rfl rfl (fun H locs hP hD hS => ?_)
  refine lv_isub hx hb dX1_overflow_11 ?_
  refine lv_topi (fun v2_1 ev2_1 => ?_)
  refine lv_istore_n (lv' := [(2, .int v2_1), (0, .ref (a 0)), (1, .int q)]) hx hb dX1_overflow_12 rfl hl (by decide) rfl (fun ls hl => ?_)
  refine lv_iload_n hx hb dX1_overflow_13 rfl (lv_at hl 0 rfl) ?_
  refine lv_if_gt (tgt := 18) hx hb dX1_overflow_14 (by decide) (fun c_2 => ?_) (fun c_2 => ?_)
  · skip
    refine lv_aload_n hx hb dX1_overflow_18 rfl (lv_at hl 1 rfl) ?_
    refine va_get (D := D) (ci := 1) (v := .ref (a 9)) (C := RX1) (T := TX1) (N := 16) hx hb hts hinX1 hown hK hP 0 rfl rfl 8 (by decide) fl36 (fun _ h9 => h9) rfl dX1_overflow_19 ?_
    refine lv_iload_n hx hb dX1_overflow_22 rfl (lv_at hl 2 rfl) ?_
    refine lv_dup2_11 hx hb dX1_overflow_23 rfl rfl ?_
    refine k_iald (k := i) (v := r 8 i) hx hb hK hP 9 0 rfl rfl hq hi (rfl) dX1_overflow_24 ?_
    refine lv_iload_n hx hb dX1_overflow_25 rfl (lv_at hl 0 rfl) ?_
    refine lv_isub hx hb dX1_overflow_26 ?_
    refine lv_topi (fun a_3 ea_3 => ?_)
    refine k_iast (k := i) (ws' := cR cI a (bp r 8 i a_3)) hx hb hK hP hD hS 9 0 rfl rfl hq hi rfl dX1_overflow_27 (fun H locs hP hD hS => ?_)
    refine lv_aload_n hx hb dX1_overflow_28 rfl (lv_at hl 1 rfl) ?_
    refine va_get (D := D) (ci := 1) (v := .ref (a 8)) (C := RX1) (T := TX1) (N := 16) hx hb hts hinX1 hown hK hP 0 rfl rfl 7 (by decide) fl33 (fun _ h9 => h9) rfl dX1_overflow_29 ?_
    refine lv_iload_n hx hb dX1_overflow_32 rfl (lv_at hl 2 rfl) ?_
    refine k_iald (k := i) (v := r 7 i) hx hb hK hP 8 0 rfl rfl hq hi ((bp_rw (by decide)).trans (rfl)) dX1_overflow_33 ?_
    refine lv_topi (fun v3_4 ev3_4 => ?_)
    refine lv_istore_n (lv' := [(3, .int v3_4), (2, .int v2_1), (0, .ref (a 0)), (1, .int q)]) hx hb dX1_overflow_34 rfl hl (by decide) rfl (fun ls hl => ?_)
    refine lv_iload_n hx hb dX1_overflow_35 rfl (lv_at hl 0 rfl) ?_
    refine k_calli (wc := ([] : va_W)) (w' := ([] : va_W)) (wn := cR cI a (bp r 8 i a_3)) (va_runSN (As := [.int v3_4]) (rest := []) ⟨hx, hb, hml, hown, hts⟩ (mX3_isGutter l D cI cQ cJ v3_4 _) ⟨va_cnB 1 hts gX1_overflow_X3_isGutter_n67 rfl rfl rfl hE.1 (hts (.initialized RX3) (by decide +kernel)) (by decide +kernel) ⟨Nat.le_of_ble_eq_true rfl, Nat.le_of_ble_eq_true rfl⟩, hts (.static yX3_isGutter) (by decide +kernel), trivial⟩ (k_preS (wc := ([] : va_W)) hE hK hP hD [] (by decide) rfl [.int v3_4]) rfl rfl hl.1 rfl (lv_room (Nat.le_of_ble_eq_true rfl)) dX1_overflow_36 ⟨Nat.zero_le _, Nat.zero_le _⟩) hP hD hS hA [] rfl rfl rfl (fun H locs hP hD hS => ?_)
    refine lv_if_eq (tgt := 55) hx hb dX1_overflow_39 (by decide) (fun c_5 => ?_) (fun c_5 => ?_)
    · skip
      refine lv_aload_n hx hb dX1_overflow_55 rfl (lv_at hl 2 rfl) ?_
      refine va_get (D := D) (ci := 1) (v := .ref (a 10)) (C := RX1) (T := TX1) (N := 16) hx hb hts hinX1 hown hK hP 0 rfl rfl 9 (by decide) fl39 (fun _ h9 => h9) rfl dX1_overflow_56 ?_
      refine lv_iload_n hx hb dX1_overflow_59 rfl (lv_at hl 3 rfl) ?_
      refine lv_dup2_11 hx hb dX1_overflow_60 rfl rfl ?_
      refine k_iald (k := i) (v := r 9 i) hx hb hK hP 10 0 rfl rfl hq hi ((bp_rw (by decide)).trans (rfl)) dX1_overflow_61 ?_
      refine lv_iload_n hx hb dX1_overflow_62 rfl (lv_at hl 1 rfl) ?_
      refine lv_iadd hx hb dX1_overflow_63 ?_
      refine lv_topi (fun a_6 ea_6 => ?_)
      refine k_iast (k := i) (ws' := cR cI a (bp (bp r 8 i a_3) 9 i a_6)) hx hb hK hP hD hS 10 0 rfl rfl hq hi rfl dX1_overflow_64 (fun H locs hP hD hS => ?_)
      have e9 : (bp (bp r 8 i a_3) 9 i a_6 : rB) = ovf r i := by (replace ea_6 := ea_6.symm; subst ea_6; replace ev3_4 := ev3_4.symm; subst ev3_4; replace ea_3 := ea_3.symm; subst ea_3; replace ev2_1 := ev2_1.symm; subst ev2_1; simp only [ovf, c_2, c_5, ↓reduceIte])
      rw [e9] at hP
      exact k_vret hx hb hr hlocks hS hP dX1_overflow_65
    · skip
      refine lv_aload_n hx hb dX1_overflow_42 rfl (lv_at hl 2 rfl) ?_
      refine va_get (D := D) (ci := 1) (v := .ref (a 9)) (C := RX1) (T := TX1) (N := 16) hx hb hts hinX1 hown hK hP 0 rfl rfl 8 (by decide) fl36 (fun _ h9 => h9) rfl dX1_overflow_43 ?_
      refine lv_iload_n hx hb dX1_overflow_46 rfl (lv_at hl 0 rfl) ?_
      refine lv_dup2_11 hx hb dX1_overflow_47 rfl rfl ?_
      refine k_iald (k := v3_4.toNatClampNeg) (v := (bp r 8 i a_3) 8 v3_4.toNatClampNeg) hx hb hK hP 9 0 rfl rfl (zL_in (n := 6) rfl rfl c_5) rfl (rfl) dX1_overflow_48 ?_
      refine lv_iload_n hx hb dX1_overflow_49 rfl (lv_at hl 1 rfl) ?_
      refine lv_iadd hx hb dX1_overflow_50 ?_
      refine lv_topi (fun a_7 ea_7 => ?_)
      refine k_iast (k := v3_4.toNatClampNeg) (ws' := cR cI a (bp (bp r 8 i a_3) 8 v3_4.toNatClampNeg a_7)) hx hb hK hP hD hS 9 0 rfl rfl (zL_in (n := 6) rfl rfl c_5) rfl rfl dX1_overflow_51 (fun H locs hP hD hS => ?_)
      refine lv_goto (tgt := 65) hx hb dX1_overflow_52 (by decide) ?_
      have e9 : (bp (bp r 8 i a_3) 8 v3_4.toNatClampNeg a_7 : rB) = ovf r i := by (replace ea_7 := ea_7.symm; subst ea_7; replace ev3_4 := ev3_4.symm; subst ev3_4; replace ea_3 := ea_3.symm; subst ea_3; replace ev2_1 := ev2_1.symm; subst ev2_1; simp only [ovf, c_2, c_5, ↓reduceIte])
      rw [e9] at hP
      exact k_vret hx hb hr hlocks hS hP dX1_overflow_65
  · skip
    have e9 : (r : rB) = ovf r i := by (replace ev2_1 := ev2_1.symm; subst ev2_1; simp only [ovf, c_2, ↓reduceIte])
    rw [e9] at hP
    exact k_vret hx hb hr hlocks hS hP dX1_overflow_17
