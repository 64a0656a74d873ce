set_option maxHeartbeats 4000000 in
set_option maxRecDepth 100000 in
theorem mX4_digit (l : Launch) (D : va_G) (cI cQ cJ : ClassId) (a : Nat → Nat) (r : rB) (h : Int64) (ka L : Nat) (hka : r 5 3 = nI ka) (hL : r 5 2 = nI L) (hL60 : L ≤ 60) (hA9 : ka ≤ 999) (ix iy : Int32) : Mi l D (tY cI cQ cJ) yX4_digit wsX4_digit ({ frames := 1, cells := 0, slots := 0, locals := 22 } : Room) [.ref (a 0), .int ix, .int iy] (cM cI a r h) (cM cI a (digB r ka L ix iy) h) (digV r ka L) := by
  refine M_of (cc := cX4_digit) (maxL := 4) (ret := some .int) (Qc := fun A => va_Qi (fun (x : Int32) (_ : Unit) => x = digV r ka L) (fun _ t => Wd D (cM cI a (digB r ka L ix iy) h) t) A) (by decide) rfl (Nat.le_of_ble_eq_true rfl) ?_
  intro p e s m below meth c A ls hB hE hP hK hD hA hl
  obtain ⟨hx, hb, hr, hml, hts, hown, hlocks⟩ := hB
  have hS : va_S A s.heap s.heap [] := va_S.rf
  have hl : lv_has ls 4 [(0, .ref (a 0)), (1, .int ix), (2, .int iy)] := hl
  have hinX4 : ∀ w ∈ u_ws RX4 TX4 12, w ∈ wsX4_digit := by decide +kernel
  have fl99 := hts (.fieldLink RX4 99 "RoofDrainsModel" "isWell" "Z") (by decide +kernel)
  have fl96 := hts (.fieldLink RX4 96 "RoofDrainsModel" "at" "I") (by decide +kernel)
  refine lv_aload_n hx hb dX4_digit_0 rfl (lv_at hl 0 rfl) ?_
  refine lv_aload_n hx hb dX4_digit_1 rfl (lv_at hl 0 rfl) ?_
  refine va_get (D := D) (ci := 4) (v := .int (r 5 4)) (C := RX4) (T := TX4) (N := 12) hx hb hts hinX4 hown hK hP 0 rfl rfl 8 (by decide) fl99 (fun _ h9 => h9) (congrArg (fun z => some (Value.int z)) (rfl)) dX4_digit_2 ?_
  refine lv_if_eq (tgt := 30) hx hb dX4_digit_5 (by decide) (fun c_1 => ?_) (fun c_1 => ?_)
  · skip
    refine lv_iconst (v := 0) hx hb dX4_digit_30 (by decide) ?_
    refine k_put (D := D) (ci := 4) (v := .int 0) (ty := .boolean) (C := RX4) (T := TX4) (N := 12) hx hb hts hinX4 tyX4 tyX4_ok nmX4 hown hK hP hD hS 0 rfl rfl 8 (by decide) fl99 (fun _ h9 => h9) rfl (by decide +kernel) (by first | rfl | decide) (by first | rfl | decide) (Nat.le_of_ble_eq_true rfl) (ws' := cM cI a (bp r 5 4 0) h) rfl dX4_digit_31 (fun H locs hP hD hS => ?_)
    refine lv_aload_n hx hb dX4_digit_34 rfl (lv_at hl 0 rfl) ?_
    refine k_calli (wc := cM cI a (bp r 5 4 0) h) (w' := cM cI a (bp r 5 4 0) h) (wn := cM cI a (bp r 5 4 0) h) (va_runV (As := []) (rest := []) ⟨hx, hb, hml, hown, hts⟩ (mX4_sign l D cI cQ cJ a (bp r 5 4 0) h ka L (((bp_ne (by omega)).trans (rfl)).trans hka) (((bp_ne (by omega)).trans (rfl)).trans hL) hL60 (by omega) _) (cwV 0 hts gX4_digit_X4_sign rfl rfl rfl (by decide +kernel) ⟨Nat.le_of_ble_eq_true rfl, Nat.le_of_ble_eq_true rfl⟩) (k_preV (wc := cM cI a (bp r 5 4 0) h) hE hK hP hD [0, 1, 2, 3, 4, 5] (by decide) rfl (ci := 4) (q0 := 0) rfl rfl []) rfl rfl hl.1 rfl (lv_room (Nat.le_of_ble_eq_true rfl)) dX4_digit_35 ⟨Nat.zero_le _, Nat.zero_le _⟩) hP hD hS hA [0, 1, 2, 3, 4, 5] rfl rfl rfl (fun H locs hP hD hS => ?_)
    refine lv_bipush (v := 48) hx hb dX4_digit_38 (by decide) ?_
    refine lv_isub hx hb dX4_digit_40 ?_
    refine lv_topi (fun v3_2 ev3_2 => ?_)
    refine lv_istore_n (lv' := [(3, .int v3_2), (0, .ref (a 0)), (1, .int ix), (2, .int iy)]) hx hb dX4_digit_41 rfl hl (by decide) rfl (fun ls hl => ?_)
    refine lv_aload_n hx hb dX4_digit_42 rfl (lv_at hl 1 rfl) ?_
    refine lv_dup hx hb dX4_digit_43 rfl ?_
    refine va_get (D := D) (ci := 4) (v := .int (nI ka)) (C := RX4) (T := TX4) (N := 12) hx hb hts hinX4 hown hK hP 0 rfl rfl 7 (by decide) fl96 (fun _ h9 => h9) (congrArg (fun z => some (Value.int z)) ((((bp_ne (by omega)).trans (rfl))).trans (hka))) dX4_digit_44 ?_
    refine lv_aload_n hx hb dX4_digit_47 rfl (lv_at hl 1 rfl) ?_
    refine va_get (D := D) (ci := 4) (v := .int 0) (C := RX4) (T := TX4) (N := 12) hx hb hts hinX4 hown hK hP 0 rfl rfl 8 (by decide) fl99 (fun _ h9 => h9) (congrArg (fun z => some (Value.int z)) (bp_eq)) dX4_digit_48 ?_
    refine lv_if_eq (tgt := 58) hx hb dX4_digit_51 (by decide) (fun _ => ?_) (fun h9 => absurd (by decide) h9)
    refine lv_iconst (v := 0) hx hb dX4_digit_58 (by decide) ?_
    refine lv_iadd hx hb dX4_digit_59 ?_
    refine lv_eqi (y := nI (ka + 0)) (nI_add ka 0) ?_
    refine k_put (D := D) (ci := 4) (v := .int (nI (ka + 0))) (ty := .int) (C := RX4) (T := TX4) (N := 12) hx hb hts hinX4 tyX4 tyX4_ok nmX4 hown hK hP hD hS 0 rfl rfl 7 (by decide) fl96 (fun _ h9 => h9) rfl (by decide +kernel) rfl rfl (Nat.le_of_ble_eq_true rfl) (ws' := cM cI a (bp (bp r 5 4 0) 5 3 (nI (ka + 0))) h) rfl dX4_digit_60 (fun H locs hP hD hS => ?_)
    refine lv_iload_n hx hb dX4_digit_63 rfl (lv_at hl 0 rfl) ?_
    have e9 : (bp (bp r 5 4 0) 5 3 (nI (ka + 0)) : rB) = digB r ka L ix iy := by (replace ev3_2 := ev3_2.symm; subst ev3_2; simp only [digB, digA, digW, digV, i10, i00, sgn_bp, if_pos c_1, ↓reduceIte])
    rw [e9] at hP
    exact k_iret hx hb hr hlocks hS hP dX4_digit_64 (by (replace ev3_2 := ev3_2.symm; subst ev3_2; simp only [digB, digA, digW, digV, i10, i00, sgn_bp, if_pos c_1, ↓reduceIte]))
  · skip
    refine lv_aload_n hx hb dX4_digit_8 rfl (lv_at hl 0 rfl) ?_
    refine k_calli (wc := cM cI a r h) (w' := cM cI a r h) (wn := cM cI a r h) (va_runV (As := []) (rest := [.ref (a 0)]) ⟨hx, hb, hml, hown, hts⟩ (mX4_sign l D cI cQ cJ a r h ka L ((rfl).trans hka) ((rfl).trans hL) hL60 (by omega) _) (cwV 0 hts gX4_digit_X4_sign rfl rfl rfl (by decide +kernel) ⟨Nat.le_of_ble_eq_true rfl, Nat.le_of_ble_eq_true rfl⟩) (k_preV (wc := cM cI a r h) hE hK hP hD [0, 1, 2, 3, 4, 5] (by decide) rfl (ci := 4) (q0 := 0) rfl rfl []) rfl rfl hl.1 rfl (lv_room (Nat.le_of_ble_eq_true rfl)) dX4_digit_9 ⟨Nat.zero_le _, Nat.zero_le _⟩) hP hD hS hA [0, 1, 2, 3, 4, 5] rfl rfl rfl (fun H locs hP hD hS => ?_)
    refine lv_bipush (v := 48) hx hb dX4_digit_12 (by decide) ?_
    refine lv_iload_n hx hb dX4_digit_14 rfl (lv_at hl 1 rfl) ?_
    refine lv_iadd hx hb dX4_digit_15 ?_
    refine lv_bipush (v := 48) hx hb dX4_digit_16 (by decide) ?_
    refine lv_iload_n hx hb dX4_digit_18 rfl (lv_at hl 2 rfl) ?_
    refine lv_iadd hx hb dX4_digit_19 ?_
    refine k_calli (wc := ([] : va_W)) (w' := ([] : va_W)) (wn := cM cI a r h) (va_runS (As := [.int (sgn r ka L), .int (48 + ix), .int (48 + iy)]) (rest := [.ref (a 0)]) ⟨hx, hb, hml, hown, hts⟩ (mX4_in l D cI cQ cJ (sgn r ka L) (48 + ix) (48 + iy) _) (va_cwS 3 hts gX4_digit_X4_in rfl rfl rfl (by decide +kernel) ⟨Nat.le_of_ble_eq_true rfl, Nat.le_of_ble_eq_true rfl⟩) (k_preS (wc := ([] : va_W)) hE hK hP hD [] (by decide) rfl [.int (sgn r ka L), .int (48 + ix), .int (48 + iy)]) rfl rfl hl.1 rfl (lv_room (Nat.le_of_ble_eq_true rfl)) dX4_digit_20 ⟨Nat.zero_le _, Nat.zero_le _⟩) hP hD hS hA [] rfl rfl rfl (fun H locs hP hD hS => ?_)
    refine lv_if_eq (tgt := 30) hx hb dX4_digit_23 (by decide) (fun c_3 => ?_) (fun c_3 => ?_)
    · skip
      refine lv_iconst (v := 0) hx hb dX4_digit_30 (by decide) ?_
      refine k_put (D := D) (ci := 4) (v := .int 0) (ty := .boolean) (C := RX4) (T := TX4) (N := 12) hx hb hts hinX4 tyX4 tyX4_ok nmX4 hown hK hP hD hS 0 rfl rfl 8 (by decide) fl99 (fun _ h9 => h9) rfl (by decide +kernel) (by first | rfl | decide) (by first | rfl | decide) (Nat.le_of_ble_eq_true rfl) (ws' := cM cI a (bp r 5 4 0) h) rfl dX4_digit_31 (fun H locs hP hD hS => ?_)
      refine lv_aload_n hx hb dX4_digit_34 rfl (lv_at hl 0 rfl) ?_
      refine k_calli (wc := cM cI a (bp r 5 4 0) h) (w' := cM cI a (bp r 5 4 0) h) (wn := cM cI a (bp r 5 4 0) h) (va_runV (As := []) (rest := []) ⟨hx, hb, hml, hown, hts⟩ (mX4_sign l D cI cQ cJ a (bp r 5 4 0) h ka L (((bp_ne (by omega)).trans (rfl)).trans hka) (((bp_ne (by omega)).trans (rfl)).trans hL) hL60 (by omega) _) (cwV 0 hts gX4_digit_X4_sign rfl rfl rfl (by decide +kernel) ⟨Nat.le_of_ble_eq_true rfl, Nat.le_of_ble_eq_true rfl⟩) (k_preV (wc := cM cI a (bp r 5 4 0) h) hE hK hP hD [0, 1, 2, 3, 4, 5] (by decide) rfl (ci := 4) (q0 := 0) rfl rfl []) rfl rfl hl.1 rfl (lv_room (Nat.le_of_ble_eq_true rfl)) dX4_digit_35 ⟨Nat.zero_le _, Nat.zero_le _⟩) hP hD hS hA [0, 1, 2, 3, 4, 5] rfl rfl rfl (fun H locs hP hD hS => ?_)
      refine lv_bipush (v := 48) hx hb dX4_digit_38 (by decide) ?_
      refine lv_isub hx hb dX4_digit_40 ?_
      refine lv_topi (fun v3_4 ev3_4 => ?_)
      refine lv_istore_n (lv' := [(3, .int v3_4), (0, .ref (a 0)), (1, .int ix), (2, .int iy)]) hx hb dX4_digit_41 rfl hl (by decide) rfl (fun ls hl => ?_)
      refine lv_aload_n hx hb dX4_digit_42 rfl (lv_at hl 1 rfl) ?_
      refine lv_dup hx hb dX4_digit_43 rfl ?_
      refine va_get (D := D) (ci := 4) (v := .int (nI ka)) (C := RX4) (T := TX4) (N := 12) hx hb hts hinX4 hown hK hP 0 rfl rfl 7 (by decide) fl96 (fun _ h9 => h9) (congrArg (fun z => some (Value.int z)) ((((bp_ne (by omega)).trans (rfl))).trans (hka))) dX4_digit_44 ?_
      refine lv_aload_n hx hb dX4_digit_47 rfl (lv_at hl 1 rfl) ?_
      refine va_get (D := D) (ci := 4) (v := .int 0) (C := RX4) (T := TX4) (N := 12) hx hb hts hinX4 hown hK hP 0 rfl rfl 8 (by decide) fl99 (fun _ h9 => h9) (congrArg (fun z => some (Value.int z)) (bp_eq)) dX4_digit_48 ?_
      refine lv_if_eq (tgt := 58) hx hb dX4_digit_51 (by decide) (fun _ => ?_) (fun h9 => absurd (by decide) h9)
      refine lv_iconst (v := 0) hx hb dX4_digit_58 (by decide) ?_
      refine lv_iadd hx hb dX4_digit_59 ?_
      refine lv_eqi (y := nI (ka + 0)) (nI_add ka 0) ?_
      refine k_put (D := D) (ci := 4) (v := .int (nI (ka + 0))) (ty := .int) (C := RX4) (T := TX4) (N := 12) hx hb hts hinX4 tyX4 tyX4_ok nmX4 hown hK hP hD hS 0 rfl rfl 7 (by decide) fl96 (fun _ h9 => h9) rfl (by decide +kernel) rfl rfl (Nat.le_of_ble_eq_true rfl) (ws' := cM cI a (bp (bp r 5 4 0) 5 3 (nI (ka + 0))) h) rfl dX4_digit_60 (fun H locs hP hD hS => ?_)
      refine lv_iload_n hx hb dX4_digit_63 rfl (lv_at hl 0 rfl) ?_
      have e9 : (bp (bp r 5 4 0) 5 3 (nI (ka + 0)) : rB) = digB r ka L ix iy := by (replace ev3_4 := ev3_4.symm; subst ev3_4; simp only [digB, digA, digW, digV, i10, i00, sgn_bp, if_neg c_1, if_pos c_3, ↓reduceIte])
      rw [e9] at hP
      exact k_iret hx hb hr hlocks hS hP dX4_digit_64 (by (replace ev3_4 := ev3_4.symm; subst ev3_4; simp only [digB, digA, digW, digV, i10, i00, sgn_bp, if_neg c_1, if_pos c_3, ↓reduceIte]))
    · skip
      refine lv_iconst (v := 1) hx hb dX4_digit_26 (by decide) ?_
      refine lv_goto (tgt := 31) hx hb dX4_digit_27 (by decide) ?_
      refine k_put (D := D) (ci := 4) (v := .int 1) (ty := .boolean) (C := RX4) (T := TX4) (N := 12) hx hb hts hinX4 tyX4 tyX4_ok nmX4 hown hK hP hD hS 0 rfl rfl 8 (by decide) fl99 (fun _ h9 => h9) rfl (by decide +kernel) (by first | rfl | decide) (by first | rfl | decide) (Nat.le_of_ble_eq_true rfl) (ws' := cM cI a (bp r 5 4 1) h) rfl dX4_digit_31 (fun H locs hP hD hS => ?_)
      refine lv_aload_n hx hb dX4_digit_34 rfl (lv_at hl 0 rfl) ?_
      refine k_calli (wc := cM cI a (bp r 5 4 1) h) (w' := cM cI a (bp r 5 4 1) h) (wn := cM cI a (bp r 5 4 1) h) (va_runV (As := []) (rest := []) ⟨hx, hb, hml, hown, hts⟩ (mX4_sign l D cI cQ cJ a (bp r 5 4 1) h ka L (((bp_ne (by omega)).trans (rfl)).trans hka) (((bp_ne (by omega)).trans (rfl)).trans hL) hL60 (by omega) _) (cwV 0 hts gX4_digit_X4_sign rfl rfl rfl (by decide +kernel) ⟨Nat.le_of_ble_eq_true rfl, Nat.le_of_ble_eq_true rfl⟩) (k_preV (wc := cM cI a (bp r 5 4 1) h) hE hK hP hD [0, 1, 2, 3, 4, 5] (by decide) rfl (ci := 4) (q0 := 0) rfl rfl []) rfl rfl hl.1 rfl (lv_room (Nat.le_of_ble_eq_true rfl)) dX4_digit_35 ⟨Nat.zero_le _, Nat.zero_le _⟩) hP hD hS hA [0, 1, 2, 3, 4, 5] rfl rfl rfl (fun H locs hP hD hS => ?_)
      refine lv_bipush (v := 48) hx hb dX4_digit_38 (by decide) ?_
      refine lv_isub hx hb dX4_digit_40 ?_
      refine lv_topi (fun v3_5 ev3_5 => ?_)
      refine lv_istore_n (lv' := [(3, .int v3_5), (0, .ref (a 0)), (1, .int ix), (2, .int iy)]) hx hb dX4_digit_41 rfl hl (by decide) rfl (fun ls hl => ?_)
      refine lv_aload_n hx hb dX4_digit_42 rfl (lv_at hl 1 rfl) ?_
      refine lv_dup hx hb dX4_digit_43 rfl ?_
      refine va_get (D := D) (ci := 4) (v := .int (nI ka)) (C := RX4) (T := TX4) (N := 12) hx hb hts hinX4 hown hK hP 0 rfl rfl 7 (by decide) fl96 (fun _ h9 => h9) (congrArg (fun z => some (Value.int z)) ((((bp_ne (by omega)).trans (rfl))).trans (hka))) dX4_digit_44 ?_
      refine lv_aload_n hx hb dX4_digit_47 rfl (lv_at hl 1 rfl) ?_
      refine va_get (D := D) (ci := 4) (v := .int 1) (C := RX4) (T := TX4) (N := 12) hx hb hts hinX4 hown hK hP 0 rfl rfl 8 (by decide) fl99 (fun _ h9 => h9) (congrArg (fun z => some (Value.int z)) (bp_eq)) dX4_digit_48 ?_
      refine lv_if_eq (tgt := 58) hx hb dX4_digit_51 (by decide) (fun h9 => absurd h9 (by decide)) (fun _ => ?_)
      refine lv_iconst (v := 1) hx hb dX4_digit_54 (by decide) ?_
      refine lv_goto (tgt := 59) hx hb dX4_digit_55 (by decide) ?_
      refine lv_iadd hx hb dX4_digit_59 ?_
      refine lv_eqi (y := nI (ka + 1)) (nI_add ka 1) ?_
      refine k_put (D := D) (ci := 4) (v := .int (nI (ka + 1))) (ty := .int) (C := RX4) (T := TX4) (N := 12) hx hb hts hinX4 tyX4 tyX4_ok nmX4 hown hK hP hD hS 0 rfl rfl 7 (by decide) fl96 (fun _ h9 => h9) rfl (by decide +kernel) rfl rfl (Nat.le_of_ble_eq_true rfl) (ws' := cM cI a (bp (bp r 5 4 1) 5 3 (nI (ka + 1))) h) rfl dX4_digit_60 (fun H locs hP hD hS => ?_)
      refine lv_iload_n hx hb dX4_digit_63 rfl (lv_at hl 0 rfl) ?_
      have e9 : (bp (bp r 5 4 1) 5 3 (nI (ka + 1)) : rB) = digB r ka L ix iy := by (replace ev3_5 := ev3_5.symm; subst ev3_5; simp only [digB, digA, digW, digV, i10, i00, sgn_bp, if_neg c_1, if_neg c_3, ↓reduceIte])
      rw [e9] at hP
      exact k_iret hx hb hr hlocks hS hP dX4_digit_64 (by (replace ev3_5 := ev3_5.symm; subst ev3_5; simp only [digB, digA, digW, digV, i10, i00, sgn_bp, if_neg c_1, if_neg c_3, ↓reduceIte]))
