set_option maxHeartbeats 4000000 in
set_option maxRecDepth 100000 in
theorem mX4_number (l : Launch) (D : va_G) (cI cQ cJ : ClassId) (a : Nat → Nat) (r : rB) (h : Int64) (ka L : Nat) (hka : r 5 3 = nI ka) (hL : r 5 2 = nI L) (hL60 : L ≤ 60) (hA9 : ka ≤ 990) (ix iy : Int32) : Mi l D (tY cI cQ cJ) yX4_number wsX4_number ({ frames := 2, cells := 0, slots := 0, locals := 45 } : Room) [.ref (a 0), .int ix, .int iy] (cM cI a r h) (cM cI a (numB r ka L ix iy) h) (numV r ka L ix iy) := by
  refine M_of (cc := cX4_number) (maxL := 4) (ret := some .int) (Qc := fun A => va_Qi (fun (x : Int32) (_ : Unit) => x = numV r ka L ix iy) (fun _ t => Wd D (cM cI a (numB r ka L ix iy) h) t) A) (by decide) rfl (Nat.le_of_ble_eq_true rfl) ?_
  intro p e s m below meth c A ls hB hE hP hK hD hA hl
  obtain ⟨hx, hb, hr, hml, hts, hown, hlocks⟩ := hB
  have hS : va_S A s.heap s.heap [] := va_S.rf
  have hl : lv_has ls 4 [(0, .ref (a 0)), (1, .int ix), (2, .int iy)] := hl
  have hinX4 : ∀ w ∈ u_ws RX4 TX4 12, w ∈ wsX4_number := by decide +kernel
  have fl99 := hts (.fieldLink RX4 99 "RoofDrainsModel" "isWell" "Z") (by decide +kernel)
  have fl96 := hts (.fieldLink RX4 96 "RoofDrainsModel" "at" "I") (by decide +kernel)
  have hdA : digA r ka L ix 9 ≤ ka + 1 := digA_le
  refine lv_aload_n hx hb dX4_number_0 rfl (lv_at hl 0 rfl) ?_
  refine lv_iload_n hx hb dX4_number_1 rfl (lv_at hl 1 rfl) ?_
  refine lv_bipush (v := 9) hx hb dX4_number_2 (by decide) ?_
  obtain ⟨r_1, er_1⟩ : ∃ z : rB, z = digB r ka L ix 9 := ⟨_, rfl⟩
  have hm_2 := mX4_digit l D cI cQ cJ a r h ka L ((rfl).trans hka) ((rfl).trans hL) hL60 (by omega) ix 9
  rw [← er_1] at hm_2
  refine k_calli (wc := cM cI a r h) (w' := cM cI a r_1 h) (wn := cM cI a r_1 h) (va_runV (As := [.int ix, .int 9]) (rest := []) ⟨hx, hb, hml, hown, hts⟩ (hm_2 _) (cwV 2 hts gX4_number_X4_digit rfl rfl rfl (by decide +kernel) ⟨Nat.le_of_ble_eq_true rfl, Nat.le_of_ble_eq_true rfl⟩) (k_preV (wc := cM cI a r h) hE hK hP hD [0, 1, 2, 3, 4, 5] (by decide) rfl (ci := 4) (q0 := 0) rfl rfl [.int ix, .int 9]) rfl rfl hl.1 rfl (lv_room (Nat.le_of_ble_eq_true rfl)) dX4_number_4 ⟨Nat.zero_le _, Nat.zero_le _⟩) hP hD hS hA [0, 1, 2, 3, 4, 5] rfl rfl rfl (fun H locs hP hD hS => ?_)
  refine lv_topi (fun v3_3 ev3_3 => ?_)
  refine lv_istore_n (lv' := [(3, .int v3_3), (0, .ref (a 0)), (1, .int ix), (2, .int iy)]) hx hb dX4_number_7 rfl hl (by decide) rfl (fun ls hl => ?_)
  refine lv_aload_n hx hb dX4_number_8 rfl (lv_at hl 1 rfl) ?_
  refine va_get (D := D) (ci := 4) (v := .int (r_1 5 4)) (C := RX4) (T := TX4) (N := 12) hx hb hts hinX4 hown hK hP 0 rfl rfl 8 (by decide) fl99 (fun _ h9 => h9) (congrArg (fun z => some (Value.int z)) (rfl)) dX4_number_9 ?_
  refine lv_if_eq (tgt := 72) hx hb dX4_number_12 (by decide) (fun c_4 => ?_) (fun c_4 => ?_)
  · skip
    refine lv_iload_n hx hb dX4_number_72 rfl (lv_at hl 0 rfl) ?_
    have e9 : (r_1 : rB) = numB r ka L ix iy := by (replace ev3_3 := ev3_3.symm; subst ev3_3; replace er_1 := er_1.symm; subst er_1; simp only [numB, numV, numC, i10, i00, if_pos c_4, ↓reduceIte])
    rw [e9] at hP
    exact k_iret hx hb hr hlocks hS hP dX4_number_73 (by (replace ev3_3 := ev3_3.symm; subst ev3_3; replace er_1 := er_1.symm; subst er_1; simp only [numB, numV, numC, i10, i00, if_pos c_4, ↓reduceIte]))
  · skip
    refine lv_iload_n hx hb dX4_number_15 rfl (lv_at hl 0 rfl) ?_
    refine lv_if_le (tgt := 72) hx hb dX4_number_16 (by decide) (fun c_5 => ?_) (fun c_5 => ?_)
    · skip
      refine lv_iload_n hx hb dX4_number_72 rfl (lv_at hl 0 rfl) ?_
      have e9 : (r_1 : rB) = numB r ka L ix iy := by (replace ev3_3 := ev3_3.symm; subst ev3_3; replace er_1 := er_1.symm; subst er_1; simp only [numB, numV, numC, i10, i00, if_neg c_4, if_pos c_5, ↓reduceIte])
      rw [e9] at hP
      exact k_iret hx hb hr hlocks hS hP dX4_number_73 (by (replace ev3_3 := ev3_3.symm; subst ev3_3; replace er_1 := er_1.symm; subst er_1; simp only [numB, numV, numC, i10, i00, if_neg c_4, if_pos c_5, ↓reduceIte]))
    · skip
      refine lv_aload_n hx hb dX4_number_19 rfl (lv_at hl 1 rfl) ?_
      refine k_calli (wc := cM cI a r_1 h) (w' := cM cI a r_1 h) (wn := cM cI a r_1 h) (va_runV (As := []) (rest := []) ⟨hx, hb, hml, hown, hts⟩ (mX4_sign l D cI cQ cJ a r_1 h (digA r ka L ix 9) L ((rfl).trans (by rw [er_1]; exact digB_at)) ((rfl).trans (by rw [er_1]; exact (digB_len hL))) hL60 (by omega) _) (cwV 0 hts gX4_number_X4_sign rfl rfl rfl (by decide +kernel) ⟨Nat.le_of_ble_eq_true rfl, Nat.le_of_ble_eq_true rfl⟩) (k_preV (wc := cM cI a r_1 h) hE hK hP hD [0, 1, 2, 3, 4, 5] (by decide) rfl (ci := 4) (q0 := 0) rfl rfl []) rfl rfl hl.1 rfl (lv_room (Nat.le_of_ble_eq_true rfl)) dX4_number_20 ⟨Nat.zero_le _, Nat.zero_le _⟩) hP hD hS hA [0, 1, 2, 3, 4, 5] rfl rfl rfl (fun H locs hP hD hS => ?_)
      refine lv_bipush (v := 48) hx hb dX4_number_23 (by decide) ?_
      refine lv_bipush (v := 57) hx hb dX4_number_25 (by decide) ?_
      refine k_calli (wc := ([] : va_W)) (w' := ([] : va_W)) (wn := cM cI a r_1 h) (va_runS (As := [.int (sgn r_1 (digA r ka L ix 9) L), .int 48, .int 57]) (rest := []) ⟨hx, hb, hml, hown, hts⟩ (mX4_in l D cI cQ cJ (sgn r_1 (digA r ka L ix 9) L) 48 57 _) (va_cwS 3 hts gX4_number_X4_in rfl rfl rfl (by decide +kernel) ⟨Nat.le_of_ble_eq_true rfl, Nat.le_of_ble_eq_true rfl⟩) (k_preS (wc := ([] : va_W)) hE hK hP hD [] (by decide) rfl [.int (sgn r_1 (digA r ka L ix 9) L), .int 48, .int 57]) rfl rfl hl.1 rfl (lv_room (Nat.le_of_ble_eq_true rfl)) dX4_number_27 ⟨Nat.zero_le _, Nat.zero_le _⟩) hP hD hS hA [] rfl rfl rfl (fun H locs hP hD hS => ?_)
      refine lv_if_eq (tgt := 72) hx hb dX4_number_30 (by decide) (fun c_6 => ?_) (fun c_6 => ?_)
      · skip
        refine lv_iload_n hx hb dX4_number_72 rfl (lv_at hl 0 rfl) ?_
        have e9 : (r_1 : rB) = numB r ka L ix iy := by (replace ev3_3 := ev3_3.symm; subst ev3_3; replace er_1 := er_1.symm; subst er_1; simp only [numB, numV, numC, i10, i00, if_neg c_4, if_neg c_5, if_pos c_6, ↓reduceIte])
        rw [e9] at hP
        exact k_iret hx hb hr hlocks hS hP dX4_number_73 (by (replace ev3_3 := ev3_3.symm; subst ev3_3; replace er_1 := er_1.symm; subst er_1; simp only [numB, numV, numC, i10, i00, if_neg c_4, if_neg c_5, if_pos c_6, ↓reduceIte]))
      · skip
        refine lv_bipush (v := 10) hx hb dX4_number_33 (by decide) ?_
        refine lv_iload_n hx hb dX4_number_35 rfl (lv_at hl 0 rfl) ?_
        refine lv_imul hx hb dX4_number_36 ?_
        refine lv_aload_n hx hb dX4_number_37 rfl (lv_at hl 1 rfl) ?_
        refine k_calli (wc := cM cI a r_1 h) (w' := cM cI a r_1 h) (wn := cM cI a r_1 h) (va_runV (As := []) (rest := [.int (10 * v3_3)]) ⟨hx, hb, hml, hown, hts⟩ (mX4_sign l D cI cQ cJ a r_1 h (digA r ka L ix 9) L ((rfl).trans (by rw [er_1]; exact digB_at)) ((rfl).trans (by rw [er_1]; exact (digB_len hL))) hL60 (by omega) _) (cwV 0 hts gX4_number_X4_sign rfl rfl rfl (by decide +kernel) ⟨Nat.le_of_ble_eq_true rfl, Nat.le_of_ble_eq_true rfl⟩) (k_preV (wc := cM cI a r_1 h) hE hK hP hD [0, 1, 2, 3, 4, 5] (by decide) rfl (ci := 4) (q0 := 0) rfl rfl []) rfl rfl hl.1 rfl (lv_room (Nat.le_of_ble_eq_true rfl)) dX4_number_38 ⟨Nat.zero_le _, Nat.zero_le _⟩) hP hD hS hA [0, 1, 2, 3, 4, 5] rfl rfl rfl (fun H locs hP hD hS => ?_)
        refine lv_iadd hx hb dX4_number_41 ?_
        refine lv_bipush (v := 48) hx hb dX4_number_42 (by decide) ?_
        refine lv_isub hx hb dX4_number_44 ?_
        refine lv_iload_n hx hb dX4_number_45 rfl (lv_at hl 3 rfl) ?_
        refine lv_icmp_gt (tgt := 72) hx hb dX4_number_46 (by decide) (fun c_7 => ?_) (fun c_7 => ?_)
        · skip
          refine lv_iload_n hx hb dX4_number_72 rfl (lv_at hl 0 rfl) ?_
          have e9 : (r_1 : rB) = numB r ka L ix iy := by (replace ev3_3 := ev3_3.symm; subst ev3_3; replace er_1 := er_1.symm; subst er_1; simp only [numB, numV, numC, i10, i00, if_neg c_4, if_neg c_5, if_neg c_6, if_pos c_7, ↓reduceIte])
          rw [e9] at hP
          exact k_iret hx hb hr hlocks hS hP dX4_number_73 (by (replace ev3_3 := ev3_3.symm; subst ev3_3; replace er_1 := er_1.symm; subst er_1; simp only [numB, numV, numC, i10, i00, if_neg c_4, if_neg c_5, if_neg c_6, if_pos c_7, ↓reduceIte]))
        · skip
          refine lv_bipush (v := 10) hx hb dX4_number_49 (by decide) ?_
          refine lv_iload_n hx hb dX4_number_51 rfl (lv_at hl 0 rfl) ?_
          refine lv_imul hx hb dX4_number_52 ?_
          refine lv_aload_n hx hb dX4_number_53 rfl (lv_at hl 1 rfl) ?_
          refine k_calli (wc := cM cI a r_1 h) (w' := cM cI a r_1 h) (wn := cM cI a r_1 h) (va_runV (As := []) (rest := [.int (10 * v3_3)]) ⟨hx, hb, hml, hown, hts⟩ (mX4_sign l D cI cQ cJ a r_1 h (digA r ka L ix 9) L ((rfl).trans (by rw [er_1]; exact digB_at)) ((rfl).trans (by rw [er_1]; exact (digB_len hL))) hL60 (by omega) _) (cwV 0 hts gX4_number_X4_sign rfl rfl rfl (by decide +kernel) ⟨Nat.le_of_ble_eq_true rfl, Nat.le_of_ble_eq_true rfl⟩) (k_preV (wc := cM cI a r_1 h) hE hK hP hD [0, 1, 2, 3, 4, 5] (by decide) rfl (ci := 4) (q0 := 0) rfl rfl []) rfl rfl hl.1 rfl (lv_room (Nat.le_of_ble_eq_true rfl)) dX4_number_54 ⟨Nat.zero_le _, Nat.zero_le _⟩) hP hD hS hA [0, 1, 2, 3, 4, 5] rfl rfl rfl (fun H locs hP hD hS => ?_)
          refine lv_iadd hx hb dX4_number_57 ?_
          refine lv_bipush (v := 48) hx hb dX4_number_58 (by decide) ?_
          refine lv_isub hx hb dX4_number_60 ?_
          refine lv_topi (fun v3_8 ev3_8 => ?_)
          refine lv_istore_n (lv' := [(3, .int v3_8), (0, .ref (a 0)), (1, .int ix), (2, .int iy)]) hx hb dX4_number_61 rfl hl (by decide) rfl (fun ls hl => ?_)
          refine lv_aload_n hx hb dX4_number_62 rfl (lv_at hl 1 rfl) ?_
          refine lv_dup hx hb dX4_number_63 rfl ?_
          refine va_get (D := D) (ci := 4) (v := .int (nI (digA r ka L ix 9))) (C := RX4) (T := TX4) (N := 12) hx hb hts hinX4 hown hK hP 0 rfl rfl 7 (by decide) fl96 (fun _ h9 => h9) (congrArg (fun z => some (Value.int z)) (((rfl)).trans ((by rw [er_1]; exact digB_at)))) dX4_number_64 ?_
          refine lv_iconst (v := 1) hx hb dX4_number_67 (by decide) ?_
          refine lv_iadd hx hb dX4_number_68 ?_
          refine lv_eqi (y := nI ((digA r ka L ix 9) + 1)) (nI_add (digA r ka L ix 9) 1) ?_
          refine k_put (D := D) (ci := 4) (v := .int (nI ((digA r ka L ix 9) + 1))) (ty := .int) (C := RX4) (T := TX4) (N := 12) hx hb hts hinX4 tyX4 tyX4_ok nmX4 hown hK hP hD hS 0 rfl rfl 7 (by decide) fl96 (fun _ h9 => h9) rfl (by decide +kernel) rfl rfl (Nat.le_of_ble_eq_true rfl) (ws' := cM cI a (bp r_1 5 3 (nI ((digA r ka L ix 9) + 1))) h) rfl dX4_number_69 (fun H locs hP hD hS => ?_)
          refine lv_iload_n hx hb dX4_number_72 rfl (lv_at hl 0 rfl) ?_
          have e9 : (bp r_1 5 3 (nI ((digA r ka L ix 9) + 1)) : rB) = numB r ka L ix iy := by (replace ev3_8 := ev3_8.symm; subst ev3_8; replace ev3_3 := ev3_3.symm; subst ev3_3; replace er_1 := er_1.symm; subst er_1; simp only [numB, numV, numC, i10, i00, if_neg c_4, if_neg c_5, if_neg c_6, if_neg c_7, ↓reduceIte])
          rw [e9] at hP
          exact k_iret hx hb hr hlocks hS hP dX4_number_73 (by (replace ev3_8 := ev3_8.symm; subst ev3_8; replace ev3_3 := ev3_3.symm; subst ev3_3; replace er_1 := er_1.symm; subst er_1; simp only [numB, numV, numC, i10, i00, if_neg c_4, if_neg c_5, if_neg c_6, if_neg c_7, ↓reduceIte]))
