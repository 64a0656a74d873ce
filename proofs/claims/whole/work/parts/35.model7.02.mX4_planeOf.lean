set_option maxHeartbeats 4000000 in
set_option maxRecDepth 100000 in
theorem mX4_planeOf (l : Launch) (D : va_G) (cI cQ cJ : ClassId) (a : Nat → Nat) (r : rB) (h : Int64) (ix iy : Int32) : Mi l D (tY cI cQ cJ) yX4_planeOf wsX4_planeOf ({ frames := 2, cells := 0, slots := 0, locals := 42 } : Room) [.ref (a 0), .int ix, .int iy] (cM cI a r h) (cM cI a (plnB r ix iy) h) (plnV r ix iy) := by
  refine M_of (cc := cX4_planeOf) (maxL := 3) (ret := some .int) (Qc := fun A => va_Qi (fun (x : Int32) (_ : Unit) => x = plnV r ix iy) (fun _ t => Wd D (cM cI a (plnB r ix iy) h) t) A) (by decide) rfl (Nat.le_of_ble_eq_true rfl) ?_
  intro p e s m below meth c A ls hB hE hP hK hD hA hl
  obtain ⟨hx, hb, hr, hml, hts, hown, hlocks⟩ := hB
  have hS : va_S A s.heap s.heap [] := va_S.rf
  have hl : lv_has ls 3 [(0, .ref (a 0)), (1, .int ix), (2, .int iy)] := hl
  have hinX4 : ∀ w ∈ u_ws RX4 TX4 12, w ∈ wsX4_planeOf := by decide +kernel
  have fl25 := hts (.fieldLink RX4 25 "RoofDrainsModel" "thrown" "I") (by decide +kernel)
  refine lv_aload_n hx hb dX4_planeOf_0 rfl (lv_at hl 0 rfl) ?_
  refine lv_iconst (v := 0) hx hb dX4_planeOf_1 (by decide) ?_
  refine k_put (D := D) (ci := 4) (v := .int 0) (ty := .int) (C := RX4) (T := TX4) (N := 12) hx hb hts hinX4 tyX4 tyX4_ok nmX4 hown hK hP hD hS 0 rfl rfl 0 (by decide) fl25 (fun _ h9 => h9) rfl (by decide +kernel) rfl rfl (Nat.le_of_ble_eq_true rfl) (ws' := cM cI a (bp r 5 0 0) h) rfl dX4_planeOf_2 (fun H locs hP hD hS => ?_)
  refine lv_iload_n hx hb dX4_planeOf_5 rfl (lv_at hl 1 rfl) ?_
  refine k_calli (wc := ([] : va_W)) (w' := ([] : va_W)) (wn := cM cI a (bp r 5 0 0) h) (va_runS (As := [.int ix]) (rest := []) ⟨hx, hb, hml, hown, hts⟩ (mX4_isOne l D cI cQ cJ ix _) (va_cwS 1 hts gX4_planeOf_X4_isOne rfl rfl rfl (by decide +kernel) ⟨Nat.le_of_ble_eq_true rfl, Nat.le_of_ble_eq_true rfl⟩) (k_preS (wc := ([] : va_W)) hE hK hP hD [] (by decide) rfl [.int ix]) rfl rfl hl.1 rfl (lv_room (Nat.le_of_ble_eq_true rfl)) dX4_planeOf_6 ⟨Nat.zero_le _, Nat.zero_le _⟩) hP hD hS hA [] rfl rfl rfl (fun H locs hP hD hS => ?_)
  refine lv_if_ne (tgt := 18) hx hb dX4_planeOf_9 (by decide) (fun c_1 => ?_) (fun c_1 => ?_)
  · skip
    obtain ⟨i, hi, ei⟩ := zW_ex (n := 6) rfl rfl c_1
    subst ei
    have hcii : (nI i).toNatClampNeg = i := nI_clamp (by omega)
    refine lv_iload_n hx hb dX4_planeOf_18 rfl (lv_at hl 2 rfl) ?_
    refine lv_iconst (v := 0) hx hb dX4_planeOf_19 (by decide) ?_
    refine lv_iconst (v := 3) hx hb dX4_planeOf_20 (by decide) ?_
    refine k_calli (wc := ([] : va_W)) (w' := ([] : va_W)) (wn := cM cI a (bp r 5 0 0) h) (va_runS (As := [.int iy, .int 0, .int 3]) (rest := []) ⟨hx, hb, hml, hown, hts⟩ (mX4_in l D cI cQ cJ iy 0 3 _) (va_cwS 3 hts gX4_planeOf_X4_in rfl rfl rfl (by decide +kernel) ⟨Nat.le_of_ble_eq_true rfl, Nat.le_of_ble_eq_true rfl⟩) (k_preS (wc := ([] : va_W)) hE hK hP hD [] (by decide) rfl [.int iy, .int 0, .int 3]) rfl rfl hl.1 rfl (lv_room (Nat.le_of_ble_eq_true rfl)) dX4_planeOf_21 ⟨Nat.zero_le _, Nat.zero_le _⟩) hP hD hS hA [] rfl rfl rfl (fun H locs hP hD hS => ?_)
    refine lv_if_eq (tgt := 36) hx hb dX4_planeOf_24 (by decide) (fun c_2 => ?_) (fun c_2 => ?_)
    · skip
      refine lv_aload_n hx hb dX4_planeOf_36 rfl (lv_at hl 0 rfl) ?_
      refine lv_iconst (v := 2) hx hb dX4_planeOf_37 (by decide) ?_
      obtain ⟨r_3, er_3⟩ : ∃ z : rB, z = bp (bp r 5 0 0) 5 0 2 := ⟨_, rfl⟩
      have hm_4 := mX4_fails l D cI cQ cJ a (bp r 5 0 0) h 2
      rw [← er_3] at hm_4
      refine k_calli (wc := cM cI a (bp r 5 0 0) h) (w' := cM cI a r_3 h) (wn := cM cI a r_3 h) (va_runV (As := [.int 2]) (rest := []) ⟨hx, hb, hml, hown, hts⟩ (hm_4 _) (cwV 1 hts gX4_planeOf_X4_fails rfl rfl rfl (by decide +kernel) ⟨Nat.le_of_ble_eq_true rfl, Nat.le_of_ble_eq_true rfl⟩) (k_preV (wc := cM cI a (bp r 5 0 0) h) hE hK hP hD [0, 1, 2, 3, 4, 5] (by decide) rfl (ci := 4) (q0 := 0) rfl rfl [.int 2]) rfl rfl hl.1 rfl (lv_room (Nat.le_of_ble_eq_true rfl)) dX4_planeOf_38 ⟨Nat.zero_le _, Nat.zero_le _⟩) hP hD hS hA [0, 1, 2, 3, 4, 5] rfl rfl rfl (fun H locs hP hD hS => ?_)
      have e9 : (r_3 : rB) = plnB r (nI i) iy := by (replace er_3 := er_3.symm; subst er_3; first | with_reducible rfl | simp only [plnV, plnB, if_neg c_1, hcii, if_pos c_2, ↓reduceIte])
      rw [e9] at hP
      exact k_iret hx hb hr hlocks hS hP dX4_planeOf_41 (by (replace er_3 := er_3.symm; subst er_3; first | with_reducible rfl | simp only [plnV, plnB, if_neg c_1, hcii, if_pos c_2, ↓reduceIte]))
    · skip
      obtain ⟨w, hw, ew⟩ := zW_ex (n := 4) rfl rfl c_2
      subst ew
      have hciw : (nI w).toNatClampNeg = w := nI_clamp (by omega)
      refine lv_aload_n hx hb dX4_planeOf_27 rfl (lv_at hl 0 rfl) ?_
      refine lv_iload_n hx hb dX4_planeOf_28 rfl (lv_at hl 1 rfl) ?_
      refine lv_iload_n hx hb dX4_planeOf_29 rfl (lv_at hl 2 rfl) ?_
      refine k_calli (wc := cM cI a (bp r 5 0 0) h) (w' := cM cI a (bp r 5 0 0) h) (wn := cM cI a (bp r 5 0 0) h) (va_runV (As := [.int (nI i), .int (nI w)]) (rest := []) ⟨hx, hb, hml, hown, hts⟩ (mX4_ofPlane l D cI cQ cJ a (bp r 5 0 0) h (nI i) i w rfl (by omega) (by omega) _) (cwV 2 hts gX4_planeOf_X4_ofPlane rfl rfl rfl (by decide +kernel) ⟨Nat.le_of_ble_eq_true rfl, Nat.le_of_ble_eq_true rfl⟩) (k_preV (wc := cM cI a (bp r 5 0 0) h) hE hK hP hD [0, 1, 2, 3, 4, 5] (by decide) rfl (ci := 4) (q0 := 0) rfl rfl [.int (nI i), .int (nI w)]) rfl rfl hl.1 rfl (lv_room (Nat.le_of_ble_eq_true rfl)) dX4_planeOf_30 ⟨Nat.zero_le _, Nat.zero_le _⟩) hP hD hS hA [0, 1, 2, 3, 4, 5] rfl rfl rfl (fun H locs hP hD hS => ?_)
      refine lv_goto (tgt := 41) hx hb dX4_planeOf_33 (by decide) ?_
      have e9 : (bp r 5 0 0 : rB) = plnB r (nI i) (nI w) := by (first | with_reducible rfl | simp only [plnV, plnB, if_neg c_1, hcii, if_neg c_2, hciw, ↓reduceIte])
      rw [e9] at hP
      exact k_iret hx hb hr hlocks hS hP dX4_planeOf_41 (by (first | with_reducible rfl | simp only [plnV, plnB, if_neg c_1, hcii, if_neg c_2, hciw, ↓reduceIte]))
  · skip
    refine lv_aload_n hx hb dX4_planeOf_12 rfl (lv_at hl 0 rfl) ?_
    refine lv_iconst (v := 1) hx hb dX4_planeOf_13 (by decide) ?_
    obtain ⟨r_5, er_5⟩ : ∃ z : rB, z = bp (bp r 5 0 0) 5 0 1 := ⟨_, rfl⟩
    have hm_6 := mX4_fails l D cI cQ cJ a (bp r 5 0 0) h 1
    rw [← er_5] at hm_6
    refine k_calli (wc := cM cI a (bp r 5 0 0) h) (w' := cM cI a r_5 h) (wn := cM cI a r_5 h) (va_runV (As := [.int 1]) (rest := []) ⟨hx, hb, hml, hown, hts⟩ (hm_6 _) (cwV 1 hts gX4_planeOf_X4_fails rfl rfl rfl (by decide +kernel) ⟨Nat.le_of_ble_eq_true rfl, Nat.le_of_ble_eq_true rfl⟩) (k_preV (wc := cM cI a (bp r 5 0 0) h) hE hK hP hD [0, 1, 2, 3, 4, 5] (by decide) rfl (ci := 4) (q0 := 0) rfl rfl [.int 1]) rfl rfl hl.1 rfl (lv_room (Nat.le_of_ble_eq_true rfl)) dX4_planeOf_14 ⟨Nat.zero_le _, Nat.zero_le _⟩) hP hD hS hA [0, 1, 2, 3, 4, 5] rfl rfl rfl (fun H locs hP hD hS => ?_)
    have e9 : (r_5 : rB) = plnB r ix iy := by (replace er_5 := er_5.symm; subst er_5; first | with_reducible rfl | simp only [plnV, plnB, if_pos c_1, ↓reduceIte])
    rw [e9] at hP
    exact k_iret hx hb hr hlocks hS hP dX4_planeOf_17 (by (replace er_5 := er_5.symm; subst er_5; first | with_reducible rfl | simp only [plnV, plnB, if_pos c_1, ↓reduceIte]))
