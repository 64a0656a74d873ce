set_option maxHeartbeats 4000000 in
set_option maxRecDepth 100000 in
theorem mX4_rain (l : Launch) (D : va_G) (cI cQ cJ : ClassId) (a : Nat → Nat) (r : rB) (h : Int64) (N : Nat) (hN : r 5 1 = nI N) (hN6 : N ≤ 6) (hok : okS (r 0)) (ix iy : Int32) : Mi l D (tY cI cQ cJ) yX4_rain wsX4_rain ({ frames := 5, cells := 0, slots := 0, locals := 115 } : Room) [.ref (a 0), .int ix, .int iy] (cM cI a r h) (cM cI a (raiB r N ix iy) h) (raiV r N ix iy) := by
  refine M_of (cc := cX4_rain) (maxL := 3) (ret := some .int) (Qc := fun A => va_Qi (fun (x : Int32) (_ : Unit) => x = raiV r N ix iy) (fun _ t => Wd D (cM cI a (raiB r N ix iy) h) t) A) (by decide) rfl (Nat.le_of_ble_eq_true rfl) ?_
  intro p e s m below meth c A ls hB hE hP hK hD hA hl
  obtain ⟨hx, hb, hr, hml, hts, hown, hlocks⟩ := hB
  have hS : va_S A s.heap s.heap [] := va_S.rf
  have hl : lv_has ls 3 [(0, .ref (a 0)), (1, .int ix), (2, .int iy)] := hl
  have hinX4 : ∀ w ∈ u_ws RX4 TX4 12, w ∈ wsX4_rain := by decide +kernel
  have fl25 := hts (.fieldLink RX4 25 "RoofDrainsModel" "thrown" "I") (by decide +kernel)
  refine lv_aload_n hx hb dX4_rain_0 rfl (lv_at hl 0 rfl) ?_
  refine lv_iconst (v := 0) hx hb dX4_rain_1 (by decide) ?_
  refine k_put (D := D) (ci := 4) (v := .int 0) (ty := .int) (C := RX4) (T := TX4) (N := 12) hx hb hts hinX4 tyX4 tyX4_ok nmX4 hown hK hP hD hS 0 rfl rfl 0 (by decide) fl25 (fun _ h9 => h9) rfl (by decide +kernel) rfl rfl (Nat.le_of_ble_eq_true rfl) (ws' := cM cI a (bp r 5 0 0) h) rfl dX4_rain_2 (fun H locs hP hD hS => ?_)
  refine lv_iload_n hx hb dX4_rain_5 rfl (lv_at hl 1 rfl) ?_
  refine lv_iconst (v := 0) hx hb dX4_rain_6 (by decide) ?_
  refine lv_bipush (v := 99) hx hb dX4_rain_7 (by decide) ?_
  refine k_calli (wc := ([] : va_W)) (w' := ([] : va_W)) (wn := cM cI a (bp r 5 0 0) h) (va_runS (As := [.int ix, .int 0, .int 99]) (rest := []) ⟨hx, hb, hml, hown, hts⟩ (mX4_in l D cI cQ cJ ix 0 99 _) (va_cwS 3 hts gX4_rain_X4_in rfl rfl rfl (by decide +kernel) ⟨Nat.le_of_ble_eq_true rfl, Nat.le_of_ble_eq_true rfl⟩) (k_preS (wc := ([] : va_W)) hE hK hP hD [] (by decide) rfl [.int ix, .int 0, .int 99]) rfl rfl hl.1 rfl (lv_room (Nat.le_of_ble_eq_true rfl)) dX4_rain_9 ⟨Nat.zero_le _, Nat.zero_le _⟩) hP hD hS hA [] rfl rfl rfl (fun H locs hP hD hS => ?_)
  refine lv_if_eq (tgt := 25) hx hb dX4_rain_12 (by decide) (fun c_1 => ?_) (fun c_1 => ?_)
  · skip
    refine lv_aload_n hx hb dX4_rain_25 rfl (lv_at hl 0 rfl) ?_
    refine lv_iconst (v := 1) hx hb dX4_rain_26 (by decide) ?_
    obtain ⟨r_2, er_2⟩ : ∃ z : rB, z = bp (bp r 5 0 0) 5 0 1 := ⟨_, rfl⟩
    have hm_3 := mX4_fails l D cI cQ cJ a (bp r 5 0 0) h 1
    rw [← er_2] at hm_3
    refine k_calli (wc := cM cI a (bp r 5 0 0) h) (w' := cM cI a r_2 h) (wn := cM cI a r_2 h) (va_runV (As := [.int 1]) (rest := []) ⟨hx, hb, hml, hown, hts⟩ (hm_3 _) (cwV 1 hts gX4_rain_X4_fails rfl rfl rfl (by decide +kernel) ⟨Nat.le_of_ble_eq_true rfl, Nat.le_of_ble_eq_true rfl⟩) (k_preV (wc := cM cI a (bp r 5 0 0) h) hE hK hP hD [0, 1, 2, 3, 4, 5] (by decide) rfl (ci := 4) (q0 := 0) rfl rfl [.int 1]) rfl rfl hl.1 rfl (lv_room (Nat.le_of_ble_eq_true rfl)) dX4_rain_27 ⟨Nat.zero_le _, Nat.zero_le _⟩) hP hD hS hA [0, 1, 2, 3, 4, 5] rfl rfl rfl (fun H locs hP hD hS => ?_)
    have e9 : (r_2 : rB) = raiB r N ix iy := by (replace er_2 := er_2.symm; subst er_2; simp only [raiV, raiB, if_pos c_1, ↓reduceIte])
    rw [e9] at hP
    exact k_iret hx hb hr hlocks hS hP dX4_rain_30 (by (replace er_2 := er_2.symm; subst er_2; simp only [raiV, raiB, if_pos c_1, ↓reduceIte]))
  · skip
    refine lv_iload_n hx hb dX4_rain_15 rfl (lv_at hl 2 rfl) ?_
    refine lv_iconst (v := 1) hx hb dX4_rain_16 (by decide) ?_
    refine lv_bipush (v := 60) hx hb dX4_rain_17 (by decide) ?_
    refine k_calli (wc := ([] : va_W)) (w' := ([] : va_W)) (wn := cM cI a (bp r 5 0 0) h) (va_runS (As := [.int iy, .int 1, .int 60]) (rest := []) ⟨hx, hb, hml, hown, hts⟩ (mX4_in l D cI cQ cJ iy 1 60 _) (va_cwS 3 hts gX4_rain_X4_in rfl rfl rfl (by decide +kernel) ⟨Nat.le_of_ble_eq_true rfl, Nat.le_of_ble_eq_true rfl⟩) (k_preS (wc := ([] : va_W)) hE hK hP hD [] (by decide) rfl [.int iy, .int 1, .int 60]) rfl rfl hl.1 rfl (lv_room (Nat.le_of_ble_eq_true rfl)) dX4_rain_19 ⟨Nat.zero_le _, Nat.zero_le _⟩) hP hD hS hA [] rfl rfl rfl (fun H locs hP hD hS => ?_)
    refine lv_if_ne (tgt := 31) hx hb dX4_rain_22 (by decide) (fun c_4 => ?_) (fun c_4 => ?_)
    · skip
      refine lv_aload_n hx hb dX4_rain_31 rfl (lv_at hl 0 rfl) ?_
      obtain ⟨r_5, er_5⟩ : ∃ z : rB, z = svB (bp r 5 0 0) N := ⟨_, rfl⟩
      have hm_6 := mX4_saves l D cI cQ cJ a (bp r 5 0 0) h N (by first | exact hN | exact (bp_ne (by decide)).trans hN) hN6
      rw [← er_5] at hm_6
      refine k_callv (wc := cM cI a (bp r 5 0 0) h) (w' := cM cI a r_5 h) (wn := cM cI a r_5 h) (va_runV (As := []) (rest := []) ⟨hx, hb, hml, hown, hts⟩ (hm_6 _) (cwV 0 hts gX4_rain_X4_saves rfl rfl rfl (by decide +kernel) ⟨Nat.le_of_ble_eq_true rfl, Nat.le_of_ble_eq_true rfl⟩) (k_preV (wc := cM cI a (bp r 5 0 0) h) hE hK hP hD [0, 1, 2, 3, 4, 5] (by decide) rfl (ci := 4) (q0 := 0) rfl rfl []) rfl rfl hl.1 rfl (lv_room (Nat.le_of_ble_eq_true rfl)) dX4_rain_32 ⟨Nat.zero_le _, Nat.zero_le _⟩) hP hD hS hA [0, 1, 2, 3, 4, 5] rfl rfl rfl (fun H locs hP hD hS => ?_)
      refine lv_aload_n hx hb dX4_rain_35 rfl (lv_at hl 0 rfl) ?_
      refine lv_iload_n hx hb dX4_rain_36 rfl (lv_at hl 1 rfl) ?_
      refine lv_iload_n hx hb dX4_rain_37 rfl (lv_at hl 2 rfl) ?_
      obtain ⟨r_7, er_7⟩ : ∃ z : rB, z = minsM iy.toNatClampNeg r_5 ix := ⟨_, rfl⟩
      have hm_8 := mX4_rains l D cI cQ cJ a r_5 h ix iy iy.toNatClampNeg rfl (by rw [er_5]; exact (svB_ok hok))
      rw [← er_7] at hm_8
      refine k_calli (wc := cM cI a r_5 h) (w' := cM cI a r_7 h) (wn := cM cI a r_7 h) (va_runV (As := [.int ix, .int iy]) (rest := []) ⟨hx, hb, hml, hown, hts⟩ (hm_8 _) (cwV 2 hts gX4_rain_X4_rains rfl rfl rfl (by decide +kernel) ⟨Nat.le_of_ble_eq_true rfl, Nat.le_of_ble_eq_true rfl⟩) (k_preV (wc := cM cI a r_5 h) hE hK hP hD [0, 1, 2, 3, 4, 5] (by decide) rfl (ci := 4) (q0 := 0) rfl rfl [.int ix, .int iy]) rfl rfl hl.1 rfl (lv_room (Nat.le_of_ble_eq_true rfl)) dX4_rain_38 ⟨Nat.zero_le _, Nat.zero_le _⟩) hP hD hS hA [0, 1, 2, 3, 4, 5] rfl rfl rfl (fun H locs hP hD hS => ?_)
      have e9 : (r_7 : rB) = raiB r N ix iy := by (replace er_7 := er_7.symm; subst er_7; replace er_5 := er_5.symm; subst er_5; simp only [raiV, raiB, if_neg c_1, if_neg c_4, ↓reduceIte])
      rw [e9] at hP
      exact k_iret hx hb hr hlocks hS hP dX4_rain_41 (by (replace er_7 := er_7.symm; subst er_7; replace er_5 := er_5.symm; subst er_5; simp only [raiV, raiB, if_neg c_1, if_neg c_4, ↓reduceIte]))
    · skip
      refine lv_aload_n hx hb dX4_rain_25 rfl (lv_at hl 0 rfl) ?_
      refine lv_iconst (v := 1) hx hb dX4_rain_26 (by decide) ?_
      obtain ⟨r_9, er_9⟩ : ∃ z : rB, z = bp (bp r 5 0 0) 5 0 1 := ⟨_, rfl⟩
      have hm_10 := mX4_fails l D cI cQ cJ a (bp r 5 0 0) h 1
      rw [← er_9] at hm_10
      refine k_calli (wc := cM cI a (bp r 5 0 0) h) (w' := cM cI a r_9 h) (wn := cM cI a r_9 h) (va_runV (As := [.int 1]) (rest := []) ⟨hx, hb, hml, hown, hts⟩ (hm_10 _) (cwV 1 hts gX4_rain_X4_fails rfl rfl rfl (by decide +kernel) ⟨Nat.le_of_ble_eq_true rfl, Nat.le_of_ble_eq_true rfl⟩) (k_preV (wc := cM cI a (bp r 5 0 0) h) hE hK hP hD [0, 1, 2, 3, 4, 5] (by decide) rfl (ci := 4) (q0 := 0) rfl rfl [.int 1]) rfl rfl hl.1 rfl (lv_room (Nat.le_of_ble_eq_true rfl)) dX4_rain_27 ⟨Nat.zero_le _, Nat.zero_le _⟩) hP hD hS hA [0, 1, 2, 3, 4, 5] rfl rfl rfl (fun H locs hP hD hS => ?_)
      have e9 : (r_9 : rB) = raiB r N ix iy := by (replace er_9 := er_9.symm; subst er_9; simp only [raiV, raiB, if_neg c_1, if_pos c_4, ↓reduceIte])
      rw [e9] at hP
      exact k_iret hx hb hr hlocks hS hP dX4_rain_30 (by (replace er_9 := er_9.symm; subst er_9; simp only [raiV, raiB, if_neg c_1, if_pos c_4, ↓reduceIte]))
