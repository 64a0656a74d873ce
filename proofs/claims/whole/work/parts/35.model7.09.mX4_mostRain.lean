set_option maxHeartbeats 4000000 in
set_option maxRecDepth 100000 in
theorem mX4_mostRain (l : Launch) (D : va_G) (cI cQ cJ : ClassId) (a : Nat → Nat) (r : rB) (h : Int64) (hok : okS (r 0)) (ix : Int32) : Mi l D (tY cI cQ cJ) yX4_mostRain wsX4_mostRain ({ frames := 6, cells := 0, slots := 0, locals := 138 } : Room) [.ref (a 0), .int ix] (cM cI a r h) (cM cI a (mraB r ix) h) (mraV r ix) := by
  refine M_of (cc := cX4_mostRain) (maxL := 2) (ret := some .int) (Qc := fun A => va_Qi (fun (x : Int32) (_ : Unit) => x = mraV r ix) (fun _ t => Wd D (cM cI a (mraB r ix) h) t) A) (by decide) rfl (Nat.le_of_ble_eq_true rfl) ?_
  intro p e s m below meth c A ls hB hE hP hK hD hA hl
  obtain ⟨hx, hb, hr, hml, hts, hown, hlocks⟩ := hB
  have hS : va_S A s.heap s.heap [] := va_S.rf
  have hl : lv_has ls 2 [(0, .ref (a 0)), (1, .int ix)] := hl
  have hinX4 : ∀ w ∈ u_ws RX4 TX4 12, w ∈ wsX4_mostRain := by decide +kernel
  have fl25 := hts (.fieldLink RX4 25 "RoofDrainsModel" "thrown" "I") (by decide +kernel)
  refine lv_aload_n hx hb dX4_mostRain_0 rfl (lv_at hl 0 rfl) ?_
  refine lv_iconst (v := 0) hx hb dX4_mostRain_1 (by decide) ?_
  refine k_put (D := D) (ci := 4) (v := .int 0) (ty := .int) (C := RX4) (T := TX4) (N := 12) hx hb hts hinX4 tyX4 tyX4_ok nmX4 hown hK hP hD hS 0 rfl rfl 0 (by decide) fl25 (fun _ h9 => h9) rfl (by decide +kernel) rfl rfl (Nat.le_of_ble_eq_true rfl) (ws' := cM cI a (bp r 5 0 0) h) rfl dX4_mostRain_2 (fun H locs hP hD hS => ?_)
  refine lv_iload_n hx hb dX4_mostRain_5 rfl (lv_at hl 1 rfl) ?_
  refine lv_iconst (v := 1) hx hb dX4_mostRain_6 (by decide) ?_
  refine lv_bipush (v := 60) hx hb dX4_mostRain_7 (by decide) ?_
  refine k_calli (wc := ([] : va_W)) (w' := ([] : va_W)) (wn := cM cI a (bp r 5 0 0) h) (va_runS (As := [.int ix, .int 1, .int 60]) (rest := []) ⟨hx, hb, hml, hown, hts⟩ (mX4_in l D cI cQ cJ ix 1 60 _) (va_cwS 3 hts gX4_mostRain_X4_in rfl rfl rfl (by decide +kernel) ⟨Nat.le_of_ble_eq_true rfl, Nat.le_of_ble_eq_true rfl⟩) (k_preS (wc := ([] : va_W)) hE hK hP hD [] (by decide) rfl [.int ix, .int 1, .int 60]) rfl rfl hl.1 rfl (lv_room (Nat.le_of_ble_eq_true rfl)) dX4_mostRain_9 ⟨Nat.zero_le _, Nat.zero_le _⟩) hP hD hS hA [] rfl rfl rfl (fun H locs hP hD hS => ?_)
  refine lv_if_eq (tgt := 23) hx hb dX4_mostRain_12 (by decide) (fun c_1 => ?_) (fun c_1 => ?_)
  · skip
    refine lv_aload_n hx hb dX4_mostRain_23 rfl (lv_at hl 0 rfl) ?_
    refine lv_iconst (v := 1) hx hb dX4_mostRain_24 (by decide) ?_
    obtain ⟨r_2, er_2⟩ : ∃ z : rB, z = bp (bp r 5 0 0) 5 0 1 := ⟨_, rfl⟩
    have hm_3 := mX4_fails l D cI cQ cJ a (bp r 5 0 0) h 1
    rw [← er_2] at hm_3
    refine k_calli (wc := cM cI a (bp r 5 0 0) h) (w' := cM cI a r_2 h) (wn := cM cI a r_2 h) (va_runV (As := [.int 1]) (rest := []) ⟨hx, hb, hml, hown, hts⟩ (hm_3 _) (cwV 1 hts gX4_mostRain_X4_fails rfl rfl rfl (by decide +kernel) ⟨Nat.le_of_ble_eq_true rfl, Nat.le_of_ble_eq_true rfl⟩) (k_preV (wc := cM cI a (bp r 5 0 0) h) hE hK hP hD [0, 1, 2, 3, 4, 5] (by decide) rfl (ci := 4) (q0 := 0) rfl rfl [.int 1]) rfl rfl hl.1 rfl (lv_room (Nat.le_of_ble_eq_true rfl)) dX4_mostRain_25 ⟨Nat.zero_le _, Nat.zero_le _⟩) hP hD hS hA [0, 1, 2, 3, 4, 5] rfl rfl rfl (fun H locs hP hD hS => ?_)
    have e9 : (r_2 : rB) = mraB r ix := by (replace er_2 := er_2.symm; subst er_2; first | with_reducible rfl | simp only [mraV, mraB, if_pos c_1, ↓reduceIte])
    rw [e9] at hP
    exact k_iret hx hb hr hlocks hS hP dX4_mostRain_28 (by (replace er_2 := er_2.symm; subst er_2; first | with_reducible rfl | simp only [mraV, mraB, if_pos c_1, ↓reduceIte]))
  · skip
    refine lv_aload_n hx hb dX4_mostRain_15 rfl (lv_at hl 0 rfl) ?_
    refine lv_iload_n hx hb dX4_mostRain_16 rfl (lv_at hl 1 rfl) ?_
    obtain ⟨r_4, er_4⟩ : ∃ z : rB, z = asd (bp r 5 0 0) := ⟨_, rfl⟩
    have hm_5 := mX4_greatestRain l D cI cQ cJ a (bp r 5 0 0) h ix ix.toNatClampNeg rfl hok
    rw [← er_4] at hm_5
    refine k_calli (wc := cM cI a (bp r 5 0 0) h) (w' := cM cI a r_4 h) (wn := cM cI a r_4 h) (va_runV (As := [.int ix]) (rest := []) ⟨hx, hb, hml, hown, hts⟩ (hm_5 _) (cwV 1 hts gX4_mostRain_X4_greatestRain rfl rfl rfl (by decide +kernel) ⟨Nat.le_of_ble_eq_true rfl, Nat.le_of_ble_eq_true rfl⟩) (k_preV (wc := cM cI a (bp r 5 0 0) h) hE hK hP hD [0, 1, 2, 3, 4, 5] (by decide) rfl (ci := 4) (q0 := 0) rfl rfl [.int ix]) rfl rfl hl.1 rfl (lv_room (Nat.le_of_ble_eq_true rfl)) dX4_mostRain_17 ⟨Nat.zero_le _, Nat.zero_le _⟩) hP hD hS hA [0, 1, 2, 3, 4, 5] rfl rfl rfl (fun H locs hP hD hS => ?_)
    refine lv_goto (tgt := 28) hx hb dX4_mostRain_20 (by decide) ?_
    have e9 : (r_4 : rB) = mraB r ix := by (replace er_4 := er_4.symm; subst er_4; first | with_reducible rfl | simp only [mraV, mraB, if_neg c_1, ↓reduceIte])
    rw [e9] at hP
    exact k_iret hx hb hr hlocks hS hP dX4_mostRain_28 (by (replace er_4 := er_4.symm; subst er_4; first | with_reducible rfl | simp only [mraV, mraB, if_neg c_1, ↓reduceIte]))
