set_option maxHeartbeats 4000000 in
set_option maxRecDepth 100000 in
theorem mX4_append (l : Launch) (D : va_G) (cI cQ cJ : ClassId) (a : Nat → Nat) (r : rB) (h : Int64) (L : Nat) (hL : r 5 2 = nI L) (hL60 : L ≤ 60) (ix : Int32) : Mi l D (tY cI cQ cJ) yX4_append wsX4_append ({ frames := 1, cells := 0, slots := 0, locals := 22 } : Room) [.ref (a 0), .int ix] (cM cI a r h) (cM cI a (appB r L ix) h) (appV r L ix) := by
  refine M_of (cc := cX4_append) (maxL := 2) (ret := some .int) (Qc := fun A => va_Qi (fun (x : Int32) (_ : Unit) => x = appV r L ix) (fun _ t => Wd D (cM cI a (appB r L ix) h) t) A) (by decide) rfl (Nat.le_of_ble_eq_true rfl) ?_
  intro p e s m below meth c A ls hB hE hP hK hD hA hl
  obtain ⟨hx, hb, hr, hml, hts, hown, hlocks⟩ := hB
  have hS : va_S A s.heap s.heap [] := va_S.rf
  have hl : lv_has ls 2 [(0, .ref (a 0)), (1, .int ix)] := hl
  have hinX4 : ∀ w ∈ u_ws RX4 TX4 12, w ∈ wsX4_append := by decide +kernel
  have fl25 := hts (.fieldLink RX4 25 "RoofDrainsModel" "thrown" "I") (by decide +kernel)
  have fl93 := hts (.fieldLink RX4 93 "RoofDrainsModel" "length" "I") (by decide +kernel)
  have fl19 := hts (.fieldLink RX4 19 "RoofDrainsModel" "buffer" "[I") (by decide +kernel)
  by_cases h60 : L = 60
  · skip
    refine lv_aload_n hx hb dX4_append_0 rfl (lv_at hl 0 rfl) ?_
    refine lv_iconst (v := 0) hx hb dX4_append_1 (by decide) ?_
    refine k_put (D := D) (ci := 4) (v := .int 0) (ty := .int) (C := RX4) (T := TX4) (N := 12) hx hb hts hinX4 tyX4 tyX4_ok nmX4 hown hK hP hD hS 0 rfl rfl 0 (by decide) fl25 (fun _ h9 => h9) rfl (by decide +kernel) rfl rfl (Nat.le_of_ble_eq_true rfl) (ws' := cM cI a (bp r 5 0 0) h) rfl dX4_append_2 (fun H locs hP hD hS => ?_)
    refine lv_iload_n hx hb dX4_append_5 rfl (lv_at hl 1 rfl) ?_
    refine lv_bipush (v := 33) hx hb dX4_append_6 (by decide) ?_
    refine lv_bipush (v := 126) hx hb dX4_append_8 (by decide) ?_
    refine k_calli (wc := ([] : va_W)) (w' := ([] : va_W)) (wn := cM cI a (bp r 5 0 0) h) (va_runS (As := [.int ix, .int 33, .int 126]) (rest := []) ⟨hx, hb, hml, hown, hts⟩ (mX4_in l D cI cQ cJ ix 33 126 _) (va_cwS 3 hts gX4_append_X4_in rfl rfl rfl (by decide +kernel) ⟨Nat.le_of_ble_eq_true rfl, Nat.le_of_ble_eq_true rfl⟩) (k_preS (wc := ([] : va_W)) hE hK hP hD [] (by decide) rfl [.int ix, .int 33, .int 126]) rfl rfl hl.1 rfl (lv_room (Nat.le_of_ble_eq_true rfl)) dX4_append_10 ⟨Nat.zero_le _, Nat.zero_le _⟩) hP hD hS hA [] rfl rfl rfl (fun H locs hP hD hS => ?_)
    refine lv_if_ne (tgt := 22) hx hb dX4_append_13 (by decide) (fun c_1 => ?_) (fun c_1 => ?_)
    · skip
      refine lv_aload_n hx hb dX4_append_22 rfl (lv_at hl 0 rfl) ?_
      refine va_get (D := D) (ci := 4) (v := .int (nI L)) (C := RX4) (T := TX4) (N := 12) hx hb hts hinX4 hown hK hP 0 rfl rfl 6 (by decide) fl93 (fun _ h9 => h9) (congrArg (fun z => some (Value.int z)) ((((bp_ne (by omega)).trans (rfl))).trans (hL))) dX4_append_23 ?_
      refine lv_bipush (v := 60) hx hb dX4_append_26 (by decide) ?_
      refine lv_icmp_ne (tgt := 37) hx hb dX4_append_28 (by decide) (fun h9 => absurd (by rw [h60]; rfl) h9) (fun _ => ?_)
      refine lv_aload_n hx hb dX4_append_31 rfl (lv_at hl 0 rfl) ?_
      refine lv_iconst (v := 2) hx hb dX4_append_32 (by decide) ?_
      obtain ⟨r_2, er_2⟩ : ∃ z : rB, z = bp (bp r 5 0 0) 5 0 2 := ⟨_, rfl⟩
      have hm_3 := mX4_fails l D cI cQ cJ a (bp r 5 0 0) h 2
      rw [← er_2] at hm_3
      refine k_calli (wc := cM cI a (bp r 5 0 0) h) (w' := cM cI a r_2 h) (wn := cM cI a r_2 h) (va_runV (As := [.int 2]) (rest := []) ⟨hx, hb, hml, hown, hts⟩ (hm_3 _) (cwV 1 hts gX4_append_X4_fails rfl rfl rfl (by decide +kernel) ⟨Nat.le_of_ble_eq_true rfl, Nat.le_of_ble_eq_true rfl⟩) (k_preV (wc := cM cI a (bp r 5 0 0) h) hE hK hP hD [0, 1, 2, 3, 4, 5] (by decide) rfl (ci := 4) (q0 := 0) rfl rfl [.int 2]) rfl rfl hl.1 rfl (lv_room (Nat.le_of_ble_eq_true rfl)) dX4_append_33 ⟨Nat.zero_le _, Nat.zero_le _⟩) hP hD hS hA [0, 1, 2, 3, 4, 5] rfl rfl rfl (fun H locs hP hD hS => ?_)
      have e9 : (r_2 : rB) = appB r L ix := by (replace er_2 := er_2.symm; subst er_2; simp only [appV, appB, if_pos h60, if_neg c_1, ↓reduceIte])
      rw [e9] at hP
      exact k_iret hx hb hr hlocks hS hP dX4_append_36 (by (replace er_2 := er_2.symm; subst er_2; simp only [appV, appB, if_pos h60, if_neg c_1, ↓reduceIte]))
    · skip
      refine lv_aload_n hx hb dX4_append_16 rfl (lv_at hl 0 rfl) ?_
      refine lv_iconst (v := 1) hx hb dX4_append_17 (by decide) ?_
      obtain ⟨r_4, er_4⟩ : ∃ z : rB, z = bp (bp r 5 0 0) 5 0 1 := ⟨_, rfl⟩
      have hm_5 := mX4_fails l D cI cQ cJ a (bp r 5 0 0) h 1
      rw [← er_4] at hm_5
      refine k_calli (wc := cM cI a (bp r 5 0 0) h) (w' := cM cI a r_4 h) (wn := cM cI a r_4 h) (va_runV (As := [.int 1]) (rest := []) ⟨hx, hb, hml, hown, hts⟩ (hm_5 _) (cwV 1 hts gX4_append_X4_fails rfl rfl rfl (by decide +kernel) ⟨Nat.le_of_ble_eq_true rfl, Nat.le_of_ble_eq_true rfl⟩) (k_preV (wc := cM cI a (bp r 5 0 0) h) hE hK hP hD [0, 1, 2, 3, 4, 5] (by decide) rfl (ci := 4) (q0 := 0) rfl rfl [.int 1]) rfl rfl hl.1 rfl (lv_room (Nat.le_of_ble_eq_true rfl)) dX4_append_18 ⟨Nat.zero_le _, Nat.zero_le _⟩) hP hD hS hA [0, 1, 2, 3, 4, 5] rfl rfl rfl (fun H locs hP hD hS => ?_)
      have e9 : (r_4 : rB) = appB r L ix := by (replace er_4 := er_4.symm; subst er_4; simp only [appV, appB, if_pos h60, if_pos c_1, ↓reduceIte])
      rw [e9] at hP
      exact k_iret hx hb hr hlocks hS hP dX4_append_21 (by (replace er_4 := er_4.symm; subst er_4; simp only [appV, appB, if_pos h60, if_pos c_1, ↓reduceIte]))
  · skip
    refine lv_aload_n hx hb dX4_append_0 rfl (lv_at hl 0 rfl) ?_
    refine lv_iconst (v := 0) hx hb dX4_append_1 (by decide) ?_
    refine k_put (D := D) (ci := 4) (v := .int 0) (ty := .int) (C := RX4) (T := TX4) (N := 12) hx hb hts hinX4 tyX4 tyX4_ok nmX4 hown hK hP hD hS 0 rfl rfl 0 (by decide) fl25 (fun _ h9 => h9) rfl (by decide +kernel) rfl rfl (Nat.le_of_ble_eq_true rfl) (ws' := cM cI a (bp r 5 0 0) h) rfl dX4_append_2 (fun H locs hP hD hS => ?_)
    refine lv_iload_n hx hb dX4_append_5 rfl (lv_at hl 1 rfl) ?_
    refine lv_bipush (v := 33) hx hb dX4_append_6 (by decide) ?_
    refine lv_bipush (v := 126) hx hb dX4_append_8 (by decide) ?_
    refine k_calli (wc := ([] : va_W)) (w' := ([] : va_W)) (wn := cM cI a (bp r 5 0 0) h) (va_runS (As := [.int ix, .int 33, .int 126]) (rest := []) ⟨hx, hb, hml, hown, hts⟩ (mX4_in l D cI cQ cJ ix 33 126 _) (va_cwS 3 hts gX4_append_X4_in rfl rfl rfl (by decide +kernel) ⟨Nat.le_of_ble_eq_true rfl, Nat.le_of_ble_eq_true rfl⟩) (k_preS (wc := ([] : va_W)) hE hK hP hD [] (by decide) rfl [.int ix, .int 33, .int 126]) rfl rfl hl.1 rfl (lv_room (Nat.le_of_ble_eq_true rfl)) dX4_append_10 ⟨Nat.zero_le _, Nat.zero_le _⟩) hP hD hS hA [] rfl rfl rfl (fun H locs hP hD hS => ?_)
    refine lv_if_ne (tgt := 22) hx hb dX4_append_13 (by decide) (fun c_6 => ?_) (fun c_6 => ?_)
    · skip
      refine lv_aload_n hx hb dX4_append_22 rfl (lv_at hl 0 rfl) ?_
      refine va_get (D := D) (ci := 4) (v := .int (nI L)) (C := RX4) (T := TX4) (N := 12) hx hb hts hinX4 hown hK hP 0 rfl rfl 6 (by decide) fl93 (fun _ h9 => h9) (congrArg (fun z => some (Value.int z)) ((((bp_ne (by omega)).trans (rfl))).trans (hL))) dX4_append_23 ?_
      refine lv_bipush (v := 60) hx hb dX4_append_26 (by decide) ?_
      refine lv_icmp_ne (tgt := 37) hx hb dX4_append_28 (by decide) (fun _ => ?_) (fun h9 => absurd h9 (fun q9 => h60 ((nI_eq (a := L) (b := 60) (by omega) (by decide)).mp q9)))
      refine lv_aload_n hx hb dX4_append_37 rfl (lv_at hl 0 rfl) ?_
      refine va_get (D := D) (ci := 4) (v := .ref (a 4)) (C := RX4) (T := TX4) (N := 12) hx hb hts hinX4 hown hK hP 0 rfl rfl 5 (by decide) fl19 (fun _ h9 => h9) rfl dX4_append_38 ?_
      refine lv_aload_n hx hb dX4_append_41 rfl (lv_at hl 0 rfl) ?_
      refine va_get (D := D) (ci := 4) (v := .int (nI L)) (C := RX4) (T := TX4) (N := 12) hx hb hts hinX4 hown hK hP 0 rfl rfl 6 (by decide) fl93 (fun _ h9 => h9) (congrArg (fun z => some (Value.int z)) ((((bp_ne (by omega)).trans (rfl))).trans (hL))) dX4_append_42 ?_
      refine lv_iload_n hx hb dX4_append_45 rfl (lv_at hl 1 rfl) ?_
      refine k_iast (k := L) (ws' := cM cI a (bp (bp r 5 0 0) 3 L ix) h) hx hb hK hP hD hS 4 0 rfl rfl (vp_in_nI (n := L) (by omega) (by omega)) (nI_clamp (n := L) (by omega)) rfl dX4_append_46 (fun H locs hP hD hS => ?_)
      refine lv_aload_n hx hb dX4_append_47 rfl (lv_at hl 0 rfl) ?_
      refine lv_dup hx hb dX4_append_48 rfl ?_
      refine va_get (D := D) (ci := 4) (v := .int (nI L)) (C := RX4) (T := TX4) (N := 12) hx hb hts hinX4 hown hK hP 0 rfl rfl 6 (by decide) fl93 (fun _ h9 => h9) (congrArg (fun z => some (Value.int z)) ((((bp_rw (by decide)).trans ((bp_ne (by omega)).trans (rfl)))).trans (hL))) dX4_append_49 ?_
      refine lv_iconst (v := 1) hx hb dX4_append_52 (by decide) ?_
      refine lv_iadd hx hb dX4_append_53 ?_
      refine lv_eqi (y := nI (L + 1)) (nI_add L 1) ?_
      refine k_put (D := D) (ci := 4) (v := .int (nI (L + 1))) (ty := .int) (C := RX4) (T := TX4) (N := 12) hx hb hts hinX4 tyX4 tyX4_ok nmX4 hown hK hP hD hS 0 rfl rfl 6 (by decide) fl93 (fun _ h9 => h9) rfl (by decide +kernel) rfl rfl (Nat.le_of_ble_eq_true rfl) (ws' := cM cI a (bp (bp (bp r 5 0 0) 3 L ix) 5 2 (nI (L + 1))) h) rfl dX4_append_54 (fun H locs hP hD hS => ?_)
      refine lv_aload_n hx hb dX4_append_57 rfl (lv_at hl 0 rfl) ?_
      refine va_get (D := D) (ci := 4) (v := .int (nI (L + 1))) (C := RX4) (T := TX4) (N := 12) hx hb hts hinX4 hown hK hP 0 rfl rfl 6 (by decide) fl93 (fun _ h9 => h9) (congrArg (fun z => some (Value.int z)) (bp_eq)) dX4_append_58 ?_
      have e9 : (bp (bp (bp r 5 0 0) 3 L ix) 5 2 (nI (L + 1)) : rB) = appB r L ix := by (simp only [appV, appB, if_neg h60, if_neg c_6, ↓reduceIte])
      rw [e9] at hP
      exact k_iret hx hb hr hlocks hS hP dX4_append_61 (by (simp only [appV, appB, if_neg h60, if_neg c_6, ↓reduceIte]))
    · skip
      refine lv_aload_n hx hb dX4_append_16 rfl (lv_at hl 0 rfl) ?_
      refine lv_iconst (v := 1) hx hb dX4_append_17 (by decide) ?_
      obtain ⟨r_7, er_7⟩ : ∃ z : rB, z = bp (bp r 5 0 0) 5 0 1 := ⟨_, rfl⟩
      have hm_8 := mX4_fails l D cI cQ cJ a (bp r 5 0 0) h 1
      rw [← er_7] at hm_8
      refine k_calli (wc := cM cI a (bp r 5 0 0) h) (w' := cM cI a r_7 h) (wn := cM cI a r_7 h) (va_runV (As := [.int 1]) (rest := []) ⟨hx, hb, hml, hown, hts⟩ (hm_8 _) (cwV 1 hts gX4_append_X4_fails rfl rfl rfl (by decide +kernel) ⟨Nat.le_of_ble_eq_true rfl, Nat.le_of_ble_eq_true rfl⟩) (k_preV (wc := cM cI a (bp r 5 0 0) h) hE hK hP hD [0, 1, 2, 3, 4, 5] (by decide) rfl (ci := 4) (q0 := 0) rfl rfl [.int 1]) rfl rfl hl.1 rfl (lv_room (Nat.le_of_ble_eq_true rfl)) dX4_append_18 ⟨Nat.zero_le _, Nat.zero_le _⟩) hP hD hS hA [0, 1, 2, 3, 4, 5] rfl rfl rfl (fun H locs hP hD hS => ?_)
      have e9 : (r_7 : rB) = appB r L ix := by (replace er_7 := er_7.symm; subst er_7; simp only [appV, appB, if_neg h60, if_pos c_6, ↓reduceIte])
      rw [e9] at hP
      exact k_iret hx hb hr hlocks hS hP dX4_append_21 (by (replace er_7 := er_7.symm; subst er_7; simp only [appV, appB, if_neg h60, if_pos c_6, ↓reduceIte]))
