set_option maxHeartbeats 4000000 in
set_option maxRecDepth 100000 in
theorem mX4_gutter (l : Launch) (D : va_G) (cI cQ cJ : ClassId) (a : Nat → Nat) (r : rB) (h : Int64) (N : Nat) (hN : r 5 1 = nI N) (hN6 : N ≤ 6) (ip ix iy : Int32) : Mi l D (tY cI cQ cJ) yX4_gutter wsX4_gutter ({ frames := 2, cells := 0, slots := 0, locals := 42 } : Room) [.ref (a 0), .int ip, .int ix, .int iy] (cM cI a r h) (cM cI a (gutB r N ip ix iy) h) (gutV r N ip ix iy) := by
  refine M_of (cc := cX4_gutter) (maxL := 5) (ret := some .int) (Qc := fun A => va_Qi (fun (x : Int32) (_ : Unit) => x = gutV r N ip ix iy) (fun _ t => Wd D (cM cI a (gutB r N ip ix iy) h) t) A) (by decide) rfl (Nat.le_of_ble_eq_true rfl) ?_
  intro p e s m below meth c A ls hB hE hP hK hD hA hl
  obtain ⟨hx, hb, hr, hml, hts, hown, hlocks⟩ := hB
  have hS : va_S A s.heap s.heap [] := va_S.rf
  have hl : lv_has ls 5 [(0, .ref (a 0)), (1, .int ip), (2, .int ix), (3, .int iy)] := hl
  have hinX4 : ∀ w ∈ u_ws RX4 TX4 12, w ∈ wsX4_gutter := by decide +kernel
  have fl25 := hts (.fieldLink RX4 25 "RoofDrainsModel" "thrown" "I") (by decide +kernel)
  have fl7 := hts (.fieldLink RX4 7 "RoofDrainsModel" "s" "[I") (by decide +kernel)
  refine lv_aload_n hx hb dX4_gutter_0 rfl (lv_at hl 0 rfl) ?_
  refine lv_iconst (v := 0) hx hb dX4_gutter_1 (by decide) ?_
  refine k_put (D := D) (ci := 4) (v := .int 0) (ty := .int) (C := RX4) (T := TX4) (N := 12) hx hb hts hinX4 tyX4 tyX4_ok nmX4 hown hK hP hD hS 0 rfl rfl 0 (by decide) fl25 (fun _ h9 => h9) rfl (by decide +kernel) rfl rfl (Nat.le_of_ble_eq_true rfl) (ws' := cM cI a (bp r 5 0 0) h) rfl dX4_gutter_2 (fun H locs hP hD hS => ?_)
  refine lv_iload_n hx hb dX4_gutter_5 rfl (lv_at hl 1 rfl) ?_
  refine k_calli (wc := ([] : va_W)) (w' := ([] : va_W)) (wn := cM cI a (bp r 5 0 0) h) (va_runS (As := [.int ip]) (rest := []) ⟨hx, hb, hml, hown, hts⟩ (mX4_isOne l D cI cQ cJ ip _) (va_cwS 1 hts gX4_gutter_X4_isOne rfl rfl rfl (by decide +kernel) ⟨Nat.le_of_ble_eq_true rfl, Nat.le_of_ble_eq_true rfl⟩) (k_preS (wc := ([] : va_W)) hE hK hP hD [] (by decide) rfl [.int ip]) rfl rfl hl.1 rfl (lv_room (Nat.le_of_ble_eq_true rfl)) dX4_gutter_6 ⟨Nat.zero_le _, Nat.zero_le _⟩) hP hD hS hA [] rfl rfl rfl (fun H locs hP hD hS => ?_)
  refine lv_if_ne (tgt := 18) hx hb dX4_gutter_9 (by decide) (fun c_1 => ?_) (fun c_1 => ?_)
  · skip
    obtain ⟨i, hi, ei⟩ := zW_ex (n := 6) rfl rfl c_1
    subst ei
    have hcii : (nI i).toNatClampNeg = i := nI_clamp (by omega)
    refine lv_iload_n hx hb dX4_gutter_18 rfl (lv_at hl 2 rfl) ?_
    refine lv_iconst (v := 1) hx hb dX4_gutter_19 (by decide) ?_
    refine lv_sipush (v := 500) hx hb dX4_gutter_20 (by decide) ?_
    refine k_calli (wc := ([] : va_W)) (w' := ([] : va_W)) (wn := cM cI a (bp r 5 0 0) h) (va_runS (As := [.int ix, .int 1, .int 500]) (rest := []) ⟨hx, hb, hml, hown, hts⟩ (mX4_in l D cI cQ cJ ix 1 500 _) (va_cwS 3 hts gX4_gutter_X4_in rfl rfl rfl (by decide +kernel) ⟨Nat.le_of_ble_eq_true rfl, Nat.le_of_ble_eq_true rfl⟩) (k_preS (wc := ([] : va_W)) hE hK hP hD [] (by decide) rfl [.int ix, .int 1, .int 500]) rfl rfl hl.1 rfl (lv_room (Nat.le_of_ble_eq_true rfl)) dX4_gutter_23 ⟨Nat.zero_le _, Nat.zero_le _⟩) hP hD hS hA [] rfl rfl rfl (fun H locs hP hD hS => ?_)
    refine lv_if_eq (tgt := 39) hx hb dX4_gutter_26 (by decide) (fun c_2 => ?_) (fun c_2 => ?_)
    · skip
      refine lv_aload_n hx hb dX4_gutter_39 rfl (lv_at hl 0 rfl) ?_
      refine lv_iconst (v := 2) hx hb dX4_gutter_40 (by decide) ?_
      obtain ⟨r_3, er_3⟩ : ∃ z : rB, z = bp (bp r 5 0 0) 5 0 2 := ⟨_, rfl⟩
      have hm_4 := mX4_fails l D cI cQ cJ a (bp r 5 0 0) h 2
      rw [← er_3] at hm_4
      refine k_calli (wc := cM cI a (bp r 5 0 0) h) (w' := cM cI a r_3 h) (wn := cM cI a r_3 h) (va_runV (As := [.int 2]) (rest := []) ⟨hx, hb, hml, hown, hts⟩ (hm_4 _) (cwV 1 hts gX4_gutter_X4_fails rfl rfl rfl (by decide +kernel) ⟨Nat.le_of_ble_eq_true rfl, Nat.le_of_ble_eq_true rfl⟩) (k_preV (wc := cM cI a (bp r 5 0 0) h) hE hK hP hD [0, 1, 2, 3, 4, 5] (by decide) rfl (ci := 4) (q0 := 0) rfl rfl [.int 2]) rfl rfl hl.1 rfl (lv_room (Nat.le_of_ble_eq_true rfl)) dX4_gutter_41 ⟨Nat.zero_le _, Nat.zero_le _⟩) hP hD hS hA [0, 1, 2, 3, 4, 5] rfl rfl rfl (fun H locs hP hD hS => ?_)
      have e9 : (r_3 : rB) = gutB r N (nI i) ix iy := by (replace er_3 := er_3.symm; subst er_3; simp only [gutV, gutB, if_neg c_1, hcii, if_pos c_2, ↓reduceIte])
      rw [e9] at hP
      exact k_iret hx hb hr hlocks hS hP dX4_gutter_44 (by (replace er_3 := er_3.symm; subst er_3; simp only [gutV, gutB, if_neg c_1, hcii, if_pos c_2, ↓reduceIte]))
    · skip
      refine lv_iload_n hx hb dX4_gutter_29 rfl (lv_at hl 3 rfl) ?_
      refine lv_iconst (v := 0) hx hb dX4_gutter_30 (by decide) ?_
      refine lv_bipush (v := 99) hx hb dX4_gutter_31 (by decide) ?_
      refine k_calli (wc := ([] : va_W)) (w' := ([] : va_W)) (wn := cM cI a (bp r 5 0 0) h) (va_runS (As := [.int iy, .int 0, .int 99]) (rest := []) ⟨hx, hb, hml, hown, hts⟩ (mX4_in l D cI cQ cJ iy 0 99 _) (va_cwS 3 hts gX4_gutter_X4_in rfl rfl rfl (by decide +kernel) ⟨Nat.le_of_ble_eq_true rfl, Nat.le_of_ble_eq_true rfl⟩) (k_preS (wc := ([] : va_W)) hE hK hP hD [] (by decide) rfl [.int iy, .int 0, .int 99]) rfl rfl hl.1 rfl (lv_room (Nat.le_of_ble_eq_true rfl)) dX4_gutter_33 ⟨Nat.zero_le _, Nat.zero_le _⟩) hP hD hS hA [] rfl rfl rfl (fun H locs hP hD hS => ?_)
      refine lv_if_ne (tgt := 45) hx hb dX4_gutter_36 (by decide) (fun c_5 => ?_) (fun c_5 => ?_)
      · skip
        refine lv_aload_n hx hb dX4_gutter_45 rfl (lv_at hl 0 rfl) ?_
        obtain ⟨r_6, er_6⟩ : ∃ z : rB, z = svB (bp r 5 0 0) N := ⟨_, rfl⟩
        have hm_7 := mX4_saves l D cI cQ cJ a (bp r 5 0 0) h N (by first | exact hN | exact (bp_ne (by decide)).trans hN) hN6
        rw [← er_6] at hm_7
        refine k_callv (wc := cM cI a (bp r 5 0 0) h) (w' := cM cI a r_6 h) (wn := cM cI a r_6 h) (va_runV (As := []) (rest := []) ⟨hx, hb, hml, hown, hts⟩ (hm_7 _) (cwV 0 hts gX4_gutter_X4_saves rfl rfl rfl (by decide +kernel) ⟨Nat.le_of_ble_eq_true rfl, Nat.le_of_ble_eq_true rfl⟩) (k_preV (wc := cM cI a (bp r 5 0 0) h) hE hK hP hD [0, 1, 2, 3, 4, 5] (by decide) rfl (ci := 4) (q0 := 0) rfl rfl []) rfl rfl hl.1 rfl (lv_room (Nat.le_of_ble_eq_true rfl)) dX4_gutter_46 ⟨Nat.zero_le _, Nat.zero_le _⟩) hP hD hS hA [0, 1, 2, 3, 4, 5] rfl rfl rfl (fun H locs hP hD hS => ?_)
        refine lv_aload_n hx hb dX4_gutter_49 rfl (lv_at hl 0 rfl) ?_
        refine lv_iload_n hx hb dX4_gutter_50 rfl (lv_at hl 1 rfl) ?_
        refine lv_iconst (v := 0) hx hb dX4_gutter_51 (by decide) ?_
        refine k_calli (wc := cM cI a r_6 h) (w' := cM cI a r_6 h) (wn := cM cI a r_6 h) (va_runV (As := [.int (nI i), .int 0]) (rest := []) ⟨hx, hb, hml, hown, hts⟩ (mX4_of l D cI cQ cJ a r_6 h (nI i) i 0 rfl (by omega) (by omega) _) (cwV 2 hts gX4_gutter_X4_of rfl rfl rfl (by decide +kernel) ⟨Nat.le_of_ble_eq_true rfl, Nat.le_of_ble_eq_true rfl⟩) (k_preV (wc := cM cI a r_6 h) hE hK hP hD [0, 1, 2, 3, 4, 5] (by decide) rfl (ci := 4) (q0 := 0) rfl rfl [.int (nI i), .int 0]) rfl rfl hl.1 rfl (lv_room (Nat.le_of_ble_eq_true rfl)) dX4_gutter_52 ⟨Nat.zero_le _, Nat.zero_le _⟩) hP hD hS hA [0, 1, 2, 3, 4, 5] rfl rfl rfl (fun H locs hP hD hS => ?_)
        refine lv_topi (fun v4_8 ev4_8 => ?_)
        refine lv_istore (lv' := [(4, .int v4_8), (0, .ref (a 0)), (1, .int (nI i)), (2, .int ix), (3, .int iy)]) hx hb dX4_gutter_55 hl (by decide) rfl (fun ls hl => ?_)
        refine lv_aload_n hx hb dX4_gutter_57 rfl (lv_at hl 1 rfl) ?_
        refine va_get (D := D) (ci := 4) (v := .ref (a 1)) (C := RX4) (T := TX4) (N := 12) hx hb hts hinX4 hown hK hP 0 rfl rfl 1 (by decide) fl7 (fun _ h9 => h9) rfl dX4_gutter_58 ?_
        refine lv_bipush (v := 33) hx hb dX4_gutter_61 (by decide) ?_
        refine lv_bipush (v := 7) hx hb dX4_gutter_63 (by decide) ?_
        refine lv_iload_n hx hb dX4_gutter_65 rfl (lv_at hl 2 rfl) ?_
        refine lv_imul hx hb dX4_gutter_66 ?_
        refine lv_eqi (y := nI (7 * i)) (pk_mul 7 i) ?_
        refine lv_iadd hx hb dX4_gutter_67 ?_
        refine lv_eqi (y := nI (33 + (7 * i))) (nI_add 33 (7 * i)) ?_
        refine lv_iconst (v := 0) hx hb dX4_gutter_68 (by decide) ?_
        refine lv_iadd hx hb dX4_gutter_69 ?_
        refine lv_eqi (y := nI ((33 + 7 * i) + 0)) (nI_add (33 + 7 * i) 0) ?_
        refine lv_iload_n hx hb dX4_gutter_70 rfl (lv_at hl 3 rfl) ?_
        refine k_iast (k := 33 + 7 * i + 0) (ws' := cM cI a (bp r_6 0 (33 + 7 * i + 0) ix) h) hx hb hK hP hD hS 1 0 rfl rfl (vp_in_nI (n := 33 + 7 * i + 0) (by omega) (by omega)) (nI_clamp (n := 33 + 7 * i + 0) (by omega)) rfl dX4_gutter_71 (fun H locs hP hD hS => ?_)
        refine lv_aload_n hx hb dX4_gutter_72 rfl (lv_at hl 1 rfl) ?_
        refine va_get (D := D) (ci := 4) (v := .ref (a 1)) (C := RX4) (T := TX4) (N := 12) hx hb hts hinX4 hown hK hP 0 rfl rfl 1 (by decide) fl7 (fun _ h9 => h9) rfl dX4_gutter_73 ?_
        refine lv_bipush (v := 33) hx hb dX4_gutter_76 (by decide) ?_
        refine lv_bipush (v := 7) hx hb dX4_gutter_78 (by decide) ?_
        refine lv_iload_n hx hb dX4_gutter_80 rfl (lv_at hl 2 rfl) ?_
        refine lv_imul hx hb dX4_gutter_81 ?_
        refine lv_eqi (y := nI (7 * i)) (pk_mul 7 i) ?_
        refine lv_iadd hx hb dX4_gutter_82 ?_
        refine lv_eqi (y := nI (33 + (7 * i))) (nI_add 33 (7 * i)) ?_
        refine lv_iconst (v := 1) hx hb dX4_gutter_83 (by decide) ?_
        refine lv_iadd hx hb dX4_gutter_84 ?_
        refine lv_eqi (y := nI ((33 + 7 * i) + 1)) (nI_add (33 + 7 * i) 1) ?_
        refine lv_iload_n hx hb dX4_gutter_85 rfl (lv_at hl 4 rfl) ?_
        refine k_iast (k := 33 + 7 * i + 1) (ws' := cM cI a (bp (bp r_6 0 (33 + 7 * i + 0) ix) 0 (33 + 7 * i + 1) iy) h) hx hb hK hP hD hS 1 0 rfl rfl (vp_in_nI (n := 33 + 7 * i + 1) (by omega) (by omega)) (nI_clamp (n := 33 + 7 * i + 1) (by omega)) rfl dX4_gutter_86 (fun H locs hP hD hS => ?_)
        refine lv_iload hx hb dX4_gutter_87 (lv_at hl 0 rfl) ?_
        have e9 : (bp (bp r_6 0 (33 + 7 * i + 0) ix) 0 (33 + 7 * i + 1) iy : rB) = gutB r N (nI i) ix iy := by (replace ev4_8 := ev4_8.symm; subst ev4_8; replace er_6 := er_6.symm; subst er_6; simp only [gutV, gutB, if_neg c_1, hcii, if_neg c_2, if_neg c_5, ↓reduceIte])
        rw [e9] at hP
        exact k_iret hx hb hr hlocks hS hP dX4_gutter_89 (by (replace ev4_8 := ev4_8.symm; subst ev4_8; replace er_6 := er_6.symm; subst er_6; simp only [gutV, gutB, if_neg c_1, hcii, if_neg c_2, if_neg c_5, ↓reduceIte]))
      · skip
        refine lv_aload_n hx hb dX4_gutter_39 rfl (lv_at hl 0 rfl) ?_
        refine lv_iconst (v := 2) hx hb dX4_gutter_40 (by decide) ?_
        obtain ⟨r_9, er_9⟩ : ∃ z : rB, z = bp (bp r 5 0 0) 5 0 2 := ⟨_, rfl⟩
        have hm_10 := mX4_fails l D cI cQ cJ a (bp r 5 0 0) h 2
        rw [← er_9] at hm_10
        refine k_calli (wc := cM cI a (bp r 5 0 0) h) (w' := cM cI a r_9 h) (wn := cM cI a r_9 h) (va_runV (As := [.int 2]) (rest := []) ⟨hx, hb, hml, hown, hts⟩ (hm_10 _) (cwV 1 hts gX4_gutter_X4_fails rfl rfl rfl (by decide +kernel) ⟨Nat.le_of_ble_eq_true rfl, Nat.le_of_ble_eq_true rfl⟩) (k_preV (wc := cM cI a (bp r 5 0 0) h) hE hK hP hD [0, 1, 2, 3, 4, 5] (by decide) rfl (ci := 4) (q0 := 0) rfl rfl [.int 2]) rfl rfl hl.1 rfl (lv_room (Nat.le_of_ble_eq_true rfl)) dX4_gutter_41 ⟨Nat.zero_le _, Nat.zero_le _⟩) hP hD hS hA [0, 1, 2, 3, 4, 5] rfl rfl rfl (fun H locs hP hD hS => ?_)
        have e9 : (r_9 : rB) = gutB r N (nI i) ix iy := by (replace er_9 := er_9.symm; subst er_9; simp only [gutV, gutB, if_neg c_1, hcii, if_neg c_2, if_pos c_5, ↓reduceIte])
        rw [e9] at hP
        exact k_iret hx hb hr hlocks hS hP dX4_gutter_44 (by (replace er_9 := er_9.symm; subst er_9; simp only [gutV, gutB, if_neg c_1, hcii, if_neg c_2, if_pos c_5, ↓reduceIte]))
  · skip
    refine lv_aload_n hx hb dX4_gutter_12 rfl (lv_at hl 0 rfl) ?_
    refine lv_iconst (v := 1) hx hb dX4_gutter_13 (by decide) ?_
    obtain ⟨r_11, er_11⟩ : ∃ z : rB, z = bp (bp r 5 0 0) 5 0 1 := ⟨_, rfl⟩
    have hm_12 := mX4_fails l D cI cQ cJ a (bp r 5 0 0) h 1
    rw [← er_11] at hm_12
    refine k_calli (wc := cM cI a (bp r 5 0 0) h) (w' := cM cI a r_11 h) (wn := cM cI a r_11 h) (va_runV (As := [.int 1]) (rest := []) ⟨hx, hb, hml, hown, hts⟩ (hm_12 _) (cwV 1 hts gX4_gutter_X4_fails rfl rfl rfl (by decide +kernel) ⟨Nat.le_of_ble_eq_true rfl, Nat.le_of_ble_eq_true rfl⟩) (k_preV (wc := cM cI a (bp r 5 0 0) h) hE hK hP hD [0, 1, 2, 3, 4, 5] (by decide) rfl (ci := 4) (q0 := 0) rfl rfl [.int 1]) rfl rfl hl.1 rfl (lv_room (Nat.le_of_ble_eq_true rfl)) dX4_gutter_14 ⟨Nat.zero_le _, Nat.zero_le _⟩) hP hD hS hA [0, 1, 2, 3, 4, 5] rfl rfl rfl (fun H locs hP hD hS => ?_)
    have e9 : (r_11 : rB) = gutB r N ip ix iy := by (replace er_11 := er_11.symm; subst er_11; simp only [gutV, gutB, if_pos c_1, ↓reduceIte])
    rw [e9] at hP
    exact k_iret hx hb hr hlocks hS hP dX4_gutter_17 (by (replace er_11 := er_11.symm; subst er_11; simp only [gutV, gutB, if_pos c_1, ↓reduceIte]))
