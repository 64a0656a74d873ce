set_option maxHeartbeats 4000000 in
set_option maxRecDepth 100000 in
theorem mX4_valley (l : Launch) (D : va_G) (cI cQ cJ : ClassId) (a : Nat → Nat) (r : rB) (h : Int64) (N : Nat) (hN : r 5 1 = nI N) (hN6 : N ≤ 6) (hok : okS (r 0)) (hac : ∀ j, j < 6 → chS (bp r 5 0 0) 6 (nI j)) (ix iy : Int32) : Mi l D (tY cI cQ cJ) yX4_valley wsX4_valley ({ frames := 2, cells := 0, slots := 0, locals := 45 } : Room) [.ref (a 0), .int ix, .int iy] (cM cI a r h) (cM cI a (valB r N ix iy) h) (valV r N ix iy) := by
  refine M_of (cc := cX4_valley) (maxL := 4) (ret := some .int) (Qc := fun A => va_Qi (fun (x : Int32) (_ : Unit) => x = valV r N ix iy) (fun _ t => Wd D (cM cI a (valB r N ix iy) h) t) A) (by decide) rfl (Nat.le_of_ble_eq_true rfl) ?_
  intro p e s m below meth c A ls hB hE hP hK hD hA hl
  obtain ⟨hx, hb, hr, hml, hts, hown, hlocks⟩ := hB
  have hS : va_S A s.heap s.heap [] := va_S.rf
  have hl : lv_has ls 4 [(0, .ref (a 0)), (1, .int ix), (2, .int iy)] := hl
  have hinX4 : ∀ w ∈ u_ws RX4 TX4 12, w ∈ wsX4_valley := by decide +kernel
  have fl25 := hts (.fieldLink RX4 25 "RoofDrainsModel" "thrown" "I") (by decide +kernel)
  have fl7 := hts (.fieldLink RX4 7 "RoofDrainsModel" "s" "[I") (by decide +kernel)
  refine lv_aload_n hx hb dX4_valley_0 rfl (lv_at hl 0 rfl) ?_
  refine lv_iconst (v := 0) hx hb dX4_valley_1 (by decide) ?_
  refine k_put (D := D) (ci := 4) (v := .int 0) (ty := .int) (C := RX4) (T := TX4) (N := 12) hx hb hts hinX4 tyX4 tyX4_ok nmX4 hown hK hP hD hS 0 rfl rfl 0 (by decide) fl25 (fun _ h9 => h9) rfl (by decide +kernel) rfl rfl (Nat.le_of_ble_eq_true rfl) (ws' := cM cI a (bp r 5 0 0) h) rfl dX4_valley_2 (fun H locs hP hD hS => ?_)
  refine lv_iload_n hx hb dX4_valley_5 rfl (lv_at hl 1 rfl) ?_
  refine k_calli (wc := ([] : va_W)) (w' := ([] : va_W)) (wn := cM cI a (bp r 5 0 0) h) (va_runS (As := [.int ix]) (rest := []) ⟨hx, hb, hml, hown, hts⟩ (mX4_isOne l D cI cQ cJ ix _) (va_cwS 1 hts gX4_valley_X4_isOne rfl rfl rfl (by decide +kernel) ⟨Nat.le_of_ble_eq_true rfl, Nat.le_of_ble_eq_true rfl⟩) (k_preS (wc := ([] : va_W)) hE hK hP hD [] (by decide) rfl [.int ix]) rfl rfl hl.1 rfl (lv_room (Nat.le_of_ble_eq_true rfl)) dX4_valley_6 ⟨Nat.zero_le _, Nat.zero_le _⟩) hP hD hS hA [] rfl rfl rfl (fun H locs hP hD hS => ?_)
  refine lv_if_eq (tgt := 24) hx hb dX4_valley_9 (by decide) (fun c_1 => ?_) (fun c_1 => ?_)
  · skip
    refine lv_aload_n hx hb dX4_valley_24 rfl (lv_at hl 0 rfl) ?_
    refine lv_iconst (v := 1) hx hb dX4_valley_25 (by decide) ?_
    obtain ⟨r_2, er_2⟩ : ∃ z : rB, z = bp (bp r 5 0 0) 5 0 1 := ⟨_, rfl⟩
    have hm_3 := mX4_fails l D cI cQ cJ a (bp r 5 0 0) h 1
    rw [← er_2] at hm_3
    refine k_calli (wc := cM cI a (bp r 5 0 0) h) (w' := cM cI a r_2 h) (wn := cM cI a r_2 h) (va_runV (As := [.int 1]) (rest := []) ⟨hx, hb, hml, hown, hts⟩ (hm_3 _) (cwV 1 hts gX4_valley_X4_fails rfl rfl rfl (by decide +kernel) ⟨Nat.le_of_ble_eq_true rfl, Nat.le_of_ble_eq_true rfl⟩) (k_preV (wc := cM cI a (bp r 5 0 0) h) hE hK hP hD [0, 1, 2, 3, 4, 5] (by decide) rfl (ci := 4) (q0 := 0) rfl rfl [.int 1]) rfl rfl hl.1 rfl (lv_room (Nat.le_of_ble_eq_true rfl)) dX4_valley_26 ⟨Nat.zero_le _, Nat.zero_le _⟩) hP hD hS hA [0, 1, 2, 3, 4, 5] rfl rfl rfl (fun H locs hP hD hS => ?_)
    have e9 : (r_2 : rB) = valB r N ix iy := by (replace er_2 := er_2.symm; subst er_2; first | with_reducible rfl | simp only [valV, valB, valU, if_pos c_1, ↓reduceIte])
    rw [e9] at hP
    exact k_iret hx hb hr hlocks hS hP dX4_valley_29 (by (replace er_2 := er_2.symm; subst er_2; first | with_reducible rfl | simp only [valV, valB, valU, if_pos c_1, ↓reduceIte]))
  · skip
    obtain ⟨i, hi, ei⟩ := zW_ex (n := 6) rfl rfl c_1
    subst ei
    have hcii : (nI i).toNatClampNeg = i := nI_clamp (by omega)
    refine lv_iload_n hx hb dX4_valley_12 rfl (lv_at hl 2 rfl) ?_
    refine lv_iconst (v := (-1)) hx hb dX4_valley_13 (by decide) ?_
    refine lv_icmp_eq (tgt := 30) hx hb dX4_valley_14 (by decide) (fun c_4 => ?_) (fun c_4 => ?_)
    · skip
      subst c_4
      refine lv_iload_n hx hb dX4_valley_30 rfl (lv_at hl 1 rfl) ?_
      refine lv_iload_n hx hb dX4_valley_31 rfl (lv_at hl 2 rfl) ?_
      refine lv_icmp_ne (tgt := 41) hx hb dX4_valley_32 (by decide) (fun _ => ?_) (fun h9 => absurd h9 (nI_nm1 (by omega)))
      refine lv_iload_n hx hb dX4_valley_41 rfl (lv_at hl 2 rfl) ?_
      refine lv_iconst (v := (-1)) hx hb dX4_valley_42 (by decide) ?_
      refine lv_icmp_eq (tgt := 61) hx hb dX4_valley_43 (by decide) (fun _ => ?_) (fun h9 => absurd (by decide) h9)
      refine lv_aload_n hx hb dX4_valley_61 rfl (lv_at hl 0 rfl) ?_
      obtain ⟨r_5, er_5⟩ : ∃ z : rB, z = svB (bp r 5 0 0) N := ⟨_, rfl⟩
      have hm_6 := mX4_saves l D cI cQ cJ a (bp r 5 0 0) h N (by first | exact hN | exact (bp_ne (by decide)).trans hN) hN6
      rw [← er_5] at hm_6
      refine k_callv (wc := cM cI a (bp r 5 0 0) h) (w' := cM cI a r_5 h) (wn := cM cI a r_5 h) (va_runV (As := []) (rest := []) ⟨hx, hb, hml, hown, hts⟩ (hm_6 _) (cwV 0 hts gX4_valley_X4_saves rfl rfl rfl (by decide +kernel) ⟨Nat.le_of_ble_eq_true rfl, Nat.le_of_ble_eq_true rfl⟩) (k_preV (wc := cM cI a (bp r 5 0 0) h) hE hK hP hD [0, 1, 2, 3, 4, 5] (by decide) rfl (ci := 4) (q0 := 0) rfl rfl []) rfl rfl hl.1 rfl (lv_room (Nat.le_of_ble_eq_true rfl)) dX4_valley_62 ⟨Nat.zero_le _, Nat.zero_le _⟩) hP hD hS hA [0, 1, 2, 3, 4, 5] rfl rfl rfl (fun H locs hP hD hS => ?_)
      refine lv_aload_n hx hb dX4_valley_65 rfl (lv_at hl 0 rfl) ?_
      refine lv_iload_n hx hb dX4_valley_66 rfl (lv_at hl 1 rfl) ?_
      refine lv_iconst (v := 3) hx hb dX4_valley_67 (by decide) ?_
      refine k_calli (wc := cM cI a r_5 h) (w' := cM cI a r_5 h) (wn := cM cI a r_5 h) (va_runV (As := [.int (nI i), .int 3]) (rest := []) ⟨hx, hb, hml, hown, hts⟩ (mX4_of l D cI cQ cJ a r_5 h (nI i) i 3 rfl (by omega) (by omega) _) (cwV 2 hts gX4_valley_X4_of rfl rfl rfl (by decide +kernel) ⟨Nat.le_of_ble_eq_true rfl, Nat.le_of_ble_eq_true rfl⟩) (k_preV (wc := cM cI a r_5 h) hE hK hP hD [0, 1, 2, 3, 4, 5] (by decide) rfl (ci := 4) (q0 := 0) rfl rfl [.int (nI i), .int 3]) rfl rfl hl.1 rfl (lv_room (Nat.le_of_ble_eq_true rfl)) dX4_valley_68 ⟨Nat.zero_le _, Nat.zero_le _⟩) hP hD hS hA [0, 1, 2, 3, 4, 5] rfl rfl rfl (fun H locs hP hD hS => ?_)
      refine lv_iconst (v := 1) hx hb dX4_valley_71 (by decide) ?_
      refine lv_isub hx hb dX4_valley_72 ?_
      refine lv_topi (fun v3_7 ev3_7 => ?_)
      refine lv_istore_n (lv' := [(3, .int v3_7), (0, .ref (a 0)), (1, .int (nI i)), (2, .int (-1))]) hx hb dX4_valley_73 rfl hl (by decide) rfl (fun ls hl => ?_)
      refine lv_aload_n hx hb dX4_valley_74 rfl (lv_at hl 1 rfl) ?_
      refine va_get (D := D) (ci := 4) (v := .ref (a 1)) (C := RX4) (T := TX4) (N := 12) hx hb hts hinX4 hown hK hP 0 rfl rfl 1 (by decide) fl7 (fun _ h9 => h9) rfl dX4_valley_75 ?_
      refine lv_bipush (v := 33) hx hb dX4_valley_78 (by decide) ?_
      refine lv_bipush (v := 7) hx hb dX4_valley_80 (by decide) ?_
      refine lv_iload_n hx hb dX4_valley_82 rfl (lv_at hl 2 rfl) ?_
      refine lv_imul hx hb dX4_valley_83 ?_
      refine lv_eqi (y := nI (7 * i)) (pk_mul 7 i) ?_
      refine lv_iadd hx hb dX4_valley_84 ?_
      refine lv_eqi (y := nI (33 + (7 * i))) (nI_add 33 (7 * i)) ?_
      refine lv_iconst (v := 3) hx hb dX4_valley_85 (by decide) ?_
      refine lv_iadd hx hb dX4_valley_86 ?_
      refine lv_eqi (y := nI ((33 + 7 * i) + 3)) (nI_add (33 + 7 * i) 3) ?_
      refine lv_iload_n hx hb dX4_valley_87 rfl (lv_at hl 3 rfl) ?_
      refine lv_iconst (v := 1) hx hb dX4_valley_88 (by decide) ?_
      refine lv_iadd hx hb dX4_valley_89 ?_
      refine lv_topi (fun a_8 ea_8 => ?_)
      refine k_iast (k := 33 + 7 * i + 3) (ws' := cM cI a (bp r_5 0 (33 + 7 * i + 3) a_8) h) hx hb hK hP hD hS 1 0 rfl rfl (vp_in_nI (n := 33 + 7 * i + 3) (by omega) (by omega)) (nI_clamp (n := 33 + 7 * i + 3) (by omega)) rfl dX4_valley_90 (fun H locs hP hD hS => ?_)
      refine lv_iload_n hx hb dX4_valley_91 rfl (lv_at hl 0 rfl) ?_
      have e9 : (bp r_5 0 (33 + 7 * i + 3) a_8 : rB) = valB r N (nI i) (-1) := by (replace ea_8 := ea_8.symm; subst ea_8; replace ev3_7 := ev3_7.symm; subst ev3_7; replace er_5 := er_5.symm; subst er_5; first | with_reducible rfl | simp only [valV, valB, valU, if_neg c_1, hcii, (rfl : (-1 : Int32) = -1), ↓reduceIte])
      rw [e9] at hP
      exact k_iret hx hb hr hlocks hS hP dX4_valley_92 (by (replace ea_8 := ea_8.symm; subst ea_8; replace ev3_7 := ev3_7.symm; subst ev3_7; replace er_5 := er_5.symm; subst er_5; first | with_reducible rfl | simp only [valV, valB, valU, if_neg c_1, hcii, (rfl : (-1 : Int32) = -1), ↓reduceIte]))
    · skip
      refine lv_iload_n hx hb dX4_valley_17 rfl (lv_at hl 2 rfl) ?_
      refine k_calli (wc := ([] : va_W)) (w' := ([] : va_W)) (wn := cM cI a (bp r 5 0 0) h) (va_runS (As := [.int iy]) (rest := []) ⟨hx, hb, hml, hown, hts⟩ (mX4_isOne l D cI cQ cJ iy _) (va_cwS 1 hts gX4_valley_X4_isOne rfl rfl rfl (by decide +kernel) ⟨Nat.le_of_ble_eq_true rfl, Nat.le_of_ble_eq_true rfl⟩) (k_preS (wc := ([] : va_W)) hE hK hP hD [] (by decide) rfl [.int iy]) rfl rfl hl.1 rfl (lv_room (Nat.le_of_ble_eq_true rfl)) dX4_valley_18 ⟨Nat.zero_le _, Nat.zero_le _⟩) hP hD hS hA [] rfl rfl rfl (fun H locs hP hD hS => ?_)
      refine lv_if_ne (tgt := 30) hx hb dX4_valley_21 (by decide) (fun c_9 => ?_) (fun c_9 => ?_)
      · skip
        obtain ⟨j, hj, ej⟩ := zW_ex (n := 6) rfl rfl c_9
        subst ej
        have hcij : (nI j).toNatClampNeg = j := nI_clamp (by omega)
        have hnm : ¬ nI j = -1 := nI_nm1 (by omega)
        refine lv_iload_n hx hb dX4_valley_30 rfl (lv_at hl 1 rfl) ?_
        refine lv_iload_n hx hb dX4_valley_31 rfl (lv_at hl 2 rfl) ?_
        refine lv_icmp_ne (tgt := 41) hx hb dX4_valley_32 (by decide) (fun c_10 => ?_) (fun c_10 => ?_)
        · skip
          refine lv_iload_n hx hb dX4_valley_41 rfl (lv_at hl 2 rfl) ?_
          refine lv_iconst (v := (-1)) hx hb dX4_valley_42 (by decide) ?_
          refine lv_icmp_eq (tgt := 61) hx hb dX4_valley_43 (by decide) (fun h9 => absurd h9 hnm) (fun _ => ?_)
          refine lv_aload_n hx hb dX4_valley_46 rfl (lv_at hl 0 rfl) ?_
          refine lv_iload_n hx hb dX4_valley_47 rfl (lv_at hl 2 rfl) ?_
          refine lv_iload_n hx hb dX4_valley_48 rfl (lv_at hl 1 rfl) ?_
          refine k_calli (wc := cM cI a (bp r 5 0 0) h) (w' := cM cI a (bp r 5 0 0) h) (wn := cM cI a (bp r 5 0 0) h) (va_runV (As := [.int (nI j), .int (nI i)]) (rest := []) ⟨hx, hb, hml, hown, hts⟩ (mX4_leads l D cI cQ cJ a (bp r 5 0 0) h j (by omega) (nI i) hok (hac j hj) _) (cwV 2 hts gX4_valley_X4_leads rfl rfl rfl (by decide +kernel) ⟨Nat.le_of_ble_eq_true rfl, Nat.le_of_ble_eq_true rfl⟩) (k_preV (wc := cM cI a (bp r 5 0 0) h) hE hK hP hD [0, 1, 2, 3, 4, 5] (by decide) rfl (ci := 4) (q0 := 0) rfl rfl [.int (nI j), .int (nI i)]) rfl rfl hl.1 rfl (lv_room (Nat.le_of_ble_eq_true rfl)) dX4_valley_49 ⟨Nat.zero_le _, Nat.zero_le _⟩) hP hD hS hA [0, 1, 2, 3, 4, 5] rfl rfl rfl (fun H locs hP hD hS => ?_)
          refine lv_if_eq (tgt := 61) hx hb dX4_valley_52 (by decide) (fun c_11 => ?_) (fun c_11 => ?_)
          · skip
            refine lv_aload_n hx hb dX4_valley_61 rfl (lv_at hl 0 rfl) ?_
            obtain ⟨r_12, er_12⟩ : ∃ z : rB, z = svB (bp r 5 0 0) N := ⟨_, rfl⟩
            have hm_13 := mX4_saves l D cI cQ cJ a (bp r 5 0 0) h N (by first | exact hN | exact (bp_ne (by decide)).trans hN) hN6
            rw [← er_12] at hm_13
            refine k_callv (wc := cM cI a (bp r 5 0 0) h) (w' := cM cI a r_12 h) (wn := cM cI a r_12 h) (va_runV (As := []) (rest := []) ⟨hx, hb, hml, hown, hts⟩ (hm_13 _) (cwV 0 hts gX4_valley_X4_saves rfl rfl rfl (by decide +kernel) ⟨Nat.le_of_ble_eq_true rfl, Nat.le_of_ble_eq_true rfl⟩) (k_preV (wc := cM cI a (bp r 5 0 0) h) hE hK hP hD [0, 1, 2, 3, 4, 5] (by decide) rfl (ci := 4) (q0 := 0) rfl rfl []) rfl rfl hl.1 rfl (lv_room (Nat.le_of_ble_eq_true rfl)) dX4_valley_62 ⟨Nat.zero_le _, Nat.zero_le _⟩) hP hD hS hA [0, 1, 2, 3, 4, 5] rfl rfl rfl (fun H locs hP hD hS => ?_)
            refine lv_aload_n hx hb dX4_valley_65 rfl (lv_at hl 0 rfl) ?_
            refine lv_iload_n hx hb dX4_valley_66 rfl (lv_at hl 1 rfl) ?_
            refine lv_iconst (v := 3) hx hb dX4_valley_67 (by decide) ?_
            refine k_calli (wc := cM cI a r_12 h) (w' := cM cI a r_12 h) (wn := cM cI a r_12 h) (va_runV (As := [.int (nI i), .int 3]) (rest := []) ⟨hx, hb, hml, hown, hts⟩ (mX4_of l D cI cQ cJ a r_12 h (nI i) i 3 rfl (by omega) (by omega) _) (cwV 2 hts gX4_valley_X4_of rfl rfl rfl (by decide +kernel) ⟨Nat.le_of_ble_eq_true rfl, Nat.le_of_ble_eq_true rfl⟩) (k_preV (wc := cM cI a r_12 h) hE hK hP hD [0, 1, 2, 3, 4, 5] (by decide) rfl (ci := 4) (q0 := 0) rfl rfl [.int (nI i), .int 3]) rfl rfl hl.1 rfl (lv_room (Nat.le_of_ble_eq_true rfl)) dX4_valley_68 ⟨Nat.zero_le _, Nat.zero_le _⟩) hP hD hS hA [0, 1, 2, 3, 4, 5] rfl rfl rfl (fun H locs hP hD hS => ?_)
            refine lv_iconst (v := 1) hx hb dX4_valley_71 (by decide) ?_
            refine lv_isub hx hb dX4_valley_72 ?_
            refine lv_topi (fun v3_14 ev3_14 => ?_)
            refine lv_istore_n (lv' := [(3, .int v3_14), (0, .ref (a 0)), (1, .int (nI i)), (2, .int (nI j))]) hx hb dX4_valley_73 rfl hl (by decide) rfl (fun ls hl => ?_)
            refine lv_aload_n hx hb dX4_valley_74 rfl (lv_at hl 1 rfl) ?_
            refine va_get (D := D) (ci := 4) (v := .ref (a 1)) (C := RX4) (T := TX4) (N := 12) hx hb hts hinX4 hown hK hP 0 rfl rfl 1 (by decide) fl7 (fun _ h9 => h9) rfl dX4_valley_75 ?_
            refine lv_bipush (v := 33) hx hb dX4_valley_78 (by decide) ?_
            refine lv_bipush (v := 7) hx hb dX4_valley_80 (by decide) ?_
            refine lv_iload_n hx hb dX4_valley_82 rfl (lv_at hl 2 rfl) ?_
            refine lv_imul hx hb dX4_valley_83 ?_
            refine lv_eqi (y := nI (7 * i)) (pk_mul 7 i) ?_
            refine lv_iadd hx hb dX4_valley_84 ?_
            refine lv_eqi (y := nI (33 + (7 * i))) (nI_add 33 (7 * i)) ?_
            refine lv_iconst (v := 3) hx hb dX4_valley_85 (by decide) ?_
            refine lv_iadd hx hb dX4_valley_86 ?_
            refine lv_eqi (y := nI ((33 + 7 * i) + 3)) (nI_add (33 + 7 * i) 3) ?_
            refine lv_iload_n hx hb dX4_valley_87 rfl (lv_at hl 3 rfl) ?_
            refine lv_iconst (v := 1) hx hb dX4_valley_88 (by decide) ?_
            refine lv_iadd hx hb dX4_valley_89 ?_
            refine lv_eqi (y := nI (j + 1)) (nI_add j 1) ?_
            refine k_iast (k := 33 + 7 * i + 3) (ws' := cM cI a (bp r_12 0 (33 + 7 * i + 3) (nI (j + 1))) h) hx hb hK hP hD hS 1 0 rfl rfl (vp_in_nI (n := 33 + 7 * i + 3) (by omega) (by omega)) (nI_clamp (n := 33 + 7 * i + 3) (by omega)) rfl dX4_valley_90 (fun H locs hP hD hS => ?_)
            refine lv_iload_n hx hb dX4_valley_91 rfl (lv_at hl 0 rfl) ?_
            have e9 : (bp r_12 0 (33 + 7 * i + 3) (nI (j + 1)) : rB) = valB r N (nI i) (nI j) := by (replace ev3_14 := ev3_14.symm; subst ev3_14; replace er_12 := er_12.symm; subst er_12; first | with_reducible rfl | simp only [valV, valB, valU, if_neg c_1, hcii, if_neg c_9, hcij, hnm, nI_1 j, if_neg c_10, if_pos c_11, ↓reduceIte])
            rw [e9] at hP
            exact k_iret hx hb hr hlocks hS hP dX4_valley_92 (by (replace ev3_14 := ev3_14.symm; subst ev3_14; replace er_12 := er_12.symm; subst er_12; first | with_reducible rfl | simp only [valV, valB, valU, if_neg c_1, hcii, if_neg c_9, hcij, hnm, nI_1 j, if_neg c_10, if_pos c_11, ↓reduceIte]))
          · skip
            refine lv_aload_n hx hb dX4_valley_55 rfl (lv_at hl 0 rfl) ?_
            refine lv_iconst (v := 3) hx hb dX4_valley_56 (by decide) ?_
            obtain ⟨r_15, er_15⟩ : ∃ z : rB, z = bp (bp r 5 0 0) 5 0 3 := ⟨_, rfl⟩
            have hm_16 := mX4_fails l D cI cQ cJ a (bp r 5 0 0) h 3
            rw [← er_15] at hm_16
            refine k_calli (wc := cM cI a (bp r 5 0 0) h) (w' := cM cI a r_15 h) (wn := cM cI a r_15 h) (va_runV (As := [.int 3]) (rest := []) ⟨hx, hb, hml, hown, hts⟩ (hm_16 _) (cwV 1 hts gX4_valley_X4_fails rfl rfl rfl (by decide +kernel) ⟨Nat.le_of_ble_eq_true rfl, Nat.le_of_ble_eq_true rfl⟩) (k_preV (wc := cM cI a (bp r 5 0 0) h) hE hK hP hD [0, 1, 2, 3, 4, 5] (by decide) rfl (ci := 4) (q0 := 0) rfl rfl [.int 3]) rfl rfl hl.1 rfl (lv_room (Nat.le_of_ble_eq_true rfl)) dX4_valley_57 ⟨Nat.zero_le _, Nat.zero_le _⟩) hP hD hS hA [0, 1, 2, 3, 4, 5] rfl rfl rfl (fun H locs hP hD hS => ?_)
            have e9 : (r_15 : rB) = valB r N (nI i) (nI j) := by (replace er_15 := er_15.symm; subst er_15; first | with_reducible rfl | simp only [valV, valB, valU, if_neg c_1, hcii, if_neg c_9, hcij, hnm, nI_1 j, if_neg c_10, if_neg c_11, ↓reduceIte])
            rw [e9] at hP
            exact k_iret hx hb hr hlocks hS hP dX4_valley_60 (by (replace er_15 := er_15.symm; subst er_15; first | with_reducible rfl | simp only [valV, valB, valU, if_neg c_1, hcii, if_neg c_9, hcij, hnm, nI_1 j, if_neg c_10, if_neg c_11, ↓reduceIte]))
        · skip
          refine lv_aload_n hx hb dX4_valley_35 rfl (lv_at hl 0 rfl) ?_
          refine lv_iconst (v := 2) hx hb dX4_valley_36 (by decide) ?_
          obtain ⟨r_17, er_17⟩ : ∃ z : rB, z = bp (bp r 5 0 0) 5 0 2 := ⟨_, rfl⟩
          have hm_18 := mX4_fails l D cI cQ cJ a (bp r 5 0 0) h 2
          rw [← er_17] at hm_18
          refine k_calli (wc := cM cI a (bp r 5 0 0) h) (w' := cM cI a r_17 h) (wn := cM cI a r_17 h) (va_runV (As := [.int 2]) (rest := []) ⟨hx, hb, hml, hown, hts⟩ (hm_18 _) (cwV 1 hts gX4_valley_X4_fails rfl rfl rfl (by decide +kernel) ⟨Nat.le_of_ble_eq_true rfl, Nat.le_of_ble_eq_true rfl⟩) (k_preV (wc := cM cI a (bp r 5 0 0) h) hE hK hP hD [0, 1, 2, 3, 4, 5] (by decide) rfl (ci := 4) (q0 := 0) rfl rfl [.int 2]) rfl rfl hl.1 rfl (lv_room (Nat.le_of_ble_eq_true rfl)) dX4_valley_37 ⟨Nat.zero_le _, Nat.zero_le _⟩) hP hD hS hA [0, 1, 2, 3, 4, 5] rfl rfl rfl (fun H locs hP hD hS => ?_)
          have e9 : (r_17 : rB) = valB r N (nI i) (nI j) := by (replace er_17 := er_17.symm; subst er_17; first | with_reducible rfl | simp only [valV, valB, valU, if_neg c_1, hcii, if_neg c_9, hcij, hnm, nI_1 j, if_pos c_10, ↓reduceIte])
          rw [e9] at hP
          exact k_iret hx hb hr hlocks hS hP dX4_valley_40 (by (replace er_17 := er_17.symm; subst er_17; first | with_reducible rfl | simp only [valV, valB, valU, if_neg c_1, hcii, if_neg c_9, hcij, hnm, nI_1 j, if_pos c_10, ↓reduceIte]))
      · skip
        refine lv_aload_n hx hb dX4_valley_24 rfl (lv_at hl 0 rfl) ?_
        refine lv_iconst (v := 1) hx hb dX4_valley_25 (by decide) ?_
        obtain ⟨r_19, er_19⟩ : ∃ z : rB, z = bp (bp r 5 0 0) 5 0 1 := ⟨_, rfl⟩
        have hm_20 := mX4_fails l D cI cQ cJ a (bp r 5 0 0) h 1
        rw [← er_19] at hm_20
        refine k_calli (wc := cM cI a (bp r 5 0 0) h) (w' := cM cI a r_19 h) (wn := cM cI a r_19 h) (va_runV (As := [.int 1]) (rest := []) ⟨hx, hb, hml, hown, hts⟩ (hm_20 _) (cwV 1 hts gX4_valley_X4_fails rfl rfl rfl (by decide +kernel) ⟨Nat.le_of_ble_eq_true rfl, Nat.le_of_ble_eq_true rfl⟩) (k_preV (wc := cM cI a (bp r 5 0 0) h) hE hK hP hD [0, 1, 2, 3, 4, 5] (by decide) rfl (ci := 4) (q0 := 0) rfl rfl [.int 1]) rfl rfl hl.1 rfl (lv_room (Nat.le_of_ble_eq_true rfl)) dX4_valley_26 ⟨Nat.zero_le _, Nat.zero_le _⟩) hP hD hS hA [0, 1, 2, 3, 4, 5] rfl rfl rfl (fun H locs hP hD hS => ?_)
        have e9 : (r_19 : rB) = valB r N (nI i) iy := by (replace er_19 := er_19.symm; subst er_19; first | with_reducible rfl | simp only [valV, valB, valU, if_neg c_1, hcii, if_neg c_4, if_pos c_9, ↓reduceIte])
        rw [e9] at hP
        exact k_iret hx hb hr hlocks hS hP dX4_valley_29 (by (replace er_19 := er_19.symm; subst er_19; first | with_reducible rfl | simp only [valV, valB, valU, if_neg c_1, hcii, if_neg c_4, if_pos c_9, ↓reduceIte]))
