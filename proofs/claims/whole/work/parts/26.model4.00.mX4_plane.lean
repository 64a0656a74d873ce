set_option maxHeartbeats 4000000 in
set_option maxRecDepth 100000 in
theorem mX4_plane (l : Launch) (D : va_G) (cI cQ cJ : ClassId) (a : Nat → Nat) (r : rB) (h : Int64) (N : Nat) (hN : r 5 1 = nI N) (hN6 : N ≤ 6) (ip ix iy iq : Int32) : Mi l D (tY cI cQ cJ) yX4_plane wsX4_plane ({ frames := 2, cells := 0, slots := 0, locals := 42 } : Room) [.ref (a 0), .int ip, .int ix, .int iy, .int iq] (cM cI a r h) (cM cI a (plaB r N ip ix iy iq) h) (plaV r N ip ix iy iq) := by
  refine M_of (cc := cX4_plane) (maxL := 6) (ret := some .int) (Qc := fun A => va_Qi (fun (x : Int32) (_ : Unit) => x = plaV r N ip ix iy iq) (fun _ t => Wd D (cM cI a (plaB r N ip ix iy iq) h) t) A) (by decide) rfl (Nat.le_of_ble_eq_true rfl) ?_
  intro p e s m below meth c A ls hB hE hP hK hD hA hl
  obtain ⟨hx, hb, hr, hml, hts, hown, hlocks⟩ := hB
  have hS : va_S A s.heap s.heap [] := va_S.rf
  have hl : lv_has ls 6 [(0, .ref (a 0)), (1, .int ip), (2, .int ix), (3, .int iy), (4, .int iq)] := hl
  have hinX4 : ∀ w ∈ u_ws RX4 TX4 12, w ∈ wsX4_plane := by decide +kernel
  have fl25 := hts (.fieldLink RX4 25 "RoofDrainsModel" "thrown" "I") (by decide +kernel)
  have fl7 := hts (.fieldLink RX4 7 "RoofDrainsModel" "s" "[I") (by decide +kernel)
  refine lv_aload_n hx hb dX4_plane_0 rfl (lv_at hl 0 rfl) ?_
  refine lv_iconst (v := 0) hx hb dX4_plane_1 (by decide) ?_
  refine k_put (D := D) (ci := 4) (v := .int 0) (ty := .int) (C := RX4) (T := TX4) (N := 12) hx hb hts hinX4 tyX4 tyX4_ok nmX4 hown hK hP hD hS 0 rfl rfl 0 (by decide) fl25 (fun _ h9 => h9) rfl (by decide +kernel) rfl rfl (Nat.le_of_ble_eq_true rfl) (ws' := cM cI a (bp r 5 0 0) h) rfl dX4_plane_2 (fun H locs hP hD hS => ?_)
  refine lv_iload_n hx hb dX4_plane_5 rfl (lv_at hl 1 rfl) ?_
  refine k_calli (wc := ([] : va_W)) (w' := ([] : va_W)) (wn := cM cI a (bp r 5 0 0) h) (va_runS (As := [.int ip]) (rest := []) ⟨hx, hb, hml, hown, hts⟩ (mX4_isOne l D cI cQ cJ ip _) (va_cwS 1 hts gX4_plane_X4_isOne rfl rfl rfl (by decide +kernel) ⟨Nat.le_of_ble_eq_true rfl, Nat.le_of_ble_eq_true rfl⟩) (k_preS (wc := ([] : va_W)) hE hK hP hD [] (by decide) rfl [.int ip]) rfl rfl hl.1 rfl (lv_room (Nat.le_of_ble_eq_true rfl)) dX4_plane_6 ⟨Nat.zero_le _, Nat.zero_le _⟩) hP hD hS hA [] rfl rfl rfl (fun H locs hP hD hS => ?_)
  refine lv_if_eq (tgt := 20) hx hb dX4_plane_9 (by decide) (fun c_1 => ?_) (fun c_1 => ?_)
  · skip
    refine lv_aload_n hx hb dX4_plane_20 rfl (lv_at hl 0 rfl) ?_
    refine lv_iconst (v := 1) hx hb dX4_plane_21 (by decide) ?_
    obtain ⟨r_2, er_2⟩ : ∃ z : rB, z = bp (bp r 5 0 0) 5 0 1 := ⟨_, rfl⟩
    have hm_3 := mX4_fails l D cI cQ cJ a (bp r 5 0 0) h 1
    rw [← er_2] at hm_3
    refine k_calli (wc := cM cI a (bp r 5 0 0) h) (w' := cM cI a r_2 h) (wn := cM cI a r_2 h) (va_runV (As := [.int 1]) (rest := []) ⟨hx, hb, hml, hown, hts⟩ (hm_3 _) (cwV 1 hts gX4_plane_X4_fails rfl rfl rfl (by decide +kernel) ⟨Nat.le_of_ble_eq_true rfl, Nat.le_of_ble_eq_true rfl⟩) (k_preV (wc := cM cI a (bp r 5 0 0) h) hE hK hP hD [0, 1, 2, 3, 4, 5] (by decide) rfl (ci := 4) (q0 := 0) rfl rfl [.int 1]) rfl rfl hl.1 rfl (lv_room (Nat.le_of_ble_eq_true rfl)) dX4_plane_22 ⟨Nat.zero_le _, Nat.zero_le _⟩) hP hD hS hA [0, 1, 2, 3, 4, 5] rfl rfl rfl (fun H locs hP hD hS => ?_)
    have e9 : (r_2 : rB) = plaB r N ip ix iy iq := by (replace er_2 := er_2.symm; subst er_2; simp only [plaV, plaB, if_pos c_1, ↓reduceIte])
    rw [e9] at hP
    exact k_iret hx hb hr hlocks hS hP dX4_plane_25 (by (replace er_2 := er_2.symm; subst er_2; simp only [plaV, plaB, if_pos c_1, ↓reduceIte]))
  · skip
    obtain ⟨i, hi, ei⟩ := zW_ex (n := 6) rfl rfl c_1
    subst ei
    have hcii : (nI i).toNatClampNeg = i := nI_clamp (by omega)
    refine lv_iload hx hb dX4_plane_12 (lv_at hl 4 rfl) ?_
    refine k_calli (wc := ([] : va_W)) (w' := ([] : va_W)) (wn := cM cI a (bp r 5 0 0) h) (va_runS (As := [.int iq]) (rest := []) ⟨hx, hb, hml, hown, hts⟩ (mX4_isOne l D cI cQ cJ iq _) (va_cwS 1 hts gX4_plane_X4_isOne rfl rfl rfl (by decide +kernel) ⟨Nat.le_of_ble_eq_true rfl, Nat.le_of_ble_eq_true rfl⟩) (k_preS (wc := ([] : va_W)) hE hK hP hD [] (by decide) rfl [.int iq]) rfl rfl hl.1 rfl (lv_room (Nat.le_of_ble_eq_true rfl)) dX4_plane_14 ⟨Nat.zero_le _, Nat.zero_le _⟩) hP hD hS hA [] rfl rfl rfl (fun H locs hP hD hS => ?_)
    refine lv_if_ne (tgt := 26) hx hb dX4_plane_17 (by decide) (fun c_4 => ?_) (fun c_4 => ?_)
    · skip
      refine lv_iload_n hx hb dX4_plane_26 rfl (lv_at hl 2 rfl) ?_
      refine lv_iconst (v := 0) hx hb dX4_plane_27 (by decide) ?_
      refine lv_sipush (v := 200) hx hb dX4_plane_28 (by decide) ?_
      refine k_calli (wc := ([] : va_W)) (w' := ([] : va_W)) (wn := cM cI a (bp r 5 0 0) h) (va_runS (As := [.int ix, .int 0, .int 200]) (rest := []) ⟨hx, hb, hml, hown, hts⟩ (mX4_in l D cI cQ cJ ix 0 200 _) (va_cwS 3 hts gX4_plane_X4_in rfl rfl rfl (by decide +kernel) ⟨Nat.le_of_ble_eq_true rfl, Nat.le_of_ble_eq_true rfl⟩) (k_preS (wc := ([] : va_W)) hE hK hP hD [] (by decide) rfl [.int ix, .int 0, .int 200]) rfl rfl hl.1 rfl (lv_room (Nat.le_of_ble_eq_true rfl)) dX4_plane_31 ⟨Nat.zero_le _, Nat.zero_le _⟩) hP hD hS hA [] rfl rfl rfl (fun H locs hP hD hS => ?_)
      refine lv_if_eq (tgt := 47) hx hb dX4_plane_34 (by decide) (fun c_5 => ?_) (fun c_5 => ?_)
      · skip
        refine lv_aload_n hx hb dX4_plane_47 rfl (lv_at hl 0 rfl) ?_
        refine lv_iconst (v := 2) hx hb dX4_plane_48 (by decide) ?_
        obtain ⟨r_6, er_6⟩ : ∃ z : rB, z = bp (bp r 5 0 0) 5 0 2 := ⟨_, rfl⟩
        have hm_7 := mX4_fails l D cI cQ cJ a (bp r 5 0 0) h 2
        rw [← er_6] at hm_7
        refine k_calli (wc := cM cI a (bp r 5 0 0) h) (w' := cM cI a r_6 h) (wn := cM cI a r_6 h) (va_runV (As := [.int 2]) (rest := []) ⟨hx, hb, hml, hown, hts⟩ (hm_7 _) (cwV 1 hts gX4_plane_X4_fails rfl rfl rfl (by decide +kernel) ⟨Nat.le_of_ble_eq_true rfl, Nat.le_of_ble_eq_true rfl⟩) (k_preV (wc := cM cI a (bp r 5 0 0) h) hE hK hP hD [0, 1, 2, 3, 4, 5] (by decide) rfl (ci := 4) (q0 := 0) rfl rfl [.int 2]) rfl rfl hl.1 rfl (lv_room (Nat.le_of_ble_eq_true rfl)) dX4_plane_49 ⟨Nat.zero_le _, Nat.zero_le _⟩) hP hD hS hA [0, 1, 2, 3, 4, 5] rfl rfl rfl (fun H locs hP hD hS => ?_)
        have e9 : (r_6 : rB) = plaB r N (nI i) ix iy iq := by (replace er_6 := er_6.symm; subst er_6; simp only [plaV, plaB, if_neg c_1, hcii, if_neg c_4, if_pos c_5, ↓reduceIte])
        rw [e9] at hP
        exact k_iret hx hb hr hlocks hS hP dX4_plane_52 (by (replace er_6 := er_6.symm; subst er_6; simp only [plaV, plaB, if_neg c_1, hcii, if_neg c_4, if_pos c_5, ↓reduceIte]))
      · skip
        refine lv_iload_n hx hb dX4_plane_37 rfl (lv_at hl 3 rfl) ?_
        refine lv_iconst (v := 0) hx hb dX4_plane_38 (by decide) ?_
        refine lv_bipush (v := 9) hx hb dX4_plane_39 (by decide) ?_
        refine k_calli (wc := ([] : va_W)) (w' := ([] : va_W)) (wn := cM cI a (bp r 5 0 0) h) (va_runS (As := [.int iy, .int 0, .int 9]) (rest := []) ⟨hx, hb, hml, hown, hts⟩ (mX4_in l D cI cQ cJ iy 0 9 _) (va_cwS 3 hts gX4_plane_X4_in rfl rfl rfl (by decide +kernel) ⟨Nat.le_of_ble_eq_true rfl, Nat.le_of_ble_eq_true rfl⟩) (k_preS (wc := ([] : va_W)) hE hK hP hD [] (by decide) rfl [.int iy, .int 0, .int 9]) rfl rfl hl.1 rfl (lv_room (Nat.le_of_ble_eq_true rfl)) dX4_plane_41 ⟨Nat.zero_le _, Nat.zero_le _⟩) hP hD hS hA [] rfl rfl rfl (fun H locs hP hD hS => ?_)
        refine lv_if_ne (tgt := 53) hx hb dX4_plane_44 (by decide) (fun c_8 => ?_) (fun c_8 => ?_)
        · skip
          refine lv_aload_n hx hb dX4_plane_53 rfl (lv_at hl 0 rfl) ?_
          obtain ⟨r_9, er_9⟩ : ∃ z : rB, z = svB (bp r 5 0 0) N := ⟨_, rfl⟩
          have hm_10 := mX4_saves l D cI cQ cJ a (bp r 5 0 0) h N (by first | exact hN | exact (bp_ne (by decide)).trans hN) hN6
          rw [← er_9] at hm_10
          refine k_callv (wc := cM cI a (bp r 5 0 0) h) (w' := cM cI a r_9 h) (wn := cM cI a r_9 h) (va_runV (As := []) (rest := []) ⟨hx, hb, hml, hown, hts⟩ (hm_10 _) (cwV 0 hts gX4_plane_X4_saves rfl rfl rfl (by decide +kernel) ⟨Nat.le_of_ble_eq_true rfl, Nat.le_of_ble_eq_true rfl⟩) (k_preV (wc := cM cI a (bp r 5 0 0) h) hE hK hP hD [0, 1, 2, 3, 4, 5] (by decide) rfl (ci := 4) (q0 := 0) rfl rfl []) rfl rfl hl.1 rfl (lv_room (Nat.le_of_ble_eq_true rfl)) dX4_plane_54 ⟨Nat.zero_le _, Nat.zero_le _⟩) hP hD hS hA [0, 1, 2, 3, 4, 5] rfl rfl rfl (fun H locs hP hD hS => ?_)
          refine lv_aload_n hx hb dX4_plane_57 rfl (lv_at hl 0 rfl) ?_
          refine lv_iload_n hx hb dX4_plane_58 rfl (lv_at hl 1 rfl) ?_
          refine lv_iconst (v := 0) hx hb dX4_plane_59 (by decide) ?_
          refine k_calli (wc := cM cI a r_9 h) (w' := cM cI a r_9 h) (wn := cM cI a r_9 h) (va_runV (As := [.int (nI i), .int 0]) (rest := []) ⟨hx, hb, hml, hown, hts⟩ (mX4_ofPlane l D cI cQ cJ a r_9 h (nI i) i 0 rfl (by omega) (by omega) _) (cwV 2 hts gX4_plane_X4_ofPlane rfl rfl rfl (by decide +kernel) ⟨Nat.le_of_ble_eq_true rfl, Nat.le_of_ble_eq_true rfl⟩) (k_preV (wc := cM cI a r_9 h) hE hK hP hD [0, 1, 2, 3, 4, 5] (by decide) rfl (ci := 4) (q0 := 0) rfl rfl [.int (nI i), .int 0]) rfl rfl hl.1 rfl (lv_room (Nat.le_of_ble_eq_true rfl)) dX4_plane_60 ⟨Nat.zero_le _, Nat.zero_le _⟩) hP hD hS hA [0, 1, 2, 3, 4, 5] rfl rfl rfl (fun H locs hP hD hS => ?_)
          refine lv_topi (fun v5_11 ev5_11 => ?_)
          refine lv_istore (lv' := [(5, .int v5_11), (0, .ref (a 0)), (1, .int (nI i)), (2, .int ix), (3, .int iy), (4, .int iq)]) hx hb dX4_plane_63 hl (by decide) rfl (fun ls hl => ?_)
          refine lv_aload_n hx hb dX4_plane_65 rfl (lv_at hl 1 rfl) ?_
          refine va_get (D := D) (ci := 4) (v := .ref (a 1)) (C := RX4) (T := TX4) (N := 12) hx hb hts hinX4 hown hK hP 0 rfl rfl 1 (by decide) fl7 (fun _ h9 => h9) rfl dX4_plane_66 ?_
          refine lv_bipush (v := 9) hx hb dX4_plane_69 (by decide) ?_
          refine lv_iconst (v := 4) hx hb dX4_plane_71 (by decide) ?_
          refine lv_iload_n hx hb dX4_plane_72 rfl (lv_at hl 2 rfl) ?_
          refine lv_imul hx hb dX4_plane_73 ?_
          refine lv_eqi (y := nI (4 * i)) (pk_mul 4 i) ?_
          refine lv_iadd hx hb dX4_plane_74 ?_
          refine lv_eqi (y := nI (9 + (4 * i))) (nI_add 9 (4 * i)) ?_
          refine lv_iconst (v := 0) hx hb dX4_plane_75 (by decide) ?_
          refine lv_iadd hx hb dX4_plane_76 ?_
          refine lv_eqi (y := nI ((9 + 4 * i) + 0)) (nI_add (9 + 4 * i) 0) ?_
          refine lv_iload_n hx hb dX4_plane_77 rfl (lv_at hl 3 rfl) ?_
          refine k_iast (k := 9 + 4 * i + 0) (ws' := cM cI a (bp r_9 0 (9 + 4 * i + 0) ix) h) hx hb hK hP hD hS 1 0 rfl rfl (vp_in_nI (n := 9 + 4 * i + 0) (by omega) (by omega)) (nI_clamp (n := 9 + 4 * i + 0) (by omega)) rfl dX4_plane_78 (fun H locs hP hD hS => ?_)
          refine lv_aload_n hx hb dX4_plane_79 rfl (lv_at hl 1 rfl) ?_
          refine va_get (D := D) (ci := 4) (v := .ref (a 1)) (C := RX4) (T := TX4) (N := 12) hx hb hts hinX4 hown hK hP 0 rfl rfl 1 (by decide) fl7 (fun _ h9 => h9) rfl dX4_plane_80 ?_
          refine lv_bipush (v := 9) hx hb dX4_plane_83 (by decide) ?_
          refine lv_iconst (v := 4) hx hb dX4_plane_85 (by decide) ?_
          refine lv_iload_n hx hb dX4_plane_86 rfl (lv_at hl 2 rfl) ?_
          refine lv_imul hx hb dX4_plane_87 ?_
          refine lv_eqi (y := nI (4 * i)) (pk_mul 4 i) ?_
          refine lv_iadd hx hb dX4_plane_88 ?_
          refine lv_eqi (y := nI (9 + (4 * i))) (nI_add 9 (4 * i)) ?_
          refine lv_iconst (v := 1) hx hb dX4_plane_89 (by decide) ?_
          refine lv_iadd hx hb dX4_plane_90 ?_
          refine lv_eqi (y := nI ((9 + 4 * i) + 1)) (nI_add (9 + 4 * i) 1) ?_
          refine lv_iload_n hx hb dX4_plane_91 rfl (lv_at hl 4 rfl) ?_
          refine k_iast (k := 9 + 4 * i + 1) (ws' := cM cI a (bp (bp r_9 0 (9 + 4 * i + 0) ix) 0 (9 + 4 * i + 1) iy) h) hx hb hK hP hD hS 1 0 rfl rfl (vp_in_nI (n := 9 + 4 * i + 1) (by omega) (by omega)) (nI_clamp (n := 9 + 4 * i + 1) (by omega)) rfl dX4_plane_92 (fun H locs hP hD hS => ?_)
          refine lv_aload_n hx hb dX4_plane_93 rfl (lv_at hl 1 rfl) ?_
          refine va_get (D := D) (ci := 4) (v := .ref (a 1)) (C := RX4) (T := TX4) (N := 12) hx hb hts hinX4 hown hK hP 0 rfl rfl 1 (by decide) fl7 (fun _ h9 => h9) rfl dX4_plane_94 ?_
          refine lv_bipush (v := 9) hx hb dX4_plane_97 (by decide) ?_
          refine lv_iconst (v := 4) hx hb dX4_plane_99 (by decide) ?_
          refine lv_iload_n hx hb dX4_plane_100 rfl (lv_at hl 2 rfl) ?_
          refine lv_imul hx hb dX4_plane_101 ?_
          refine lv_eqi (y := nI (4 * i)) (pk_mul 4 i) ?_
          refine lv_iadd hx hb dX4_plane_102 ?_
          refine lv_eqi (y := nI (9 + (4 * i))) (nI_add 9 (4 * i)) ?_
          refine lv_iconst (v := 2) hx hb dX4_plane_103 (by decide) ?_
          refine lv_iadd hx hb dX4_plane_104 ?_
          refine lv_eqi (y := nI ((9 + 4 * i) + 2)) (nI_add (9 + 4 * i) 2) ?_
          refine lv_iload hx hb dX4_plane_105 (lv_at hl 5 rfl) ?_
          refine k_iast (k := 9 + 4 * i + 2) (ws' := cM cI a (bp (bp (bp r_9 0 (9 + 4 * i + 0) ix) 0 (9 + 4 * i + 1) iy) 0 (9 + 4 * i + 2) iq) h) hx hb hK hP hD hS 1 0 rfl rfl (vp_in_nI (n := 9 + 4 * i + 2) (by omega) (by omega)) (nI_clamp (n := 9 + 4 * i + 2) (by omega)) rfl dX4_plane_107 (fun H locs hP hD hS => ?_)
          refine lv_iload hx hb dX4_plane_108 (lv_at hl 0 rfl) ?_
          have e9 : (bp (bp (bp r_9 0 (9 + 4 * i + 0) ix) 0 (9 + 4 * i + 1) iy) 0 (9 + 4 * i + 2) iq : rB) = plaB r N (nI i) ix iy iq := by (replace ev5_11 := ev5_11.symm; subst ev5_11; replace er_9 := er_9.symm; subst er_9; simp only [plaV, plaB, if_neg c_1, hcii, if_neg c_4, if_neg c_5, if_neg c_8, ↓reduceIte])
          rw [e9] at hP
          exact k_iret hx hb hr hlocks hS hP dX4_plane_110 (by (replace ev5_11 := ev5_11.symm; subst ev5_11; replace er_9 := er_9.symm; subst er_9; simp only [plaV, plaB, if_neg c_1, hcii, if_neg c_4, if_neg c_5, if_neg c_8, ↓reduceIte]))
        · skip
          refine lv_aload_n hx hb dX4_plane_47 rfl (lv_at hl 0 rfl) ?_
          refine lv_iconst (v := 2) hx hb dX4_plane_48 (by decide) ?_
          obtain ⟨r_12, er_12⟩ : ∃ z : rB, z = bp (bp r 5 0 0) 5 0 2 := ⟨_, rfl⟩
          have hm_13 := mX4_fails l D cI cQ cJ a (bp r 5 0 0) h 2
          rw [← er_12] at hm_13
          refine k_calli (wc := cM cI a (bp r 5 0 0) h) (w' := cM cI a r_12 h) (wn := cM cI a r_12 h) (va_runV (As := [.int 2]) (rest := []) ⟨hx, hb, hml, hown, hts⟩ (hm_13 _) (cwV 1 hts gX4_plane_X4_fails rfl rfl rfl (by decide +kernel) ⟨Nat.le_of_ble_eq_true rfl, Nat.le_of_ble_eq_true rfl⟩) (k_preV (wc := cM cI a (bp r 5 0 0) h) hE hK hP hD [0, 1, 2, 3, 4, 5] (by decide) rfl (ci := 4) (q0 := 0) rfl rfl [.int 2]) rfl rfl hl.1 rfl (lv_room (Nat.le_of_ble_eq_true rfl)) dX4_plane_49 ⟨Nat.zero_le _, Nat.zero_le _⟩) hP hD hS hA [0, 1, 2, 3, 4, 5] rfl rfl rfl (fun H locs hP hD hS => ?_)
          have e9 : (r_12 : rB) = plaB r N (nI i) ix iy iq := by (replace er_12 := er_12.symm; subst er_12; simp only [plaV, plaB, if_neg c_1, hcii, if_neg c_4, if_neg c_5, if_pos c_8, ↓reduceIte])
          rw [e9] at hP
          exact k_iret hx hb hr hlocks hS hP dX4_plane_52 (by (replace er_12 := er_12.symm; subst er_12; simp only [plaV, plaB, if_neg c_1, hcii, if_neg c_4, if_neg c_5, if_pos c_8, ↓reduceIte]))
    · skip
      refine lv_aload_n hx hb dX4_plane_20 rfl (lv_at hl 0 rfl) ?_
      refine lv_iconst (v := 1) hx hb dX4_plane_21 (by decide) ?_
      obtain ⟨r_14, er_14⟩ : ∃ z : rB, z = bp (bp r 5 0 0) 5 0 1 := ⟨_, rfl⟩
      have hm_15 := mX4_fails l D cI cQ cJ a (bp r 5 0 0) h 1
      rw [← er_14] at hm_15
      refine k_calli (wc := cM cI a (bp r 5 0 0) h) (w' := cM cI a r_14 h) (wn := cM cI a r_14 h) (va_runV (As := [.int 1]) (rest := []) ⟨hx, hb, hml, hown, hts⟩ (hm_15 _) (cwV 1 hts gX4_plane_X4_fails rfl rfl rfl (by decide +kernel) ⟨Nat.le_of_ble_eq_true rfl, Nat.le_of_ble_eq_true rfl⟩) (k_preV (wc := cM cI a (bp r 5 0 0) h) hE hK hP hD [0, 1, 2, 3, 4, 5] (by decide) rfl (ci := 4) (q0 := 0) rfl rfl [.int 1]) rfl rfl hl.1 rfl (lv_room (Nat.le_of_ble_eq_true rfl)) dX4_plane_22 ⟨Nat.zero_le _, Nat.zero_le _⟩) hP hD hS hA [0, 1, 2, 3, 4, 5] rfl rfl rfl (fun H locs hP hD hS => ?_)
      have e9 : (r_14 : rB) = plaB r N (nI i) ix iy iq := by (replace er_14 := er_14.symm; subst er_14; simp only [plaV, plaB, if_neg c_1, hcii, if_pos c_4, ↓reduceIte])
      rw [e9] at hP
      exact k_iret hx hb hr hlocks hS hP dX4_plane_25 (by (replace er_14 := er_14.symm; subst er_14; simp only [plaV, plaB, if_neg c_1, hcii, if_pos c_4, ↓reduceIte]))
