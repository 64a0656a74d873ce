set_option maxHeartbeats 4000000 in
set_option maxRecDepth 100000 in
theorem mX4_set (l : Launch) (D : va_G) (cI cQ cJ : ClassId) (a : Nat → Nat) (r : rB) (h : Int64) (N : Nat) (hN : r 5 1 = nI N) (hN6 : N ≤ 6) (ip ix : Int32) : Mi l D (tY cI cQ cJ) yX4_set wsX4_set ({ frames := 1, cells := 0, slots := 0, locals := 22 } : Room) [.ref (a 0), .int ip, .int ix] (cM cI a r h) (cM cI a (setB r N ip ix) h) (setV r N ip ix) := by
  refine M_of (cc := cX4_set) (maxL := 4) (ret := some .int) (Qc := fun A => va_Qi (fun (x : Int32) (_ : Unit) => x = setV r N ip ix) (fun _ t => Wd D (cM cI a (setB r N ip ix) h) t) A) (by decide) rfl (Nat.le_of_ble_eq_true rfl) ?_
  intro p e s m below meth c A ls hB hE hP hK hD hA hl
  obtain ⟨hx, hb, hr, hml, hts, hown, hlocks⟩ := hB
  have hS : va_S A s.heap s.heap [] := va_S.rf
  have hl : lv_has ls 4 [(0, .ref (a 0)), (1, .int ip), (2, .int ix)] := hl
  have hinX4 : ∀ w ∈ u_ws RX4 TX4 12, w ∈ wsX4_set := by decide +kernel
  have fl25 := hts (.fieldLink RX4 25 "RoofDrainsModel" "thrown" "I") (by decide +kernel)
  have fl7 := hts (.fieldLink RX4 7 "RoofDrainsModel" "s" "[I") (by decide +kernel)
  refine lv_aload_n hx hb dX4_set_0 rfl (lv_at hl 0 rfl) ?_
  refine lv_iconst (v := 0) hx hb dX4_set_1 (by decide) ?_
  refine k_put (D := D) (ci := 4) (v := .int 0) (ty := .int) (C := RX4) (T := TX4) (N := 12) hx hb hts hinX4 tyX4 tyX4_ok nmX4 hown hK hP hD hS 0 rfl rfl 0 (by decide) fl25 (fun _ h9 => h9) rfl (by decide +kernel) rfl rfl (Nat.le_of_ble_eq_true rfl) (ws' := cM cI a (bp r 5 0 0) h) rfl dX4_set_2 (fun H locs hP hD hS => ?_)
  refine lv_iload_n hx hb dX4_set_5 rfl (lv_at hl 1 rfl) ?_
  refine lv_iconst (v := 0) hx hb dX4_set_6 (by decide) ?_
  refine lv_iconst (v := 2) hx hb dX4_set_7 (by decide) ?_
  refine k_calli (wc := ([] : va_W)) (w' := ([] : va_W)) (wn := cM cI a (bp r 5 0 0) h) (va_runS (As := [.int ip, .int 0, .int 2]) (rest := []) ⟨hx, hb, hml, hown, hts⟩ (mX4_in l D cI cQ cJ ip 0 2 _) (va_cwS 3 hts gX4_set_X4_in rfl rfl rfl (by decide +kernel) ⟨Nat.le_of_ble_eq_true rfl, Nat.le_of_ble_eq_true rfl⟩) (k_preS (wc := ([] : va_W)) hE hK hP hD [] (by decide) rfl [.int ip, .int 0, .int 2]) rfl rfl hl.1 rfl (lv_room (Nat.le_of_ble_eq_true rfl)) dX4_set_8 ⟨Nat.zero_le _, Nat.zero_le _⟩) hP hD hS hA [] rfl rfl rfl (fun H locs hP hD hS => ?_)
  refine lv_if_ne (tgt := 20) hx hb dX4_set_11 (by decide) (fun c_1 => ?_) (fun c_1 => ?_)
  · skip
    obtain ⟨i, hi, ei⟩ := zW_ex (n := 3) rfl rfl c_1
    subst ei
    have hcii : (nI i).toNatClampNeg = i := nI_clamp (by omega)
    refine lv_iload_n hx hb dX4_set_20 rfl (lv_at hl 2 rfl) ?_
    refine lv_iconst (v := 0) hx hb dX4_set_21 (by decide) ?_
    refine lv_iload_n hx hb dX4_set_22 rfl (lv_at hl 1 rfl) ?_
    refine lv_if_ne (tgt := 32) hx hb dX4_set_23 (by decide) (fun c_2 => ?_) (fun c_2 => ?_)
    · skip
      refine lv_iload_n hx hb dX4_set_32 rfl (lv_at hl 1 rfl) ?_
      refine lv_iconst (v := 1) hx hb dX4_set_33 (by decide) ?_
      refine lv_icmp_ne (tgt := 42) hx hb dX4_set_34 (by decide) (fun c_3 => ?_) (fun c_3 => ?_)
      · skip
        refine lv_bipush (v := 99) hx hb dX4_set_42 (by decide) ?_
        refine k_calli (wc := ([] : va_W)) (w' := ([] : va_W)) (wn := cM cI a (bp r 5 0 0) h) (va_runS (As := [.int ix, .int 0, .int 99]) (rest := []) ⟨hx, hb, hml, hown, hts⟩ (mX4_in l D cI cQ cJ ix 0 99 _) (va_cwS 3 hts gX4_set_X4_in rfl rfl rfl (by decide +kernel) ⟨Nat.le_of_ble_eq_true rfl, Nat.le_of_ble_eq_true rfl⟩) (k_preS (wc := ([] : va_W)) hE hK hP hD [] (by decide) rfl [.int ix, .int 0, .int 99]) rfl rfl hl.1 rfl (lv_room (Nat.le_of_ble_eq_true rfl)) dX4_set_44 ⟨Nat.zero_le _, Nat.zero_le _⟩) hP hD hS hA [] rfl rfl rfl (fun H locs hP hD hS => ?_)
        refine lv_if_ne (tgt := 56) hx hb dX4_set_47 (by decide) (fun c_4 => ?_) (fun c_4 => ?_)
        · skip
          refine lv_aload_n hx hb dX4_set_56 rfl (lv_at hl 0 rfl) ?_
          obtain ⟨r_5, er_5⟩ : ∃ z : rB, z = svB (bp r 5 0 0) N := ⟨_, rfl⟩
          have hm_6 := mX4_saves l D cI cQ cJ a (bp r 5 0 0) h N (by first | exact hN | exact (bp_ne (by decide)).trans hN) hN6
          rw [← er_5] at hm_6
          refine k_callv (wc := cM cI a (bp r 5 0 0) h) (w' := cM cI a r_5 h) (wn := cM cI a r_5 h) (va_runV (As := []) (rest := []) ⟨hx, hb, hml, hown, hts⟩ (hm_6 _) (cwV 0 hts gX4_set_X4_saves rfl rfl rfl (by decide +kernel) ⟨Nat.le_of_ble_eq_true rfl, Nat.le_of_ble_eq_true rfl⟩) (k_preV (wc := cM cI a (bp r 5 0 0) h) hE hK hP hD [0, 1, 2, 3, 4, 5] (by decide) rfl (ci := 4) (q0 := 0) rfl rfl []) rfl rfl hl.1 rfl (lv_room (Nat.le_of_ble_eq_true rfl)) dX4_set_57 ⟨Nat.zero_le _, Nat.zero_le _⟩) hP hD hS hA [0, 1, 2, 3, 4, 5] rfl rfl rfl (fun H locs hP hD hS => ?_)
          refine lv_aload_n hx hb dX4_set_60 rfl (lv_at hl 0 rfl) ?_
          refine va_get (D := D) (ci := 4) (v := .ref (a 1)) (C := RX4) (T := TX4) (N := 12) hx hb hts hinX4 hown hK hP 0 rfl rfl 1 (by decide) fl7 (fun _ h9 => h9) rfl dX4_set_61 ?_
          refine lv_iload_n hx hb dX4_set_64 rfl (lv_at hl 1 rfl) ?_
          refine k_iald (k := i) (v := r_5 0 i) hx hb hK hP 1 0 rfl rfl (vp_in_nI (n := i) (by omega) (by omega)) (nI_clamp (n := i) (by omega)) (rfl) dX4_set_65 ?_
          refine lv_topi (fun v3_7 ev3_7 => ?_)
          refine lv_istore_n (lv' := [(3, .int v3_7), (0, .ref (a 0)), (1, .int (nI i)), (2, .int ix)]) hx hb dX4_set_66 rfl hl (by decide) rfl (fun ls hl => ?_)
          refine lv_aload_n hx hb dX4_set_67 rfl (lv_at hl 1 rfl) ?_
          refine va_get (D := D) (ci := 4) (v := .ref (a 1)) (C := RX4) (T := TX4) (N := 12) hx hb hts hinX4 hown hK hP 0 rfl rfl 1 (by decide) fl7 (fun _ h9 => h9) rfl dX4_set_68 ?_
          refine lv_iload_n hx hb dX4_set_71 rfl (lv_at hl 2 rfl) ?_
          refine lv_iload_n hx hb dX4_set_72 rfl (lv_at hl 3 rfl) ?_
          refine k_iast (k := i) (ws' := cM cI a (bp r_5 0 i ix) h) hx hb hK hP hD hS 1 0 rfl rfl (vp_in_nI (n := i) (by omega) (by omega)) (nI_clamp (n := i) (by omega)) rfl dX4_set_73 (fun H locs hP hD hS => ?_)
          refine lv_iload_n hx hb dX4_set_74 rfl (lv_at hl 0 rfl) ?_
          have e9 : (bp r_5 0 i ix : rB) = setB r N (nI i) ix := by (replace ev3_7 := ev3_7.symm; subst ev3_7; replace er_5 := er_5.symm; subst er_5; simp only [setV, setB, msM, if_neg c_1, hcii, if_neg c_2, if_neg c_3, if_neg c_4, ↓reduceIte])
          rw [e9] at hP
          exact k_iret hx hb hr hlocks hS hP dX4_set_75 (by (replace ev3_7 := ev3_7.symm; subst ev3_7; replace er_5 := er_5.symm; subst er_5; simp only [setV, setB, msM, if_neg c_1, hcii, if_neg c_2, if_neg c_3, if_neg c_4, ↓reduceIte]))
        · skip
          refine lv_aload_n hx hb dX4_set_50 rfl (lv_at hl 0 rfl) ?_
          refine lv_iconst (v := 2) hx hb dX4_set_51 (by decide) ?_
          obtain ⟨r_8, er_8⟩ : ∃ z : rB, z = bp (bp r 5 0 0) 5 0 2 := ⟨_, rfl⟩
          have hm_9 := mX4_fails l D cI cQ cJ a (bp r 5 0 0) h 2
          rw [← er_8] at hm_9
          refine k_calli (wc := cM cI a (bp r 5 0 0) h) (w' := cM cI a r_8 h) (wn := cM cI a r_8 h) (va_runV (As := [.int 2]) (rest := []) ⟨hx, hb, hml, hown, hts⟩ (hm_9 _) (cwV 1 hts gX4_set_X4_fails rfl rfl rfl (by decide +kernel) ⟨Nat.le_of_ble_eq_true rfl, Nat.le_of_ble_eq_true rfl⟩) (k_preV (wc := cM cI a (bp r 5 0 0) h) hE hK hP hD [0, 1, 2, 3, 4, 5] (by decide) rfl (ci := 4) (q0 := 0) rfl rfl [.int 2]) rfl rfl hl.1 rfl (lv_room (Nat.le_of_ble_eq_true rfl)) dX4_set_52 ⟨Nat.zero_le _, Nat.zero_le _⟩) hP hD hS hA [0, 1, 2, 3, 4, 5] rfl rfl rfl (fun H locs hP hD hS => ?_)
          have e9 : (r_8 : rB) = setB r N (nI i) ix := by (replace er_8 := er_8.symm; subst er_8; simp only [setV, setB, msM, if_neg c_1, hcii, if_neg c_2, if_neg c_3, if_pos c_4, ↓reduceIte])
          rw [e9] at hP
          exact k_iret hx hb hr hlocks hS hP dX4_set_55 (by (replace er_8 := er_8.symm; subst er_8; simp only [setV, setB, msM, if_neg c_1, hcii, if_neg c_2, if_neg c_3, if_pos c_4, ↓reduceIte]))
      · skip
        refine lv_bipush (v := 50) hx hb dX4_set_37 (by decide) ?_
        refine lv_goto (tgt := 44) hx hb dX4_set_39 (by decide) ?_
        refine k_calli (wc := ([] : va_W)) (w' := ([] : va_W)) (wn := cM cI a (bp r 5 0 0) h) (va_runS (As := [.int ix, .int 0, .int 50]) (rest := []) ⟨hx, hb, hml, hown, hts⟩ (mX4_in l D cI cQ cJ ix 0 50 _) (va_cwS 3 hts gX4_set_X4_in rfl rfl rfl (by decide +kernel) ⟨Nat.le_of_ble_eq_true rfl, Nat.le_of_ble_eq_true rfl⟩) (k_preS (wc := ([] : va_W)) hE hK hP hD [] (by decide) rfl [.int ix, .int 0, .int 50]) rfl rfl hl.1 rfl (lv_room (Nat.le_of_ble_eq_true rfl)) dX4_set_44 ⟨Nat.zero_le _, Nat.zero_le _⟩) hP hD hS hA [] rfl rfl rfl (fun H locs hP hD hS => ?_)
        refine lv_if_ne (tgt := 56) hx hb dX4_set_47 (by decide) (fun c_10 => ?_) (fun c_10 => ?_)
        · skip
          refine lv_aload_n hx hb dX4_set_56 rfl (lv_at hl 0 rfl) ?_
          obtain ⟨r_11, er_11⟩ : ∃ z : rB, z = svB (bp r 5 0 0) N := ⟨_, rfl⟩
          have hm_12 := mX4_saves l D cI cQ cJ a (bp r 5 0 0) h N (by first | exact hN | exact (bp_ne (by decide)).trans hN) hN6
          rw [← er_11] at hm_12
          refine k_callv (wc := cM cI a (bp r 5 0 0) h) (w' := cM cI a r_11 h) (wn := cM cI a r_11 h) (va_runV (As := []) (rest := []) ⟨hx, hb, hml, hown, hts⟩ (hm_12 _) (cwV 0 hts gX4_set_X4_saves rfl rfl rfl (by decide +kernel) ⟨Nat.le_of_ble_eq_true rfl, Nat.le_of_ble_eq_true rfl⟩) (k_preV (wc := cM cI a (bp r 5 0 0) h) hE hK hP hD [0, 1, 2, 3, 4, 5] (by decide) rfl (ci := 4) (q0 := 0) rfl rfl []) rfl rfl hl.1 rfl (lv_room (Nat.le_of_ble_eq_true rfl)) dX4_set_57 ⟨Nat.zero_le _, Nat.zero_le _⟩) hP hD hS hA [0, 1, 2, 3, 4, 5] rfl rfl rfl (fun H locs hP hD hS => ?_)
          refine lv_aload_n hx hb dX4_set_60 rfl (lv_at hl 0 rfl) ?_
          refine va_get (D := D) (ci := 4) (v := .ref (a 1)) (C := RX4) (T := TX4) (N := 12) hx hb hts hinX4 hown hK hP 0 rfl rfl 1 (by decide) fl7 (fun _ h9 => h9) rfl dX4_set_61 ?_
          refine lv_iload_n hx hb dX4_set_64 rfl (lv_at hl 1 rfl) ?_
          refine k_iald (k := i) (v := r_11 0 i) hx hb hK hP 1 0 rfl rfl (vp_in_nI (n := i) (by omega) (by omega)) (nI_clamp (n := i) (by omega)) (rfl) dX4_set_65 ?_
          refine lv_topi (fun v3_13 ev3_13 => ?_)
          refine lv_istore_n (lv' := [(3, .int v3_13), (0, .ref (a 0)), (1, .int (nI i)), (2, .int ix)]) hx hb dX4_set_66 rfl hl (by decide) rfl (fun ls hl => ?_)
          refine lv_aload_n hx hb dX4_set_67 rfl (lv_at hl 1 rfl) ?_
          refine va_get (D := D) (ci := 4) (v := .ref (a 1)) (C := RX4) (T := TX4) (N := 12) hx hb hts hinX4 hown hK hP 0 rfl rfl 1 (by decide) fl7 (fun _ h9 => h9) rfl dX4_set_68 ?_
          refine lv_iload_n hx hb dX4_set_71 rfl (lv_at hl 2 rfl) ?_
          refine lv_iload_n hx hb dX4_set_72 rfl (lv_at hl 3 rfl) ?_
          refine k_iast (k := i) (ws' := cM cI a (bp r_11 0 i ix) h) hx hb hK hP hD hS 1 0 rfl rfl (vp_in_nI (n := i) (by omega) (by omega)) (nI_clamp (n := i) (by omega)) rfl dX4_set_73 (fun H locs hP hD hS => ?_)
          refine lv_iload_n hx hb dX4_set_74 rfl (lv_at hl 0 rfl) ?_
          have e9 : (bp r_11 0 i ix : rB) = setB r N (nI i) ix := by (replace ev3_13 := ev3_13.symm; subst ev3_13; replace er_11 := er_11.symm; subst er_11; simp only [setV, setB, msM, if_neg c_1, hcii, if_neg c_2, if_pos c_3, if_neg c_10, ↓reduceIte])
          rw [e9] at hP
          exact k_iret hx hb hr hlocks hS hP dX4_set_75 (by (replace ev3_13 := ev3_13.symm; subst ev3_13; replace er_11 := er_11.symm; subst er_11; simp only [setV, setB, msM, if_neg c_1, hcii, if_neg c_2, if_pos c_3, if_neg c_10, ↓reduceIte]))
        · skip
          refine lv_aload_n hx hb dX4_set_50 rfl (lv_at hl 0 rfl) ?_
          refine lv_iconst (v := 2) hx hb dX4_set_51 (by decide) ?_
          obtain ⟨r_14, er_14⟩ : ∃ z : rB, z = bp (bp r 5 0 0) 5 0 2 := ⟨_, rfl⟩
          have hm_15 := mX4_fails l D cI cQ cJ a (bp r 5 0 0) h 2
          rw [← er_14] at hm_15
          refine k_calli (wc := cM cI a (bp r 5 0 0) h) (w' := cM cI a r_14 h) (wn := cM cI a r_14 h) (va_runV (As := [.int 2]) (rest := []) ⟨hx, hb, hml, hown, hts⟩ (hm_15 _) (cwV 1 hts gX4_set_X4_fails rfl rfl rfl (by decide +kernel) ⟨Nat.le_of_ble_eq_true rfl, Nat.le_of_ble_eq_true rfl⟩) (k_preV (wc := cM cI a (bp r 5 0 0) h) hE hK hP hD [0, 1, 2, 3, 4, 5] (by decide) rfl (ci := 4) (q0 := 0) rfl rfl [.int 2]) rfl rfl hl.1 rfl (lv_room (Nat.le_of_ble_eq_true rfl)) dX4_set_52 ⟨Nat.zero_le _, Nat.zero_le _⟩) hP hD hS hA [0, 1, 2, 3, 4, 5] rfl rfl rfl (fun H locs hP hD hS => ?_)
          have e9 : (r_14 : rB) = setB r N (nI i) ix := by (replace er_14 := er_14.symm; subst er_14; simp only [setV, setB, msM, if_neg c_1, hcii, if_neg c_2, if_pos c_3, if_pos c_10, ↓reduceIte])
          rw [e9] at hP
          exact k_iret hx hb hr hlocks hS hP dX4_set_55 (by (replace er_14 := er_14.symm; subst er_14; simp only [setV, setB, msM, if_neg c_1, hcii, if_neg c_2, if_pos c_3, if_pos c_10, ↓reduceIte]))
    · skip
      refine lv_sipush (v := 600) hx hb dX4_set_26 (by decide) ?_
      refine lv_goto (tgt := 44) hx hb dX4_set_29 (by decide) ?_
      refine k_calli (wc := ([] : va_W)) (w' := ([] : va_W)) (wn := cM cI a (bp r 5 0 0) h) (va_runS (As := [.int ix, .int 0, .int 600]) (rest := []) ⟨hx, hb, hml, hown, hts⟩ (mX4_in l D cI cQ cJ ix 0 600 _) (va_cwS 3 hts gX4_set_X4_in rfl rfl rfl (by decide +kernel) ⟨Nat.le_of_ble_eq_true rfl, Nat.le_of_ble_eq_true rfl⟩) (k_preS (wc := ([] : va_W)) hE hK hP hD [] (by decide) rfl [.int ix, .int 0, .int 600]) rfl rfl hl.1 rfl (lv_room (Nat.le_of_ble_eq_true rfl)) dX4_set_44 ⟨Nat.zero_le _, Nat.zero_le _⟩) hP hD hS hA [] rfl rfl rfl (fun H locs hP hD hS => ?_)
      refine lv_if_ne (tgt := 56) hx hb dX4_set_47 (by decide) (fun c_16 => ?_) (fun c_16 => ?_)
      · skip
        refine lv_aload_n hx hb dX4_set_56 rfl (lv_at hl 0 rfl) ?_
        obtain ⟨r_17, er_17⟩ : ∃ z : rB, z = svB (bp r 5 0 0) N := ⟨_, rfl⟩
        have hm_18 := mX4_saves l D cI cQ cJ a (bp r 5 0 0) h N (by first | exact hN | exact (bp_ne (by decide)).trans hN) hN6
        rw [← er_17] at hm_18
        refine k_callv (wc := cM cI a (bp r 5 0 0) h) (w' := cM cI a r_17 h) (wn := cM cI a r_17 h) (va_runV (As := []) (rest := []) ⟨hx, hb, hml, hown, hts⟩ (hm_18 _) (cwV 0 hts gX4_set_X4_saves rfl rfl rfl (by decide +kernel) ⟨Nat.le_of_ble_eq_true rfl, Nat.le_of_ble_eq_true rfl⟩) (k_preV (wc := cM cI a (bp r 5 0 0) h) hE hK hP hD [0, 1, 2, 3, 4, 5] (by decide) rfl (ci := 4) (q0 := 0) rfl rfl []) rfl rfl hl.1 rfl (lv_room (Nat.le_of_ble_eq_true rfl)) dX4_set_57 ⟨Nat.zero_le _, Nat.zero_le _⟩) hP hD hS hA [0, 1, 2, 3, 4, 5] rfl rfl rfl (fun H locs hP hD hS => ?_)
        refine lv_aload_n hx hb dX4_set_60 rfl (lv_at hl 0 rfl) ?_
        refine va_get (D := D) (ci := 4) (v := .ref (a 1)) (C := RX4) (T := TX4) (N := 12) hx hb hts hinX4 hown hK hP 0 rfl rfl 1 (by decide) fl7 (fun _ h9 => h9) rfl dX4_set_61 ?_
        refine lv_iload_n hx hb dX4_set_64 rfl (lv_at hl 1 rfl) ?_
        refine k_iald (k := i) (v := r_17 0 i) hx hb hK hP 1 0 rfl rfl (vp_in_nI (n := i) (by omega) (by omega)) (nI_clamp (n := i) (by omega)) (rfl) dX4_set_65 ?_
        refine lv_topi (fun v3_19 ev3_19 => ?_)
        refine lv_istore_n (lv' := [(3, .int v3_19), (0, .ref (a 0)), (1, .int (nI i)), (2, .int ix)]) hx hb dX4_set_66 rfl hl (by decide) rfl (fun ls hl => ?_)
        refine lv_aload_n hx hb dX4_set_67 rfl (lv_at hl 1 rfl) ?_
        refine va_get (D := D) (ci := 4) (v := .ref (a 1)) (C := RX4) (T := TX4) (N := 12) hx hb hts hinX4 hown hK hP 0 rfl rfl 1 (by decide) fl7 (fun _ h9 => h9) rfl dX4_set_68 ?_
        refine lv_iload_n hx hb dX4_set_71 rfl (lv_at hl 2 rfl) ?_
        refine lv_iload_n hx hb dX4_set_72 rfl (lv_at hl 3 rfl) ?_
        refine k_iast (k := i) (ws' := cM cI a (bp r_17 0 i ix) h) hx hb hK hP hD hS 1 0 rfl rfl (vp_in_nI (n := i) (by omega) (by omega)) (nI_clamp (n := i) (by omega)) rfl dX4_set_73 (fun H locs hP hD hS => ?_)
        refine lv_iload_n hx hb dX4_set_74 rfl (lv_at hl 0 rfl) ?_
        have e9 : (bp r_17 0 i ix : rB) = setB r N (nI i) ix := by (replace ev3_19 := ev3_19.symm; subst ev3_19; replace er_17 := er_17.symm; subst er_17; simp only [setV, setB, msM, if_neg c_1, hcii, if_pos c_2, if_neg c_16, ↓reduceIte])
        rw [e9] at hP
        exact k_iret hx hb hr hlocks hS hP dX4_set_75 (by (replace ev3_19 := ev3_19.symm; subst ev3_19; replace er_17 := er_17.symm; subst er_17; simp only [setV, setB, msM, if_neg c_1, hcii, if_pos c_2, if_neg c_16, ↓reduceIte]))
      · skip
        refine lv_aload_n hx hb dX4_set_50 rfl (lv_at hl 0 rfl) ?_
        refine lv_iconst (v := 2) hx hb dX4_set_51 (by decide) ?_
        obtain ⟨r_20, er_20⟩ : ∃ z : rB, z = bp (bp r 5 0 0) 5 0 2 := ⟨_, rfl⟩
        have hm_21 := mX4_fails l D cI cQ cJ a (bp r 5 0 0) h 2
        rw [← er_20] at hm_21
        refine k_calli (wc := cM cI a (bp r 5 0 0) h) (w' := cM cI a r_20 h) (wn := cM cI a r_20 h) (va_runV (As := [.int 2]) (rest := []) ⟨hx, hb, hml, hown, hts⟩ (hm_21 _) (cwV 1 hts gX4_set_X4_fails rfl rfl rfl (by decide +kernel) ⟨Nat.le_of_ble_eq_true rfl, Nat.le_of_ble_eq_true rfl⟩) (k_preV (wc := cM cI a (bp r 5 0 0) h) hE hK hP hD [0, 1, 2, 3, 4, 5] (by decide) rfl (ci := 4) (q0 := 0) rfl rfl [.int 2]) rfl rfl hl.1 rfl (lv_room (Nat.le_of_ble_eq_true rfl)) dX4_set_52 ⟨Nat.zero_le _, Nat.zero_le _⟩) hP hD hS hA [0, 1, 2, 3, 4, 5] rfl rfl rfl (fun H locs hP hD hS => ?_)
        have e9 : (r_20 : rB) = setB r N (nI i) ix := by (replace er_20 := er_20.symm; subst er_20; simp only [setV, setB, msM, if_neg c_1, hcii, if_pos c_2, if_pos c_16, ↓reduceIte])
        rw [e9] at hP
        exact k_iret hx hb hr hlocks hS hP dX4_set_55 (by (replace er_20 := er_20.symm; subst er_20; simp only [setV, setB, msM, if_neg c_1, hcii, if_pos c_2, if_pos c_16, ↓reduceIte]))
  · skip
    refine lv_aload_n hx hb dX4_set_14 rfl (lv_at hl 0 rfl) ?_
    refine lv_iconst (v := 1) hx hb dX4_set_15 (by decide) ?_
    obtain ⟨r_22, er_22⟩ : ∃ z : rB, z = bp (bp r 5 0 0) 5 0 1 := ⟨_, rfl⟩
    have hm_23 := mX4_fails l D cI cQ cJ a (bp r 5 0 0) h 1
    rw [← er_22] at hm_23
    refine k_calli (wc := cM cI a (bp r 5 0 0) h) (w' := cM cI a r_22 h) (wn := cM cI a r_22 h) (va_runV (As := [.int 1]) (rest := []) ⟨hx, hb, hml, hown, hts⟩ (hm_23 _) (cwV 1 hts gX4_set_X4_fails rfl rfl rfl (by decide +kernel) ⟨Nat.le_of_ble_eq_true rfl, Nat.le_of_ble_eq_true rfl⟩) (k_preV (wc := cM cI a (bp r 5 0 0) h) hE hK hP hD [0, 1, 2, 3, 4, 5] (by decide) rfl (ci := 4) (q0 := 0) rfl rfl [.int 1]) rfl rfl hl.1 rfl (lv_room (Nat.le_of_ble_eq_true rfl)) dX4_set_16 ⟨Nat.zero_le _, Nat.zero_le _⟩) hP hD hS hA [0, 1, 2, 3, 4, 5] rfl rfl rfl (fun H locs hP hD hS => ?_)
    have e9 : (r_22 : rB) = setB r N ip ix := by (replace er_22 := er_22.symm; subst er_22; simp only [setV, setB, msM, if_pos c_1, ↓reduceIte])
    rw [e9] at hP
    exact k_iret hx hb hr hlocks hS hP dX4_set_19 (by (replace er_22 := er_22.symm; subst er_22; simp only [setV, setB, msM, if_pos c_1, ↓reduceIte]))
