set_option maxHeartbeats 4000000 in
set_option maxRecDepth 100000 in
theorem mX4_flowsOver (l : Launch) (D : va_G) (cI cQ cJ : ClassId) (a : Nat → Nat) (r : rB) (h : Int64) (x : Int32) (i : Nat) (hxi : x = nI i) (hi : i < 6) (hok : okS (r 0)) : Mv l D (tY cI cQ cJ) yX4_flowsOver wsX4_flowsOver ({ frames := 2, cells := 0, slots := 0, locals := 43 } : Room) [.ref (a 0), .int x] (cM cI a r h) (cM cI a (fovM r i) h) := by
  refine M_of (cc := cX4_flowsOver) (maxL := 3) (ret := none) (Qc := fun A => va_Qv (fun (_ : Unit) => True) (fun _ t => Wd D (cM cI a (fovM r i) h) t) A) (by decide) rfl (Nat.le_of_ble_eq_true rfl) ?_
  intro p e s m below meth c A ls hB hE hP hK hD hA hl
  obtain ⟨hx, hb, hr, hml, hts, hown, hlocks⟩ := hB
  have hS : va_S A s.heap s.heap [] := va_S.rf
  have hl : lv_has ls 3 [(0, .ref (a 0)), (1, .int x)] := hl
  subst hxi
  obtain ⟨-, j, hj, hvj⟩ := hok i hi
  have hinX4 : ∀ w ∈ u_ws RX4 TX4 12, w ∈ wsX4_flowsOver := by decide +kernel
  have fl7 := hts (.fieldLink RX4 7 "RoofDrainsModel" "s" "[I") (by decide +kernel)
  refine lv_aload_n hx hb dX4_flowsOver_0 rfl (lv_at hl 0 rfl) ?_
  refine lv_iload_n hx hb dX4_flowsOver_1 rfl (lv_at hl 1 rfl) ?_
  refine lv_iconst (v := 4) hx hb dX4_flowsOver_2 (by decide) ?_
  refine k_calli (wc := cM cI a r h) (w' := cM cI a r h) (wn := cM cI a r h) (va_runV (As := [.int (nI i), .int 4]) (rest := []) ⟨hx, hb, hml, hown, hts⟩ (mX4_of l D cI cQ cJ a r h (nI i) i 4 rfl (by omega) (by omega) _) (cwV 2 hts gX4_flowsOver_X4_of rfl rfl rfl (by decide +kernel) ⟨Nat.le_of_ble_eq_true rfl, Nat.le_of_ble_eq_true rfl⟩) (k_preV (wc := cM cI a r h) hE hK hP hD [0, 1, 2, 3, 4, 5] (by decide) rfl (ci := 4) (q0 := 0) rfl rfl [.int (nI i), .int 4]) rfl rfl hl.1 rfl (lv_room (Nat.le_of_ble_eq_true rfl)) dX4_flowsOver_3 ⟨Nat.zero_le _, Nat.zero_le _⟩) hP hD hS hA [0, 1, 2, 3, 4, 5] rfl rfl rfl (fun H locs hP hD hS => ?_)
  refine lv_aload_n hx hb dX4_flowsOver_6 rfl (lv_at hl 0 rfl) ?_
  refine lv_iload_n hx hb dX4_flowsOver_7 rfl (lv_at hl 1 rfl) ?_
  refine k_calli (wc := cM cI a r h) (w' := cM cI a r h) (wn := cM cI a r h) (va_runV (As := [.int (nI i)]) (rest := [.int (r 0 (33 + 7 * i + 4))]) ⟨hx, hb, hml, hown, hts⟩ (mX4_room l D cI cQ cJ a r h (nI i) i rfl (by omega) _) (cwV 1 hts gX4_flowsOver_X4_room rfl rfl rfl (by decide +kernel) ⟨Nat.le_of_ble_eq_true rfl, Nat.le_of_ble_eq_true rfl⟩) (k_preV (wc := cM cI a r h) hE hK hP hD [0, 1, 2, 3, 4, 5] (by decide) rfl (ci := 4) (q0 := 0) rfl rfl [.int (nI i)]) rfl rfl hl.1 rfl (lv_room (Nat.le_of_ble_eq_true rfl)) dX4_flowsOver_8 ⟨Nat.zero_le _, Nat.zero_le _⟩) hP hD hS hA [0, 1, 2, 3, 4, 5] rfl rfl rfl (fun H locs hP hD hS => ?_)
  refine lv_isub hx hb dX4_flowsOver_11 ?_
  refine lv_topi (fun v2_1 ev2_1 => ?_)
  refine lv_istore_n (lv' := [(2, .int v2_1), (0, .ref (a 0)), (1, .int (nI i))]) hx hb dX4_flowsOver_12 rfl hl (by decide) rfl (fun ls hl => ?_)
  refine lv_iload_n hx hb dX4_flowsOver_13 rfl (lv_at hl 0 rfl) ?_
  refine lv_if_le (tgt := 69) hx hb dX4_flowsOver_14 (by decide) (fun c_2 => ?_) (fun c_2 => ?_)
  · skip
    have e9 : (r : rB) = fovM r i := by (replace ev2_1 := ev2_1.symm; subst ev2_1; simp only [fovM, if_pos c_2, ↓reduceIte])
    rw [e9] at hP
    exact k_vret hx hb hr hlocks hS hP dX4_flowsOver_69
  · skip
    refine lv_aload_n hx hb dX4_flowsOver_17 rfl (lv_at hl 1 rfl) ?_
    refine lv_iload_n hx hb dX4_flowsOver_18 rfl (lv_at hl 2 rfl) ?_
    refine lv_iconst (v := 4) hx hb dX4_flowsOver_19 (by decide) ?_
    refine lv_iload_n hx hb dX4_flowsOver_20 rfl (lv_at hl 0 rfl) ?_
    refine lv_ineg hx hb dX4_flowsOver_21 ?_
    obtain ⟨r_3, er_3⟩ : ∃ z : rB, z = addM r i 4 (-v2_1) := ⟨_, rfl⟩
    have hm_4 := mX4_adds l D cI cQ cJ a r h (nI i) i 4 rfl (by omega) (by omega) (-v2_1)
    rw [← er_3] at hm_4
    refine k_callv (wc := cM cI a r h) (w' := cM cI a r_3 h) (wn := cM cI a r_3 h) (va_runV (As := [.int (nI i), .int 4, .int (-v2_1)]) (rest := []) ⟨hx, hb, hml, hown, hts⟩ (hm_4 _) (cwV 3 hts gX4_flowsOver_X4_adds rfl rfl rfl (by decide +kernel) ⟨Nat.le_of_ble_eq_true rfl, Nat.le_of_ble_eq_true rfl⟩) (k_preV (wc := cM cI a r h) hE hK hP hD [0, 1, 2, 3, 4, 5] (by decide) rfl (ci := 4) (q0 := 0) rfl rfl [.int (nI i), .int 4, .int (-v2_1)]) rfl rfl hl.1 rfl (lv_room (Nat.le_of_ble_eq_true rfl)) dX4_flowsOver_22 ⟨Nat.zero_le _, Nat.zero_le _⟩) hP hD hS hA [0, 1, 2, 3, 4, 5] rfl rfl rfl (fun H locs hP hD hS => ?_)
    refine lv_aload_n hx hb dX4_flowsOver_25 rfl (lv_at hl 1 rfl) ?_
    refine lv_iload_n hx hb dX4_flowsOver_26 rfl (lv_at hl 2 rfl) ?_
    refine lv_iconst (v := 3) hx hb dX4_flowsOver_27 (by decide) ?_
    refine k_calli (wc := cM cI a r_3 h) (w' := cM cI a r_3 h) (wn := cM cI a r_3 h) (va_runV (As := [.int (nI i), .int 3]) (rest := []) ⟨hx, hb, hml, hown, hts⟩ (mX4_of l D cI cQ cJ a r_3 h (nI i) i 3 rfl (by omega) (by omega) _) (cwV 2 hts gX4_flowsOver_X4_of rfl rfl rfl (by decide +kernel) ⟨Nat.le_of_ble_eq_true rfl, Nat.le_of_ble_eq_true rfl⟩) (k_preV (wc := cM cI a r_3 h) hE hK hP hD [0, 1, 2, 3, 4, 5] (by decide) rfl (ci := 4) (q0 := 0) rfl rfl [.int (nI i), .int 3]) rfl rfl hl.1 rfl (lv_room (Nat.le_of_ble_eq_true rfl)) dX4_flowsOver_28 ⟨Nat.zero_le _, Nat.zero_le _⟩) hP hD hS hA [0, 1, 2, 3, 4, 5] rfl rfl rfl (fun H locs hP hD hS => ?_)
    refine lv_if_le (tgt := 51) hx hb dX4_flowsOver_31 (by decide) (fun c_5 => ?_) (fun c_5 => ?_)
    · skip
      refine lv_aload_n hx hb dX4_flowsOver_51 rfl (lv_at hl 1 rfl) ?_
      refine lv_iload_n hx hb dX4_flowsOver_52 rfl (lv_at hl 2 rfl) ?_
      refine lv_iconst (v := 5) hx hb dX4_flowsOver_53 (by decide) ?_
      refine lv_iload_n hx hb dX4_flowsOver_54 rfl (lv_at hl 0 rfl) ?_
      obtain ⟨r_6, er_6⟩ : ∃ z : rB, z = addM r_3 i 5 v2_1 := ⟨_, rfl⟩
      have hm_7 := mX4_adds l D cI cQ cJ a r_3 h (nI i) i 5 rfl (by omega) (by omega) v2_1
      rw [← er_6] at hm_7
      refine k_callv (wc := cM cI a r_3 h) (w' := cM cI a r_6 h) (wn := cM cI a r_6 h) (va_runV (As := [.int (nI i), .int 5, .int v2_1]) (rest := []) ⟨hx, hb, hml, hown, hts⟩ (hm_7 _) (cwV 3 hts gX4_flowsOver_X4_adds rfl rfl rfl (by decide +kernel) ⟨Nat.le_of_ble_eq_true rfl, Nat.le_of_ble_eq_true rfl⟩) (k_preV (wc := cM cI a r_3 h) hE hK hP hD [0, 1, 2, 3, 4, 5] (by decide) rfl (ci := 4) (q0 := 0) rfl rfl [.int (nI i), .int 5, .int v2_1]) rfl rfl hl.1 rfl (lv_room (Nat.le_of_ble_eq_true rfl)) dX4_flowsOver_55 ⟨Nat.zero_le _, Nat.zero_le _⟩) hP hD hS hA [0, 1, 2, 3, 4, 5] rfl rfl rfl (fun H locs hP hD hS => ?_)
      refine lv_aload_n hx hb dX4_flowsOver_58 rfl (lv_at hl 1 rfl) ?_
      refine va_get (D := D) (ci := 4) (v := .ref (a 1)) (C := RX4) (T := TX4) (N := 12) hx hb hts hinX4 hown hK hP 0 rfl rfl 1 (by decide) fl7 (fun _ h9 => h9) rfl dX4_flowsOver_59 ?_
      refine lv_bipush (v := 7) hx hb dX4_flowsOver_62 (by decide) ?_
      refine lv_dup2_11 hx hb dX4_flowsOver_64 rfl rfl ?_
      refine k_iald (k := 7) (v := r_6 0 7) hx hb hK hP 1 0 rfl rfl (vp_in_nI (n := 7) (by omega) (by omega)) (nI_clamp (n := 7) (by omega)) (rfl) dX4_flowsOver_65 ?_
      refine lv_iload_n hx hb dX4_flowsOver_66 rfl (lv_at hl 0 rfl) ?_
      refine lv_iadd hx hb dX4_flowsOver_67 ?_
      refine lv_topi (fun a_8 ea_8 => ?_)
      refine k_iast (k := 7) (ws' := cM cI a (bp r_6 0 7 a_8) h) hx hb hK hP hD hS 1 0 rfl rfl (vp_in_nI (n := 7) (by omega) (by omega)) (nI_clamp (n := 7) (by omega)) rfl dX4_flowsOver_68 (fun H locs hP hD hS => ?_)
      have e9 : (bp r_6 0 7 a_8 : rB) = fovM r i := by (replace ea_8 := ea_8.symm; subst ea_8; replace er_6 := er_6.symm; subst er_6; replace er_3 := er_3.symm; subst er_3; replace ev2_1 := ev2_1.symm; subst ev2_1; simp only [fovM, if_neg c_2, if_pos c_5, ↓reduceIte])
      rw [e9] at hP
      exact k_vret hx hb hr hlocks hS hP dX4_flowsOver_69
    · skip
      have hv1 : r_3 0 (33 + 7 * i + 3) = nI j := by rw [er_3]; exact (addM_ne (by omega)).trans hvj
      have hcl : (r_3 0 (33 + 7 * i + 3) - 1).toNatClampNeg = j - 1 := by rw [fo_e hv1 hj c_5]; exact nI_clamp (by omega)
      refine lv_aload_n hx hb dX4_flowsOver_34 rfl (lv_at hl 1 rfl) ?_
      refine lv_aload_n hx hb dX4_flowsOver_35 rfl (lv_at hl 1 rfl) ?_
      refine lv_iload_n hx hb dX4_flowsOver_36 rfl (lv_at hl 2 rfl) ?_
      refine lv_iconst (v := 3) hx hb dX4_flowsOver_37 (by decide) ?_
      refine k_calli (wc := cM cI a r_3 h) (w' := cM cI a r_3 h) (wn := cM cI a r_3 h) (va_runV (As := [.int (nI i), .int 3]) (rest := [.ref (a 0)]) ⟨hx, hb, hml, hown, hts⟩ (mX4_of l D cI cQ cJ a r_3 h (nI i) i 3 rfl (by omega) (by omega) _) (cwV 2 hts gX4_flowsOver_X4_of rfl rfl rfl (by decide +kernel) ⟨Nat.le_of_ble_eq_true rfl, Nat.le_of_ble_eq_true rfl⟩) (k_preV (wc := cM cI a r_3 h) hE hK hP hD [0, 1, 2, 3, 4, 5] (by decide) rfl (ci := 4) (q0 := 0) rfl rfl [.int (nI i), .int 3]) rfl rfl hl.1 rfl (lv_room (Nat.le_of_ble_eq_true rfl)) dX4_flowsOver_38 ⟨Nat.zero_le _, Nat.zero_le _⟩) hP hD hS hA [0, 1, 2, 3, 4, 5] rfl rfl rfl (fun H locs hP hD hS => ?_)
      refine lv_iconst (v := 1) hx hb dX4_flowsOver_41 (by decide) ?_
      refine lv_isub hx hb dX4_flowsOver_42 ?_
      refine lv_iconst (v := 4) hx hb dX4_flowsOver_43 (by decide) ?_
      refine lv_iload_n hx hb dX4_flowsOver_44 rfl (lv_at hl 0 rfl) ?_
      obtain ⟨r_9, er_9⟩ : ∃ z : rB, z = addM r_3 (j - 1) 4 v2_1 := ⟨_, rfl⟩
      have hm_10 := mX4_adds l D cI cQ cJ a r_3 h ((r_3 0 (33 + 7 * i + 3)) - 1) (j - 1) 4 (fo_e hv1 hj c_5) (by omega) (by omega) v2_1
      rw [← er_9] at hm_10
      refine k_callv (wc := cM cI a r_3 h) (w' := cM cI a r_9 h) (wn := cM cI a r_9 h) (va_runV (As := [.int ((r_3 0 (33 + 7 * i + 3)) - 1), .int 4, .int v2_1]) (rest := []) ⟨hx, hb, hml, hown, hts⟩ (hm_10 _) (cwV 3 hts gX4_flowsOver_X4_adds rfl rfl rfl (by decide +kernel) ⟨Nat.le_of_ble_eq_true rfl, Nat.le_of_ble_eq_true rfl⟩) (k_preV (wc := cM cI a r_3 h) hE hK hP hD [0, 1, 2, 3, 4, 5] (by decide) rfl (ci := 4) (q0 := 0) rfl rfl [.int ((r_3 0 (33 + 7 * i + 3)) - 1), .int 4, .int v2_1]) rfl rfl hl.1 rfl (lv_room (Nat.le_of_ble_eq_true rfl)) dX4_flowsOver_45 ⟨Nat.zero_le _, Nat.zero_le _⟩) hP hD hS hA [0, 1, 2, 3, 4, 5] rfl rfl rfl (fun H locs hP hD hS => ?_)
      refine lv_goto (tgt := 69) hx hb dX4_flowsOver_48 (by decide) ?_
      have e9 : (r_9 : rB) = fovM r i := by (replace er_9 := er_9.symm; subst er_9; replace er_3 := er_3.symm; subst er_3; replace ev2_1 := ev2_1.symm; subst ev2_1; simp only [fovM, if_neg c_2, if_neg c_5, hcl, ↓reduceIte])
      rw [e9] at hP
      exact k_vret hx hb hr hlocks hS hP dX4_flowsOver_69
