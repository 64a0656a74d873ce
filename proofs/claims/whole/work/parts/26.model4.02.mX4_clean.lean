set_option maxHeartbeats 4000000 in
set_option maxRecDepth 100000 in
theorem mX4_clean (l : Launch) (D : va_G) (cI cQ cJ : ClassId) (a : Nat → Nat) (r : rB) (h : Int64) (N : Nat) (hN : r 5 1 = nI N) (hN6 : N ≤ 6) (ip : Int32) : Mi l D (tY cI cQ cJ) yX4_clean wsX4_clean ({ frames := 2, cells := 0, slots := 0, locals := 42 } : Room) [.ref (a 0), .int ip] (cM cI a r h) (cM cI a (cleB r N ip) h) (cleV r N ip) := by
  refine M_of (cc := cX4_clean) (maxL := 3) (ret := some .int) (Qc := fun A => va_Qi (fun (x : Int32) (_ : Unit) => x = cleV r N ip) (fun _ t => Wd D (cM cI a (cleB r N ip) h) t) A) (by decide) rfl (Nat.le_of_ble_eq_true rfl) ?_
  intro p e s m below meth c A ls hB hE hP hK hD hA hl
  obtain ⟨hx, hb, hr, hml, hts, hown, hlocks⟩ := hB
  have hS : va_S A s.heap s.heap [] := va_S.rf
  have hl : lv_has ls 3 [(0, .ref (a 0)), (1, .int ip)] := hl
  have hinX4 : ∀ w ∈ u_ws RX4 TX4 12, w ∈ wsX4_clean := by decide +kernel
  have fl25 := hts (.fieldLink RX4 25 "RoofDrainsModel" "thrown" "I") (by decide +kernel)
  have fl7 := hts (.fieldLink RX4 7 "RoofDrainsModel" "s" "[I") (by decide +kernel)
  refine lv_aload_n hx hb dX4_clean_0 rfl (lv_at hl 0 rfl) ?_
  refine lv_iconst (v := 0) hx hb dX4_clean_1 (by decide) ?_
  refine k_put (D := D) (ci := 4) (v := .int 0) (ty := .int) (C := RX4) (T := TX4) (N := 12) hx hb hts hinX4 tyX4 tyX4_ok nmX4 hown hK hP hD hS 0 rfl rfl 0 (by decide) fl25 (fun _ h9 => h9) rfl (by decide +kernel) rfl rfl (Nat.le_of_ble_eq_true rfl) (ws' := cM cI a (bp r 5 0 0) h) rfl dX4_clean_2 (fun H locs hP hD hS => ?_)
  refine lv_iload_n hx hb dX4_clean_5 rfl (lv_at hl 1 rfl) ?_
  refine k_calli (wc := ([] : va_W)) (w' := ([] : va_W)) (wn := cM cI a (bp r 5 0 0) h) (va_runS (As := [.int ip]) (rest := []) ⟨hx, hb, hml, hown, hts⟩ (mX4_isOne l D cI cQ cJ ip _) (va_cwS 1 hts gX4_clean_X4_isOne rfl rfl rfl (by decide +kernel) ⟨Nat.le_of_ble_eq_true rfl, Nat.le_of_ble_eq_true rfl⟩) (k_preS (wc := ([] : va_W)) hE hK hP hD [] (by decide) rfl [.int ip]) rfl rfl hl.1 rfl (lv_room (Nat.le_of_ble_eq_true rfl)) dX4_clean_6 ⟨Nat.zero_le _, Nat.zero_le _⟩) hP hD hS hA [] rfl rfl rfl (fun H locs hP hD hS => ?_)
  refine lv_if_ne (tgt := 18) hx hb dX4_clean_9 (by decide) (fun c_1 => ?_) (fun c_1 => ?_)
  · skip
    obtain ⟨i, hi, ei⟩ := zW_ex (n := 6) rfl rfl c_1
    subst ei
    have hcii : (nI i).toNatClampNeg = i := nI_clamp (by omega)
    refine lv_aload_n hx hb dX4_clean_18 rfl (lv_at hl 0 rfl) ?_
    obtain ⟨r_2, er_2⟩ : ∃ z : rB, z = svB (bp r 5 0 0) N := ⟨_, rfl⟩
    have hm_3 := mX4_saves l D cI cQ cJ a (bp r 5 0 0) h N (by first | exact hN | exact (bp_ne (by decide)).trans hN) hN6
    rw [← er_2] at hm_3
    refine k_callv (wc := cM cI a (bp r 5 0 0) h) (w' := cM cI a r_2 h) (wn := cM cI a r_2 h) (va_runV (As := []) (rest := []) ⟨hx, hb, hml, hown, hts⟩ (hm_3 _) (cwV 0 hts gX4_clean_X4_saves rfl rfl rfl (by decide +kernel) ⟨Nat.le_of_ble_eq_true rfl, Nat.le_of_ble_eq_true rfl⟩) (k_preV (wc := cM cI a (bp r 5 0 0) h) hE hK hP hD [0, 1, 2, 3, 4, 5] (by decide) rfl (ci := 4) (q0 := 0) rfl rfl []) rfl rfl hl.1 rfl (lv_room (Nat.le_of_ble_eq_true rfl)) dX4_clean_19 ⟨Nat.zero_le _, Nat.zero_le _⟩) hP hD hS hA [0, 1, 2, 3, 4, 5] rfl rfl rfl (fun H locs hP hD hS => ?_)
    refine lv_aload_n hx hb dX4_clean_22 rfl (lv_at hl 0 rfl) ?_
    refine lv_iload_n hx hb dX4_clean_23 rfl (lv_at hl 1 rfl) ?_
    refine lv_iconst (v := 2) hx hb dX4_clean_24 (by decide) ?_
    refine k_calli (wc := cM cI a r_2 h) (w' := cM cI a r_2 h) (wn := cM cI a r_2 h) (va_runV (As := [.int (nI i), .int 2]) (rest := []) ⟨hx, hb, hml, hown, hts⟩ (mX4_of l D cI cQ cJ a r_2 h (nI i) i 2 rfl (by omega) (by omega) _) (cwV 2 hts gX4_clean_X4_of rfl rfl rfl (by decide +kernel) ⟨Nat.le_of_ble_eq_true rfl, Nat.le_of_ble_eq_true rfl⟩) (k_preV (wc := cM cI a r_2 h) hE hK hP hD [0, 1, 2, 3, 4, 5] (by decide) rfl (ci := 4) (q0 := 0) rfl rfl [.int (nI i), .int 2]) rfl rfl hl.1 rfl (lv_room (Nat.le_of_ble_eq_true rfl)) dX4_clean_25 ⟨Nat.zero_le _, Nat.zero_le _⟩) hP hD hS hA [0, 1, 2, 3, 4, 5] rfl rfl rfl (fun H locs hP hD hS => ?_)
    refine lv_topi (fun v2_4 ev2_4 => ?_)
    refine lv_istore_n (lv' := [(2, .int v2_4), (0, .ref (a 0)), (1, .int (nI i))]) hx hb dX4_clean_28 rfl hl (by decide) rfl (fun ls hl => ?_)
    refine lv_aload_n hx hb dX4_clean_29 rfl (lv_at hl 1 rfl) ?_
    refine va_get (D := D) (ci := 4) (v := .ref (a 1)) (C := RX4) (T := TX4) (N := 12) hx hb hts hinX4 hown hK hP 0 rfl rfl 1 (by decide) fl7 (fun _ h9 => h9) rfl dX4_clean_30 ?_
    refine lv_bipush (v := 33) hx hb dX4_clean_33 (by decide) ?_
    refine lv_bipush (v := 7) hx hb dX4_clean_35 (by decide) ?_
    refine lv_iload_n hx hb dX4_clean_37 rfl (lv_at hl 2 rfl) ?_
    refine lv_imul hx hb dX4_clean_38 ?_
    refine lv_eqi (y := nI (7 * i)) (pk_mul 7 i) ?_
    refine lv_iadd hx hb dX4_clean_39 ?_
    refine lv_eqi (y := nI (33 + (7 * i))) (nI_add 33 (7 * i)) ?_
    refine lv_iconst (v := 2) hx hb dX4_clean_40 (by decide) ?_
    refine lv_iadd hx hb dX4_clean_41 ?_
    refine lv_eqi (y := nI ((33 + 7 * i) + 2)) (nI_add (33 + 7 * i) 2) ?_
    refine lv_iconst (v := 0) hx hb dX4_clean_42 (by decide) ?_
    refine k_iast (k := 33 + 7 * i + 2) (ws' := cM cI a (bp r_2 0 (33 + 7 * i + 2) 0) h) hx hb hK hP hD hS 1 0 rfl rfl (vp_in_nI (n := 33 + 7 * i + 2) (by omega) (by omega)) (nI_clamp (n := 33 + 7 * i + 2) (by omega)) rfl dX4_clean_43 (fun H locs hP hD hS => ?_)
    refine lv_iload_n hx hb dX4_clean_44 rfl (lv_at hl 0 rfl) ?_
    have e9 : (bp r_2 0 (33 + 7 * i + 2) 0 : rB) = cleB r N (nI i) := by (replace ev2_4 := ev2_4.symm; subst ev2_4; replace er_2 := er_2.symm; subst er_2; simp only [cleV, cleB, if_neg c_1, hcii, ↓reduceIte])
    rw [e9] at hP
    exact k_iret hx hb hr hlocks hS hP dX4_clean_45 (by (replace ev2_4 := ev2_4.symm; subst ev2_4; replace er_2 := er_2.symm; subst er_2; simp only [cleV, cleB, if_neg c_1, hcii, ↓reduceIte]))
  · skip
    refine lv_aload_n hx hb dX4_clean_12 rfl (lv_at hl 0 rfl) ?_
    refine lv_iconst (v := 1) hx hb dX4_clean_13 (by decide) ?_
    obtain ⟨r_5, er_5⟩ : ∃ z : rB, z = bp (bp r 5 0 0) 5 0 1 := ⟨_, rfl⟩
    have hm_6 := mX4_fails l D cI cQ cJ a (bp r 5 0 0) h 1
    rw [← er_5] at hm_6
    refine k_calli (wc := cM cI a (bp r 5 0 0) h) (w' := cM cI a r_5 h) (wn := cM cI a r_5 h) (va_runV (As := [.int 1]) (rest := []) ⟨hx, hb, hml, hown, hts⟩ (hm_6 _) (cwV 1 hts gX4_clean_X4_fails rfl rfl rfl (by decide +kernel) ⟨Nat.le_of_ble_eq_true rfl, Nat.le_of_ble_eq_true rfl⟩) (k_preV (wc := cM cI a (bp r 5 0 0) h) hE hK hP hD [0, 1, 2, 3, 4, 5] (by decide) rfl (ci := 4) (q0 := 0) rfl rfl [.int 1]) rfl rfl hl.1 rfl (lv_room (Nat.le_of_ble_eq_true rfl)) dX4_clean_14 ⟨Nat.zero_le _, Nat.zero_le _⟩) hP hD hS hA [0, 1, 2, 3, 4, 5] rfl rfl rfl (fun H locs hP hD hS => ?_)
    have e9 : (r_5 : rB) = cleB r N ip := by (replace er_5 := er_5.symm; subst er_5; simp only [cleV, cleB, if_pos c_1, ↓reduceIte])
    rw [e9] at hP
    exact k_iret hx hb hr hlocks hS hP dX4_clean_17 (by (replace er_5 := er_5.symm; subst er_5; simp only [cleV, cleB, if_pos c_1, ↓reduceIte]))
