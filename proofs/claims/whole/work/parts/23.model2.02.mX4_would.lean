set_option maxHeartbeats 4000000 in
set_option maxRecDepth 100000 in
theorem mX4_would (l : Launch) (D : va_G) (cI cQ cJ : ClassId) (a : Nat → Nat) (r : rB) (h : Int64) (mi : Int32) (k : Nat) (hk : mi.toNatClampNeg = k) (w : Int32) (hok : okS (r 0)) : Mi l D (tY cI cQ cJ) yX4_would wsX4_would ({ frames := 5, cells := 0, slots := 0, locals := 115 } : Room) [.ref (a 0), .int mi, .int w] (cM cI a r h) (cM cI a (asd r) h) (wouldV r k w) := by
  refine M_of (cc := cX4_would) (maxL := 6) (ret := some .int) (Qc := fun A => va_Qi (fun (x : Int32) (_ : Unit) => x = wouldV r k w) (fun _ t => Wd D (cM cI a (asd r) h) t) A) (by decide) rfl (Nat.le_of_ble_eq_true rfl) ?_
  intro p e s m below meth c A ls hB hE hP hK hD hA hl
  obtain ⟨hx, hb, hr, hml, hts, hown, hlocks⟩ := hB
  have hS : va_S A s.heap s.heap [] := va_S.rf
  have hl : lv_has ls 6 [(0, .ref (a 0)), (1, .int mi), (2, .int w)] := hl
  have hinX4 : ∀ w ∈ u_ws RX4 TX4 12, w ∈ wsX4_would := by decide +kernel
  have fl7 := hts (.fieldLink RX4 7 "RoofDrainsModel" "s" "[I") (by decide +kernel)
  have fl13 := hts (.fieldLink RX4 13 "RoofDrainsModel" "aside" "[I") (by decide +kernel)
  refine lv_aload_n hx hb dX4_would_0 rfl (lv_at hl 0 rfl) ?_
  obtain ⟨r_1, er_1⟩ : ∃ z : rB, z = asd r := ⟨_, rfl⟩
  have hm_2 := mX4_putAside l D cI cQ cJ a r h
  rw [← er_1] at hm_2
  refine k_callv (wc := cM cI a r h) (w' := cM cI a r_1 h) (wn := cM cI a r_1 h) (va_runV (As := []) (rest := []) ⟨hx, hb, hml, hown, hts⟩ (hm_2 _) (cwV 0 hts gX4_would_X4_putAside rfl rfl rfl (by decide +kernel) ⟨Nat.le_of_ble_eq_true rfl, Nat.le_of_ble_eq_true rfl⟩) (k_preV (wc := cM cI a r h) hE hK hP hD [0, 1, 2, 3, 4, 5] (by decide) rfl (ci := 4) (q0 := 0) rfl rfl []) rfl rfl hl.1 rfl (lv_room (Nat.le_of_ble_eq_true rfl)) dX4_would_1 ⟨Nat.zero_le _, Nat.zero_le _⟩) hP hD hS hA [0, 1, 2, 3, 4, 5] rfl rfl rfl (fun H locs hP hD hS => ?_)
  refine lv_aload_n hx hb dX4_would_4 rfl (lv_at hl 0 rfl) ?_
  refine lv_aload_n hx hb dX4_would_5 rfl (lv_at hl 0 rfl) ?_
  refine va_get (D := D) (ci := 4) (v := .ref (a 1)) (C := RX4) (T := TX4) (N := 12) hx hb hts hinX4 hown hK hP 0 rfl rfl 1 (by decide) fl7 (fun _ h9 => h9) rfl dX4_would_6 ?_
  refine lv_iconst (v := 2) hx hb dX4_would_9 (by decide) ?_
  refine k_iald (k := 2) (v := r_1 0 2) hx hb hK hP 1 0 rfl rfl (vp_in_nI (n := 2) (by omega) (by omega)) (nI_clamp (n := 2) (by omega)) (rfl) dX4_would_10 ?_
  refine lv_iload_n hx hb dX4_would_11 rfl (lv_at hl 1 rfl) ?_
  obtain ⟨r_3, er_3⟩ : ∃ z : rB, z = minsM k r_1 (r_1 0 2) := ⟨_, rfl⟩
  have hm_4 := mX4_rains l D cI cQ cJ a r_1 h (r_1 0 2) mi k hk (by rw [er_1]; exact (asd_ok hok))
  rw [← er_3] at hm_4
  refine k_calli (wc := cM cI a r_1 h) (w' := cM cI a r_3 h) (wn := cM cI a r_3 h) (va_runV (As := [.int (r_1 0 2), .int mi]) (rest := []) ⟨hx, hb, hml, hown, hts⟩ (hm_4 _) (cwV 2 hts gX4_would_X4_rains rfl rfl rfl (by decide +kernel) ⟨Nat.le_of_ble_eq_true rfl, Nat.le_of_ble_eq_true rfl⟩) (k_preV (wc := cM cI a r_1 h) hE hK hP hD [0, 1, 2, 3, 4, 5] (by decide) rfl (ci := 4) (q0 := 0) rfl rfl [.int (r_1 0 2), .int mi]) rfl rfl hl.1 rfl (lv_room (Nat.le_of_ble_eq_true rfl)) dX4_would_12 ⟨Nat.zero_le _, Nat.zero_le _⟩) hP hD hS hA [0, 1, 2, 3, 4, 5] rfl rfl rfl (fun H locs hP hD hS => ?_)
  refine lv_topi (fun v3_5 ev3_5 => ?_)
  refine lv_istore_n (lv' := [(3, .int v3_5), (0, .ref (a 0)), (1, .int mi), (2, .int w)]) hx hb dX4_would_15 rfl hl (by decide) rfl (fun ls hl => ?_)
  refine lv_aload_n hx hb dX4_would_16 rfl (lv_at hl 1 rfl) ?_
  refine va_get (D := D) (ci := 4) (v := .ref (a 1)) (C := RX4) (T := TX4) (N := 12) hx hb hts hinX4 hown hK hP 0 rfl rfl 1 (by decide) fl7 (fun _ h9 => h9) rfl dX4_would_17 ?_
  refine lv_bipush (v := 6) hx hb dX4_would_20 (by decide) ?_
  refine k_iald (k := 6) (v := r_3 0 6) hx hb hK hP 1 0 rfl rfl (vp_in_nI (n := 6) (by omega) (by omega)) (nI_clamp (n := 6) (by omega)) (rfl) dX4_would_22 ?_
  refine lv_aload_n hx hb dX4_would_23 rfl (lv_at hl 1 rfl) ?_
  refine va_get (D := D) (ci := 4) (v := .ref (a 2)) (C := RX4) (T := TX4) (N := 12) hx hb hts hinX4 hown hK hP 0 rfl rfl 2 (by decide) fl13 (fun _ h9 => h9) rfl dX4_would_24 ?_
  refine lv_bipush (v := 6) hx hb dX4_would_27 (by decide) ?_
  refine k_iald (k := 6) (v := r_3 1 6) hx hb hK hP 2 0 rfl rfl (vp_in_nI (n := 6) (by omega) (by omega)) (nI_clamp (n := 6) (by omega)) (rfl) dX4_would_29 ?_
  refine lv_isub hx hb dX4_would_30 ?_
  refine lv_topi (fun v4_6 ev4_6 => ?_)
  refine lv_istore (lv' := [(4, .int v4_6), (3, .int v3_5), (0, .ref (a 0)), (1, .int mi), (2, .int w)]) hx hb dX4_would_31 hl (by decide) rfl (fun ls hl => ?_)
  refine lv_aload_n hx hb dX4_would_33 rfl (lv_at hl 2 rfl) ?_
  refine k_calli (wc := cM cI a r_3 h) (w' := cM cI a r_3 h) (wn := cM cI a r_3 h) (va_runV (As := []) (rest := []) ⟨hx, hb, hml, hown, hts⟩ (mX4_stands l D cI cQ cJ a r_3 h _) (cwV 0 hts gX4_would_X4_stands rfl rfl rfl (by decide +kernel) ⟨Nat.le_of_ble_eq_true rfl, Nat.le_of_ble_eq_true rfl⟩) (k_preV (wc := cM cI a r_3 h) hE hK hP hD [0, 1, 2, 3, 4, 5] (by decide) rfl (ci := 4) (q0 := 0) rfl rfl []) rfl rfl hl.1 rfl (lv_room (Nat.le_of_ble_eq_true rfl)) dX4_would_34 ⟨Nat.zero_le _, Nat.zero_le _⟩) hP hD hS hA [0, 1, 2, 3, 4, 5] rfl rfl rfl (fun H locs hP hD hS => ?_)
  refine lv_topi (fun v5_7 ev5_7 => ?_)
  refine lv_istore (lv' := [(5, .int v5_7), (4, .int v4_6), (3, .int v3_5), (0, .ref (a 0)), (1, .int mi), (2, .int w)]) hx hb dX4_would_37 hl (by decide) rfl (fun ls hl => ?_)
  refine lv_aload_n hx hb dX4_would_39 rfl (lv_at hl 3 rfl) ?_
  obtain ⟨r_8, er_8⟩ : ∃ z : rB, z = tkb r_3 := ⟨_, rfl⟩
  have hm_9 := mX4_takeBack l D cI cQ cJ a r_3 h
  rw [← er_8] at hm_9
  refine k_callv (wc := cM cI a r_3 h) (w' := cM cI a r_8 h) (wn := cM cI a r_8 h) (va_runV (As := []) (rest := []) ⟨hx, hb, hml, hown, hts⟩ (hm_9 _) (cwV 0 hts gX4_would_X4_takeBack rfl rfl rfl (by decide +kernel) ⟨Nat.le_of_ble_eq_true rfl, Nat.le_of_ble_eq_true rfl⟩) (k_preV (wc := cM cI a r_3 h) hE hK hP hD [0, 1, 2, 3, 4, 5] (by decide) rfl (ci := 4) (q0 := 0) rfl rfl []) rfl rfl hl.1 rfl (lv_room (Nat.le_of_ble_eq_true rfl)) dX4_would_40 ⟨Nat.zero_le _, Nat.zero_le _⟩) hP hD hS hA [0, 1, 2, 3, 4, 5] rfl rfl rfl (fun H locs hP hD hS => ?_)
  refine lv_iload_n hx hb dX4_would_43 rfl (lv_at hl 5 rfl) ?_
  refine lv_if_ne (tgt := 51) hx hb dX4_would_44 (by decide) (fun c_10 => ?_) (fun c_10 => ?_)
  · skip
    refine lv_iload_n hx hb dX4_would_51 rfl (lv_at hl 5 rfl) ?_
    refine lv_iconst (v := 1) hx hb dX4_would_52 (by decide) ?_
    refine lv_icmp_ne (tgt := 61) hx hb dX4_would_53 (by decide) (fun c_11 => ?_) (fun c_11 => ?_)
    · skip
      refine lv_iload hx hb dX4_would_61 (lv_at hl 0 rfl) ?_
      have e9 : (r_8 : rB) = asd r := by (replace er_8 := er_8.symm; subst er_8; replace ev5_7 := ev5_7.symm; subst ev5_7; replace ev4_6 := ev4_6.symm; subst ev4_6; replace ev3_5 := ev3_5.symm; subst ev3_5; replace er_3 := er_3.symm; subst er_3; replace er_1 := er_1.symm; subst er_1; exact tkb_would r k)
      rw [e9] at hP
      exact k_iret hx hb hr hlocks hS hP dX4_would_63 (by (replace er_8 := er_8.symm; subst er_8; replace ev5_7 := ev5_7.symm; subst ev5_7; replace ev4_6 := ev4_6.symm; subst ev4_6; replace ev3_5 := ev3_5.symm; subst ev3_5; replace er_3 := er_3.symm; subst er_3; replace er_1 := er_1.symm; subst er_1; simp only [wouldV, wouldR, if_neg c_10, if_neg c_11, ↓reduceIte]))
    · skip
      refine lv_iload hx hb dX4_would_56 (lv_at hl 1 rfl) ?_
      refine lv_goto (tgt := 63) hx hb dX4_would_58 (by decide) ?_
      have e9 : (r_8 : rB) = asd r := by (replace er_8 := er_8.symm; subst er_8; replace ev5_7 := ev5_7.symm; subst ev5_7; replace ev4_6 := ev4_6.symm; subst ev4_6; replace ev3_5 := ev3_5.symm; subst ev3_5; replace er_3 := er_3.symm; subst er_3; replace er_1 := er_1.symm; subst er_1; exact tkb_would r k)
      rw [e9] at hP
      exact k_iret hx hb hr hlocks hS hP dX4_would_63 (by (replace er_8 := er_8.symm; subst er_8; replace ev5_7 := ev5_7.symm; subst ev5_7; replace ev4_6 := ev4_6.symm; subst ev4_6; replace ev3_5 := ev3_5.symm; subst ev3_5; replace er_3 := er_3.symm; subst er_3; replace er_1 := er_1.symm; subst er_1; simp only [wouldV, wouldR, if_neg c_10, if_pos c_11, ↓reduceIte]))
  · skip
    refine lv_iload_n hx hb dX4_would_47 rfl (lv_at hl 2 rfl) ?_
    refine lv_goto (tgt := 63) hx hb dX4_would_48 (by decide) ?_
    have e9 : (r_8 : rB) = asd r := by (replace er_8 := er_8.symm; subst er_8; replace ev5_7 := ev5_7.symm; subst ev5_7; replace ev4_6 := ev4_6.symm; subst ev4_6; replace ev3_5 := ev3_5.symm; subst ev3_5; replace er_3 := er_3.symm; subst er_3; replace er_1 := er_1.symm; subst er_1; exact tkb_would r k)
    rw [e9] at hP
    exact k_iret hx hb hr hlocks hS hP dX4_would_63 (by (replace er_8 := er_8.symm; subst er_8; replace ev5_7 := ev5_7.symm; subst ev5_7; replace ev4_6 := ev4_6.symm; subst ev4_6; replace ev3_5 := ev3_5.symm; subst ev3_5; replace er_3 := er_3.symm; subst er_3; replace er_1 := er_1.symm; subst er_1; simp only [wouldV, wouldR, if_pos c_10, ↓reduceIte]))
