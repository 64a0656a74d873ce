set_option maxHeartbeats 4000000 in
set_option maxRecDepth 100000 in
theorem mX4_sends (l : Launch) (D : va_G) (cI cQ cJ : ClassId) (a : Nat → Nat) (r : rB) (h : Int64) (x : Int32) (i : Nat) (hxi : x = nI i) (hi : i < 6) (y : Int32) (hok : okS (r 0)) : Mv l D (tY cI cQ cJ) yX4_sends wsX4_sends ({ frames := 1, cells := 0, slots := 0, locals := 23 } : Room) [.ref (a 0), .int x, .int y] (cM cI a r h) (cM cI a (sndM r i y) h) := by
  refine M_of (cc := cX4_sends) (maxL := 6) (ret := none) (Qc := fun A => va_Qv (fun (_ : Unit) => True) (fun _ t => Wd D (cM cI a (sndM r i y) h) t) A) (by decide) rfl (Nat.le_of_ble_eq_true rfl) ?_
  intro p e s m below meth c A ls hB hE hP hK hD hA hl
  obtain ⟨hx, hb, hr, hml, hts, hown, hlocks⟩ := hB
  have hS : va_S A s.heap s.heap [] := va_S.rf
  have hl : lv_has ls 6 [(0, .ref (a 0)), (1, .int x), (2, .int y)] := hl
  subst hxi
  obtain ⟨⟨j, hj, hwj⟩, -⟩ := hok i hi
  have hcl : (r 0 (9 + 4 * i + 2)).toNatClampNeg = j := by rw [hwj]; exact nI_clamp (by omega)
  have hinX4 : ∀ w ∈ u_ws RX4 TX4 12, w ∈ wsX4_sends := by decide +kernel
  have fl7 := hts (.fieldLink RX4 7 "RoofDrainsModel" "s" "[I") (by decide +kernel)
  refine lv_aload_n hx hb dX4_sends_0 rfl (lv_at hl 0 rfl) ?_
  refine lv_iload_n hx hb dX4_sends_1 rfl (lv_at hl 1 rfl) ?_
  refine lv_iconst (v := 0) hx hb dX4_sends_2 (by decide) ?_
  refine k_calli (wc := cM cI a r h) (w' := cM cI a r h) (wn := cM cI a r h) (va_runV (As := [.int (nI i), .int 0]) (rest := []) ⟨hx, hb, hml, hown, hts⟩ (mX4_ofPlane l D cI cQ cJ a r h (nI i) i 0 rfl (by omega) (by omega) _) (cwV 2 hts gX4_sends_X4_ofPlane rfl rfl rfl (by decide +kernel) ⟨Nat.le_of_ble_eq_true rfl, Nat.le_of_ble_eq_true rfl⟩) (k_preV (wc := cM cI a r h) hE hK hP hD [0, 1, 2, 3, 4, 5] (by decide) rfl (ci := 4) (q0 := 0) rfl rfl [.int (nI i), .int 0]) rfl rfl hl.1 rfl (lv_room (Nat.le_of_ble_eq_true rfl)) dX4_sends_3 ⟨Nat.zero_le _, Nat.zero_le _⟩) hP hD hS hA [0, 1, 2, 3, 4, 5] rfl rfl rfl (fun H locs hP hD hS => ?_)
  refine lv_iload_n hx hb dX4_sends_6 rfl (lv_at hl 2 rfl) ?_
  refine lv_imul hx hb dX4_sends_7 ?_
  refine lv_bipush (v := 10) hx hb dX4_sends_8 (by decide) ?_
  refine lv_idiv hx hb dX4_sends_10 (by decide) ?_
  refine lv_topi (fun v3_1 ev3_1 => ?_)
  refine lv_istore_n (lv' := [(3, .int v3_1), (0, .ref (a 0)), (1, .int (nI i)), (2, .int y)]) hx hb dX4_sends_11 rfl hl (by decide) rfl (fun ls hl => ?_)
  refine lv_aload_n hx hb dX4_sends_12 rfl (lv_at hl 1 rfl) ?_
  refine lv_iload_n hx hb dX4_sends_13 rfl (lv_at hl 2 rfl) ?_
  refine lv_iconst (v := 3) hx hb dX4_sends_14 (by decide) ?_
  refine k_calli (wc := cM cI a r h) (w' := cM cI a r h) (wn := cM cI a r h) (va_runV (As := [.int (nI i), .int 3]) (rest := []) ⟨hx, hb, hml, hown, hts⟩ (mX4_ofPlane l D cI cQ cJ a r h (nI i) i 3 rfl (by omega) (by omega) _) (cwV 2 hts gX4_sends_X4_ofPlane rfl rfl rfl (by decide +kernel) ⟨Nat.le_of_ble_eq_true rfl, Nat.le_of_ble_eq_true rfl⟩) (k_preV (wc := cM cI a r h) hE hK hP hD [0, 1, 2, 3, 4, 5] (by decide) rfl (ci := 4) (q0 := 0) rfl rfl [.int (nI i), .int 3]) rfl rfl hl.1 rfl (lv_room (Nat.le_of_ble_eq_true rfl)) dX4_sends_15 ⟨Nat.zero_le _, Nat.zero_le _⟩) hP hD hS hA [0, 1, 2, 3, 4, 5] rfl rfl rfl (fun H locs hP hD hS => ?_)
  refine lv_iload_n hx hb dX4_sends_18 rfl (lv_at hl 0 rfl) ?_
  refine lv_iadd hx hb dX4_sends_19 ?_
  refine lv_topi (fun v4_2 ev4_2 => ?_)
  refine lv_istore (lv' := [(4, .int v4_2), (3, .int v3_1), (0, .ref (a 0)), (1, .int (nI i)), (2, .int y)]) hx hb dX4_sends_20 hl (by decide) rfl (fun ls hl => ?_)
  refine lv_iload hx hb dX4_sends_22 (lv_at hl 0 rfl) ?_
  refine lv_iconst (v := 5) hx hb dX4_sends_24 (by decide) ?_
  refine lv_aload_n hx hb dX4_sends_25 rfl (lv_at hl 2 rfl) ?_
  refine lv_iload_n hx hb dX4_sends_26 rfl (lv_at hl 3 rfl) ?_
  refine lv_iconst (v := 1) hx hb dX4_sends_27 (by decide) ?_
  refine k_calli (wc := cM cI a r h) (w' := cM cI a r h) (wn := cM cI a r h) (va_runV (As := [.int (nI i), .int 1]) (rest := [.int 5, .int v4_2]) ⟨hx, hb, hml, hown, hts⟩ (mX4_ofPlane l D cI cQ cJ a r h (nI i) i 1 rfl (by omega) (by omega) _) (cwV 2 hts gX4_sends_X4_ofPlane rfl rfl rfl (by decide +kernel) ⟨Nat.le_of_ble_eq_true rfl, Nat.le_of_ble_eq_true rfl⟩) (k_preV (wc := cM cI a r h) hE hK hP hD [0, 1, 2, 3, 4, 5] (by decide) rfl (ci := 4) (q0 := 0) rfl rfl [.int (nI i), .int 1]) rfl rfl hl.1 rfl (lv_room (Nat.le_of_ble_eq_true rfl)) dX4_sends_28 ⟨Nat.zero_le _, Nat.zero_le _⟩) hP hD hS hA [0, 1, 2, 3, 4, 5] rfl rfl rfl (fun H locs hP hD hS => ?_)
  refine lv_iadd hx hb dX4_sends_31 ?_
  refine lv_imul hx hb dX4_sends_32 ?_
  refine lv_bipush (v := 14) hx hb dX4_sends_33 (by decide) ?_
  refine lv_idiv hx hb dX4_sends_35 (by decide) ?_
  refine lv_topi (fun v5_3 ev5_3 => ?_)
  refine lv_istore (lv' := [(5, .int v5_3), (4, .int v4_2), (3, .int v3_1), (0, .ref (a 0)), (1, .int (nI i)), (2, .int y)]) hx hb dX4_sends_36 hl (by decide) rfl (fun ls hl => ?_)
  refine lv_iload hx hb dX4_sends_38 (lv_at hl 0 rfl) ?_
  refine lv_if_ne (tgt := 52) hx hb dX4_sends_40 (by decide) (fun c_4 => ?_) (fun c_4 => ?_)
  · skip
    refine lv_iload hx hb dX4_sends_52 (lv_at hl 0 rfl) ?_
    refine lv_istore (lv' := [(5, .int v5_3), (4, .int v4_2), (3, .int v3_1), (0, .ref (a 0)), (1, .int (nI i)), (2, .int y)]) hx hb dX4_sends_54 hl (by decide) rfl (fun ls hl => ?_)
    refine lv_aload_n hx hb dX4_sends_56 rfl (lv_at hl 3 rfl) ?_
    refine va_get (D := D) (ci := 4) (v := .ref (a 1)) (C := RX4) (T := TX4) (N := 12) hx hb hts hinX4 hown hK hP 0 rfl rfl 1 (by decide) fl7 (fun _ h9 => h9) rfl dX4_sends_57 ?_
    refine lv_iconst (v := 5) hx hb dX4_sends_60 (by decide) ?_
    refine lv_dup2_11 hx hb dX4_sends_61 rfl rfl ?_
    refine k_iald (k := 5) (v := r 0 5) hx hb hK hP 1 0 rfl rfl (vp_in_nI (n := 5) (by omega) (by omega)) (nI_clamp (n := 5) (by omega)) (rfl) dX4_sends_62 ?_
    refine lv_iload_n hx hb dX4_sends_63 rfl (lv_at hl 2 rfl) ?_
    refine lv_iadd hx hb dX4_sends_64 ?_
    refine lv_topi (fun a_5 ea_5 => ?_)
    refine k_iast (k := 5) (ws' := cM cI a (bp r 0 5 a_5) h) hx hb hK hP hD hS 1 0 rfl rfl (vp_in_nI (n := 5) (by omega) (by omega)) (nI_clamp (n := 5) (by omega)) rfl dX4_sends_65 (fun H locs hP hD hS => ?_)
    refine lv_aload_n hx hb dX4_sends_66 rfl (lv_at hl 3 rfl) ?_
    refine va_get (D := D) (ci := 4) (v := .ref (a 1)) (C := RX4) (T := TX4) (N := 12) hx hb hts hinX4 hown hK hP 0 rfl rfl 1 (by decide) fl7 (fun _ h9 => h9) rfl dX4_sends_67 ?_
    refine lv_bipush (v := 9) hx hb dX4_sends_70 (by decide) ?_
    refine lv_iconst (v := 4) hx hb dX4_sends_72 (by decide) ?_
    refine lv_iload_n hx hb dX4_sends_73 rfl (lv_at hl 4 rfl) ?_
    refine lv_imul hx hb dX4_sends_74 ?_
    refine lv_eqi (y := nI (4 * i)) (pk_mul 4 i) ?_
    refine lv_iadd hx hb dX4_sends_75 ?_
    refine lv_eqi (y := nI (9 + (4 * i))) (nI_add 9 (4 * i)) ?_
    refine lv_iconst (v := 3) hx hb dX4_sends_76 (by decide) ?_
    refine lv_iadd hx hb dX4_sends_77 ?_
    refine lv_eqi (y := nI ((9 + 4 * i) + 3)) (nI_add (9 + 4 * i) 3) ?_
    refine lv_iload hx hb dX4_sends_78 (lv_at hl 1 rfl) ?_
    refine lv_iload hx hb dX4_sends_80 (lv_at hl 0 rfl) ?_
    refine lv_isub hx hb dX4_sends_82 ?_
    refine lv_topi (fun a_6 ea_6 => ?_)
    refine k_iast (k := 9 + 4 * i + 3) (ws' := cM cI a (bp (bp r 0 5 a_5) 0 (9 + 4 * i + 3) a_6) h) hx hb hK hP hD hS 1 0 rfl rfl (vp_in_nI (n := 9 + 4 * i + 3) (by omega) (by omega)) (nI_clamp (n := 9 + 4 * i + 3) (by omega)) rfl dX4_sends_83 (fun H locs hP hD hS => ?_)
    refine lv_aload_n hx hb dX4_sends_84 rfl (lv_at hl 3 rfl) ?_
    refine lv_aload_n hx hb dX4_sends_85 rfl (lv_at hl 3 rfl) ?_
    refine lv_iload_n hx hb dX4_sends_86 rfl (lv_at hl 4 rfl) ?_
    refine lv_iconst (v := 2) hx hb dX4_sends_87 (by decide) ?_
    refine k_calli (wc := cM cI a (bp (bp r 0 5 a_5) 0 (9 + 4 * i + 3) a_6) h) (w' := cM cI a (bp (bp r 0 5 a_5) 0 (9 + 4 * i + 3) a_6) h) (wn := cM cI a (bp (bp r 0 5 a_5) 0 (9 + 4 * i + 3) a_6) h) (va_runV (As := [.int (nI i), .int 2]) (rest := [.ref (a 0)]) ⟨hx, hb, hml, hown, hts⟩ (mX4_ofPlane l D cI cQ cJ a (bp (bp r 0 5 a_5) 0 (9 + 4 * i + 3) a_6) h (nI i) i 2 rfl (by omega) (by omega) _) (cwV 2 hts gX4_sends_X4_ofPlane rfl rfl rfl (by decide +kernel) ⟨Nat.le_of_ble_eq_true rfl, Nat.le_of_ble_eq_true rfl⟩) (k_preV (wc := cM cI a (bp (bp r 0 5 a_5) 0 (9 + 4 * i + 3) a_6) h) hE hK hP hD [0, 1, 2, 3, 4, 5] (by decide) rfl (ci := 4) (q0 := 0) rfl rfl [.int (nI i), .int 2]) rfl rfl hl.1 rfl (lv_room (Nat.le_of_ble_eq_true rfl)) dX4_sends_88 ⟨Nat.zero_le _, Nat.zero_le _⟩) hP hD hS hA [0, 1, 2, 3, 4, 5] rfl rfl rfl (fun H locs hP hD hS => ?_)
    refine lv_iconst (v := 4) hx hb dX4_sends_91 (by decide) ?_
    refine lv_iload hx hb dX4_sends_92 (lv_at hl 0 rfl) ?_
    obtain ⟨r_7, er_7⟩ : ∃ z : rB, z = addM (bp (bp r 0 5 a_5) 0 (9 + 4 * i + 3) a_6) j 4 v5_3 := ⟨_, rfl⟩
    have hm_8 := mX4_adds l D cI cQ cJ a (bp (bp r 0 5 a_5) 0 (9 + 4 * i + 3) a_6) h ((bp (bp r 0 5 a_5) 0 (9 + 4 * i + 3) a_6) 0 (9 + 4 * i + 2)) j 4 ((bp_ne (by omega)).trans ((bp_ne (by omega)).trans hwj)) (by omega) (by omega) v5_3
    rw [← er_7] at hm_8
    refine k_callv (wc := cM cI a (bp (bp r 0 5 a_5) 0 (9 + 4 * i + 3) a_6) h) (w' := cM cI a r_7 h) (wn := cM cI a r_7 h) (va_runV (As := [.int ((bp (bp r 0 5 a_5) 0 (9 + 4 * i + 3) a_6) 0 (9 + 4 * i + 2)), .int 4, .int v5_3]) (rest := []) ⟨hx, hb, hml, hown, hts⟩ (hm_8 _) (cwV 3 hts gX4_sends_X4_adds rfl rfl rfl (by decide +kernel) ⟨Nat.le_of_ble_eq_true rfl, Nat.le_of_ble_eq_true rfl⟩) (k_preV (wc := cM cI a (bp (bp r 0 5 a_5) 0 (9 + 4 * i + 3) a_6) h) hE hK hP hD [0, 1, 2, 3, 4, 5] (by decide) rfl (ci := 4) (q0 := 0) rfl rfl [.int ((bp (bp r 0 5 a_5) 0 (9 + 4 * i + 3) a_6) 0 (9 + 4 * i + 2)), .int 4, .int v5_3]) rfl rfl hl.1 rfl (lv_room (Nat.le_of_ble_eq_true rfl)) dX4_sends_94 ⟨Nat.zero_le _, Nat.zero_le _⟩) hP hD hS hA [0, 1, 2, 3, 4, 5] rfl rfl rfl (fun H locs hP hD hS => ?_)
    have e9 : (r_7 : rB) = sndM r i y := by (replace er_7 := er_7.symm; subst er_7; replace ea_6 := ea_6.symm; subst ea_6; replace ea_5 := ea_5.symm; subst ea_5; replace ev5_3 := ev5_3.symm; subst ev5_3; replace ev4_2 := ev4_2.symm; subst ev4_2; replace ev3_1 := ev3_1.symm; subst ev3_1; simp only [sndM, hcl, if_neg c_4, ↓reduceIte])
    rw [e9] at hP
    exact k_vret hx hb hr hlocks hS hP dX4_sends_97
  · skip
    refine lv_iload hx hb dX4_sends_43 (lv_at hl 1 rfl) ?_
    refine lv_if_le (tgt := 52) hx hb dX4_sends_45 (by decide) (fun c_9 => ?_) (fun c_9 => ?_)
    · skip
      refine lv_iload hx hb dX4_sends_52 (lv_at hl 0 rfl) ?_
      refine lv_istore (lv' := [(5, .int v5_3), (4, .int v4_2), (3, .int v3_1), (0, .ref (a 0)), (1, .int (nI i)), (2, .int y)]) hx hb dX4_sends_54 hl (by decide) rfl (fun ls hl => ?_)
      refine lv_aload_n hx hb dX4_sends_56 rfl (lv_at hl 3 rfl) ?_
      refine va_get (D := D) (ci := 4) (v := .ref (a 1)) (C := RX4) (T := TX4) (N := 12) hx hb hts hinX4 hown hK hP 0 rfl rfl 1 (by decide) fl7 (fun _ h9 => h9) rfl dX4_sends_57 ?_
      refine lv_iconst (v := 5) hx hb dX4_sends_60 (by decide) ?_
      refine lv_dup2_11 hx hb dX4_sends_61 rfl rfl ?_
      refine k_iald (k := 5) (v := r 0 5) hx hb hK hP 1 0 rfl rfl (vp_in_nI (n := 5) (by omega) (by omega)) (nI_clamp (n := 5) (by omega)) (rfl) dX4_sends_62 ?_
      refine lv_iload_n hx hb dX4_sends_63 rfl (lv_at hl 2 rfl) ?_
      refine lv_iadd hx hb dX4_sends_64 ?_
      refine lv_topi (fun a_10 ea_10 => ?_)
      refine k_iast (k := 5) (ws' := cM cI a (bp r 0 5 a_10) h) hx hb hK hP hD hS 1 0 rfl rfl (vp_in_nI (n := 5) (by omega) (by omega)) (nI_clamp (n := 5) (by omega)) rfl dX4_sends_65 (fun H locs hP hD hS => ?_)
      refine lv_aload_n hx hb dX4_sends_66 rfl (lv_at hl 3 rfl) ?_
      refine va_get (D := D) (ci := 4) (v := .ref (a 1)) (C := RX4) (T := TX4) (N := 12) hx hb hts hinX4 hown hK hP 0 rfl rfl 1 (by decide) fl7 (fun _ h9 => h9) rfl dX4_sends_67 ?_
      refine lv_bipush (v := 9) hx hb dX4_sends_70 (by decide) ?_
      refine lv_iconst (v := 4) hx hb dX4_sends_72 (by decide) ?_
      refine lv_iload_n hx hb dX4_sends_73 rfl (lv_at hl 4 rfl) ?_
      refine lv_imul hx hb dX4_sends_74 ?_
      refine lv_eqi (y := nI (4 * i)) (pk_mul 4 i) ?_
      refine lv_iadd hx hb dX4_sends_75 ?_
      refine lv_eqi (y := nI (9 + (4 * i))) (nI_add 9 (4 * i)) ?_
      refine lv_iconst (v := 3) hx hb dX4_sends_76 (by decide) ?_
      refine lv_iadd hx hb dX4_sends_77 ?_
      refine lv_eqi (y := nI ((9 + 4 * i) + 3)) (nI_add (9 + 4 * i) 3) ?_
      refine lv_iload hx hb dX4_sends_78 (lv_at hl 1 rfl) ?_
      refine lv_iload hx hb dX4_sends_80 (lv_at hl 0 rfl) ?_
      refine lv_isub hx hb dX4_sends_82 ?_
      refine lv_topi (fun a_11 ea_11 => ?_)
      refine k_iast (k := 9 + 4 * i + 3) (ws' := cM cI a (bp (bp r 0 5 a_10) 0 (9 + 4 * i + 3) a_11) h) hx hb hK hP hD hS 1 0 rfl rfl (vp_in_nI (n := 9 + 4 * i + 3) (by omega) (by omega)) (nI_clamp (n := 9 + 4 * i + 3) (by omega)) rfl dX4_sends_83 (fun H locs hP hD hS => ?_)
      refine lv_aload_n hx hb dX4_sends_84 rfl (lv_at hl 3 rfl) ?_
      refine lv_aload_n hx hb dX4_sends_85 rfl (lv_at hl 3 rfl) ?_
      refine lv_iload_n hx hb dX4_sends_86 rfl (lv_at hl 4 rfl) ?_
      refine lv_iconst (v := 2) hx hb dX4_sends_87 (by decide) ?_
      refine k_calli (wc := cM cI a (bp (bp r 0 5 a_10) 0 (9 + 4 * i + 3) a_11) h) (w' := cM cI a (bp (bp r 0 5 a_10) 0 (9 + 4 * i + 3) a_11) h) (wn := cM cI a (bp (bp r 0 5 a_10) 0 (9 + 4 * i + 3) a_11) h) (va_runV (As := [.int (nI i), .int 2]) (rest := [.ref (a 0)]) ⟨hx, hb, hml, hown, hts⟩ (mX4_ofPlane l D cI cQ cJ a (bp (bp r 0 5 a_10) 0 (9 + 4 * i + 3) a_11) h (nI i) i 2 rfl (by omega) (by omega) _) (cwV 2 hts gX4_sends_X4_ofPlane rfl rfl rfl (by decide +kernel) ⟨Nat.le_of_ble_eq_true rfl, Nat.le_of_ble_eq_true rfl⟩) (k_preV (wc := cM cI a (bp (bp r 0 5 a_10) 0 (9 + 4 * i + 3) a_11) h) hE hK hP hD [0, 1, 2, 3, 4, 5] (by decide) rfl (ci := 4) (q0 := 0) rfl rfl [.int (nI i), .int 2]) rfl rfl hl.1 rfl (lv_room (Nat.le_of_ble_eq_true rfl)) dX4_sends_88 ⟨Nat.zero_le _, Nat.zero_le _⟩) hP hD hS hA [0, 1, 2, 3, 4, 5] rfl rfl rfl (fun H locs hP hD hS => ?_)
      refine lv_iconst (v := 4) hx hb dX4_sends_91 (by decide) ?_
      refine lv_iload hx hb dX4_sends_92 (lv_at hl 0 rfl) ?_
      obtain ⟨r_12, er_12⟩ : ∃ z : rB, z = addM (bp (bp r 0 5 a_10) 0 (9 + 4 * i + 3) a_11) j 4 v5_3 := ⟨_, rfl⟩
      have hm_13 := mX4_adds l D cI cQ cJ a (bp (bp r 0 5 a_10) 0 (9 + 4 * i + 3) a_11) h ((bp (bp r 0 5 a_10) 0 (9 + 4 * i + 3) a_11) 0 (9 + 4 * i + 2)) j 4 ((bp_ne (by omega)).trans ((bp_ne (by omega)).trans hwj)) (by omega) (by omega) v5_3
      rw [← er_12] at hm_13
      refine k_callv (wc := cM cI a (bp (bp r 0 5 a_10) 0 (9 + 4 * i + 3) a_11) h) (w' := cM cI a r_12 h) (wn := cM cI a r_12 h) (va_runV (As := [.int ((bp (bp r 0 5 a_10) 0 (9 + 4 * i + 3) a_11) 0 (9 + 4 * i + 2)), .int 4, .int v5_3]) (rest := []) ⟨hx, hb, hml, hown, hts⟩ (hm_13 _) (cwV 3 hts gX4_sends_X4_adds rfl rfl rfl (by decide +kernel) ⟨Nat.le_of_ble_eq_true rfl, Nat.le_of_ble_eq_true rfl⟩) (k_preV (wc := cM cI a (bp (bp r 0 5 a_10) 0 (9 + 4 * i + 3) a_11) h) hE hK hP hD [0, 1, 2, 3, 4, 5] (by decide) rfl (ci := 4) (q0 := 0) rfl rfl [.int ((bp (bp r 0 5 a_10) 0 (9 + 4 * i + 3) a_11) 0 (9 + 4 * i + 2)), .int 4, .int v5_3]) rfl rfl hl.1 rfl (lv_room (Nat.le_of_ble_eq_true rfl)) dX4_sends_94 ⟨Nat.zero_le _, Nat.zero_le _⟩) hP hD hS hA [0, 1, 2, 3, 4, 5] rfl rfl rfl (fun H locs hP hD hS => ?_)
      have e9 : (r_12 : rB) = sndM r i y := by (replace er_12 := er_12.symm; subst er_12; replace ea_11 := ea_11.symm; subst ea_11; replace ea_10 := ea_10.symm; subst ea_10; replace ev5_3 := ev5_3.symm; subst ev5_3; replace ev4_2 := ev4_2.symm; subst ev4_2; replace ev3_1 := ev3_1.symm; subst ev3_1; simp only [sndM, hcl, if_pos c_4, if_pos c_9, ↓reduceIte])
      rw [e9] at hP
      exact k_vret hx hb hr hlocks hS hP dX4_sends_97
    · skip
      refine lv_iconst (v := 1) hx hb dX4_sends_48 (by decide) ?_
      refine lv_goto (tgt := 54) hx hb dX4_sends_49 (by decide) ?_
      refine lv_istore (lv' := [(5, .int 1), (4, .int v4_2), (3, .int v3_1), (0, .ref (a 0)), (1, .int (nI i)), (2, .int y)]) hx hb dX4_sends_54 hl (by decide) rfl (fun ls hl => ?_)
      refine lv_aload_n hx hb dX4_sends_56 rfl (lv_at hl 3 rfl) ?_
      refine va_get (D := D) (ci := 4) (v := .ref (a 1)) (C := RX4) (T := TX4) (N := 12) hx hb hts hinX4 hown hK hP 0 rfl rfl 1 (by decide) fl7 (fun _ h9 => h9) rfl dX4_sends_57 ?_
      refine lv_iconst (v := 5) hx hb dX4_sends_60 (by decide) ?_
      refine lv_dup2_11 hx hb dX4_sends_61 rfl rfl ?_
      refine k_iald (k := 5) (v := r 0 5) hx hb hK hP 1 0 rfl rfl (vp_in_nI (n := 5) (by omega) (by omega)) (nI_clamp (n := 5) (by omega)) (rfl) dX4_sends_62 ?_
      refine lv_iload_n hx hb dX4_sends_63 rfl (lv_at hl 2 rfl) ?_
      refine lv_iadd hx hb dX4_sends_64 ?_
      refine lv_topi (fun a_14 ea_14 => ?_)
      refine k_iast (k := 5) (ws' := cM cI a (bp r 0 5 a_14) h) hx hb hK hP hD hS 1 0 rfl rfl (vp_in_nI (n := 5) (by omega) (by omega)) (nI_clamp (n := 5) (by omega)) rfl dX4_sends_65 (fun H locs hP hD hS => ?_)
      refine lv_aload_n hx hb dX4_sends_66 rfl (lv_at hl 3 rfl) ?_
      refine va_get (D := D) (ci := 4) (v := .ref (a 1)) (C := RX4) (T := TX4) (N := 12) hx hb hts hinX4 hown hK hP 0 rfl rfl 1 (by decide) fl7 (fun _ h9 => h9) rfl dX4_sends_67 ?_
      refine lv_bipush (v := 9) hx hb dX4_sends_70 (by decide) ?_
      refine lv_iconst (v := 4) hx hb dX4_sends_72 (by decide) ?_
      refine lv_iload_n hx hb dX4_sends_73 rfl (lv_at hl 4 rfl) ?_
      refine lv_imul hx hb dX4_sends_74 ?_
      refine lv_eqi (y := nI (4 * i)) (pk_mul 4 i) ?_
      refine lv_iadd hx hb dX4_sends_75 ?_
      refine lv_eqi (y := nI (9 + (4 * i))) (nI_add 9 (4 * i)) ?_
      refine lv_iconst (v := 3) hx hb dX4_sends_76 (by decide) ?_
      refine lv_iadd hx hb dX4_sends_77 ?_
      refine lv_eqi (y := nI ((9 + 4 * i) + 3)) (nI_add (9 + 4 * i) 3) ?_
      refine lv_iload hx hb dX4_sends_78 (lv_at hl 1 rfl) ?_
      refine lv_iload hx hb dX4_sends_80 (lv_at hl 0 rfl) ?_
      refine lv_isub hx hb dX4_sends_82 ?_
      refine lv_topi (fun a_15 ea_15 => ?_)
      refine k_iast (k := 9 + 4 * i + 3) (ws' := cM cI a (bp (bp r 0 5 a_14) 0 (9 + 4 * i + 3) a_15) h) hx hb hK hP hD hS 1 0 rfl rfl (vp_in_nI (n := 9 + 4 * i + 3) (by omega) (by omega)) (nI_clamp (n := 9 + 4 * i + 3) (by omega)) rfl dX4_sends_83 (fun H locs hP hD hS => ?_)
      refine lv_aload_n hx hb dX4_sends_84 rfl (lv_at hl 3 rfl) ?_
      refine lv_aload_n hx hb dX4_sends_85 rfl (lv_at hl 3 rfl) ?_
      refine lv_iload_n hx hb dX4_sends_86 rfl (lv_at hl 4 rfl) ?_
      refine lv_iconst (v := 2) hx hb dX4_sends_87 (by decide) ?_
      refine k_calli (wc := cM cI a (bp (bp r 0 5 a_14) 0 (9 + 4 * i + 3) a_15) h) (w' := cM cI a (bp (bp r 0 5 a_14) 0 (9 + 4 * i + 3) a_15) h) (wn := cM cI a (bp (bp r 0 5 a_14) 0 (9 + 4 * i + 3) a_15) h) (va_runV (As := [.int (nI i), .int 2]) (rest := [.ref (a 0)]) ⟨hx, hb, hml, hown, hts⟩ (mX4_ofPlane l D cI cQ cJ a (bp (bp r 0 5 a_14) 0 (9 + 4 * i + 3) a_15) h (nI i) i 2 rfl (by omega) (by omega) _) (cwV 2 hts gX4_sends_X4_ofPlane rfl rfl rfl (by decide +kernel) ⟨Nat.le_of_ble_eq_true rfl, Nat.le_of_ble_eq_true rfl⟩) (k_preV (wc := cM cI a (bp (bp r 0 5 a_14) 0 (9 + 4 * i + 3) a_15) h) hE hK hP hD [0, 1, 2, 3, 4, 5] (by decide) rfl (ci := 4) (q0 := 0) rfl rfl [.int (nI i), .int 2]) rfl rfl hl.1 rfl (lv_room (Nat.le_of_ble_eq_true rfl)) dX4_sends_88 ⟨Nat.zero_le _, Nat.zero_le _⟩) hP hD hS hA [0, 1, 2, 3, 4, 5] rfl rfl rfl (fun H locs hP hD hS => ?_)
      refine lv_iconst (v := 4) hx hb dX4_sends_91 (by decide) ?_
      refine lv_iload hx hb dX4_sends_92 (lv_at hl 0 rfl) ?_
      obtain ⟨r_16, er_16⟩ : ∃ z : rB, z = addM (bp (bp r 0 5 a_14) 0 (9 + 4 * i + 3) a_15) j 4 1 := ⟨_, rfl⟩
      have hm_17 := mX4_adds l D cI cQ cJ a (bp (bp r 0 5 a_14) 0 (9 + 4 * i + 3) a_15) h ((bp (bp r 0 5 a_14) 0 (9 + 4 * i + 3) a_15) 0 (9 + 4 * i + 2)) j 4 ((bp_ne (by omega)).trans ((bp_ne (by omega)).trans hwj)) (by omega) (by omega) 1
      rw [← er_16] at hm_17
      refine k_callv (wc := cM cI a (bp (bp r 0 5 a_14) 0 (9 + 4 * i + 3) a_15) h) (w' := cM cI a r_16 h) (wn := cM cI a r_16 h) (va_runV (As := [.int ((bp (bp r 0 5 a_14) 0 (9 + 4 * i + 3) a_15) 0 (9 + 4 * i + 2)), .int 4, .int 1]) (rest := []) ⟨hx, hb, hml, hown, hts⟩ (hm_17 _) (cwV 3 hts gX4_sends_X4_adds rfl rfl rfl (by decide +kernel) ⟨Nat.le_of_ble_eq_true rfl, Nat.le_of_ble_eq_true rfl⟩) (k_preV (wc := cM cI a (bp (bp r 0 5 a_14) 0 (9 + 4 * i + 3) a_15) h) hE hK hP hD [0, 1, 2, 3, 4, 5] (by decide) rfl (ci := 4) (q0 := 0) rfl rfl [.int ((bp (bp r 0 5 a_14) 0 (9 + 4 * i + 3) a_15) 0 (9 + 4 * i + 2)), .int 4, .int 1]) rfl rfl hl.1 rfl (lv_room (Nat.le_of_ble_eq_true rfl)) dX4_sends_94 ⟨Nat.zero_le _, Nat.zero_le _⟩) hP hD hS hA [0, 1, 2, 3, 4, 5] rfl rfl rfl (fun H locs hP hD hS => ?_)
      have e9 : (r_16 : rB) = sndM r i y := by (replace er_16 := er_16.symm; subst er_16; replace ea_15 := ea_15.symm; subst ea_15; replace ea_14 := ea_14.symm; subst ea_14; replace ev5_3 := ev5_3.symm; subst ev5_3; replace ev4_2 := ev4_2.symm; subst ev4_2; replace ev3_1 := ev3_1.symm; subst ev3_1; simp only [sndM, hcl, if_pos c_4, if_neg c_9, ↓reduceIte])
      rw [e9] at hP
      exact k_vret hx hb hr hlocks hS hP dX4_sends_97
