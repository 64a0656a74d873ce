/-! looks of the class for numbers in their ranges -/
theorem zW_0 {w n : Nat} {N : Int32} (hN : N = nI n) (hn : n < 2 ^ 31) (h : w ≤ n) : ¬ zW (nI w) 0 N = 0 := by
  subst hN
  refine zW_ok (nI_pos (by omega)) (fun h9 => ?_)
  rw [Int32.lt_iff_toInt_lt, nI_toInt hn, nI_toInt (by omega)] at h9
  omega
def FPn : Prop := ∀ x y : Int32, ¬ y = 0 → vf_n64 (FP.ddiv (FP.i2d x) (FP.i2d y))
set_option maxHeartbeats 4000000 in
set_option maxRecDepth 100000 in
theorem mX3_planeOf (l : Launch) (D : va_G) (cI cQ cJ : ClassId) (o s0 x0 : Nat) (a a2 : Nat → Nat) (r : rB) (i w : Nat) (hi : i < 6) (hw : w < 4) : Mi l D (tY cI cQ cJ) yX3_planeOf wsX3_planeOf ({ frames := 1, cells := 0, slots := 0, locals := 22 } : Room) [.ref o, .int (nI i), .int (nI w)] ((cO o [.ref (a 0), .ref (a2 0), .ref s0, .ref x0]) ++ (cR cI a r)) ((cO o [.ref (a 0), .ref (a2 0), .ref s0, .ref x0]) ++ (cR cI a r)) (pnC r i w) := by
  refine M_of (cc := cX3_planeOf) (maxL := 3) (ret := some .int) (Qc := fun A => va_Qi (fun (x : Int32) (_ : Unit) => x = pnC r i w) (fun _ t => Wd D ((cO o [.ref (a 0), .ref (a2 0), .ref s0, .ref x0]) ++ (cR cI a r)) t) A) (by decide) rfl (Nat.le_of_ble_eq_true rfl) ?_
  intro p e s m below meth c A ls hB hE hP hK hD hA hl
  obtain ⟨hx, hb, hr, hml, hts, hown, hlocks⟩ := hB
  have hS : va_S A s.heap s.heap [] := va_S.rf
  have hl : lv_has ls 3 [(0, .ref o), (1, .int (nI i)), (2, .int (nI w))] := hl
  have hinX3 : ∀ w ∈ u_ws RX3 TX3 4, w ∈ wsX3_planeOf := by decide +kernel
  have fl10 := hts (.fieldLink RX3 10 "RoofDrains" "roof" "LRoofDrains$Roof;") (by decide +kernel)
  refine lv_iload_n hx hb dX3_planeOf_0 rfl (lv_at hl 1 rfl) ?_
  refine k_calli (wc := ([] : va_W)) (w' := ([] : va_W)) (wn := (cO o [.ref (a 0), .ref (a2 0), .ref s0, .ref x0]) ++ (cR cI a r)) (va_runS (As := [.int (nI i)]) (rest := []) ⟨hx, hb, hml, hown, hts⟩ (mX3_isPlane l D cI cQ cJ (nI i) _) (va_cwS 1 hts gX3_planeOf_X3_isPlane rfl rfl rfl (by decide +kernel) ⟨Nat.le_of_ble_eq_true rfl, Nat.le_of_ble_eq_true rfl⟩) (k_preS (wc := ([] : va_W)) hE hK hP hD [] (by decide) rfl [.int (nI i)]) rfl rfl hl.1 rfl (lv_room (Nat.le_of_ble_eq_true rfl)) dX3_planeOf_1 ⟨Nat.zero_le _, Nat.zero_le _⟩) hP hD hS hA [] rfl rfl rfl (fun H locs hP hD hS => ?_)
  refine lv_if_ne (tgt := 17) hx hb dX3_planeOf_4 (by decide) (fun _ => ?_) (fun h9 => absurd h9 (zL_ok (n := 6) rfl (by decide) hi))
  refine lv_iload_n hx hb dX3_planeOf_17 rfl (lv_at hl 2 rfl) ?_
  refine lv_iconst (v := 0) hx hb dX3_planeOf_18 (by decide) ?_
  refine lv_iconst (v := 3) hx hb dX3_planeOf_19 (by decide) ?_
  refine k_calli (wc := ([] : va_W)) (w' := ([] : va_W)) (wn := (cO o [.ref (a 0), .ref (a2 0), .ref s0, .ref x0]) ++ (cR cI a r)) (va_runS (As := [.int (nI w), .int 0, .int 3]) (rest := []) ⟨hx, hb, hml, hown, hts⟩ (mX3_isWithin l D cI cQ cJ (nI w) 0 3 _) (va_cwS 3 hts gX3_planeOf_X3_isWithin rfl rfl rfl (by decide +kernel) ⟨Nat.le_of_ble_eq_true rfl, Nat.le_of_ble_eq_true rfl⟩) (k_preS (wc := ([] : va_W)) hE hK hP hD [] (by decide) rfl [.int (nI w), .int 0, .int 3]) rfl rfl hl.1 rfl (lv_room (Nat.le_of_ble_eq_true rfl)) dX3_planeOf_20 ⟨Nat.zero_le _, Nat.zero_le _⟩) hP hD hS hA [] rfl rfl rfl (fun H locs hP hD hS => ?_)
  refine lv_if_ne (tgt := 36) hx hb dX3_planeOf_23 (by decide) (fun _ => ?_) (fun h9 => absurd h9 (zW_0 (n := 3) rfl (by decide) (by omega)))
  refine lv_aload_n hx hb dX3_planeOf_36 rfl (lv_at hl 0 rfl) ?_
  refine va_get (D := D) (ci := 3) (v := .ref (a 0)) (C := RX3) (T := TX3) (N := 4) hx hb hts hinX3 hown hK hP 0 rfl rfl 0 (by decide) fl10 (fun _ h9 => h9) rfl dX3_planeOf_37 ?_
  refine lv_iload_n hx hb dX3_planeOf_40 rfl (lv_at hl 1 rfl) ?_
  refine lv_iload_n hx hb dX3_planeOf_41 rfl (lv_at hl 2 rfl) ?_
  refine k_calli (wc := cR cI a r) (w' := cR cI a r) (wn := (cO o [.ref (a 0), .ref (a2 0), .ref s0, .ref x0]) ++ (cR cI a r)) (va_runV (As := [.int (nI i), .int (nI w)]) (rest := []) ⟨hx, hb, hml, hown, hts⟩ (mX1_planeNumber l D cI cQ cJ a r (nI i) i w (vp_in_nI (n := i) (by omega) (by omega)) (nI_clamp (n := i) (by omega)) (by omega) _) (cwV 2 hts gX3_planeOf_X1_planeNumber rfl rfl rfl (by decide +kernel) ⟨Nat.le_of_ble_eq_true rfl, Nat.le_of_ble_eq_true rfl⟩) (k_preV (wc := cR cI a r) hE hK hP hD [1, 2, 3, 4, 5, 6, 7, 8, 9, 10, 11, 12, 13] (by decide) rfl (ci := 1) (q0 := 1) rfl rfl [.int (nI i), .int (nI w)]) rfl rfl hl.1 rfl (lv_room (Nat.le_of_ble_eq_true rfl)) dX3_planeOf_42 ⟨Nat.zero_le _, Nat.zero_le _⟩) hP hD hS hA [1, 2, 3, 4, 5, 6, 7, 8, 9, 10, 11, 12, 13] rfl rfl (by rw [show [1, 2, 3, 4, 5, 6, 7, 8, 9, 10, 11, 12, 13] = List.range' 1 13 from rfl, putAt_0 13 _ _ _ 1] <;> first | rfl | decide) (fun H locs hP hD hS => ?_)
  exact k_iret hx hb hr hlocks hS hP dX3_planeOf_45 (by (first | with_reducible rfl | simp only [↓reduceIte]))
set_option maxHeartbeats 4000000 in
set_option maxRecDepth 100000 in
theorem mX3_gutterOf (l : Launch) (D : va_G) (cI cQ cJ : ClassId) (o s0 x0 : Nat) (a a2 : Nat → Nat) (r : rB) (i w : Nat) (hi : i < 6) (hw : w < 9) : Mi l D (tY cI cQ cJ) yX3_gutterOf wsX3_gutterOf ({ frames := 2, cells := 0, slots := 0, locals := 44 } : Room) [.ref o, .int (nI i), .int (nI w)] ((cO o [.ref (a 0), .ref (a2 0), .ref s0, .ref x0]) ++ (cR cI a r)) ((cO o [.ref (a 0), .ref (a2 0), .ref s0, .ref x0]) ++ (cR cI a r)) (gnC r i w) := by
  refine M_of (cc := cX3_gutterOf) (maxL := 3) (ret := some .int) (Qc := fun A => va_Qi (fun (x : Int32) (_ : Unit) => x = gnC r i w) (fun _ t => Wd D ((cO o [.ref (a 0), .ref (a2 0), .ref s0, .ref x0]) ++ (cR cI a r)) t) A) (by decide) rfl (Nat.le_of_ble_eq_true rfl) ?_
  intro p e s m below meth c A ls hB hE hP hK hD hA hl
  obtain ⟨hx, hb, hr, hml, hts, hown, hlocks⟩ := hB
  have hS : va_S A s.heap s.heap [] := va_S.rf
  have hl : lv_has ls 3 [(0, .ref o), (1, .int (nI i)), (2, .int (nI w))] := hl
  have hinX3 : ∀ w ∈ u_ws RX3 TX3 4, w ∈ wsX3_gutterOf := by decide +kernel
  have fl10 := hts (.fieldLink RX3 10 "RoofDrains" "roof" "LRoofDrains$Roof;") (by decide +kernel)
  refine lv_iload_n hx hb dX3_gutterOf_0 rfl (lv_at hl 1 rfl) ?_
  refine k_calli (wc := ([] : va_W)) (w' := ([] : va_W)) (wn := (cO o [.ref (a 0), .ref (a2 0), .ref s0, .ref x0]) ++ (cR cI a r)) (va_runS (As := [.int (nI i)]) (rest := []) ⟨hx, hb, hml, hown, hts⟩ (mX3_isGutter l D cI cQ cJ (nI i) _) (va_cwS 1 hts gX3_gutterOf_X3_isGutter rfl rfl rfl (by decide +kernel) ⟨Nat.le_of_ble_eq_true rfl, Nat.le_of_ble_eq_true rfl⟩) (k_preS (wc := ([] : va_W)) hE hK hP hD [] (by decide) rfl [.int (nI i)]) rfl rfl hl.1 rfl (lv_room (Nat.le_of_ble_eq_true rfl)) dX3_gutterOf_1 ⟨Nat.zero_le _, Nat.zero_le _⟩) hP hD hS hA [] rfl rfl rfl (fun H locs hP hD hS => ?_)
  refine lv_if_ne (tgt := 17) hx hb dX3_gutterOf_4 (by decide) (fun _ => ?_) (fun h9 => absurd h9 (zL_ok (n := 6) rfl (by decide) hi))
  refine lv_iload_n hx hb dX3_gutterOf_17 rfl (lv_at hl 2 rfl) ?_
  refine lv_iconst (v := 0) hx hb dX3_gutterOf_18 (by decide) ?_
  refine lv_bipush (v := 8) hx hb dX3_gutterOf_19 (by decide) ?_
  refine k_calli (wc := ([] : va_W)) (w' := ([] : va_W)) (wn := (cO o [.ref (a 0), .ref (a2 0), .ref s0, .ref x0]) ++ (cR cI a r)) (va_runS (As := [.int (nI w), .int 0, .int 8]) (rest := []) ⟨hx, hb, hml, hown, hts⟩ (mX3_isWithin l D cI cQ cJ (nI w) 0 8 _) (va_cwS 3 hts gX3_gutterOf_X3_isWithin rfl rfl rfl (by decide +kernel) ⟨Nat.le_of_ble_eq_true rfl, Nat.le_of_ble_eq_true rfl⟩) (k_preS (wc := ([] : va_W)) hE hK hP hD [] (by decide) rfl [.int (nI w), .int 0, .int 8]) rfl rfl hl.1 rfl (lv_room (Nat.le_of_ble_eq_true rfl)) dX3_gutterOf_21 ⟨Nat.zero_le _, Nat.zero_le _⟩) hP hD hS hA [] rfl rfl rfl (fun H locs hP hD hS => ?_)
  refine lv_if_ne (tgt := 37) hx hb dX3_gutterOf_24 (by decide) (fun _ => ?_) (fun h9 => absurd h9 (zW_0 (n := 8) rfl (by decide) (by omega)))
  refine lv_aload_n hx hb dX3_gutterOf_37 rfl (lv_at hl 0 rfl) ?_
  refine va_get (D := D) (ci := 3) (v := .ref (a 0)) (C := RX3) (T := TX3) (N := 4) hx hb hts hinX3 hown hK hP 0 rfl rfl 0 (by decide) fl10 (fun _ h9 => h9) rfl dX3_gutterOf_38 ?_
  refine lv_iload_n hx hb dX3_gutterOf_41 rfl (lv_at hl 1 rfl) ?_
  refine lv_iload_n hx hb dX3_gutterOf_42 rfl (lv_at hl 2 rfl) ?_
  refine k_calli (wc := cR cI a r) (w' := cR cI a r) (wn := (cO o [.ref (a 0), .ref (a2 0), .ref s0, .ref x0]) ++ (cR cI a r)) (va_runV (As := [.int (nI i), .int (nI w)]) (rest := []) ⟨hx, hb, hml, hown, hts⟩ (mX1_gutterNumber l D cI cQ cJ a r (nI i) i w (vp_in_nI (n := i) (by omega) (by omega)) (nI_clamp (n := i) (by omega)) (by omega) _) (cwV 2 hts gX3_gutterOf_X1_gutterNumber rfl rfl rfl (by decide +kernel) ⟨Nat.le_of_ble_eq_true rfl, Nat.le_of_ble_eq_true rfl⟩) (k_preV (wc := cR cI a r) hE hK hP hD [1, 2, 3, 4, 5, 6, 7, 8, 9, 10, 11, 12, 13] (by decide) rfl (ci := 1) (q0 := 1) rfl rfl [.int (nI i), .int (nI w)]) rfl rfl hl.1 rfl (lv_room (Nat.le_of_ble_eq_true rfl)) dX3_gutterOf_43 ⟨Nat.zero_le _, Nat.zero_le _⟩) hP hD hS hA [1, 2, 3, 4, 5, 6, 7, 8, 9, 10, 11, 12, 13] rfl rfl (by rw [show [1, 2, 3, 4, 5, 6, 7, 8, 9, 10, 11, 12, 13] = List.range' 1 13 from rfl, putAt_0 13 _ _ _ 1] <;> first | rfl | decide) (fun H locs hP hD hS => ?_)
  exact k_iret hx hb hr hlocks hS hP dX3_gutterOf_46 (by (first | with_reducible rfl | simp only [↓reduceIte]))
set_option maxHeartbeats 4000000 in
set_option maxRecDepth 100000 in
theorem mX3_setting (l : Launch) (D : va_G) (cI cQ cJ : ClassId) (o s0 x0 : Nat) (a a2 : Nat → Nat) (r : rB) (i : Nat) (hi : i < 3) : Mi l D (tY cI cQ cJ) yX3_setting wsX3_setting ({ frames := 1, cells := 0, slots := 0, locals := 21 } : Room) [.ref o, .int (nI i)] ((cO o [.ref (a 0), .ref (a2 0), .ref s0, .ref x0]) ++ (cR cI a r)) ((cO o [.ref (a 0), .ref (a2 0), .ref s0, .ref x0]) ++ (cR cI a r)) (r 11 i) := by
  refine M_of (cc := cX3_setting) (maxL := 2) (ret := some .int) (Qc := fun A => va_Qi (fun (x : Int32) (_ : Unit) => x = r 11 i) (fun _ t => Wd D ((cO o [.ref (a 0), .ref (a2 0), .ref s0, .ref x0]) ++ (cR cI a r)) t) A) (by decide) rfl (Nat.le_of_ble_eq_true rfl) ?_
  intro p e s m below meth c A ls hB hE hP hK hD hA hl
  obtain ⟨hx, hb, hr, hml, hts, hown, hlocks⟩ := hB
  have hS : va_S A s.heap s.heap [] := va_S.rf
  have hl : lv_has ls 2 [(0, .ref o), (1, .int (nI i))] := hl
  have hinX3 : ∀ w ∈ u_ws RX3 TX3 4, w ∈ wsX3_setting := by decide +kernel
  have fl10 := hts (.fieldLink RX3 10 "RoofDrains" "roof" "LRoofDrains$Roof;") (by decide +kernel)
  refine lv_iload_n hx hb dX3_setting_0 rfl (lv_at hl 1 rfl) ?_
  refine k_calli (wc := ([] : va_W)) (w' := ([] : va_W)) (wn := (cO o [.ref (a 0), .ref (a2 0), .ref s0, .ref x0]) ++ (cR cI a r)) (va_runS (As := [.int (nI i)]) (rest := []) ⟨hx, hb, hml, hown, hts⟩ (mX3_isSetting l D cI cQ cJ (nI i) _) (va_cwS 1 hts gX3_setting_X3_isSetting rfl rfl rfl (by decide +kernel) ⟨Nat.le_of_ble_eq_true rfl, Nat.le_of_ble_eq_true rfl⟩) (k_preS (wc := ([] : va_W)) hE hK hP hD [] (by decide) rfl [.int (nI i)]) rfl rfl hl.1 rfl (lv_room (Nat.le_of_ble_eq_true rfl)) dX3_setting_1 ⟨Nat.zero_le _, Nat.zero_le _⟩) hP hD hS hA [] rfl rfl rfl (fun H locs hP hD hS => ?_)
  refine lv_if_ne (tgt := 17) hx hb dX3_setting_4 (by decide) (fun _ => ?_) (fun h9 => absurd h9 (zL_ok (n := 3) rfl (by decide) hi))
  refine lv_aload_n hx hb dX3_setting_17 rfl (lv_at hl 0 rfl) ?_
  refine va_get (D := D) (ci := 3) (v := .ref (a 0)) (C := RX3) (T := TX3) (N := 4) hx hb hts hinX3 hown hK hP 0 rfl rfl 0 (by decide) fl10 (fun _ h9 => h9) rfl dX3_setting_18 ?_
  refine lv_iload_n hx hb dX3_setting_21 rfl (lv_at hl 1 rfl) ?_
  refine k_calli (wc := cR cI a r) (w' := cR cI a r) (wn := (cO o [.ref (a 0), .ref (a2 0), .ref s0, .ref x0]) ++ (cR cI a r)) (va_runV (As := [.int (nI i)]) (rest := []) ⟨hx, hb, hml, hown, hts⟩ (mX1_settingValue l D cI cQ cJ a r (nI i) i (vp_in_nI (n := i) (by omega) (by omega)) (nI_clamp (n := i) (by omega)) _) (cwV 1 hts gX3_setting_X1_settingValue rfl rfl rfl (by decide +kernel) ⟨Nat.le_of_ble_eq_true rfl, Nat.le_of_ble_eq_true rfl⟩) (k_preV (wc := cR cI a r) hE hK hP hD [1, 2, 3, 4, 5, 6, 7, 8, 9, 10, 11, 12, 13] (by decide) rfl (ci := 1) (q0 := 1) rfl rfl [.int (nI i)]) rfl rfl hl.1 rfl (lv_room (Nat.le_of_ble_eq_true rfl)) dX3_setting_22 ⟨Nat.zero_le _, Nat.zero_le _⟩) hP hD hS hA [1, 2, 3, 4, 5, 6, 7, 8, 9, 10, 11, 12, 13] rfl rfl (by rw [show [1, 2, 3, 4, 5, 6, 7, 8, 9, 10, 11, 12, 13] = List.range' 1 13 from rfl, putAt_0 13 _ _ _ 1] <;> first | rfl | decide) (fun H locs hP hD hS => ?_)
  exact k_iret hx hb hr hlocks hS hP dX3_setting_25 (by (first | with_reducible rfl | simp only [↓reduceIte]))
set_option maxHeartbeats 4000000 in
set_option maxRecDepth 100000 in
theorem mX3_drainedShare (l : Launch) (D : va_G) (cI cQ cJ : ClassId) (o s0 x0 : Nat) (a a2 : Nat → Nat) (r : rB) (hF : FPn) : Md l D (tY cI cQ cJ) yX3_drainedShare wsX3_drainedShare ({ frames := 2, cells := 0, slots := 0, locals := 45 } : Room) [.ref o] ((cO o [.ref (a 0), .ref (a2 0), .ref s0, .ref x0]) ++ (cR cI a r)) ((cO o [.ref (a 0), .ref (a2 0), .ref s0, .ref x0]) ++ (cR cI a r)) (shC r) := by
  refine M_of (cc := cX3_drainedShare) (maxL := 2) (ret := some .double) (Qc := fun A => va_Qd (fun (x : UInt64) (_ : Unit) => x = shC r) (fun _ t => Wd D ((cO o [.ref (a 0), .ref (a2 0), .ref s0, .ref x0]) ++ (cR cI a r)) t) A) (by decide) rfl (Nat.le_of_ble_eq_true rfl) ?_
  intro p e s m below meth c A ls hB hE hP hK hD hA hl
  obtain ⟨hx, hb, hr, hml, hts, hown, hlocks⟩ := hB
  have hS : va_S A s.heap s.heap [] := va_S.rf
  have hl : lv_has ls 2 [(0, .ref o)] := hl
  have hinX3 : ∀ w ∈ u_ws RX3 TX3 4, w ∈ wsX3_drainedShare := by decide +kernel
  have fl10 := hts (.fieldLink RX3 10 "RoofDrains" "roof" "LRoofDrains$Roof;") (by decide +kernel)
  refine lv_aload_n hx hb dX3_drainedShare_0 rfl (lv_at hl 0 rfl) ?_
  refine va_get (D := D) (ci := 3) (v := .ref (a 0)) (C := RX3) (T := TX3) (N := 4) hx hb hts hinX3 hown hK hP 0 rfl rfl 0 (by decide) fl10 (fun _ h9 => h9) rfl dX3_drainedShare_1 ?_
  refine k_calli (wc := cR cI a r) (w' := cR cI a r) (wn := (cO o [.ref (a 0), .ref (a2 0), .ref s0, .ref x0]) ++ (cR cI a r)) (va_runV (As := []) (rest := []) ⟨hx, hb, hml, hown, hts⟩ (mX1_rainedLitres l D cI cQ cJ a r _) (cwV 0 hts gX3_drainedShare_X1_rainedLitres rfl rfl rfl (by decide +kernel) ⟨Nat.le_of_ble_eq_true rfl, Nat.le_of_ble_eq_true rfl⟩) (k_preV (wc := cR cI a r) hE hK hP hD [1, 2, 3, 4, 5, 6, 7, 8, 9, 10, 11, 12, 13] (by decide) rfl (ci := 1) (q0 := 1) rfl rfl []) rfl rfl hl.1 rfl (lv_room (Nat.le_of_ble_eq_true rfl)) dX3_drainedShare_4 ⟨Nat.zero_le _, Nat.zero_le _⟩) hP hD hS hA [1, 2, 3, 4, 5, 6, 7, 8, 9, 10, 11, 12, 13] rfl rfl (by rw [show [1, 2, 3, 4, 5, 6, 7, 8, 9, 10, 11, 12, 13] = List.range' 1 13 from rfl, putAt_0 13 _ _ _ 1] <;> first | rfl | decide) (fun H locs hP hD hS => ?_)
  refine lv_topi (fun v1_1 ev1_1 => ?_)
  refine lv_istore_n (lv' := [(1, .int v1_1), (0, .ref o)]) hx hb dX3_drainedShare_7 rfl hl (by decide) rfl (fun ls hl => ?_)
  refine lv_iload_n hx hb dX3_drainedShare_8 rfl (lv_at hl 0 rfl) ?_
  refine lv_if_ne (tgt := 16) hx hb dX3_drainedShare_9 (by decide) (fun c_2 => ?_) (fun c_2 => ?_)
  · skip
    refine lv_aload_n hx hb dX3_drainedShare_16 rfl (lv_at hl 1 rfl) ?_
    refine va_get (D := D) (ci := 3) (v := .ref (a 0)) (C := RX3) (T := TX3) (N := 4) hx hb hts hinX3 hown hK hP 0 rfl rfl 0 (by decide) fl10 (fun _ h9 => h9) rfl dX3_drainedShare_17 ?_
    refine k_calli (wc := cR cI a r) (w' := cR cI a r) (wn := (cO o [.ref (a 0), .ref (a2 0), .ref s0, .ref x0]) ++ (cR cI a r)) (va_runV (As := []) (rest := []) ⟨hx, hb, hml, hown, hts⟩ (mX1_drainedLitres l D cI cQ cJ a r _) (cwV 0 hts gX3_drainedShare_X1_drainedLitres rfl rfl rfl (by decide +kernel) ⟨Nat.le_of_ble_eq_true rfl, Nat.le_of_ble_eq_true rfl⟩) (k_preV (wc := cR cI a r) hE hK hP hD [1, 2, 3, 4, 5, 6, 7, 8, 9, 10, 11, 12, 13] (by decide) rfl (ci := 1) (q0 := 1) rfl rfl []) rfl rfl hl.1 rfl (lv_room (Nat.le_of_ble_eq_true rfl)) dX3_drainedShare_20 ⟨Nat.zero_le _, Nat.zero_le _⟩) hP hD hS hA [1, 2, 3, 4, 5, 6, 7, 8, 9, 10, 11, 12, 13] rfl rfl (by rw [show [1, 2, 3, 4, 5, 6, 7, 8, 9, 10, 11, 12, 13] = List.range' 1 13 from rfl, putAt_0 13 _ _ _ 1] <;> first | rfl | decide) (fun H locs hP hD hS => ?_)
    refine lv_i2d hx hb dX3_drainedShare_23 ?_
    refine lv_iload_n hx hb dX3_drainedShare_24 rfl (lv_at hl 0 rfl) ?_
    refine lv_i2d hx hb dX3_drainedShare_25 ?_
    refine lv_ddiv hx hb dX3_drainedShare_26 (hF _ _ c_2) ?_
    exact k_dret hx hb hr hlocks hS hP dX3_drainedShare_27 (by (replace ev1_1 := ev1_1.symm; subst ev1_1; first | with_reducible rfl | simp only [shC, if_neg c_2, ↓reduceIte]))
  · skip
    refine lv_dconst1 hx hb dX3_drainedShare_12 ?_
    refine lv_goto (tgt := 27) hx hb dX3_drainedShare_13 (by decide) ?_
    exact k_dret hx hb hr hlocks hS hP dX3_drainedShare_27 (by (replace ev1_1 := ev1_1.symm; subst ev1_1; first | with_reducible rfl | simp only [shC, if_pos c_2, ↓reduceIte]))
