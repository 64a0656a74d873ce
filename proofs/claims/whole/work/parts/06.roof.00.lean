set_option maxHeartbeats 4000000 in
set_option maxRecDepth 100000 in
theorem mX1_minutesGone (l : Launch) (D : va_G) (cI cQ cJ : ClassId) (a : Nat → Nat) (r : rB)  : Mi l D (tY cI cQ cJ) yX1_minutesGone wsX1_minutesGone ({ frames := 0, cells := 0, slots := 0, locals := 0 } : Room) [.ref (a 0)] (cR cI a r) (cR cI a r) (r 12 0) := by
  refine M_of (cc := cX1_minutesGone) (maxL := 1) (ret := some .int) (Qc := fun A => va_Qi (fun (x : Int32) (_ : Unit) => x = r 12 0) (fun _ t => Wd D (cR cI a r) t) A) (by decide) rfl (Nat.le_of_ble_eq_true rfl) ?_
  intro p e s m below meth c A ls hB hE hP hK hD hA hl
  obtain ⟨hx, hb, hr, hml, hts, hown, hlocks⟩ := hB
  have hS : va_S A s.heap s.heap [] := va_S.rf
  have hl : lv_has ls 1 [(0, .ref (a 0))] := hl
  have hinX1 : ∀ w ∈ u_ws RX1 TX1 16, w ∈ wsX1_minutesGone := by decide +kernel
  have fl54 := hts (.fieldLink RX1 54 "RoofDrains$Roof" "minutesGone" "I") (by decide +kernel)
  refine lv_aload_n hx hb dX1_minutesGone_0 rfl (lv_at hl 0 rfl) ?_
  refine va_get (D := D) (ci := 1) (v := .int (r 12 0)) (C := RX1) (T := TX1) (N := 16) hx hb hts hinX1 hown hK hP 0 rfl rfl 12 (by decide) fl54 (fun _ h9 => h9) (congrArg (fun z => some (Value.int z)) (rfl)) dX1_minutesGone_1 ?_
  exact k_iret hx hb hr hlocks hS hP dX1_minutesGone_4 (by (first | rfl | (simp only [↓reduceIte]; done) | (simp []; done)))
set_option maxHeartbeats 4000000 in
set_option maxRecDepth 100000 in
theorem mX1_weeksPassed (l : Launch) (D : va_G) (cI cQ cJ : ClassId) (a : Nat → Nat) (r : rB)  : Mi l D (tY cI cQ cJ) yX1_weeksPassed wsX1_weeksPassed ({ frames := 0, cells := 0, slots := 0, locals := 0 } : Room) [.ref (a 0)] (cR cI a r) (cR cI a r) (r 12 1) := by
  refine M_of (cc := cX1_weeksPassed) (maxL := 1) (ret := some .int) (Qc := fun A => va_Qi (fun (x : Int32) (_ : Unit) => x = r 12 1) (fun _ t => Wd D (cR cI a r) t) A) (by decide) rfl (Nat.le_of_ble_eq_true rfl) ?_
  intro p e s m below meth c A ls hB hE hP hK hD hA hl
  obtain ⟨hx, hb, hr, hml, hts, hown, hlocks⟩ := hB
  have hS : va_S A s.heap s.heap [] := va_S.rf
  have hl : lv_has ls 1 [(0, .ref (a 0))] := hl
  have hinX1 : ∀ w ∈ u_ws RX1 TX1 16, w ∈ wsX1_weeksPassed := by decide +kernel
  have fl58 := hts (.fieldLink RX1 58 "RoofDrains$Roof" "weeksPassed" "I") (by decide +kernel)
  refine lv_aload_n hx hb dX1_weeksPassed_0 rfl (lv_at hl 0 rfl) ?_
  refine va_get (D := D) (ci := 1) (v := .int (r 12 1)) (C := RX1) (T := TX1) (N := 16) hx hb hts hinX1 hown hK hP 0 rfl rfl 13 (by decide) fl58 (fun _ h9 => h9) (congrArg (fun z => some (Value.int z)) (rfl)) dX1_weeksPassed_1 ?_
  exact k_iret hx hb hr hlocks hS hP dX1_weeksPassed_4 (by (first | rfl | (simp only [↓reduceIte]; done) | (simp []; done)))
set_option maxHeartbeats 4000000 in
set_option maxRecDepth 100000 in
theorem mX1_rainedLitres (l : Launch) (D : va_G) (cI cQ cJ : ClassId) (a : Nat → Nat) (r : rB)  : Mi l D (tY cI cQ cJ) yX1_rainedLitres wsX1_rainedLitres ({ frames := 0, cells := 0, slots := 0, locals := 0 } : Room) [.ref (a 0)] (cR cI a r) (cR cI a r) (r 12 2) := by
  refine M_of (cc := cX1_rainedLitres) (maxL := 1) (ret := some .int) (Qc := fun A => va_Qi (fun (x : Int32) (_ : Unit) => x = r 12 2) (fun _ t => Wd D (cR cI a r) t) A) (by decide) rfl (Nat.le_of_ble_eq_true rfl) ?_
  intro p e s m below meth c A ls hB hE hP hK hD hA hl
  obtain ⟨hx, hb, hr, hml, hts, hown, hlocks⟩ := hB
  have hS : va_S A s.heap s.heap [] := va_S.rf
  have hl : lv_has ls 1 [(0, .ref (a 0))] := hl
  have hinX1 : ∀ w ∈ u_ws RX1 TX1 16, w ∈ wsX1_rainedLitres := by decide +kernel
  have fl61 := hts (.fieldLink RX1 61 "RoofDrains$Roof" "rained" "I") (by decide +kernel)
  refine lv_aload_n hx hb dX1_rainedLitres_0 rfl (lv_at hl 0 rfl) ?_
  refine va_get (D := D) (ci := 1) (v := .int (r 12 2)) (C := RX1) (T := TX1) (N := 16) hx hb hts hinX1 hown hK hP 0 rfl rfl 14 (by decide) fl61 (fun _ h9 => h9) (congrArg (fun z => some (Value.int z)) (rfl)) dX1_rainedLitres_1 ?_
  exact k_iret hx hb hr hlocks hS hP dX1_rainedLitres_4 (by (first | rfl | (simp only [↓reduceIte]; done) | (simp []; done)))
set_option maxHeartbeats 4000000 in
set_option maxRecDepth 100000 in
theorem mX1_backedUpMinutes (l : Launch) (D : va_G) (cI cQ cJ : ClassId) (a : Nat → Nat) (r : rB)  : Mi l D (tY cI cQ cJ) yX1_backedUpMinutes wsX1_backedUpMinutes ({ frames := 0, cells := 0, slots := 0, locals := 0 } : Room) [.ref (a 0)] (cR cI a r) (cR cI a r) (r 12 3) := by
  refine M_of (cc := cX1_backedUpMinutes) (maxL := 1) (ret := some .int) (Qc := fun A => va_Qi (fun (x : Int32) (_ : Unit) => x = r 12 3) (fun _ t => Wd D (cR cI a r) t) A) (by decide) rfl (Nat.le_of_ble_eq_true rfl) ?_
  intro p e s m below meth c A ls hB hE hP hK hD hA hl
  obtain ⟨hx, hb, hr, hml, hts, hown, hlocks⟩ := hB
  have hS : va_S A s.heap s.heap [] := va_S.rf
  have hl : lv_has ls 1 [(0, .ref (a 0))] := hl
  have hinX1 : ∀ w ∈ u_ws RX1 TX1 16, w ∈ wsX1_backedUpMinutes := by decide +kernel
  have fl64 := hts (.fieldLink RX1 64 "RoofDrains$Roof" "backedUp" "I") (by decide +kernel)
  refine lv_aload_n hx hb dX1_backedUpMinutes_0 rfl (lv_at hl 0 rfl) ?_
  refine va_get (D := D) (ci := 1) (v := .int (r 12 3)) (C := RX1) (T := TX1) (N := 16) hx hb hts hinX1 hown hK hP 0 rfl rfl 15 (by decide) fl64 (fun _ h9 => h9) (congrArg (fun z => some (Value.int z)) (rfl)) dX1_backedUpMinutes_1 ?_
  exact k_iret hx hb hr hlocks hS hP dX1_backedUpMinutes_4 (by (first | rfl | (simp only [↓reduceIte]; done) | (simp []; done)))
set_option maxHeartbeats 4000000 in
set_option maxRecDepth 100000 in
theorem mX1_settingValue (l : Launch) (D : va_G) (cI cQ cJ : ClassId) (a : Nat → Nat) (r : rB) (q : Int32) (i : Nat) (hq : vp_in q 3) (hi : q.toNatClampNeg = i) : Mi l D (tY cI cQ cJ) yX1_settingValue wsX1_settingValue ({ frames := 0, cells := 0, slots := 0, locals := 0 } : Room) [.ref (a 0), .int q] (cR cI a r) (cR cI a r) (r 11 i) := by
  refine M_of (cc := cX1_settingValue) (maxL := 2) (ret := some .int) (Qc := fun A => va_Qi (fun (x : Int32) (_ : Unit) => x = r 11 i) (fun _ t => Wd D (cR cI a r) t) A) (by decide) rfl (Nat.le_of_ble_eq_true rfl) ?_
  intro p e s m below meth c A ls hB hE hP hK hD hA hl
  obtain ⟨hx, hb, hr, hml, hts, hown, hlocks⟩ := hB
  have hS : va_S A s.heap s.heap [] := va_S.rf
  have hl : lv_has ls 2 [(0, .ref (a 0)), (1, .int q)] := hl
  have hinX1 : ∀ w ∈ u_ws RX1 TX1 16, w ∈ wsX1_settingValue := by decide +kernel
  have fl45 := hts (.fieldLink RX1 45 "RoofDrains$Roof" "values" "[I") (by decide +kernel)
  refine lv_aload_n hx hb dX1_settingValue_0 rfl (lv_at hl 0 rfl) ?_
  refine va_get (D := D) (ci := 1) (v := .ref (a 12)) (C := RX1) (T := TX1) (N := 16) hx hb hts hinX1 hown hK hP 0 rfl rfl 11 (by decide) fl45 (fun _ h9 => h9) rfl dX1_settingValue_1 ?_
  refine lv_iload_n hx hb dX1_settingValue_4 rfl (lv_at hl 1 rfl) ?_
  refine k_iald (k := i) (v := r 11 i) hx hb hK hP 12 0 rfl rfl hq hi (rfl) dX1_settingValue_5 ?_
  exact k_iret hx hb hr hlocks hS hP dX1_settingValue_6 (by (first | rfl | (simp only [↓reduceIte]; done) | (simp []; done)))
set_option maxHeartbeats 4000000 in
set_option maxRecDepth 100000 in
theorem mX1_room (l : Launch) (D : va_G) (cI cQ cJ : ClassId) (a : Nat → Nat) (r : rB) (q : Int32) (i : Nat) (hq : vp_in q 6) (hi : q.toNatClampNeg = i) : Mi l D (tY cI cQ cJ) yX1_room wsX1_room ({ frames := 0, cells := 0, slots := 0, locals := 0 } : Room) [.ref (a 0), .int q] (cR cI a r) (cR cI a r) (roomT r i) := by
  refine M_of (cc := cX1_room) (maxL := 2) (ret := some .int) (Qc := fun A => va_Qi (fun (x : Int32) (_ : Unit) => x = roomT r i) (fun _ t => Wd D (cR cI a r) t) A) (by decide) rfl (Nat.le_of_ble_eq_true rfl) ?_
  intro p e s m below meth c A ls hB hE hP hK hD hA hl
  obtain ⟨hx, hb, hr, hml, hts, hown, hlocks⟩ := hB
  have hS : va_S A s.heap s.heap [] := va_S.rf
  have hl : lv_has ls 2 [(0, .ref (a 0)), (1, .int q)] := hl
  have hinX1 : ∀ w ∈ u_ws RX1 TX1 16, w ∈ wsX1_room := by decide +kernel
  have fl24 := hts (.fieldLink RX1 24 "RoofDrains$Roof" "size" "[I") (by decide +kernel)
  have fl30 := hts (.fieldLink RX1 30 "RoofDrains$Roof" "leaves" "[I") (by decide +kernel)
  refine lv_aload_n hx hb dX1_room_0 rfl (lv_at hl 0 rfl) ?_
  refine va_get (D := D) (ci := 1) (v := .ref (a 5)) (C := RX1) (T := TX1) (N := 16) hx hb hts hinX1 hown hK hP 0 rfl rfl 4 (by decide) fl24 (fun _ h9 => h9) rfl dX1_room_1 ?_
  refine lv_iload_n hx hb dX1_room_4 rfl (lv_at hl 1 rfl) ?_
  refine k_iald (k := i) (v := r 4 i) hx hb hK hP 5 0 rfl rfl hq hi (rfl) dX1_room_5 ?_
  refine lv_bipush (v := 100) hx hb dX1_room_6 (by decide) ?_
  refine lv_aload_n hx hb dX1_room_8 rfl (lv_at hl 0 rfl) ?_
  refine va_get (D := D) (ci := 1) (v := .ref (a 7)) (C := RX1) (T := TX1) (N := 16) hx hb hts hinX1 hown hK hP 0 rfl rfl 6 (by decide) fl30 (fun _ h9 => h9) rfl dX1_room_9 ?_
  refine lv_iload_n hx hb dX1_room_12 rfl (lv_at hl 1 rfl) ?_
  refine k_iald (k := i) (v := r 6 i) hx hb hK hP 7 0 rfl rfl hq hi (rfl) dX1_room_13 ?_
  refine lv_isub hx hb dX1_room_14 ?_
  refine lv_imul hx hb dX1_room_15 ?_
  refine lv_bipush (v := 100) hx hb dX1_room_16 (by decide) ?_
  refine lv_idiv hx hb dX1_room_18 (by decide) ?_
  exact k_iret hx hb hr hlocks hS hP dX1_room_19 (by (first | rfl | (simp only [roomT, ↓reduceIte]; done) | (simp [roomT]; done)))
set_option maxHeartbeats 4000000 in
set_option maxRecDepth 100000 in
theorem mX1_pipeTakes (l : Launch) (D : va_G) (cI cQ cJ : ClassId) (a : Nat → Nat) (r : rB) (q : Int32) (i : Nat) (hq : vp_in q 6) (hi : q.toNatClampNeg = i) : Mi l D (tY cI cQ cJ) yX1_pipeTakes wsX1_pipeTakes ({ frames := 0, cells := 0, slots := 0, locals := 0 } : Room) [.ref (a 0), .int q] (cR cI a r) (cR cI a r) (pipeT r i) := by
  refine M_of (cc := cX1_pipeTakes) (maxL := 3) (ret := some .int) (Qc := fun A => va_Qi (fun (x : Int32) (_ : Unit) => x = pipeT r i) (fun _ t => Wd D (cR cI a r) t) A) (by decide) rfl (Nat.le_of_ble_eq_true rfl) ?_
  intro p e s m below meth c A ls hB hE hP hK hD hA hl
  obtain ⟨hx, hb, hr, hml, hts, hown, hlocks⟩ := hB
  have hS : va_S A s.heap s.heap [] := va_S.rf
  have hl : lv_has ls 3 [(0, .ref (a 0)), (1, .int q)] := hl
  have hinX1 : ∀ w ∈ u_ws RX1 TX1 16, w ∈ wsX1_pipeTakes := by decide +kernel
  have fl27 := hts (.fieldLink RX1 27 "RoofDrains$Roof" "bore" "[I") (by decide +kernel)
  have fl30 := hts (.fieldLink RX1 30 "RoofDrains$Roof" "leaves" "[I") (by decide +kernel)
  refine lv_aload_n hx hb dX1_pipeTakes_0 rfl (lv_at hl 0 rfl) ?_
  refine va_get (D := D) (ci := 1) (v := .ref (a 6)) (C := RX1) (T := TX1) (N := 16) hx hb hts hinX1 hown hK hP 0 rfl rfl 5 (by decide) fl27 (fun _ h9 => h9) rfl dX1_pipeTakes_1 ?_
  refine lv_iload_n hx hb dX1_pipeTakes_4 rfl (lv_at hl 1 rfl) ?_
  refine k_iald (k := i) (v := r 5 i) hx hb hK hP 6 0 rfl rfl hq hi (rfl) dX1_pipeTakes_5 ?_
  refine lv_bipush (v := 100) hx hb dX1_pipeTakes_6 (by decide) ?_
  refine lv_aload_n hx hb dX1_pipeTakes_8 rfl (lv_at hl 0 rfl) ?_
  refine va_get (D := D) (ci := 1) (v := .ref (a 7)) (C := RX1) (T := TX1) (N := 16) hx hb hts hinX1 hown hK hP 0 rfl rfl 6 (by decide) fl30 (fun _ h9 => h9) rfl dX1_pipeTakes_9 ?_
  refine lv_iload_n hx hb dX1_pipeTakes_12 rfl (lv_at hl 1 rfl) ?_
  refine k_iald (k := i) (v := r 6 i) hx hb hK hP 7 0 rfl rfl hq hi (rfl) dX1_pipeTakes_13 ?_
  refine lv_isub hx hb dX1_pipeTakes_14 ?_
  refine lv_imul hx hb dX1_pipeTakes_15 ?_
  refine lv_bipush (v := 100) hx hb dX1_pipeTakes_16 (by decide) ?_
  refine lv_idiv hx hb dX1_pipeTakes_18 (by decide) ?_
  refine lv_topi (fun v2_1 ev2_1 => ?_)
  refine lv_istore_n (lv' := [(2, .int v2_1), (0, .ref (a 0)), (1, .int q)]) hx hb dX1_pipeTakes_19 rfl hl (by decide) rfl (fun ls hl => ?_)
  refine lv_iload_n hx hb dX1_pipeTakes_20 rfl (lv_at hl 0 rfl) ?_
  refine lv_if_ne (tgt := 37) hx hb dX1_pipeTakes_21 (by decide) (fun c_2 => ?_) (fun c_2 => ?_)
  · skip
    refine lv_iload_n hx hb dX1_pipeTakes_37 rfl (lv_at hl 0 rfl) ?_
    exact k_iret hx hb hr hlocks hS hP dX1_pipeTakes_38 (by (subst ev2_1; first | rfl | (simp only [pipeT, c_2, ↓reduceIte]; done) | (simp [pipeT, c_2]; done)))
  · skip
    refine lv_aload_n hx hb dX1_pipeTakes_24 rfl (lv_at hl 1 rfl) ?_
    refine va_get (D := D) (ci := 1) (v := .ref (a 6)) (C := RX1) (T := TX1) (N := 16) hx hb hts hinX1 hown hK hP 0 rfl rfl 5 (by decide) fl27 (fun _ h9 => h9) rfl dX1_pipeTakes_25 ?_
    refine lv_iload_n hx hb dX1_pipeTakes_28 rfl (lv_at hl 2 rfl) ?_
    refine k_iald (k := i) (v := r 5 i) hx hb hK hP 6 0 rfl rfl hq hi (rfl) dX1_pipeTakes_29 ?_
    refine lv_if_eq (tgt := 37) hx hb dX1_pipeTakes_30 (by decide) (fun c_3 => ?_) (fun c_3 => ?_)
    · skip
      refine lv_iload_n hx hb dX1_pipeTakes_37 rfl (lv_at hl 0 rfl) ?_
      exact k_iret hx hb hr hlocks hS hP dX1_pipeTakes_38 (by (subst ev2_1; first | rfl | (simp only [pipeT, c_2, c_3, ↓reduceIte]; done) | (simp [pipeT, c_2, c_3]; done)))
    · skip
      refine lv_iconst (v := 1) hx hb dX1_pipeTakes_33 (by decide) ?_
      refine lv_goto (tgt := 38) hx hb dX1_pipeTakes_34 (by decide) ?_
      exact k_iret hx hb hr hlocks hS hP dX1_pipeTakes_38 (by (subst ev2_1; first | rfl | (simp only [pipeT, c_2, c_3, ↓reduceIte]; done) | (simp [pipeT, c_2, c_3]; done)))
set_option maxHeartbeats 4000000 in
set_option maxRecDepth 100000 in
theorem mX1_hasLeaves (l : Launch) (D : va_G) (cI cQ cJ : ClassId) (a : Nat → Nat) (r : rB) (q : Int32) (i : Nat) (hq : vp_in q 6) (hi : q.toNatClampNeg = i) : Mi l D (tY cI cQ cJ) yX1_hasLeaves wsX1_hasLeaves ({ frames := 0, cells := 0, slots := 0, locals := 0 } : Room) [.ref (a 0), .int q] (cR cI a r) (cR cI a r) (hasL r i) := by
  refine M_of (cc := cX1_hasLeaves) (maxL := 2) (ret := some .boolean) (Qc := fun A => va_Qi (fun (x : Int32) (_ : Unit) => x = hasL r i) (fun _ t => Wd D (cR cI a r) t) A) (by decide) rfl (Nat.le_of_ble_eq_true rfl) ?_
  intro p e s m below meth c A ls hB hE hP hK hD hA hl
  obtain ⟨hx, hb, hr, hml, hts, hown, hlocks⟩ := hB
  have hS : va_S A s.heap s.heap [] := va_S.rf
  have hl : lv_has ls 2 [(0, .ref (a 0)), (1, .int q)] := hl
  have hinX1 : ∀ w ∈ u_ws RX1 TX1 16, w ∈ wsX1_hasLeaves := by decide +kernel
  have fl30 := hts (.fieldLink RX1 30 "RoofDrains$Roof" "leaves" "[I") (by decide +kernel)
  refine lv_aload_n hx hb dX1_hasLeaves_0 rfl (lv_at hl 0 rfl) ?_
  refine va_get (D := D) (ci := 1) (v := .ref (a 7)) (C := RX1) (T := TX1) (N := 16) hx hb hts hinX1 hown hK hP 0 rfl rfl 6 (by decide) fl30 (fun _ h9 => h9) rfl dX1_hasLeaves_1 ?_
  refine lv_iload_n hx hb dX1_hasLeaves_4 rfl (lv_at hl 1 rfl) ?_
  refine k_iald (k := i) (v := r 6 i) hx hb hK hP 7 0 rfl rfl hq hi (rfl) dX1_hasLeaves_5 ?_
  refine lv_if_le (tgt := 13) hx hb dX1_hasLeaves_6 (by decide) (fun c_1 => ?_) (fun c_1 => ?_)
  · skip
    refine lv_iconst (v := 0) hx hb dX1_hasLeaves_13 (by decide) ?_
    exact k_zret hx hb hr hlocks hS hP dX1_hasLeaves_14 (by first | rfl | decide | exact rfl) (by (first | rfl | (simp only [hasL, c_1, ↓reduceIte]; done) | (simp [hasL, c_1]; done)))
  · skip
    refine lv_iconst (v := 1) hx hb dX1_hasLeaves_9 (by decide) ?_
    refine lv_goto (tgt := 14) hx hb dX1_hasLeaves_10 (by decide) ?_
    exact k_zret hx hb hr hlocks hS hP dX1_hasLeaves_14 (by first | rfl | decide | exact rfl) (by (first | rfl | (simp only [hasL, c_1, ↓reduceIte]; done) | (simp [hasL, c_1]; done)))
set_option maxHeartbeats 4000000 in
set_option maxRecDepth 100000 in
theorem mX1_sumOf (l : Launch) (D : va_G) (cI cQ cJ : ClassId) (q : Nat) (f : Nat → Int32) : Mi l D (tY cI cQ cJ) yX1_sumOf wsX1_sumOf ({ frames := 0, cells := 0, slots := 0, locals := 0 } : Room) [.ref q] ([(q, .inl (cI, 6, .inl f))]) ([(q, .inl (cI, 6, .inl f))]) (smI f 6 0 0) := by
  refine M_of (cc := cX1_sumOf) (maxL := 6) (ret := some .int) (Qc := fun A => va_Qi (fun (x : Int32) (_ : Unit) => x = smI f 6 0 0) (fun _ t => Wd D ([(q, .inl (cI, 6, .inl f))]) t) A) (by decide) rfl (Nat.le_of_ble_eq_true rfl) ?_
  intro p e s m below meth c A ls hB hE hP hK hD hA hl
  obtain ⟨hx, hb, hr, hml, hts, hown, hlocks⟩ := hB
  have hS : va_S A s.heap s.heap [] := va_S.rf
  have hl : lv_has ls 6 [(0, .ref q)] := hl
  refine lv_iconst (v := 0) hx hb dX1_sumOf_0 (by decide) ?_
  refine lv_istore_n (lv' := [(1, .int 0), (0, .ref q)]) hx hb dX1_sumOf_1 rfl hl (by decide) rfl (fun ls hl => ?_)
  refine lv_aload_n hx hb dX1_sumOf_2 rfl (lv_at hl 1 rfl) ?_
  refine lv_astore_n (lv' := [(2, .ref q), (1, .int 0), (0, .ref q)]) hx hb dX1_sumOf_3 rfl hl (by decide) rfl (fun ls hl => ?_)
  refine lv_aload_n hx hb dX1_sumOf_4 rfl (lv_at hl 0 rfl) ?_
  refine va_alen (v := 6) hx hb hK hP 0 0 rfl rfl rfl dX1_sumOf_5 ?_
  refine lv_istore_n (lv' := [(3, .int 6), (2, .ref q), (1, .int 0), (0, .ref q)]) hx hb dX1_sumOf_6 rfl hl (by decide) rfl (fun ls hl => ?_)
  refine lv_iconst (v := 0) hx hb dX1_sumOf_7 (by decide) ?_
  refine lv_istore (lv' := [(4, .int 0), (3, .int 6), (2, .ref q), (1, .int 0), (0, .ref q)]) hx hb dX1_sumOf_8 hl (by decide) rfl (fun ls hl => ?_)
  have Lp10 : ∀ (n i : Nat) (sa : Int32), i + n = 6 → smI f n i sa = smI f 6 0 0 → ∀ (H : Heap) (locs : List Loc), va_P D vwCl ([(q, .inl (cI, 6, .inl f))]) H → va_D A ([(q, .inl (cI, 6, .inl f))]) → va_S A s.heap H locs → ∀ (ls : Array Slot), lv_has ls 6 [(4, .int (nI i)), (3, .int 6), (2, .ref q), (1, .int sa), (0, .ref q)] → W p l e ({ frames := 0, cells := 0, slots := 0, locals := 0 } : Room) s m ([.ref q] : List Value).toArray below meth c H locs 0 0 (MQ below (va_Qi (fun (x : Int32) (_ : Unit) => x = smI f 6 0 0) (fun _ t => Wd D ([(q, .inl (cI, 6, .inl f))]) t) A) ([.ref q] : List Value).toArray s 0 0 A) (F0 m 10 ls []) := by
    intro n
    induction n with
    | zero =>
      intro i sa hin hres H locs hP hD hS ls hl
      have h9 : sa = smI f 6 0 0 := hres
      subst h9
      refine lv_iload hx hb dX1_sumOf_10 (lv_at hl 0 rfl) ?_
      refine lv_iload_n hx hb dX1_sumOf_12 rfl (lv_at hl 1 rfl) ?_
      refine lv_icmp_ge (tgt := 33) hx hb dX1_sumOf_13 (by decide) (fun _ => ?_) (fun h9 => absurd (nI_le (a := 6) (b := i) (by omega) (by omega)) h9)
      refine lv_iload_n hx hb dX1_sumOf_33 rfl (lv_at hl 3 rfl) ?_
      exact k_iret hx hb hr hlocks hS hP dX1_sumOf_34 (by (first | rfl | (simp only [↓reduceIte]; done) | (simp []; done)))
    | succ n ih =>
      intro i sa hin hres H locs hP hD hS ls hl
      refine lv_iload hx hb dX1_sumOf_10 (lv_at hl 0 rfl) ?_
      refine lv_iload_n hx hb dX1_sumOf_12 rfl (lv_at hl 1 rfl) ?_
      refine lv_icmp_ge (tgt := 33) hx hb dX1_sumOf_13 (by decide) (fun h9 => absurd h9 (nI_ge (a := i) (b := 6) (by omega) (by omega))) (fun _ => ?_)
      refine lv_aload_n hx hb dX1_sumOf_16 rfl (lv_at hl 2 rfl) ?_
      refine lv_iload hx hb dX1_sumOf_17 (lv_at hl 0 rfl) ?_
      refine k_iald (k := i) (v := f i) hx hb hK hP 0 0 rfl rfl (vp_in_nI (by omega) (by omega)) (nI_clamp (by omega)) rfl dX1_sumOf_19 ?_
      refine lv_topi (fun v5_1 ev5_1 => ?_)
      refine lv_istore (lv' := [(5, .int v5_1), (4, .int (nI i)), (3, .int 6), (2, .ref q), (1, .int sa), (0, .ref q)]) hx hb dX1_sumOf_20 hl (by decide) rfl (fun ls hl => ?_)
      refine lv_iload_n hx hb dX1_sumOf_22 rfl (lv_at hl 4 rfl) ?_
      refine lv_iload hx hb dX1_sumOf_23 (lv_at hl 0 rfl) ?_
      refine lv_iadd hx hb dX1_sumOf_25 ?_
      refine lv_topi (fun v1_2 ev1_2 => ?_)
      refine lv_istore_n (lv' := [(1, .int v1_2), (5, .int v5_1), (4, .int (nI i)), (3, .int 6), (2, .ref q), (0, .ref q)]) hx hb dX1_sumOf_26 rfl hl (by decide) rfl (fun ls hl => ?_)
      refine lv_iinc (v := nI (i + 1)) (lv' := [(4, .int (nI (i + 1))), (1, .int v1_2), (5, .int v5_1), (3, .int 6), (2, .ref q), (0, .ref q)]) hx hb dX1_sumOf_27 hl (k := 2) rfl (nI_1 i) (by decide) rfl (fun ls hl => ?_)
      refine lv_goto (tgt := 10) hx hb dX1_sumOf_30 (by decide) ?_
      exact ih (i + 1) v1_2 (by omega) (by subst ev1_2; subst ev5_1;  exact hres) H locs hP hD hS ls (lv_sub hl [0, 3, 4, 1, 5] rfl)
  exact Lp10 6 0 0 (by omega) rfl _ _ hP hD hS ls (lv_sub hl [0, 1, 2, 3, 4] rfl)
set_option maxHeartbeats 4000000 in
set_option maxRecDepth 100000 in
theorem mX1_drainedLitres (l : Launch) (D : va_G) (cI cQ cJ : ClassId) (a : Nat → Nat) (r : rB)  : Mi l D (tY cI cQ cJ) yX1_drainedLitres wsX1_drainedLitres ({ frames := 1, cells := 0, slots := 0, locals := 25 } : Room) [.ref (a 0)] (cR cI a r) (cR cI a r) (smI (r 10) 6 0 0) := by
  refine M_of (cc := cX1_drainedLitres) (maxL := 1) (ret := some .int) (Qc := fun A => va_Qi (fun (x : Int32) (_ : Unit) => x = smI (r 10) 6 0 0) (fun _ t => Wd D (cR cI a r) t) A) (by decide) rfl (Nat.le_of_ble_eq_true rfl) ?_
  intro p e s m below meth c A ls hB hE hP hK hD hA hl
  obtain ⟨hx, hb, hr, hml, hts, hown, hlocks⟩ := hB
  have hS : va_S A s.heap s.heap [] := va_S.rf
  have hl : lv_has ls 1 [(0, .ref (a 0))] := hl
  have hinX1 : ∀ w ∈ u_ws RX1 TX1 16, w ∈ wsX1_drainedLitres := by decide +kernel
  have fl42 := hts (.fieldLink RX1 42 "RoofDrains$Roof" "drained" "[I") (by decide +kernel)
  refine lv_aload_n hx hb dX1_drainedLitres_0 rfl (lv_at hl 0 rfl) ?_
  refine va_get (D := D) (ci := 1) (v := .ref (a 11)) (C := RX1) (T := TX1) (N := 16) hx hb hts hinX1 hown hK hP 0 rfl rfl 10 (by decide) fl42 (fun _ h9 => h9) rfl dX1_drainedLitres_1 ?_
  refine k_calli (wc := [(a 11, .inl (cI, 6, .inl (r 10)))]) (w' := [(a 11, .inl (cI, 6, .inl (r 10)))]) (wn := cR cI a r) (va_runS (As := [.ref (a 11)]) (rest := []) ⟨hx, hb, hml, hown, hts⟩ (mX1_sumOf l D cI cQ cJ (a 11) (r 10) _) (va_cwS 1 hts gX1_drainedLitres_X1_sumOf rfl rfl rfl (by decide +kernel) ⟨Nat.le_of_ble_eq_true rfl, Nat.le_of_ble_eq_true rfl⟩) (k_preS (wc := [(a 11, .inl (cI, 6, .inl (r 10)))]) hE hK hP hD [11] (by decide) rfl [.ref (a 11)]) rfl rfl hl.1 rfl (lv_room (Nat.le_of_ble_eq_true rfl)) dX1_drainedLitres_4 ⟨Nat.zero_le _, Nat.zero_le _⟩) hP hD hS hA [11] rfl rfl rfl (fun H locs hP hD hS => ?_)
  exact k_iret hx hb hr hlocks hS hP dX1_drainedLitres_7 (by (first | rfl | (simp only [↓reduceIte]; done) | (simp []; done)))
set_option maxHeartbeats 4000000 in
set_option maxRecDepth 100000 in
theorem mX1_spiltLitres (l : Launch) (D : va_G) (cI cQ cJ : ClassId) (a : Nat → Nat) (r : rB)  : Mi l D (tY cI cQ cJ) yX1_spiltLitres wsX1_spiltLitres ({ frames := 1, cells := 0, slots := 0, locals := 25 } : Room) [.ref (a 0)] (cR cI a r) (cR cI a r) (smI (r 9) 6 0 0) := by
  refine M_of (cc := cX1_spiltLitres) (maxL := 1) (ret := some .int) (Qc := fun A => va_Qi (fun (x : Int32) (_ : Unit) => x = smI (r 9) 6 0 0) (fun _ t => Wd D (cR cI a r) t) A) (by decide) rfl (Nat.le_of_ble_eq_true rfl) ?_
  intro p e s m below meth c A ls hB hE hP hK hD hA hl
  obtain ⟨hx, hb, hr, hml, hts, hown, hlocks⟩ := hB
  have hS : va_S A s.heap s.heap [] := va_S.rf
  have hl : lv_has ls 1 [(0, .ref (a 0))] := hl
  have hinX1 : ∀ w ∈ u_ws RX1 TX1 16, w ∈ wsX1_spiltLitres := by decide +kernel
  have fl39 := hts (.fieldLink RX1 39 "RoofDrains$Roof" "spilt" "[I") (by decide +kernel)
  refine lv_aload_n hx hb dX1_spiltLitres_0 rfl (lv_at hl 0 rfl) ?_
  refine va_get (D := D) (ci := 1) (v := .ref (a 10)) (C := RX1) (T := TX1) (N := 16) hx hb hts hinX1 hown hK hP 0 rfl rfl 9 (by decide) fl39 (fun _ h9 => h9) rfl dX1_spiltLitres_1 ?_
  refine k_calli (wc := [(a 10, .inl (cI, 6, .inl (r 9)))]) (w' := [(a 10, .inl (cI, 6, .inl (r 9)))]) (wn := cR cI a r) (va_runS (As := [.ref (a 10)]) (rest := []) ⟨hx, hb, hml, hown, hts⟩ (mX1_sumOf l D cI cQ cJ (a 10) (r 9) _) (va_cwS 1 hts gX1_spiltLitres_X1_sumOf rfl rfl rfl (by decide +kernel) ⟨Nat.le_of_ble_eq_true rfl, Nat.le_of_ble_eq_true rfl⟩) (k_preS (wc := [(a 10, .inl (cI, 6, .inl (r 9)))]) hE hK hP hD [10] (by decide) rfl [.ref (a 10)]) rfl rfl hl.1 rfl (lv_room (Nat.le_of_ble_eq_true rfl)) dX1_spiltLitres_4 ⟨Nat.zero_le _, Nat.zero_le _⟩) hP hD hS hA [10] rfl rfl rfl (fun H locs hP hD hS => ?_)
  exact k_iret hx hb hr hlocks hS hP dX1_spiltLitres_7 (by (first | rfl | (simp only [↓reduceIte]; done) | (simp []; done)))
set_option maxHeartbeats 4000000 in
set_option maxRecDepth 100000 in
theorem mX1_leavesTogether (l : Launch) (D : va_G) (cI cQ cJ : ClassId) (a : Nat → Nat) (r : rB)  : Mi l D (tY cI cQ cJ) yX1_leavesTogether wsX1_leavesTogether ({ frames := 1, cells := 0, slots := 0, locals := 25 } : Room) [.ref (a 0)] (cR cI a r) (cR cI a r) (smI (r 6) 6 0 0) := by
  refine M_of (cc := cX1_leavesTogether) (maxL := 1) (ret := some .int) (Qc := fun A => va_Qi (fun (x : Int32) (_ : Unit) => x = smI (r 6) 6 0 0) (fun _ t => Wd D (cR cI a r) t) A) (by decide) rfl (Nat.le_of_ble_eq_true rfl) ?_
  intro p e s m below meth c A ls hB hE hP hK hD hA hl
  obtain ⟨hx, hb, hr, hml, hts, hown, hlocks⟩ := hB
  have hS : va_S A s.heap s.heap [] := va_S.rf
  have hl : lv_has ls 1 [(0, .ref (a 0))] := hl
  have hinX1 : ∀ w ∈ u_ws RX1 TX1 16, w ∈ wsX1_leavesTogether := by decide +kernel
  have fl30 := hts (.fieldLink RX1 30 "RoofDrains$Roof" "leaves" "[I") (by decide +kernel)
  refine lv_aload_n hx hb dX1_leavesTogether_0 rfl (lv_at hl 0 rfl) ?_
  refine va_get (D := D) (ci := 1) (v := .ref (a 7)) (C := RX1) (T := TX1) (N := 16) hx hb hts hinX1 hown hK hP 0 rfl rfl 6 (by decide) fl30 (fun _ h9 => h9) rfl dX1_leavesTogether_1 ?_
  refine k_calli (wc := [(a 7, .inl (cI, 6, .inl (r 6)))]) (w' := [(a 7, .inl (cI, 6, .inl (r 6)))]) (wn := cR cI a r) (va_runS (As := [.ref (a 7)]) (rest := []) ⟨hx, hb, hml, hown, hts⟩ (mX1_sumOf l D cI cQ cJ (a 7) (r 6) _) (va_cwS 1 hts gX1_leavesTogether_X1_sumOf rfl rfl rfl (by decide +kernel) ⟨Nat.le_of_ble_eq_true rfl, Nat.le_of_ble_eq_true rfl⟩) (k_preS (wc := [(a 7, .inl (cI, 6, .inl (r 6)))]) hE hK hP hD [7] (by decide) rfl [.ref (a 7)]) rfl rfl hl.1 rfl (lv_room (Nat.le_of_ble_eq_true rfl)) dX1_leavesTogether_4 ⟨Nat.zero_le _, Nat.zero_le _⟩) hP hD hS hA [7] rfl rfl rfl (fun H locs hP hD hS => ?_)
  exact k_iret hx hb hr hlocks hS hP dX1_leavesTogether_7 (by (first | rfl | (simp only [↓reduceIte]; done) | (simp []; done)))
set_option maxHeartbeats 4000000 in
set_option maxRecDepth 100000 in
theorem mX1_standingLitres (l : Launch) (D : va_G) (cI cQ cJ : ClassId) (a : Nat → Nat) (r : rB)  : Mi l D (tY cI cQ cJ) yX1_standingLitres wsX1_standingLitres ({ frames := 1, cells := 0, slots := 0, locals := 25 } : Room) [.ref (a 0)] (cR cI a r) (cR cI a r) (standC r) := by
  refine M_of (cc := cX1_standingLitres) (maxL := 1) (ret := some .int) (Qc := fun A => va_Qi (fun (x : Int32) (_ : Unit) => x = standC r) (fun _ t => Wd D (cR cI a r) t) A) (by decide) rfl (Nat.le_of_ble_eq_true rfl) ?_
  intro p e s m below meth c A ls hB hE hP hK hD hA hl
  obtain ⟨hx, hb, hr, hml, hts, hown, hlocks⟩ := hB
  have hS : va_S A s.heap s.heap [] := va_S.rf
  have hl : lv_has ls 1 [(0, .ref (a 0))] := hl
  have hinX1 : ∀ w ∈ u_ws RX1 TX1 16, w ∈ wsX1_standingLitres := by decide +kernel
  have fl21 := hts (.fieldLink RX1 21 "RoofDrains$Roof" "onPlane" "[I") (by decide +kernel)
  have fl36 := hts (.fieldLink RX1 36 "RoofDrains$Roof" "inGutter" "[I") (by decide +kernel)
  refine lv_aload_n hx hb dX1_standingLitres_0 rfl (lv_at hl 0 rfl) ?_
  refine va_get (D := D) (ci := 1) (v := .ref (a 4)) (C := RX1) (T := TX1) (N := 16) hx hb hts hinX1 hown hK hP 0 rfl rfl 3 (by decide) fl21 (fun _ h9 => h9) rfl dX1_standingLitres_1 ?_
  refine k_calli (wc := [(a 4, .inl (cI, 6, .inl (r 3)))]) (w' := [(a 4, .inl (cI, 6, .inl (r 3)))]) (wn := cR cI a r) (va_runS (As := [.ref (a 4)]) (rest := []) ⟨hx, hb, hml, hown, hts⟩ (mX1_sumOf l D cI cQ cJ (a 4) (r 3) _) (va_cwS 1 hts gX1_standingLitres_X1_sumOf rfl rfl rfl (by decide +kernel) ⟨Nat.le_of_ble_eq_true rfl, Nat.le_of_ble_eq_true rfl⟩) (k_preS (wc := [(a 4, .inl (cI, 6, .inl (r 3)))]) hE hK hP hD [4] (by decide) rfl [.ref (a 4)]) rfl rfl hl.1 rfl (lv_room (Nat.le_of_ble_eq_true rfl)) dX1_standingLitres_4 ⟨Nat.zero_le _, Nat.zero_le _⟩) hP hD hS hA [4] rfl rfl rfl (fun H locs hP hD hS => ?_)
  refine lv_aload_n hx hb dX1_standingLitres_7 rfl (lv_at hl 0 rfl) ?_
  refine va_get (D := D) (ci := 1) (v := .ref (a 9)) (C := RX1) (T := TX1) (N := 16) hx hb hts hinX1 hown hK hP 0 rfl rfl 8 (by decide) fl36 (fun _ h9 => h9) rfl dX1_standingLitres_8 ?_
  refine k_calli (wc := [(a 9, .inl (cI, 6, .inl (r 8)))]) (w' := [(a 9, .inl (cI, 6, .inl (r 8)))]) (wn := cR cI a r) (va_runS (As := [.ref (a 9)]) (rest := [.int (smI (r 3) 6 0 0)]) ⟨hx, hb, hml, hown, hts⟩ (mX1_sumOf l D cI cQ cJ (a 9) (r 8) _) (va_cwS 1 hts gX1_standingLitres_X1_sumOf rfl rfl rfl (by decide +kernel) ⟨Nat.le_of_ble_eq_true rfl, Nat.le_of_ble_eq_true rfl⟩) (k_preS (wc := [(a 9, .inl (cI, 6, .inl (r 8)))]) hE hK hP hD [9] (by decide) rfl [.ref (a 9)]) rfl rfl hl.1 rfl (lv_room (Nat.le_of_ble_eq_true rfl)) dX1_standingLitres_11 ⟨Nat.zero_le _, Nat.zero_le _⟩) hP hD hS hA [9] rfl rfl rfl (fun H locs hP hD hS => ?_)
  refine lv_iadd hx hb dX1_standingLitres_14 ?_
  exact k_iret hx hb hr hlocks hS hP dX1_standingLitres_15 (by (first | rfl | (simp only [standC, ↓reduceIte]; done) | (simp [standC]; done)))
set_option maxHeartbeats 4000000 in
set_option maxRecDepth 100000 in
theorem mX1_changePlane (l : Launch) (D : va_G) (cI cQ cJ : ClassId) (a : Nat → Nat) (r : rB) (q : Int32) (i : Nat) (hq : vp_in q 6) (hi : q.toNatClampNeg = i) (x y z : Int32) : Mi l D (tY cI cQ cJ) yX1_changePlane wsX1_changePlane ({ frames := 0, cells := 0, slots := 0, locals := 0 } : Room) [.ref (a 0), .int q, .int x, .int y, .int z] (cR cI a r) (cR cI a (bp (bp (bp r 0 i x) 1 i y) 2 i z)) (r 0 i) := by
  refine M_of (cc := cX1_changePlane) (maxL := 6) (ret := some .int) (Qc := fun A => va_Qi (fun (x : Int32) (_ : Unit) => x = r 0 i) (fun _ t => Wd D (cR cI a (bp (bp (bp r 0 i x) 1 i y) 2 i z)) t) A) (by decide) rfl (Nat.le_of_ble_eq_true rfl) ?_
  intro p e s m below meth c A ls hB hE hP hK hD hA hl
  obtain ⟨hx, hb, hr, hml, hts, hown, hlocks⟩ := hB
  have hS : va_S A s.heap s.heap [] := va_S.rf
  have hl : lv_has ls 6 [(0, .ref (a 0)), (1, .int q), (2, .int x), (3, .int y), (4, .int z)] := hl
  have hinX1 : ∀ w ∈ u_ws RX1 TX1 16, w ∈ wsX1_changePlane := by decide +kernel
  have fl9 := hts (.fieldLink RX1 9 "RoofDrains$Roof" "area" "[I") (by decide +kernel)
  have fl15 := hts (.fieldLink RX1 15 "RoofDrains$Roof" "slope" "[I") (by decide +kernel)
  have fl18 := hts (.fieldLink RX1 18 "RoofDrains$Roof" "leadsTo" "[I") (by decide +kernel)
  refine lv_aload_n hx hb dX1_changePlane_0 rfl (lv_at hl 0 rfl) ?_
  refine va_get (D := D) (ci := 1) (v := .ref (a 1)) (C := RX1) (T := TX1) (N := 16) hx hb hts hinX1 hown hK hP 0 rfl rfl 0 (by decide) fl9 (fun _ h9 => h9) rfl dX1_changePlane_1 ?_
  refine lv_iload_n hx hb dX1_changePlane_4 rfl (lv_at hl 1 rfl) ?_
  refine k_iald (k := i) (v := r 0 i) hx hb hK hP 1 0 rfl rfl hq hi (rfl) dX1_changePlane_5 ?_
  refine lv_topi (fun v5_1 ev5_1 => ?_)
  refine lv_istore (lv' := [(5, .int v5_1), (0, .ref (a 0)), (1, .int q), (2, .int x), (3, .int y), (4, .int z)]) hx hb dX1_changePlane_6 hl (by decide) rfl (fun ls hl => ?_)
  refine lv_aload_n hx hb dX1_changePlane_8 rfl (lv_at hl 1 rfl) ?_
  refine va_get (D := D) (ci := 1) (v := .ref (a 1)) (C := RX1) (T := TX1) (N := 16) hx hb hts hinX1 hown hK hP 0 rfl rfl 0 (by decide) fl9 (fun _ h9 => h9) rfl dX1_changePlane_9 ?_
  refine lv_iload_n hx hb dX1_changePlane_12 rfl (lv_at hl 2 rfl) ?_
  refine lv_iload_n hx hb dX1_changePlane_13 rfl (lv_at hl 3 rfl) ?_
  refine k_iast (k := i) (ws' := cR cI a (bp r 0 i x)) hx hb hK hP hD hS 1 0 rfl rfl hq hi rfl dX1_changePlane_14 (fun H locs hP hD hS => ?_)
  refine lv_aload_n hx hb dX1_changePlane_15 rfl (lv_at hl 1 rfl) ?_
  refine va_get (D := D) (ci := 1) (v := .ref (a 2)) (C := RX1) (T := TX1) (N := 16) hx hb hts hinX1 hown hK hP 0 rfl rfl 1 (by decide) fl15 (fun _ h9 => h9) rfl dX1_changePlane_16 ?_
  refine lv_iload_n hx hb dX1_changePlane_19 rfl (lv_at hl 2 rfl) ?_
  refine lv_iload_n hx hb dX1_changePlane_20 rfl (lv_at hl 4 rfl) ?_
  refine k_iast (k := i) (ws' := cR cI a (bp (bp r 0 i x) 1 i y)) hx hb hK hP hD hS 2 0 rfl rfl hq hi rfl dX1_changePlane_21 (fun H locs hP hD hS => ?_)
  refine lv_aload_n hx hb dX1_changePlane_22 rfl (lv_at hl 1 rfl) ?_
  refine va_get (D := D) (ci := 1) (v := .ref (a 3)) (C := RX1) (T := TX1) (N := 16) hx hb hts hinX1 hown hK hP 0 rfl rfl 2 (by decide) fl18 (fun _ h9 => h9) rfl dX1_changePlane_23 ?_
  refine lv_iload_n hx hb dX1_changePlane_26 rfl (lv_at hl 2 rfl) ?_
  refine lv_iload hx hb dX1_changePlane_27 (lv_at hl 5 rfl) ?_
  refine k_iast (k := i) (ws' := cR cI a (bp (bp (bp r 0 i x) 1 i y) 2 i z)) hx hb hK hP hD hS 3 0 rfl rfl hq hi rfl dX1_changePlane_29 (fun H locs hP hD hS => ?_)
  refine lv_iload hx hb dX1_changePlane_30 (lv_at hl 0 rfl) ?_
  exact k_iret hx hb hr hlocks hS hP dX1_changePlane_32 (by (subst ev5_1; first | rfl | (simp only [↓reduceIte]; done) | (simp []; done)))
set_option maxHeartbeats 4000000 in
set_option maxRecDepth 100000 in
theorem mX1_changeGutter (l : Launch) (D : va_G) (cI cQ cJ : ClassId) (a : Nat → Nat) (r : rB) (q : Int32) (i : Nat) (hq : vp_in q 6) (hi : q.toNatClampNeg = i) (x y : Int32) : Mi l D (tY cI cQ cJ) yX1_changeGutter wsX1_changeGutter ({ frames := 0, cells := 0, slots := 0, locals := 0 } : Room) [.ref (a 0), .int q, .int x, .int y] (cR cI a r) (cR cI a (bp (bp r 4 i x) 5 i y)) (r 4 i) := by
  refine M_of (cc := cX1_changeGutter) (maxL := 5) (ret := some .int) (Qc := fun A => va_Qi (fun (x : Int32) (_ : Unit) => x = r 4 i) (fun _ t => Wd D (cR cI a (bp (bp r 4 i x) 5 i y)) t) A) (by decide) rfl (Nat.le_of_ble_eq_true rfl) ?_
  intro p e s m below meth c A ls hB hE hP hK hD hA hl
  obtain ⟨hx, hb, hr, hml, hts, hown, hlocks⟩ := hB
  have hS : va_S A s.heap s.heap [] := va_S.rf
  have hl : lv_has ls 5 [(0, .ref (a 0)), (1, .int q), (2, .int x), (3, .int y)] := hl
  have hinX1 : ∀ w ∈ u_ws RX1 TX1 16, w ∈ wsX1_changeGutter := by decide +kernel
  have fl24 := hts (.fieldLink RX1 24 "RoofDrains$Roof" "size" "[I") (by decide +kernel)
  have fl27 := hts (.fieldLink RX1 27 "RoofDrains$Roof" "bore" "[I") (by decide +kernel)
  refine lv_aload_n hx hb dX1_changeGutter_0 rfl (lv_at hl 0 rfl) ?_
  refine va_get (D := D) (ci := 1) (v := .ref (a 5)) (C := RX1) (T := TX1) (N := 16) hx hb hts hinX1 hown hK hP 0 rfl rfl 4 (by decide) fl24 (fun _ h9 => h9) rfl dX1_changeGutter_1 ?_
  refine lv_iload_n hx hb dX1_changeGutter_4 rfl (lv_at hl 1 rfl) ?_
  refine k_iald (k := i) (v := r 4 i) hx hb hK hP 5 0 rfl rfl hq hi (rfl) dX1_changeGutter_5 ?_
  refine lv_topi (fun v4_1 ev4_1 => ?_)
  refine lv_istore (lv' := [(4, .int v4_1), (0, .ref (a 0)), (1, .int q), (2, .int x), (3, .int y)]) hx hb dX1_changeGutter_6 hl (by decide) rfl (fun ls hl => ?_)
  refine lv_aload_n hx hb dX1_changeGutter_8 rfl (lv_at hl 1 rfl) ?_
  refine va_get (D := D) (ci := 1) (v := .ref (a 5)) (C := RX1) (T := TX1) (N := 16) hx hb hts hinX1 hown hK hP 0 rfl rfl 4 (by decide) fl24 (fun _ h9 => h9) rfl dX1_changeGutter_9 ?_
  refine lv_iload_n hx hb dX1_changeGutter_12 rfl (lv_at hl 2 rfl) ?_
  refine lv_iload_n hx hb dX1_changeGutter_13 rfl (lv_at hl 3 rfl) ?_
  refine k_iast (k := i) (ws' := cR cI a (bp r 4 i x)) hx hb hK hP hD hS 5 0 rfl rfl hq hi rfl dX1_changeGutter_14 (fun H locs hP hD hS => ?_)
  refine lv_aload_n hx hb dX1_changeGutter_15 rfl (lv_at hl 1 rfl) ?_
  refine va_get (D := D) (ci := 1) (v := .ref (a 6)) (C := RX1) (T := TX1) (N := 16) hx hb hts hinX1 hown hK hP 0 rfl rfl 5 (by decide) fl27 (fun _ h9 => h9) rfl dX1_changeGutter_16 ?_
  refine lv_iload_n hx hb dX1_changeGutter_19 rfl (lv_at hl 2 rfl) ?_
  refine lv_iload_n hx hb dX1_changeGutter_20 rfl (lv_at hl 4 rfl) ?_
  refine k_iast (k := i) (ws' := cR cI a (bp (bp r 4 i x) 5 i y)) hx hb hK hP hD hS 6 0 rfl rfl hq hi rfl dX1_changeGutter_21 (fun H locs hP hD hS => ?_)
  refine lv_iload hx hb dX1_changeGutter_22 (lv_at hl 0 rfl) ?_
  exact k_iret hx hb hr hlocks hS hP dX1_changeGutter_24 (by (subst ev4_1; first | rfl | (simp only [↓reduceIte]; done) | (simp []; done)))
set_option maxHeartbeats 4000000 in
set_option maxRecDepth 100000 in
theorem mX1_changeValley (l : Launch) (D : va_G) (cI cQ cJ : ClassId) (a : Nat → Nat) (r : rB) (q : Int32) (i : Nat) (hq : vp_in q 6) (hi : q.toNatClampNeg = i) (x : Int32) : Mi l D (tY cI cQ cJ) yX1_changeValley wsX1_changeValley ({ frames := 0, cells := 0, slots := 0, locals := 0 } : Room) [.ref (a 0), .int q, .int x] (cR cI a r) (cR cI a (bp r 7 i x)) (r 7 i) := by
  refine M_of (cc := cX1_changeValley) (maxL := 4) (ret := some .int) (Qc := fun A => va_Qi (fun (x : Int32) (_ : Unit) => x = r 7 i) (fun _ t => Wd D (cR cI a (bp r 7 i x)) t) A) (by decide) rfl (Nat.le_of_ble_eq_true rfl) ?_
  intro p e s m below meth c A ls hB hE hP hK hD hA hl
  obtain ⟨hx, hb, hr, hml, hts, hown, hlocks⟩ := hB
  have hS : va_S A s.heap s.heap [] := va_S.rf
  have hl : lv_has ls 4 [(0, .ref (a 0)), (1, .int q), (2, .int x)] := hl
  have hinX1 : ∀ w ∈ u_ws RX1 TX1 16, w ∈ wsX1_changeValley := by decide +kernel
  have fl33 := hts (.fieldLink RX1 33 "RoofDrains$Roof" "valleyTo" "[I") (by decide +kernel)
  refine lv_aload_n hx hb dX1_changeValley_0 rfl (lv_at hl 0 rfl) ?_
  refine va_get (D := D) (ci := 1) (v := .ref (a 8)) (C := RX1) (T := TX1) (N := 16) hx hb hts hinX1 hown hK hP 0 rfl rfl 7 (by decide) fl33 (fun _ h9 => h9) rfl dX1_changeValley_1 ?_
  refine lv_iload_n hx hb dX1_changeValley_4 rfl (lv_at hl 1 rfl) ?_
  refine k_iald (k := i) (v := r 7 i) hx hb hK hP 8 0 rfl rfl hq hi (rfl) dX1_changeValley_5 ?_
  refine lv_topi (fun v3_1 ev3_1 => ?_)
  refine lv_istore_n (lv' := [(3, .int v3_1), (0, .ref (a 0)), (1, .int q), (2, .int x)]) hx hb dX1_changeValley_6 rfl hl (by decide) rfl (fun ls hl => ?_)
  refine lv_aload_n hx hb dX1_changeValley_7 rfl (lv_at hl 1 rfl) ?_
  refine va_get (D := D) (ci := 1) (v := .ref (a 8)) (C := RX1) (T := TX1) (N := 16) hx hb hts hinX1 hown hK hP 0 rfl rfl 7 (by decide) fl33 (fun _ h9 => h9) rfl dX1_changeValley_8 ?_
  refine lv_iload_n hx hb dX1_changeValley_11 rfl (lv_at hl 2 rfl) ?_
  refine lv_iload_n hx hb dX1_changeValley_12 rfl (lv_at hl 3 rfl) ?_
  refine k_iast (k := i) (ws' := cR cI a (bp r 7 i x)) hx hb hK hP hD hS 8 0 rfl rfl hq hi rfl dX1_changeValley_13 (fun H locs hP hD hS => ?_)
  refine lv_iload_n hx hb dX1_changeValley_14 rfl (lv_at hl 0 rfl) ?_
  exact k_iret hx hb hr hlocks hS hP dX1_changeValley_15 (by (subst ev3_1; first | rfl | (simp only [↓reduceIte]; done) | (simp []; done)))
set_option maxHeartbeats 4000000 in
set_option maxRecDepth 100000 in
theorem mX1_takeLeaves (l : Launch) (D : va_G) (cI cQ cJ : ClassId) (a : Nat → Nat) (r : rB) (q : Int32) (i : Nat) (hq : vp_in q 6) (hi : q.toNatClampNeg = i) : Mi l D (tY cI cQ cJ) yX1_takeLeaves wsX1_takeLeaves ({ frames := 0, cells := 0, slots := 0, locals := 0 } : Room) [.ref (a 0), .int q] (cR cI a r) (cR cI a (bp r 6 i 0)) (r 6 i) := by
  refine M_of (cc := cX1_takeLeaves) (maxL := 3) (ret := some .int) (Qc := fun A => va_Qi (fun (x : Int32) (_ : Unit) => x = r 6 i) (fun _ t => Wd D (cR cI a (bp r 6 i 0)) t) A) (by decide) rfl (Nat.le_of_ble_eq_true rfl) ?_
  intro p e s m below meth c A ls hB hE hP hK hD hA hl
  obtain ⟨hx, hb, hr, hml, hts, hown, hlocks⟩ := hB
  have hS : va_S A s.heap s.heap [] := va_S.rf
  have hl : lv_has ls 3 [(0, .ref (a 0)), (1, .int q)] := hl
  have hinX1 : ∀ w ∈ u_ws RX1 TX1 16, w ∈ wsX1_takeLeaves := by decide +kernel
  have fl30 := hts (.fieldLink RX1 30 "RoofDrains$Roof" "leaves" "[I") (by decide +kernel)
  refine lv_aload_n hx hb dX1_takeLeaves_0 rfl (lv_at hl 0 rfl) ?_
  refine va_get (D := D) (ci := 1) (v := .ref (a 7)) (C := RX1) (T := TX1) (N := 16) hx hb hts hinX1 hown hK hP 0 rfl rfl 6 (by decide) fl30 (fun _ h9 => h9) rfl dX1_takeLeaves_1 ?_
  refine lv_iload_n hx hb dX1_takeLeaves_4 rfl (lv_at hl 1 rfl) ?_
  refine k_iald (k := i) (v := r 6 i) hx hb hK hP 7 0 rfl rfl hq hi (rfl) dX1_takeLeaves_5 ?_
  refine lv_topi (fun v2_1 ev2_1 => ?_)
  refine lv_istore_n (lv' := [(2, .int v2_1), (0, .ref (a 0)), (1, .int q)]) hx hb dX1_takeLeaves_6 rfl hl (by decide) rfl (fun ls hl => ?_)
  refine lv_aload_n hx hb dX1_takeLeaves_7 rfl (lv_at hl 1 rfl) ?_
  refine va_get (D := D) (ci := 1) (v := .ref (a 7)) (C := RX1) (T := TX1) (N := 16) hx hb hts hinX1 hown hK hP 0 rfl rfl 6 (by decide) fl30 (fun _ h9 => h9) rfl dX1_takeLeaves_8 ?_
  refine lv_iload_n hx hb dX1_takeLeaves_11 rfl (lv_at hl 2 rfl) ?_
  refine lv_iconst (v := 0) hx hb dX1_takeLeaves_12 (by decide) ?_
  refine k_iast (k := i) (ws' := cR cI a (bp r 6 i 0)) hx hb hK hP hD hS 7 0 rfl rfl hq hi rfl dX1_takeLeaves_13 (fun H locs hP hD hS => ?_)
  refine lv_iload_n hx hb dX1_takeLeaves_14 rfl (lv_at hl 0 rfl) ?_
  exact k_iret hx hb hr hlocks hS hP dX1_takeLeaves_15 (by (subst ev2_1; first | rfl | (simp only [↓reduceIte]; done) | (simp []; done)))
set_option maxHeartbeats 4000000 in
set_option maxRecDepth 100000 in
theorem mX1_changeSetting (l : Launch) (D : va_G) (cI cQ cJ : ClassId) (a : Nat → Nat) (r : rB) (q : Int32) (i : Nat) (hq : vp_in q 3) (hi : q.toNatClampNeg = i) (x : Int32) : Mi l D (tY cI cQ cJ) yX1_changeSetting wsX1_changeSetting ({ frames := 0, cells := 0, slots := 0, locals := 0 } : Room) [.ref (a 0), .int q, .int x] (cR cI a r) (cR cI a (bp r 11 i x)) (r 11 i) := by
  refine M_of (cc := cX1_changeSetting) (maxL := 4) (ret := some .int) (Qc := fun A => va_Qi (fun (x : Int32) (_ : Unit) => x = r 11 i) (fun _ t => Wd D (cR cI a (bp r 11 i x)) t) A) (by decide) rfl (Nat.le_of_ble_eq_true rfl) ?_
  intro p e s m below meth c A ls hB hE hP hK hD hA hl
  obtain ⟨hx, hb, hr, hml, hts, hown, hlocks⟩ := hB
  have hS : va_S A s.heap s.heap [] := va_S.rf
  have hl : lv_has ls 4 [(0, .ref (a 0)), (1, .int q), (2, .int x)] := hl
  have hinX1 : ∀ w ∈ u_ws RX1 TX1 16, w ∈ wsX1_changeSetting := by decide +kernel
  have fl45 := hts (.fieldLink RX1 45 "RoofDrains$Roof" "values" "[I") (by decide +kernel)
  refine lv_aload_n hx hb dX1_changeSetting_0 rfl (lv_at hl 0 rfl) ?_
  refine va_get (D := D) (ci := 1) (v := .ref (a 12)) (C := RX1) (T := TX1) (N := 16) hx hb hts hinX1 hown hK hP 0 rfl rfl 11 (by decide) fl45 (fun _ h9 => h9) rfl dX1_changeSetting_1 ?_
  refine lv_iload_n hx hb dX1_changeSetting_4 rfl (lv_at hl 1 rfl) ?_
  refine k_iald (k := i) (v := r 11 i) hx hb hK hP 12 0 rfl rfl hq hi (rfl) dX1_changeSetting_5 ?_
  refine lv_topi (fun v3_1 ev3_1 => ?_)
  refine lv_istore_n (lv' := [(3, .int v3_1), (0, .ref (a 0)), (1, .int q), (2, .int x)]) hx hb dX1_changeSetting_6 rfl hl (by decide) rfl (fun ls hl => ?_)
  refine lv_aload_n hx hb dX1_changeSetting_7 rfl (lv_at hl 1 rfl) ?_
  refine va_get (D := D) (ci := 1) (v := .ref (a 12)) (C := RX1) (T := TX1) (N := 16) hx hb hts hinX1 hown hK hP 0 rfl rfl 11 (by decide) fl45 (fun _ h9 => h9) rfl dX1_changeSetting_8 ?_
  refine lv_iload_n hx hb dX1_changeSetting_11 rfl (lv_at hl 2 rfl) ?_
  refine lv_iload_n hx hb dX1_changeSetting_12 rfl (lv_at hl 3 rfl) ?_
  refine k_iast (k := i) (ws' := cR cI a (bp r 11 i x)) hx hb hK hP hD hS 12 0 rfl rfl hq hi rfl dX1_changeSetting_13 (fun H locs hP hD hS => ?_)
  refine lv_iload_n hx hb dX1_changeSetting_14 rfl (lv_at hl 0 rfl) ?_
  exact k_iret hx hb hr hlocks hS hP dX1_changeSetting_15 (by (subst ev3_1; first | rfl | (simp only [↓reduceIte]; done) | (simp []; done)))
