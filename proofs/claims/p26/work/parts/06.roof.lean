set_option maxHeartbeats 4000000 in
set_option maxRecDepth 100000 in
theorem mX1_minutesGone (l : Launch) (D : va_G) (cI cQ cJ : ClassId) (a : Nat → Nat) (r : rB)  : Mi l D (tY cI cQ cJ) yX1_minutesGone wsX1_minutesGone ({ frames := 0, cells := 0, slots := 0, locals := 0 } : Room) [.ref (a 0)] (cR cI a r) (cR cI a r) (r 12 0) := by
  refine M_of (cc := cX1_minutesGone) (maxL := 1) (ret := some .int) (Qc := fun A => va_Qi (fun (x : Int32) (_ : Unit) => x = r 12 0) (fun _ t => Wd D (cR cI a r) t) A) (by decide) rfl (Nat.le_of_ble_eq_true rfl) ?_
  intro p e s m below meth c A ls hB hE hP hK hD hA hl
  obtain ⟨hx, hb, hr, hml, hts, hown, hlocks⟩ := hB
  have hS : va_S A s.heap s.heap [] := va_S.rf
  have hl : lv_has ls 1 [(0, .ref (a 0))] := hl
  have hinX1 : ∀ w ∈ u_ws RX1 TX1 16, w ∈ wsX1_minutesGone := by decide +kernel
  have fl54 := hts (.fieldLink RX1 54 "RoofDrains$Roof" "minutesGone" "I") (by decide +kernel)
  refine lv_aload_n hx hb dX1_minutesGone_0 rfl (lv_at hl 0 rfl) ?_
  refine va_get (D := D) (ci := 1) (v := .int (r 12 0)) (C := RX1) (T := TX1) (N := 16) hx hb hts hinX1 hown hK hP 0 rfl rfl 12 (by decide) fl54 (fun _ h9 => h9) (congrArg (fun z => some (Value.int z)) (rfl)) dX1_minutesGone_1 ?_
  exact k_iret hx hb hr hlocks hS hP dX1_minutesGone_4 (by (first | rfl | (simp only [↓reduceIte]; done) | (simp []; done)))
set_option maxHeartbeats 4000000 in
set_option maxRecDepth 100000 in
theorem mX1_weeksPassed (l : Launch) (D : va_G) (cI cQ cJ : ClassId) (a : Nat → Nat) (r : rB)  : Mi l D (tY cI cQ cJ) yX1_weeksPassed wsX1_weeksPassed ({ frames := 0, cells := 0, slots := 0, locals := 0 } : Room) [.ref (a 0)] (cR cI a r) (cR cI a r) (r 12 1) := by
  refine M_of (cc := cX1_weeksPassed) (maxL := 1) (ret := some .int) (Qc := fun A => va_Qi (fun (x : Int32) (_ : Unit) => x = r 12 1) (fun _ t => Wd D (cR cI a r) t) A) (by decide) rfl (Nat.le_of_ble_eq_true rfl) ?_
  intro p e s m below meth c A ls hB hE hP hK hD hA hl
  obtain ⟨hx, hb, hr, hml, hts, hown, hlocks⟩ := hB
  have hS : va_S A s.heap s.heap [] := va_S.rf
  have hl : lv_has ls 1 [(0, .ref (a 0))] := hl
  have hinX1 : ∀ w ∈ u_ws RX1 TX1 16, w ∈ wsX1_weeksPassed := by decide +kernel
  have fl58 := hts (.fieldLink RX1 58 "RoofDrains$Roof" "weeksPassed" "I") (by decide +kernel)
  refine lv_aload_n hx hb dX1_weeksPassed_0 rfl (lv_at hl 0 rfl) ?_
  refine va_get (D := D) (ci := 1) (v := .int (r 12 1)) (C := RX1) (T := TX1) (N := 16) hx hb hts hinX1 hown hK hP 0 rfl rfl 13 (by decide) fl58 (fun _ h9 => h9) (congrArg (fun z => some (Value.int z)) (rfl)) dX1_weeksPassed_1 ?_
  exact k_iret hx hb hr hlocks hS hP dX1_weeksPassed_4 (by (first | rfl | (simp only [↓reduceIte]; done) | (simp []; done)))
set_option maxHeartbeats 4000000 in
set_option maxRecDepth 100000 in
theorem mX1_rainedLitres (l : Launch) (D : va_G) (cI cQ cJ : ClassId) (a : Nat → Nat) (r : rB)  : Mi l D (tY cI cQ cJ) yX1_rainedLitres wsX1_rainedLitres ({ frames := 0, cells := 0, slots := 0, locals := 0 } : Room) [.ref (a 0)] (cR cI a r) (cR cI a r) (r 12 2) := by
  refine M_of (cc := cX1_rainedLitres) (maxL := 1) (ret := some .int) (Qc := fun A => va_Qi (fun (x : Int32) (_ : Unit) => x = r 12 2) (fun _ t => Wd D (cR cI a r) t) A) (by decide) rfl (Nat.le_of_ble_eq_true rfl) ?_
  intro p e s m below meth c A ls hB hE hP hK hD hA hl
  obtain ⟨hx, hb, hr, hml, hts, hown, hlocks⟩ := hB
  have hS : va_S A s.heap s.heap [] := va_S.rf
  have hl : lv_has ls 1 [(0, .ref (a 0))] := hl
  have hinX1 : ∀ w ∈ u_ws RX1 TX1 16, w ∈ wsX1_rainedLitres := by decide +kernel
  have fl61 := hts (.fieldLink RX1 61 "RoofDrains$Roof" "rained" "I") (by decide +kernel)
  refine lv_aload_n hx hb dX1_rainedLitres_0 rfl (lv_at hl 0 rfl) ?_
  refine va_get (D := D) (ci := 1) (v := .int (r 12 2)) (C := RX1) (T := TX1) (N := 16) hx hb hts hinX1 hown hK hP 0 rfl rfl 14 (by decide) fl61 (fun _ h9 => h9) (congrArg (fun z => some (Value.int z)) (rfl)) dX1_rainedLitres_1 ?_
  exact k_iret hx hb hr hlocks hS hP dX1_rainedLitres_4 (by (first | rfl | (simp only [↓reduceIte]; done) | (simp []; done)))
set_option maxHeartbeats 4000000 in
set_option maxRecDepth 100000 in
theorem mX1_backedUpMinutes (l : Launch) (D : va_G) (cI cQ cJ : ClassId) (a : Nat → Nat) (r : rB)  : Mi l D (tY cI cQ cJ) yX1_backedUpMinutes wsX1_backedUpMinutes ({ frames := 0, cells := 0, slots := 0, locals := 0 } : Room) [.ref (a 0)] (cR cI a r) (cR cI a r) (r 12 3) := by
  refine M_of (cc := cX1_backedUpMinutes) (maxL := 1) (ret := some .int) (Qc := fun A => va_Qi (fun (x : Int32) (_ : Unit) => x = r 12 3) (fun _ t => Wd D (cR cI a r) t) A) (by decide) rfl (Nat.le_of_ble_eq_true rfl) ?_
  intro p e s m below meth c A ls hB hE hP hK hD hA hl
  obtain ⟨hx, hb, hr, hml, hts, hown, hlocks⟩ := hB
  have hS : va_S A s.heap s.heap [] := va_S.rf
  have hl : lv_has ls 1 [(0, .ref (a 0))] := hl
  have hinX1 : ∀ w ∈ u_ws RX1 TX1 16, w ∈ wsX1_backedUpMinutes := by decide +kernel
  have fl64 := hts (.fieldLink RX1 64 "RoofDrains$Roof" "backedUp" "I") (by decide +kernel)
  refine lv_aload_n hx hb dX1_backedUpMinutes_0 rfl (lv_at hl 0 rfl) ?_
  refine va_get (D := D) (ci := 1) (v := .int (r 12 3)) (C := RX1) (T := TX1) (N := 16) hx hb hts hinX1 hown hK hP 0 rfl rfl 15 (by decide) fl64 (fun _ h9 => h9) (congrArg (fun z => some (Value.int z)) (rfl)) dX1_backedUpMinutes_1 ?_
  exact k_iret hx hb hr hlocks hS hP dX1_backedUpMinutes_4 (by (first | rfl | (simp only [↓reduceIte]; done) | (simp []; done)))
set_option maxHeartbeats 4000000 in
set_option maxRecDepth 100000 in
theorem mX1_settingValue (l : Launch) (D : va_G) (cI cQ cJ : ClassId) (a : Nat → Nat) (r : rB) (q : Int32) (i : Nat) (hq : vp_in q 3) (hi : q.toNatClampNeg = i) : Mi l D (tY cI cQ cJ) yX1_settingValue wsX1_settingValue ({ frames := 0, cells := 0, slots := 0, locals := 0 } : Room) [.ref (a 0), .int q] (cR cI a r) (cR cI a r) (r 11 i) := by
  refine M_of (cc := cX1_settingValue) (maxL := 2) (ret := some .int) (Qc := fun A => va_Qi (fun (x : Int32) (_ : Unit) => x = r 11 i) (fun _ t => Wd D (cR cI a r) t) A) (by decide) rfl (Nat.le_of_ble_eq_true rfl) ?_
  intro p e s m below meth c A ls hB hE hP hK hD hA hl
  obtain ⟨hx, hb, hr, hml, hts, hown, hlocks⟩ := hB
  have hS : va_S A s.heap s.heap [] := va_S.rf
  have hl : lv_has ls 2 [(0, .ref (a 0)), (1, .int q)] := hl
  have hinX1 : ∀ w ∈ u_ws RX1 TX1 16, w ∈ wsX1_settingValue := by decide +kernel
  have fl45 := hts (.fieldLink RX1 45 "RoofDrains$Roof" "values" "[I") (by decide +kernel)
  refine lv_aload_n hx hb dX1_settingValue_0 rfl (lv_at hl 0 rfl) ?_
  refine va_get (D := D) (ci := 1) (v := .ref (a 12)) (C := RX1) (T := TX1) (N := 16) hx hb hts hinX1 hown hK hP 0 rfl rfl 11 (by decide) fl45 (fun _ h9 => h9) rfl dX1_settingValue_1 ?_
  refine lv_iload_n hx hb dX1_settingValue_4 rfl (lv_at hl 1 rfl) ?_
  refine k_iald (k := i) (v := r 11 i) hx hb hK hP 12 0 rfl rfl hq hi (rfl) dX1_settingValue_5 ?_
  exact k_iret hx hb hr hlocks hS hP dX1_settingValue_6 (by (first | rfl | (simp only [↓reduceIte]; done) | (simp []; done)))
set_option maxHeartbeats 4000000 in
set_option maxRecDepth 100000 in
theorem mX1_room (l : Launch) (D : va_G) (cI cQ cJ : ClassId) (a : Nat → Nat) (r : rB) (q : Int32) (i : Nat) (hq : vp_in q 6) (hi : q.toNatClampNeg = i) : Mi l D (tY cI cQ cJ) yX1_room wsX1_room ({ frames := 0, cells := 0, slots := 0, locals := 0 } : Room) [.ref (a 0), .int q] (cR cI a r) (cR cI a r) (roomT r i) := by
  refine M_of (cc := cX1_room) (maxL := 2) (ret := some .int) (Qc := fun A => va_Qi (fun (x : Int32) (_ : Unit) => x = roomT r i) (fun _ t => Wd D (cR cI a r) t) A) (by decide) rfl (Nat.le_of_ble_eq_true rfl) ?_
  intro p e s m below meth c A ls hB hE hP hK hD hA hl
  obtain ⟨hx, hb, hr, hml, hts, hown, hlocks⟩ := hB
  have hS : va_S A s.heap s.heap [] := va_S.rf
  have hl : lv_has ls 2 [(0, .ref (a 0)), (1, .int q)] := hl
  have hinX1 : ∀ w ∈ u_ws RX1 TX1 16, w ∈ wsX1_room := by decide +kernel
  have fl24 := hts (.fieldLink RX1 24 "RoofDrains$Roof" "size" "[I") (by decide +kernel)
  have fl30 := hts (.fieldLink RX1 30 "RoofDrains$Roof" "leaves" "[I") (by decide +kernel)
  refine lv_aload_n hx hb dX1_room_0 rfl (lv_at hl 0 rfl) ?_
  refine va_get (D := D) (ci := 1) (v := .ref (a 5)) (C := RX1) (T := TX1) (N := 16) hx hb hts hinX1 hown hK hP 0 rfl rfl 4 (by decide) fl24 (fun _ h9 => h9) rfl dX1_room_1 ?_
  refine lv_iload_n hx hb dX1_room_4 rfl (lv_at hl 1 rfl) ?_
  refine k_iald (k := i) (v := r 4 i) hx hb hK hP 5 0 rfl rfl hq hi (rfl) dX1_room_5 ?_
  refine lv_bipush (v := 100) hx hb dX1_room_6 (by decide) ?_
  refine lv_aload_n hx hb dX1_room_8 rfl (lv_at hl 0 rfl) ?_
  refine va_get (D := D) (ci := 1) (v := .ref (a 7)) (C := RX1) (T := TX1) (N := 16) hx hb hts hinX1 hown hK hP 0 rfl rfl 6 (by decide) fl30 (fun _ h9 => h9) rfl dX1_room_9 ?_
  refine lv_iload_n hx hb dX1_room_12 rfl (lv_at hl 1 rfl) ?_
  refine k_iald (k := i) (v := r 6 i) hx hb hK hP 7 0 rfl rfl hq hi (rfl) dX1_room_13 ?_
  refine lv_isub hx hb dX1_room_14 ?_
  refine lv_imul hx hb dX1_room_15 ?_
  refine lv_bipush (v := 100) hx hb dX1_room_16 (by decide) ?_
  refine lv_idiv hx hb dX1_room_18 (by decide) ?_
  exact k_iret hx hb hr hlocks hS hP dX1_room_19 (by (first | rfl | (simp only [roomT, ↓reduceIte]; done) | (simp [roomT]; done)))
set_option maxHeartbeats 4000000 in
set_option maxRecDepth 100000 in
theorem mX1_pipeTakes (l : Launch) (D : va_G) (cI cQ cJ : ClassId) (a : Nat → Nat) (r : rB) (q : Int32) (i : Nat) (hq : vp_in q 6) (hi : q.toNatClampNeg = i) : Mi l D (tY cI cQ cJ) yX1_pipeTakes wsX1_pipeTakes ({ frames := 0, cells := 0, slots := 0, locals := 0 } : Room) [.ref (a 0), .int q] (cR cI a r) (cR cI a r) (pipeT r i) := by
  refine M_of (cc := cX1_pipeTakes) (maxL := 3) (ret := some .int) (Qc := fun A => va_Qi (fun (x : Int32) (_ : Unit) => x = pipeT r i) (fun _ t => Wd D (cR cI a r) t) A) (by decide) rfl (Nat.le_of_ble_eq_true rfl) ?_
  intro p e s m below meth c A ls hB hE hP hK hD hA hl
  obtain ⟨hx, hb, hr, hml, hts, hown, hlocks⟩ := hB
  have hS : va_S A s.heap s.heap [] := va_S.rf
  have hl : lv_has ls 3 [(0, .ref (a 0)), (1, .int q)] := hl
  have hinX1 : ∀ w ∈ u_ws RX1 TX1 16, w ∈ wsX1_pipeTakes := by decide +kernel
  have fl27 := hts (.fieldLink RX1 27 "RoofDrains$Roof" "bore" "[I") (by decide +kernel)
  have fl30 := hts (.fieldLink RX1 30 "RoofDrains$Roof" "leaves" "[I") (by decide +kernel)
  refine lv_aload_n hx hb dX1_pipeTakes_0 rfl (lv_at hl 0 rfl) ?_
  refine va_get (D := D) (ci := 1) (v := .ref (a 6)) (C := RX1) (T := TX1) (N := 16) hx hb hts hinX1 hown hK hP 0 rfl rfl 5 (by decide) fl27 (fun _ h9 => h9) rfl dX1_pipeTakes_1 ?_
  refine lv_iload_n hx hb dX1_pipeTakes_4 rfl (lv_at hl 1 rfl) ?_
  refine k_iald (k := i) (v := r 5 i) hx hb hK hP 6 0 rfl rfl hq hi (rfl) dX1_pipeTakes_5 ?_
  refine lv_bipush (v := 100) hx hb dX1_pipeTakes_6 (by decide) ?_
  refine lv_aload_n hx hb dX1_pipeTakes_8 rfl (lv_at hl 0 rfl) ?_
  refine va_get (D := D) (ci := 1) (v := .ref (a 7)) (C := RX1) (T := TX1) (N := 16) hx hb hts hinX1 hown hK hP 0 rfl rfl 6 (by decide) fl30 (fun _ h9 => h9) rfl dX1_pipeTakes_9 ?_
  refine lv_iload_n hx hb dX1_pipeTakes_12 rfl (lv_at hl 1 rfl) ?_
  refine k_iald (k := i) (v := r 6 i) hx hb hK hP 7 0 rfl rfl hq hi (rfl) dX1_pipeTakes_13 ?_
  refine lv_isub hx hb dX1_pipeTakes_14 ?_
  refine lv_imul hx hb dX1_pipeTakes_15 ?_
  refine lv_bipush (v := 100) hx hb dX1_pipeTakes_16 (by decide) ?_
  refine lv_idiv hx hb dX1_pipeTakes_18 (by decide) ?_
  refine lv_topi (fun v2_1 ev2_1 => ?_)
  refine lv_istore_n (lv' := [(2, .int v2_1), (0, .ref (a 0)), (1, .int q)]) hx hb dX1_pipeTakes_19 rfl hl (by decide) rfl (fun ls hl => ?_)
  refine lv_iload_n hx hb dX1_pipeTakes_20 rfl (lv_at hl 0 rfl) ?_
  refine lv_if_ne (tgt := 37) hx hb dX1_pipeTakes_21 (by decide) (fun c_2 => ?_) (fun c_2 => ?_)
  · skip
    refine lv_iload_n hx hb dX1_pipeTakes_37 rfl (lv_at hl 0 rfl) ?_
    exact k_iret hx hb hr hlocks hS hP dX1_pipeTakes_38 (by (subst ev2_1; first | rfl | (simp only [pipeT, c_2, ↓reduceIte]; done) | (simp [pipeT, c_2]; done)))
  · skip
    refine lv_aload_n hx hb dX1_pipeTakes_24 rfl (lv_at hl 1 rfl) ?_
    refine va_get (D := D) (ci := 1) (v := .ref (a 6)) (C := RX1) (T := TX1) (N := 16) hx hb hts hinX1 hown hK hP 0 rfl rfl 5 (by decide) fl27 (fun _ h9 => h9) rfl dX1_pipeTakes_25 ?_
    refine lv_iload_n hx hb dX1_pipeTakes_28 rfl (lv_at hl 2 rfl) ?_
    refine k_iald (k := i) (v := r 5 i) hx hb hK hP 6 0 rfl rfl hq hi (rfl) dX1_pipeTakes_29 ?_
    refine lv_if_eq (tgt := 37) hx hb dX1_pipeTakes_30 (by decide) (fun c_3 => ?_) (fun c_3 => ?_)
    · skip
      refine lv_iload_n hx hb dX1_pipeTakes_37 rfl (lv_at hl 0 rfl) ?_
      exact k_iret hx hb hr hlocks hS hP dX1_pipeTakes_38 (by (subst ev2_1; first | rfl | (simp only [pipeT, c_2, c_3, ↓reduceIte]; done) | (simp [pipeT, c_2, c_3]; done)))
    · skip
      refine lv_iconst (v := 1) hx hb dX1_pipeTakes_33 (by decide) ?_
      refine lv_goto (tgt := 38) hx hb dX1_pipeTakes_34 (by decide) ?_
      exact k_iret hx hb hr hlocks hS hP dX1_pipeTakes_38 (by (subst ev2_1; first | rfl | (simp only [pipeT, c_2, c_3, ↓reduceIte]; done) | (simp [pipeT, c_2, c_3]; done)))
set_option maxHeartbeats 4000000 in
set_option maxRecDepth 100000 in
theorem mX1_sumOf (l : Launch) (D : va_G) (cI cQ cJ : ClassId) (q : Nat) (f : Nat → Int32) : Mi l D (tY cI cQ cJ) yX1_sumOf wsX1_sumOf ({ frames := 0, cells := 0, slots := 0, locals := 0 } : Room) [.ref q] ([(q, .inl (cI, 6, .inl f))]) ([(q, .inl (cI, 6, .inl f))]) (smI f 6 0 0) := by
  refine M_of (cc := cX1_sumOf) (maxL := 6) (ret := some .int) (Qc := fun A => va_Qi (fun (x : Int32) (_ : Unit) => x = smI f 6 0 0) (fun _ t => Wd D ([(q, .inl (cI, 6, .inl f))]) t) A) (by decide) rfl (Nat.le_of_ble_eq_true rfl) ?_
  intro p e s m below meth c A ls hB hE hP hK hD hA hl
  obtain ⟨hx, hb, hr, hml, hts, hown, hlocks⟩ := hB
  have hS : va_S A s.heap s.heap [] := va_S.rf
  have hl : lv_has ls 6 [(0, .ref q)] := hl
  refine lv_iconst (v := 0) hx hb dX1_sumOf_0 (by decide) ?_
  refine lv_istore_n (lv' := [(1, .int 0), (0, .ref q)]) hx hb dX1_sumOf_1 rfl hl (by decide) rfl (fun ls hl => ?_)
  refine lv_aload_n hx hb dX1_sumOf_2 rfl (lv_at hl 1 rfl) ?_
  refine lv_astore_n (lv' := [(2, .ref q), (1, .int 0), (0, .ref q)]) hx hb dX1_sumOf_3 rfl hl (by decide) rfl (fun ls hl => ?_)
  refine lv_aload_n hx hb dX1_sumOf_4 rfl (lv_at hl 0 rfl) ?_
  refine va_alen (v := 6) hx hb hK hP 0 0 rfl rfl rfl dX1_sumOf_5 ?_
  refine lv_istore_n (lv' := [(3, .int 6), (2, .ref q), (1, .int 0), (0, .ref q)]) hx hb dX1_sumOf_6 rfl hl (by decide) rfl (fun ls hl => ?_)
  refine lv_iconst (v := 0) hx hb dX1_sumOf_7 (by decide) ?_
  refine lv_istore (lv' := [(4, .int 0), (3, .int 6), (2, .ref q), (1, .int 0), (0, .ref q)]) hx hb dX1_sumOf_8 hl (by decide) rfl (fun ls hl => ?_)
  have Lp10 : ∀ (n i : Nat) (sa : Int32), i + n = 6 → smI f n i sa = smI f 6 0 0 → ∀ (H : Heap) (locs : List Loc), va_P D vwCl ([(q, .inl (cI, 6, .inl f))]) H → va_D A ([(q, .inl (cI, 6, .inl f))]) → va_S A s.heap H locs → ∀ (ls : Array Slot), lv_has ls 6 [(4, .int (nI i)), (3, .int 6), (2, .ref q), (1, .int sa), (0, .ref q)] → W p l e ({ frames := 0, cells := 0, slots := 0, locals := 0 } : Room) s m ([.ref q] : List Value).toArray below meth c H locs 0 0 (MQ below (va_Qi (fun (x : Int32) (_ : Unit) => x = smI f 6 0 0) (fun _ t => Wd D ([(q, .inl (cI, 6, .inl f))]) t) A) ([.ref q] : List Value).toArray s 0 0 A) (F0 m 10 ls []) := by
    intro n
    induction n with
    | zero =>
      intro i sa hin hres H locs hP hD hS ls hl
      have h9 : sa = smI f 6 0 0 := hres
      subst h9
      refine lv_iload hx hb dX1_sumOf_10 (lv_at hl 0 rfl) ?_
      refine lv_iload_n hx hb dX1_sumOf_12 rfl (lv_at hl 1 rfl) ?_
      refine lv_icmp_ge (tgt := 33) hx hb dX1_sumOf_13 (by decide) (fun _ => ?_) (fun h9 => absurd (nI_le (a := 6) (b := i) (by omega) (by omega)) h9)
      refine lv_iload_n hx hb dX1_sumOf_33 rfl (lv_at hl 3 rfl) ?_
      exact k_iret hx hb hr hlocks hS hP dX1_sumOf_34 (by (first | rfl | (simp only [↓reduceIte]; done) | (simp []; done)))
    | succ n ih =>
      intro i sa hin hres H locs hP hD hS ls hl
      refine lv_iload hx hb dX1_sumOf_10 (lv_at hl 0 rfl) ?_
      refine lv_iload_n hx hb dX1_sumOf_12 rfl (lv_at hl 1 rfl) ?_
      refine lv_icmp_ge (tgt := 33) hx hb dX1_sumOf_13 (by decide) (fun h9 => absurd h9 (nI_ge (a := i) (b := 6) (by omega) (by omega))) (fun _ => ?_)
      refine lv_aload_n hx hb dX1_sumOf_16 rfl (lv_at hl 2 rfl) ?_
      refine lv_iload hx hb dX1_sumOf_17 (lv_at hl 0 rfl) ?_
      refine k_iald (k := i) (v := f i) hx hb hK hP 0 0 rfl rfl (vp_in_nI (by omega) (by omega)) (nI_clamp (by omega)) rfl dX1_sumOf_19 ?_
      refine lv_topi (fun v5_1 ev5_1 => ?_)
      refine lv_istore (lv' := [(5, .int v5_1), (4, .int (nI i)), (3, .int 6), (2, .ref q), (1, .int sa), (0, .ref q)]) hx hb dX1_sumOf_20 hl (by decide) rfl (fun ls hl => ?_)
      refine lv_iload_n hx hb dX1_sumOf_22 rfl (lv_at hl 4 rfl) ?_
      refine lv_iload hx hb dX1_sumOf_23 (lv_at hl 0 rfl) ?_
      refine lv_iadd hx hb dX1_sumOf_25 ?_
      refine lv_topi (fun v1_2 ev1_2 => ?_)
      refine lv_istore_n (lv' := [(1, .int v1_2), (5, .int v5_1), (4, .int (nI i)), (3, .int 6), (2, .ref q), (0, .ref q)]) hx hb dX1_sumOf_26 rfl hl (by decide) rfl (fun ls hl => ?_)
      refine lv_iinc (v := nI (i + 1)) (lv' := [(4, .int (nI (i + 1))), (1, .int v1_2), (5, .int v5_1), (3, .int 6), (2, .ref q), (0, .ref q)]) hx hb dX1_sumOf_27 hl (k := 2) rfl (nI_1 i) (by decide) rfl (fun ls hl => ?_)
      refine lv_goto (tgt := 10) hx hb dX1_sumOf_30 (by decide) ?_
      exact ih (i + 1) v1_2 (by omega) (by subst ev1_2; subst ev5_1;  exact hres) H locs hP hD hS ls (lv_sub hl [0, 3, 4, 1, 5] rfl)
  exact Lp10 6 0 0 (by omega) rfl _ _ hP hD hS ls (lv_sub hl [0, 1, 2, 3, 4] rfl)
set_option maxHeartbeats 4000000 in
set_option maxRecDepth 100000 in
theorem mX1_drainedLitres (l : Launch) (D : va_G) (cI cQ cJ : ClassId) (a : Nat → Nat) (r : rB)  : Mi l D (tY cI cQ cJ) yX1_drainedLitres wsX1_drainedLitres ({ frames := 1, cells := 0, slots := 0, locals := 25 } : Room) [.ref (a 0)] (cR cI a r) (cR cI a r) (smI (r 10) 6 0 0) := by
  refine M_of (cc := cX1_drainedLitres) (maxL := 1) (ret := some .int) (Qc := fun A => va_Qi (fun (x : Int32) (_ : Unit) => x = smI (r 10) 6 0 0) (fun _ t => Wd D (cR cI a r) t) A) (by decide) rfl (Nat.le_of_ble_eq_true rfl) ?_
  intro p e s m below meth c A ls hB hE hP hK hD hA hl
  obtain ⟨hx, hb, hr, hml, hts, hown, hlocks⟩ := hB
  have hS : va_S A s.heap s.heap [] := va_S.rf
  have hl : lv_has ls 1 [(0, .ref (a 0))] := hl
  have hinX1 : ∀ w ∈ u_ws RX1 TX1 16, w ∈ wsX1_drainedLitres := by decide +kernel
  have fl42 := hts (.fieldLink RX1 42 "RoofDrains$Roof" "drained" "[I") (by decide +kernel)
  refine lv_aload_n hx hb dX1_drainedLitres_0 rfl (lv_at hl 0 rfl) ?_
  refine va_get (D := D) (ci := 1) (v := .ref (a 11)) (C := RX1) (T := TX1) (N := 16) hx hb hts hinX1 hown hK hP 0 rfl rfl 10 (by decide) fl42 (fun _ h9 => h9) rfl dX1_drainedLitres_1 ?_
  refine k_calli (wc := [(a 11, .inl (cI, 6, .inl (r 10)))]) (w' := [(a 11, .inl (cI, 6, .inl (r 10)))]) (wn := cR cI a r) (va_runS (As := [.ref (a 11)]) (rest := []) ⟨hx, hb, hml, hown, hts⟩ (mX1_sumOf l D cI cQ cJ (a 11) (r 10) _) (va_cwS 1 hts gX1_drainedLitres_X1_sumOf rfl rfl rfl (by decide +kernel) ⟨Nat.le_of_ble_eq_true rfl, Nat.le_of_ble_eq_true rfl⟩) (k_preS (wc := [(a 11, .inl (cI, 6, .inl (r 10)))]) hE hK hP hD [11] (by decide) rfl [.ref (a 11)]) rfl rfl hl.1 rfl (lv_room (Nat.le_of_ble_eq_true rfl)) dX1_drainedLitres_4 ⟨Nat.zero_le _, Nat.zero_le _⟩) hP hD hS hA [11] rfl rfl rfl (fun H locs hP hD hS => ?_)
  exact k_iret hx hb hr hlocks hS hP dX1_drainedLitres_7 (by (first | rfl | (simp only [↓reduceIte]; done) | (simp []; done)))
set_option maxHeartbeats 4000000 in
set_option maxRecDepth 100000 in
theorem mX1_spiltLitres (l : Launch) (D : va_G) (cI cQ cJ : ClassId) (a : Nat → Nat) (r : rB)  : Mi l D (tY cI cQ cJ) yX1_spiltLitres wsX1_spiltLitres ({ frames := 1, cells := 0, slots := 0, locals := 25 } : Room) [.ref (a 0)] (cR cI a r) (cR cI a r) (smI (r 9) 6 0 0) := by
  refine M_of (cc := cX1_spiltLitres) (maxL := 1) (ret := some .int) (Qc := fun A => va_Qi (fun (x : Int32) (_ : Unit) => x = smI (r 9) 6 0 0) (fun _ t => Wd D (cR cI a r) t) A) (by decide) rfl (Nat.le_of_ble_eq_true rfl) ?_
  intro p e s m below meth c A ls hB hE hP hK hD hA hl
  obtain ⟨hx, hb, hr, hml, hts, hown, hlocks⟩ := hB
  have hS : va_S A s.heap s.heap [] := va_S.rf
  have hl : lv_has ls 1 [(0, .ref (a 0))] := hl
  have hinX1 : ∀ w ∈ u_ws RX1 TX1 16, w ∈ wsX1_spiltLitres := by decide +kernel
  have fl39 := hts (.fieldLink RX1 39 "RoofDrains$Roof" "spilt" "[I") (by decide +kernel)
  refine lv_aload_n hx hb dX1_spiltLitres_0 rfl (lv_at hl 0 rfl) ?_
  refine va_get (D := D) (ci := 1) (v := .ref (a 10)) (C := RX1) (T := TX1) (N := 16) hx hb hts hinX1 hown hK hP 0 rfl rfl 9 (by decide) fl39 (fun _ h9 => h9) rfl dX1_spiltLitres_1 ?_
  refine k_calli (wc := [(a 10, .inl (cI, 6, .inl (r 9)))]) (w' := [(a 10, .inl (cI, 6, .inl (r 9)))]) (wn := cR cI a r) (va_runS (As := [.ref (a 10)]) (rest := []) ⟨hx, hb, hml, hown, hts⟩ (mX1_sumOf l D cI cQ cJ (a 10) (r 9) _) (va_cwS 1 hts gX1_spiltLitres_X1_sumOf rfl rfl rfl (by decide +kernel) ⟨Nat.le_of_ble_eq_true rfl, Nat.le_of_ble_eq_true rfl⟩) (k_preS (wc := [(a 10, .inl (cI, 6, .inl (r 9)))]) hE hK hP hD [10] (by decide) rfl [.ref (a 10)]) rfl rfl hl.1 rfl (lv_room (Nat.le_of_ble_eq_true rfl)) dX1_spiltLitres_4 ⟨Nat.zero_le _, Nat.zero_le _⟩) hP hD hS hA [10] rfl rfl rfl (fun H locs hP hD hS => ?_)
  exact k_iret hx hb hr hlocks hS hP dX1_spiltLitres_7 (by (first | rfl | (simp only [↓reduceIte]; done) | (simp []; done)))
set_option maxHeartbeats 4000000 in
set_option maxRecDepth 100000 in
theorem mX1_leavesTogether (l : Launch) (D : va_G) (cI cQ cJ : ClassId) (a : Nat → Nat) (r : rB)  : Mi l D (tY cI cQ cJ) yX1_leavesTogether wsX1_leavesTogether ({ frames := 1, cells := 0, slots := 0, locals := 25 } : Room) [.ref (a 0)] (cR cI a r) (cR cI a r) (smI (r 6) 6 0 0) := by
  refine M_of (cc := cX1_leavesTogether) (maxL := 1) (ret := some .int) (Qc := fun A => va_Qi (fun (x : Int32) (_ : Unit) => x = smI (r 6) 6 0 0) (fun _ t => Wd D (cR cI a r) t) A) (by decide) rfl (Nat.le_of_ble_eq_true rfl) ?_
  intro p e s m below meth c A ls hB hE hP hK hD hA hl
  obtain ⟨hx, hb, hr, hml, hts, hown, hlocks⟩ := hB
  have hS : va_S A s.heap s.heap [] := va_S.rf
  have hl : lv_has ls 1 [(0, .ref (a 0))] := hl
  have hinX1 : ∀ w ∈ u_ws RX1 TX1 16, w ∈ wsX1_leavesTogether := by decide +kernel
  have fl30 := hts (.fieldLink RX1 30 "RoofDrains$Roof" "leaves" "[I") (by decide +kernel)
  refine lv_aload_n hx hb dX1_leavesTogether_0 rfl (lv_at hl 0 rfl) ?_
  refine va_get (D := D) (ci := 1) (v := .ref (a 7)) (C := RX1) (T := TX1) (N := 16) hx hb hts hinX1 hown hK hP 0 rfl rfl 6 (by decide) fl30 (fun _ h9 => h9) rfl dX1_leavesTogether_1 ?_
  refine k_calli (wc := [(a 7, .inl (cI, 6, .inl (r 6)))]) (w' := [(a 7, .inl (cI, 6, .inl (r 6)))]) (wn := cR cI a r) (va_runS (As := [.ref (a 7)]) (rest := []) ⟨hx, hb, hml, hown, hts⟩ (mX1_sumOf l D cI cQ cJ (a 7) (r 6) _) (va_cwS 1 hts gX1_leavesTogether_X1_sumOf rfl rfl rfl (by decide +kernel) ⟨Nat.le_of_ble_eq_true rfl, Nat.le_of_ble_eq_true rfl⟩) (k_preS (wc := [(a 7, .inl (cI, 6, .inl (r 6)))]) hE hK hP hD [7] (by decide) rfl [.ref (a 7)]) rfl rfl hl.1 rfl (lv_room (Nat.le_of_ble_eq_true rfl)) dX1_leavesTogether_4 ⟨Nat.zero_le _, Nat.zero_le _⟩) hP hD hS hA [7] rfl rfl rfl (fun H locs hP hD hS => ?_)
  exact k_iret hx hb hr hlocks hS hP dX1_leavesTogether_7 (by (first | rfl | (simp only [↓reduceIte]; done) | (simp []; done)))
set_option maxHeartbeats 4000000 in
set_option maxRecDepth 100000 in
theorem mX1_standingLitres (l : Launch) (D : va_G) (cI cQ cJ : ClassId) (a : Nat → Nat) (r : rB)  : Mi l D (tY cI cQ cJ) yX1_standingLitres wsX1_standingLitres ({ frames := 1, cells := 0, slots := 0, locals := 25 } : Room) [.ref (a 0)] (cR cI a r) (cR cI a r) (standC r) := by
  refine M_of (cc := cX1_standingLitres) (maxL := 1) (ret := some .int) (Qc := fun A => va_Qi (fun (x : Int32) (_ : Unit) => x = standC r) (fun _ t => Wd D (cR cI a r) t) A) (by decide) rfl (Nat.le_of_ble_eq_true rfl) ?_
  intro p e s m below meth c A ls hB hE hP hK hD hA hl
  obtain ⟨hx, hb, hr, hml, hts, hown, hlocks⟩ := hB
  have hS : va_S A s.heap s.heap [] := va_S.rf
  have hl : lv_has ls 1 [(0, .ref (a 0))] := hl
  have hinX1 : ∀ w ∈ u_ws RX1 TX1 16, w ∈ wsX1_standingLitres := by decide +kernel
  have fl21 := hts (.fieldLink RX1 21 "RoofDrains$Roof" "onPlane" "[I") (by decide +kernel)
  have fl36 := hts (.fieldLink RX1 36 "RoofDrains$Roof" "inGutter" "[I") (by decide +kernel)
  refine lv_aload_n hx hb dX1_standingLitres_0 rfl (lv_at hl 0 rfl) ?_
  refine va_get (D := D) (ci := 1) (v := .ref (a 4)) (C := RX1) (T := TX1) (N := 16) hx hb hts hinX1 hown hK hP 0 rfl rfl 3 (by decide) fl21 (fun _ h9 => h9) rfl dX1_standingLitres_1 ?_
  refine k_calli (wc := [(a 4, .inl (cI, 6, .inl (r 3)))]) (w' := [(a 4, .inl (cI, 6, .inl (r 3)))]) (wn := cR cI a r) (va_runS (As := [.ref (a 4)]) (rest := []) ⟨hx, hb, hml, hown, hts⟩ (mX1_sumOf l D cI cQ cJ (a 4) (r 3) _) (va_cwS 1 hts gX1_standingLitres_X1_sumOf rfl rfl rfl (by decide +kernel) ⟨Nat.le_of_ble_eq_true rfl, Nat.le_of_ble_eq_true rfl⟩) (k_preS (wc := [(a 4, .inl (cI, 6, .inl (r 3)))]) hE hK hP hD [4] (by decide) rfl [.ref (a 4)]) rfl rfl hl.1 rfl (lv_room (Nat.le_of_ble_eq_true rfl)) dX1_standingLitres_4 ⟨Nat.zero_le _, Nat.zero_le _⟩) hP hD hS hA [4] rfl rfl rfl (fun H locs hP hD hS => ?_)
  refine lv_aload_n hx hb dX1_standingLitres_7 rfl (lv_at hl 0 rfl) ?_
  refine va_get (D := D) (ci := 1) (v := .ref (a 9)) (C := RX1) (T := TX1) (N := 16) hx hb hts hinX1 hown hK hP 0 rfl rfl 8 (by decide) fl36 (fun _ h9 => h9) rfl dX1_standingLitres_8 ?_
  refine k_calli (wc := [(a 9, .inl (cI, 6, .inl (r 8)))]) (w' := [(a 9, .inl (cI, 6, .inl (r 8)))]) (wn := cR cI a r) (va_runS (As := [.ref (a 9)]) (rest := [.int (smI (r 3) 6 0 0)]) ⟨hx, hb, hml, hown, hts⟩ (mX1_sumOf l D cI cQ cJ (a 9) (r 8) _) (va_cwS 1 hts gX1_standingLitres_X1_sumOf rfl rfl rfl (by decide +kernel) ⟨Nat.le_of_ble_eq_true rfl, Nat.le_of_ble_eq_true rfl⟩) (k_preS (wc := [(a 9, .inl (cI, 6, .inl (r 8)))]) hE hK hP hD [9] (by decide) rfl [.ref (a 9)]) rfl rfl hl.1 rfl (lv_room (Nat.le_of_ble_eq_true rfl)) dX1_standingLitres_11 ⟨Nat.zero_le _, Nat.zero_le _⟩) hP hD hS hA [9] rfl rfl rfl (fun H locs hP hD hS => ?_)
  refine lv_iadd hx hb dX1_standingLitres_14 ?_
  exact k_iret hx hb hr hlocks hS hP dX1_standingLitres_15 (by (first | rfl | (simp only [standC, ↓reduceIte]; done) | (simp [standC]; done)))
set_option maxHeartbeats 4000000 in
set_option maxRecDepth 100000 in
theorem mX1_changePlane (l : Launch) (D : va_G) (cI cQ cJ : ClassId) (a : Nat → Nat) (r : rB) (q : Int32) (i : Nat) (hq : vp_in q 6) (hi : q.toNatClampNeg = i) (x y z : Int32) : Mi l D (tY cI cQ cJ) yX1_changePlane wsX1_changePlane ({ frames := 0, cells := 0, slots := 0, locals := 0 } : Room) [.ref (a 0), .int q, .int x, .int y, .int z] (cR cI a r) (cR cI a (bp (bp (bp r 0 i x) 1 i y) 2 i z)) (r 0 i) := by
  refine M_of (cc := cX1_changePlane) (maxL := 6) (ret := some .int) (Qc := fun A => va_Qi (fun (x : Int32) (_ : Unit) => x = r 0 i) (fun _ t => Wd D (cR cI a (bp (bp (bp r 0 i x) 1 i y) 2 i z)) t) A) (by decide) rfl (Nat.le_of_ble_eq_true rfl) ?_
  intro p e s m below meth c A ls hB hE hP hK hD hA hl
  obtain ⟨hx, hb, hr, hml, hts, hown, hlocks⟩ := hB
  have hS : va_S A s.heap s.heap [] := va_S.rf
  have hl : lv_has ls 6 [(0, .ref (a 0)), (1, .int q), (2, .int x), (3, .int y), (4, .int z)] := hl
  have hinX1 : ∀ w ∈ u_ws RX1 TX1 16, w ∈ wsX1_changePlane := by decide +kernel
  have fl9 := hts (.fieldLink RX1 9 "RoofDrains$Roof" "area" "[I") (by decide +kernel)
  have fl15 := hts (.fieldLink RX1 15 "RoofDrains$Roof" "slope" "[I") (by decide +kernel)
  have fl18 := hts (.fieldLink RX1 18 "RoofDrains$Roof" "leadsTo" "[I") (by decide +kernel)
  refine lv_aload_n hx hb dX1_changePlane_0 rfl (lv_at hl 0 rfl) ?_
  refine va_get (D := D) (ci := 1) (v := .ref (a 1)) (C := RX1) (T := TX1) (N := 16) hx hb hts hinX1 hown hK hP 0 rfl rfl 0 (by decide) fl9 (fun _ h9 => h9) rfl dX1_changePlane_1 ?_
  refine lv_iload_n hx hb dX1_changePlane_4 rfl (lv_at hl 1 rfl) ?_
  refine k_iald (k := i) (v := r 0 i) hx hb hK hP 1 0 rfl rfl hq hi (rfl) dX1_changePlane_5 ?_
  refine lv_topi (fun v5_1 ev5_1 => ?_)
  refine lv_istore (lv' := [(5, .int v5_1), (0, .ref (a 0)), (1, .int q), (2, .int x), (3, .int y), (4, .int z)]) hx hb dX1_changePlane_6 hl (by decide) rfl (fun ls hl => ?_)
  refine lv_aload_n hx hb dX1_changePlane_8 rfl (lv_at hl 1 rfl) ?_
  refine va_get (D := D) (ci := 1) (v := .ref (a 1)) (C := RX1) (T := TX1) (N := 16) hx hb hts hinX1 hown hK hP 0 rfl rfl 0 (by decide) fl9 (fun _ h9 => h9) rfl dX1_changePlane_9 ?_
  refine lv_iload_n hx hb dX1_changePlane_12 rfl (lv_at hl 2 rfl) ?_
  refine lv_iload_n hx hb dX1_changePlane_13 rfl (lv_at hl 3 rfl) ?_
  refine k_iast (k := i) (ws' := cR cI a (bp r 0 i x)) hx hb hK hP hD hS 1 0 rfl rfl hq hi rfl dX1_changePlane_14 (fun H locs hP hD hS => ?_)
  refine lv_aload_n hx hb dX1_changePlane_15 rfl (lv_at hl 1 rfl) ?_
  refine va_get (D := D) (ci := 1) (v := .ref (a 2)) (C := RX1) (T := TX1) (N := 16) hx hb hts hinX1 hown hK hP 0 rfl rfl 1 (by decide) fl15 (fun _ h9 => h9) rfl dX1_changePlane_16 ?_
  refine lv_iload_n hx hb dX1_changePlane_19 rfl (lv_at hl 2 rfl) ?_
  refine lv_iload_n hx hb dX1_changePlane_20 rfl (lv_at hl 4 rfl) ?_
  refine k_iast (k := i) (ws' := cR cI a (bp (bp r 0 i x) 1 i y)) hx hb hK hP hD hS 2 0 rfl rfl hq hi rfl dX1_changePlane_21 (fun H locs hP hD hS => ?_)
  refine lv_aload_n hx hb dX1_changePlane_22 rfl (lv_at hl 1 rfl) ?_
  refine va_get (D := D) (ci := 1) (v := .ref (a 3)) (C := RX1) (T := TX1) (N := 16) hx hb hts hinX1 hown hK hP 0 rfl rfl 2 (by decide) fl18 (fun _ h9 => h9) rfl dX1_changePlane_23 ?_
  refine lv_iload_n hx hb dX1_changePlane_26 rfl (lv_at hl 2 rfl) ?_
  refine lv_iload hx hb dX1_changePlane_27 (lv_at hl 5 rfl) ?_
  refine k_iast (k := i) (ws' := cR cI a (bp (bp (bp r 0 i x) 1 i y) 2 i z)) hx hb hK hP hD hS 3 0 rfl rfl hq hi rfl dX1_changePlane_29 (fun H locs hP hD hS => ?_)
  refine lv_iload hx hb dX1_changePlane_30 (lv_at hl 0 rfl) ?_
  exact k_iret hx hb hr hlocks hS hP dX1_changePlane_32 (by (subst ev5_1; first | rfl | (simp only [↓reduceIte]; done) | (simp []; done)))
set_option maxHeartbeats 4000000 in
set_option maxRecDepth 100000 in
theorem mX1_changeGutter (l : Launch) (D : va_G) (cI cQ cJ : ClassId) (a : Nat → Nat) (r : rB) (q : Int32) (i : Nat) (hq : vp_in q 6) (hi : q.toNatClampNeg = i) (x y : Int32) : Mi l D (tY cI cQ cJ) yX1_changeGutter wsX1_changeGutter ({ frames := 0, cells := 0, slots := 0, locals := 0 } : Room) [.ref (a 0), .int q, .int x, .int y] (cR cI a r) (cR cI a (bp (bp r 4 i x) 5 i y)) (r 4 i) := by
  refine M_of (cc := cX1_changeGutter) (maxL := 5) (ret := some .int) (Qc := fun A => va_Qi (fun (x : Int32) (_ : Unit) => x = r 4 i) (fun _ t => Wd D (cR cI a (bp (bp r 4 i x) 5 i y)) t) A) (by decide) rfl (Nat.le_of_ble_eq_true rfl) ?_
  intro p e s m below meth c A ls hB hE hP hK hD hA hl
  obtain ⟨hx, hb, hr, hml, hts, hown, hlocks⟩ := hB
  have hS : va_S A s.heap s.heap [] := va_S.rf
  have hl : lv_has ls 5 [(0, .ref (a 0)), (1, .int q), (2, .int x), (3, .int y)] := hl
  have hinX1 : ∀ w ∈ u_ws RX1 TX1 16, w ∈ wsX1_changeGutter := by decide +kernel
  have fl24 := hts (.fieldLink RX1 24 "RoofDrains$Roof" "size" "[I") (by decide +kernel)
  have fl27 := hts (.fieldLink RX1 27 "RoofDrains$Roof" "bore" "[I") (by decide +kernel)
  refine lv_aload_n hx hb dX1_changeGutter_0 rfl (lv_at hl 0 rfl) ?_
  refine va_get (D := D) (ci := 1) (v := .ref (a 5)) (C := RX1) (T := TX1) (N := 16) hx hb hts hinX1 hown hK hP 0 rfl rfl 4 (by decide) fl24 (fun _ h9 => h9) rfl dX1_changeGutter_1 ?_
  refine lv_iload_n hx hb dX1_changeGutter_4 rfl (lv_at hl 1 rfl) ?_
  refine k_iald (k := i) (v := r 4 i) hx hb hK hP 5 0 rfl rfl hq hi (rfl) dX1_changeGutter_5 ?_
  refine lv_topi (fun v4_1 ev4_1 => ?_)
  refine lv_istore (lv' := [(4, .int v4_1), (0, .ref (a 0)), (1, .int q), (2, .int x), (3, .int y)]) hx hb dX1_changeGutter_6 hl (by decide) rfl (fun ls hl => ?_)
  refine lv_aload_n hx hb dX1_changeGutter_8 rfl (lv_at hl 1 rfl) ?_
  refine va_get (D := D) (ci := 1) (v := .ref (a 5)) (C := RX1) (T := TX1) (N := 16) hx hb hts hinX1 hown hK hP 0 rfl rfl 4 (by decide) fl24 (fun _ h9 => h9) rfl dX1_changeGutter_9 ?_
  refine lv_iload_n hx hb dX1_changeGutter_12 rfl (lv_at hl 2 rfl) ?_
  refine lv_iload_n hx hb dX1_changeGutter_13 rfl (lv_at hl 3 rfl) ?_
  refine k_iast (k := i) (ws' := cR cI a (bp r 4 i x)) hx hb hK hP hD hS 5 0 rfl rfl hq hi rfl dX1_changeGutter_14 (fun H locs hP hD hS => ?_)
  refine lv_aload_n hx hb dX1_changeGutter_15 rfl (lv_at hl 1 rfl) ?_
  refine va_get (D := D) (ci := 1) (v := .ref (a 6)) (C := RX1) (T := TX1) (N := 16) hx hb hts hinX1 hown hK hP 0 rfl rfl 5 (by decide) fl27 (fun _ h9 => h9) rfl dX1_changeGutter_16 ?_
  refine lv_iload_n hx hb dX1_changeGutter_19 rfl (lv_at hl 2 rfl) ?_
  refine lv_iload_n hx hb dX1_changeGutter_20 rfl (lv_at hl 4 rfl) ?_
  refine k_iast (k := i) (ws' := cR cI a (bp (bp r 4 i x) 5 i y)) hx hb hK hP hD hS 6 0 rfl rfl hq hi rfl dX1_changeGutter_21 (fun H locs hP hD hS => ?_)
  refine lv_iload hx hb dX1_changeGutter_22 (lv_at hl 0 rfl) ?_
  exact k_iret hx hb hr hlocks hS hP dX1_changeGutter_24 (by (subst ev4_1; first | rfl | (simp only [↓reduceIte]; done) | (simp []; done)))
set_option maxHeartbeats 4000000 in
set_option maxRecDepth 100000 in
theorem mX1_changeValley (l : Launch) (D : va_G) (cI cQ cJ : ClassId) (a : Nat → Nat) (r : rB) (q : Int32) (i : Nat) (hq : vp_in q 6) (hi : q.toNatClampNeg = i) (x : Int32) : Mi l D (tY cI cQ cJ) yX1_changeValley wsX1_changeValley ({ frames := 0, cells := 0, slots := 0, locals := 0 } : Room) [.ref (a 0), .int q, .int x] (cR cI a r) (cR cI a (bp r 7 i x)) (r 7 i) := by
  refine M_of (cc := cX1_changeValley) (maxL := 4) (ret := some .int) (Qc := fun A => va_Qi (fun (x : Int32) (_ : Unit) => x = r 7 i) (fun _ t => Wd D (cR cI a (bp r 7 i x)) t) A) (by decide) rfl (Nat.le_of_ble_eq_true rfl) ?_
  intro p e s m below meth c A ls hB hE hP hK hD hA hl
  obtain ⟨hx, hb, hr, hml, hts, hown, hlocks⟩ := hB
  have hS : va_S A s.heap s.heap [] := va_S.rf
  have hl : lv_has ls 4 [(0, .ref (a 0)), (1, .int q), (2, .int x)] := hl
  have hinX1 : ∀ w ∈ u_ws RX1 TX1 16, w ∈ wsX1_changeValley := by decide +kernel
  have fl33 := hts (.fieldLink RX1 33 "RoofDrains$Roof" "valleyTo" "[I") (by decide +kernel)
  refine lv_aload_n hx hb dX1_changeValley_0 rfl (lv_at hl 0 rfl) ?_
  refine va_get (D := D) (ci := 1) (v := .ref (a 8)) (C := RX1) (T := TX1) (N := 16) hx hb hts hinX1 hown hK hP 0 rfl rfl 7 (by decide) fl33 (fun _ h9 => h9) rfl dX1_changeValley_1 ?_
  refine lv_iload_n hx hb dX1_changeValley_4 rfl (lv_at hl 1 rfl) ?_
  refine k_iald (k := i) (v := r 7 i) hx hb hK hP 8 0 rfl rfl hq hi (rfl) dX1_changeValley_5 ?_
  refine lv_topi (fun v3_1 ev3_1 => ?_)
  refine lv_istore_n (lv' := [(3, .int v3_1), (0, .ref (a 0)), (1, .int q), (2, .int x)]) hx hb dX1_changeValley_6 rfl hl (by decide) rfl (fun ls hl => ?_)
  refine lv_aload_n hx hb dX1_changeValley_7 rfl (lv_at hl 1 rfl) ?_
  refine va_get (D := D) (ci := 1) (v := .ref (a 8)) (C := RX1) (T := TX1) (N := 16) hx hb hts hinX1 hown hK hP 0 rfl rfl 7 (by decide) fl33 (fun _ h9 => h9) rfl dX1_changeValley_8 ?_
  refine lv_iload_n hx hb dX1_changeValley_11 rfl (lv_at hl 2 rfl) ?_
  refine lv_iload_n hx hb dX1_changeValley_12 rfl (lv_at hl 3 rfl) ?_
  refine k_iast (k := i) (ws' := cR cI a (bp r 7 i x)) hx hb hK hP hD hS 8 0 rfl rfl hq hi rfl dX1_changeValley_13 (fun H locs hP hD hS => ?_)
  refine lv_iload_n hx hb dX1_changeValley_14 rfl (lv_at hl 0 rfl) ?_
  exact k_iret hx hb hr hlocks hS hP dX1_changeValley_15 (by (subst ev3_1; first | rfl | (simp only [↓reduceIte]; done) | (simp []; done)))
set_option maxHeartbeats 4000000 in
set_option maxRecDepth 100000 in
theorem mX1_takeLeaves (l : Launch) (D : va_G) (cI cQ cJ : ClassId) (a : Nat → Nat) (r : rB) (q : Int32) (i : Nat) (hq : vp_in q 6) (hi : q.toNatClampNeg = i) : Mi l D (tY cI cQ cJ) yX1_takeLeaves wsX1_takeLeaves ({ frames := 0, cells := 0, slots := 0, locals := 0 } : Room) [.ref (a 0), .int q] (cR cI a r) (cR cI a (bp r 6 i 0)) (r 6 i) := by
  refine M_of (cc := cX1_takeLeaves) (maxL := 3) (ret := some .int) (Qc := fun A => va_Qi (fun (x : Int32) (_ : Unit) => x = r 6 i) (fun _ t => Wd D (cR cI a (bp r 6 i 0)) t) A) (by decide) rfl (Nat.le_of_ble_eq_true rfl) ?_
  intro p e s m below meth c A ls hB hE hP hK hD hA hl
  obtain ⟨hx, hb, hr, hml, hts, hown, hlocks⟩ := hB
  have hS : va_S A s.heap s.heap [] := va_S.rf
  have hl : lv_has ls 3 [(0, .ref (a 0)), (1, .int q)] := hl
  have hinX1 : ∀ w ∈ u_ws RX1 TX1 16, w ∈ wsX1_takeLeaves := by decide +kernel
  have fl30 := hts (.fieldLink RX1 30 "RoofDrains$Roof" "leaves" "[I") (by decide +kernel)
  refine lv_aload_n hx hb dX1_takeLeaves_0 rfl (lv_at hl 0 rfl) ?_
  refine va_get (D := D) (ci := 1) (v := .ref (a 7)) (C := RX1) (T := TX1) (N := 16) hx hb hts hinX1 hown hK hP 0 rfl rfl 6 (by decide) fl30 (fun _ h9 => h9) rfl dX1_takeLeaves_1 ?_
  refine lv_iload_n hx hb dX1_takeLeaves_4 rfl (lv_at hl 1 rfl) ?_
  refine k_iald (k := i) (v := r 6 i) hx hb hK hP 7 0 rfl rfl hq hi (rfl) dX1_takeLeaves_5 ?_
  refine lv_topi (fun v2_1 ev2_1 => ?_)
  refine lv_istore_n (lv' := [(2, .int v2_1), (0, .ref (a 0)), (1, .int q)]) hx hb dX1_takeLeaves_6 rfl hl (by decide) rfl (fun ls hl => ?_)
  refine lv_aload_n hx hb dX1_takeLeaves_7 rfl (lv_at hl 1 rfl) ?_
  refine va_get (D := D) (ci := 1) (v := .ref (a 7)) (C := RX1) (T := TX1) (N := 16) hx hb hts hinX1 hown hK hP 0 rfl rfl 6 (by decide) fl30 (fun _ h9 => h9) rfl dX1_takeLeaves_8 ?_
  refine lv_iload_n hx hb dX1_takeLeaves_11 rfl (lv_at hl 2 rfl) ?_
  refine lv_iconst (v := 0) hx hb dX1_takeLeaves_12 (by decide) ?_
  refine k_iast (k := i) (ws' := cR cI a (bp r 6 i 0)) hx hb hK hP hD hS 7 0 rfl rfl hq hi rfl dX1_takeLeaves_13 (fun H locs hP hD hS => ?_)
  refine lv_iload_n hx hb dX1_takeLeaves_14 rfl (lv_at hl 0 rfl) ?_
  exact k_iret hx hb hr hlocks hS hP dX1_takeLeaves_15 (by (subst ev2_1; first | rfl | (simp only [↓reduceIte]; done) | (simp []; done)))
set_option maxHeartbeats 4000000 in
set_option maxRecDepth 100000 in
theorem mX1_changeSetting (l : Launch) (D : va_G) (cI cQ cJ : ClassId) (a : Nat → Nat) (r : rB) (q : Int32) (i : Nat) (hq : vp_in q 3) (hi : q.toNatClampNeg = i) (x : Int32) : Mi l D (tY cI cQ cJ) yX1_changeSetting wsX1_changeSetting ({ frames := 0, cells := 0, slots := 0, locals := 0 } : Room) [.ref (a 0), .int q, .int x] (cR cI a r) (cR cI a (bp r 11 i x)) (r 11 i) := by
  refine M_of (cc := cX1_changeSetting) (maxL := 4) (ret := some .int) (Qc := fun A => va_Qi (fun (x : Int32) (_ : Unit) => x = r 11 i) (fun _ t => Wd D (cR cI a (bp r 11 i x)) t) A) (by decide) rfl (Nat.le_of_ble_eq_true rfl) ?_
  intro p e s m below meth c A ls hB hE hP hK hD hA hl
  obtain ⟨hx, hb, hr, hml, hts, hown, hlocks⟩ := hB
  have hS : va_S A s.heap s.heap [] := va_S.rf
  have hl : lv_has ls 4 [(0, .ref (a 0)), (1, .int q), (2, .int x)] := hl
  have hinX1 : ∀ w ∈ u_ws RX1 TX1 16, w ∈ wsX1_changeSetting := by decide +kernel
  have fl45 := hts (.fieldLink RX1 45 "RoofDrains$Roof" "values" "[I") (by decide +kernel)
  refine lv_aload_n hx hb dX1_changeSetting_0 rfl (lv_at hl 0 rfl) ?_
  refine va_get (D := D) (ci := 1) (v := .ref (a 12)) (C := RX1) (T := TX1) (N := 16) hx hb hts hinX1 hown hK hP 0 rfl rfl 11 (by decide) fl45 (fun _ h9 => h9) rfl dX1_changeSetting_1 ?_
  refine lv_iload_n hx hb dX1_changeSetting_4 rfl (lv_at hl 1 rfl) ?_
  refine k_iald (k := i) (v := r 11 i) hx hb hK hP 12 0 rfl rfl hq hi (rfl) dX1_changeSetting_5 ?_
  refine lv_topi (fun v3_1 ev3_1 => ?_)
  refine lv_istore_n (lv' := [(3, .int v3_1), (0, .ref (a 0)), (1, .int q), (2, .int x)]) hx hb dX1_changeSetting_6 rfl hl (by decide) rfl (fun ls hl => ?_)
  refine lv_aload_n hx hb dX1_changeSetting_7 rfl (lv_at hl 1 rfl) ?_
  refine va_get (D := D) (ci := 1) (v := .ref (a 12)) (C := RX1) (T := TX1) (N := 16) hx hb hts hinX1 hown hK hP 0 rfl rfl 11 (by decide) fl45 (fun _ h9 => h9) rfl dX1_changeSetting_8 ?_
  refine lv_iload_n hx hb dX1_changeSetting_11 rfl (lv_at hl 2 rfl) ?_
  refine lv_iload_n hx hb dX1_changeSetting_12 rfl (lv_at hl 3 rfl) ?_
  refine k_iast (k := i) (ws' := cR cI a (bp r 11 i x)) hx hb hK hP hD hS 12 0 rfl rfl hq hi rfl dX1_changeSetting_13 (fun H locs hP hD hS => ?_)
  refine lv_iload_n hx hb dX1_changeSetting_14 rfl (lv_at hl 0 rfl) ?_
  exact k_iret hx hb hr hlocks hS hP dX1_changeSetting_15 (by (subst ev3_1; first | rfl | (simp only [↓reduceIte]; done) | (simp []; done)))

set_option maxHeartbeats 4000000 in
set_option maxRecDepth 100000 in
theorem mX1_wetPlane (l : Launch) (D : va_G) (cI cQ cJ : ClassId) (a : Nat → Nat) (r : rB) (q : Int32) (i : Nat) (hq : vp_in q 6) (hi : q.toNatClampNeg = i) (x : Int32) : Mv l D (tY cI cQ cJ) yX1_wetPlane wsX1_wetPlane ({ frames := 1, cells := 0, slots := 0, locals := 20 } : Room) [.ref (a 0), .int q, .int x] (cR cI a r) (cR cI a (wet r i x)) := by
  refine M_of (cc := cX1_wetPlane) (maxL := 6) (ret := none) (Qc := fun A => va_Qv (fun (_ : Unit) => True) (fun _ t => Wd D (cR cI a (wet r i x)) t) A) (by decide) rfl (Nat.le_of_ble_eq_true rfl) ?_
  intro p e s m below meth c A ls hB hE hP hK hD hA hl
  obtain ⟨hx, hb, hr, hml, hts, hown, hlocks⟩ := hB
  have hS : va_S A s.heap s.heap [] := va_S.rf
  have hl : lv_has ls 6 [(0, .ref (a 0)), (1, .int q), (2, .int x)] := hl
  have hinX1 : ∀ w ∈ u_ws RX1 TX1 16, w ∈ wsX1_wetPlane := by decide +kernel
  have fl9 := hts (.fieldLink RX1 9 "RoofDrains$Roof" "area" "[I") (by decide +kernel)
  have fl61 := hts (.fieldLink RX1 61 "RoofDrains$Roof" "rained" "I") (by decide +kernel)
  have fl21 := hts (.fieldLink RX1 21 "RoofDrains$Roof" "onPlane" "[I") (by decide +kernel)
  have fl15 := hts (.fieldLink RX1 15 "RoofDrains$Roof" "slope" "[I") (by decide +kernel)
  have fl18 := hts (.fieldLink RX1 18 "RoofDrains$Roof" "leadsTo" "[I") (by decide +kernel)
  have fl36 := hts (.fieldLink RX1 36 "RoofDrains$Roof" "inGutter" "[I") (by decide +kernel)
  refine lv_aload_n hx hb dX1_wetPlane_0 rfl (lv_at hl 0 rfl) ?_
  refine va_get (D := D) (ci := 1) (v := .ref (a 1)) (C := RX1) (T := TX1) (N := 16) hx hb hts hinX1 hown hK hP 0 rfl rfl 0 (by decide) fl9 (fun _ h9 => h9) rfl dX1_wetPlane_1 ?_
  refine lv_iload_n hx hb dX1_wetPlane_4 rfl (lv_at hl 1 rfl) ?_
  refine k_iald (k := i) (v := r 0 i) hx hb hK hP 1 0 rfl rfl hq hi (rfl) dX1_wetPlane_5 ?_
  refine lv_iload_n hx hb dX1_wetPlane_6 rfl (lv_at hl 2 rfl) ?_
  refine lv_imul hx hb dX1_wetPlane_7 ?_
  refine lv_bipush (v := 10) hx hb dX1_wetPlane_8 (by decide) ?_
  refine lv_idiv hx hb dX1_wetPlane_10 (by decide) ?_
  refine lv_topi (fun v3_1 ev3_1 => ?_)
  refine lv_istore_n (lv' := [(3, .int v3_1), (0, .ref (a 0)), (1, .int q), (2, .int x)]) hx hb dX1_wetPlane_11 rfl hl (by decide) rfl (fun ls hl => ?_)
  refine lv_aload_n hx hb dX1_wetPlane_12 rfl (lv_at hl 1 rfl) ?_
  refine lv_dup hx hb dX1_wetPlane_13 rfl ?_
  refine va_get (D := D) (ci := 1) (v := .int (r 12 2)) (C := RX1) (T := TX1) (N := 16) hx hb hts hinX1 hown hK hP 0 rfl rfl 14 (by decide) fl61 (fun _ h9 => h9) (congrArg (fun z => some (Value.int z)) (rfl)) dX1_wetPlane_14 ?_
  refine lv_iload_n hx hb dX1_wetPlane_17 rfl (lv_at hl 0 rfl) ?_
  refine lv_iadd hx hb dX1_wetPlane_18 ?_
  refine lv_topi (fun f_2 ef_2 => ?_)
  refine k_put (D := D) (ci := 1) (v := .int f_2) (ty := .int) (C := RX1) (T := TX1) (N := 16) hx hb hts hinX1 tyX1 tyX1_ok nmX1 hown hK hP hD hS 0 rfl rfl 14 (by decide) fl61 (fun _ h9 => h9) rfl (by decide +kernel) rfl rfl (Nat.le_of_ble_eq_true rfl) (ws' := cR cI a (bp r 12 2 f_2)) rfl dX1_wetPlane_19 (fun H locs hP hD hS => ?_)
  refine lv_aload_n hx hb dX1_wetPlane_22 rfl (lv_at hl 1 rfl) ?_
  refine va_get (D := D) (ci := 1) (v := .ref (a 4)) (C := RX1) (T := TX1) (N := 16) hx hb hts hinX1 hown hK hP 0 rfl rfl 3 (by decide) fl21 (fun _ h9 => h9) rfl dX1_wetPlane_23 ?_
  refine lv_iload_n hx hb dX1_wetPlane_26 rfl (lv_at hl 2 rfl) ?_
  refine lv_dup2_11 hx hb dX1_wetPlane_27 rfl rfl ?_
  refine k_iald (k := i) (v := r 3 i) hx hb hK hP 4 0 rfl rfl hq hi ((bp_rw (by decide)).trans (rfl)) dX1_wetPlane_28 ?_
  refine lv_iload_n hx hb dX1_wetPlane_29 rfl (lv_at hl 0 rfl) ?_
  refine lv_iadd hx hb dX1_wetPlane_30 ?_
  refine lv_topi (fun a_3 ea_3 => ?_)
  refine k_iast (k := i) (ws' := cR cI a (bp (bp r 12 2 f_2) 3 i a_3)) hx hb hK hP hD hS 4 0 rfl rfl hq hi rfl dX1_wetPlane_31 (fun H locs hP hD hS => ?_)
  refine lv_aload_n hx hb dX1_wetPlane_32 rfl (lv_at hl 1 rfl) ?_
  refine va_get (D := D) (ci := 1) (v := .ref (a 4)) (C := RX1) (T := TX1) (N := 16) hx hb hts hinX1 hown hK hP 0 rfl rfl 3 (by decide) fl21 (fun _ h9 => h9) rfl dX1_wetPlane_33 ?_
  refine lv_iload_n hx hb dX1_wetPlane_36 rfl (lv_at hl 2 rfl) ?_
  refine k_iald (k := i) (v := a_3) hx hb hK hP 4 0 rfl rfl hq hi (bp_eq) dX1_wetPlane_37 ?_
  refine lv_iconst (v := 5) hx hb dX1_wetPlane_38 (by decide) ?_
  refine lv_aload_n hx hb dX1_wetPlane_39 rfl (lv_at hl 1 rfl) ?_
  refine va_get (D := D) (ci := 1) (v := .ref (a 2)) (C := RX1) (T := TX1) (N := 16) hx hb hts hinX1 hown hK hP 0 rfl rfl 1 (by decide) fl15 (fun _ h9 => h9) rfl dX1_wetPlane_40 ?_
  refine lv_iload_n hx hb dX1_wetPlane_43 rfl (lv_at hl 2 rfl) ?_
  refine k_iald (k := i) (v := r 1 i) hx hb hK hP 2 0 rfl rfl hq hi ((bp_rw (by decide)).trans ((bp_rw (by decide)).trans (rfl))) dX1_wetPlane_44 ?_
  refine lv_iadd hx hb dX1_wetPlane_45 ?_
  refine lv_imul hx hb dX1_wetPlane_46 ?_
  refine lv_bipush (v := 14) hx hb dX1_wetPlane_47 (by decide) ?_
  refine lv_idiv hx hb dX1_wetPlane_49 (by decide) ?_
  refine lv_topi (fun v4_4 ev4_4 => ?_)
  refine lv_istore (lv' := [(4, .int v4_4), (3, .int v3_1), (0, .ref (a 0)), (1, .int q), (2, .int x)]) hx hb dX1_wetPlane_50 hl (by decide) rfl (fun ls hl => ?_)
  refine lv_iload hx hb dX1_wetPlane_52 (lv_at hl 0 rfl) ?_
  refine lv_if_ne (tgt := 69) hx hb dX1_wetPlane_54 (by decide) (fun c_5 => ?_) (fun c_5 => ?_)
  · skip
    refine lv_aload_n hx hb dX1_wetPlane_69 rfl (lv_at hl 2 rfl) ?_
    refine va_get (D := D) (ci := 1) (v := .ref (a 4)) (C := RX1) (T := TX1) (N := 16) hx hb hts hinX1 hown hK hP 0 rfl rfl 3 (by decide) fl21 (fun _ h9 => h9) rfl dX1_wetPlane_70 ?_
    refine lv_iload_n hx hb dX1_wetPlane_73 rfl (lv_at hl 3 rfl) ?_
    refine lv_dup2_11 hx hb dX1_wetPlane_74 rfl rfl ?_
    refine k_iald (k := i) (v := a_3) hx hb hK hP 4 0 rfl rfl hq hi (bp_eq) dX1_wetPlane_75 ?_
    refine lv_iload hx hb dX1_wetPlane_76 (lv_at hl 0 rfl) ?_
    refine lv_isub hx hb dX1_wetPlane_78 ?_
    refine lv_topi (fun a_6 ea_6 => ?_)
    refine k_iast (k := i) (ws' := cR cI a (bp (bp (bp r 12 2 f_2) 3 i a_3) 3 i a_6)) hx hb hK hP hD hS 4 0 rfl rfl hq hi rfl dX1_wetPlane_79 (fun H locs hP hD hS => ?_)
    refine lv_aload_n hx hb dX1_wetPlane_80 rfl (lv_at hl 2 rfl) ?_
    refine va_get (D := D) (ci := 1) (v := .ref (a 3)) (C := RX1) (T := TX1) (N := 16) hx hb hts hinX1 hown hK hP 0 rfl rfl 2 (by decide) fl18 (fun _ h9 => h9) rfl dX1_wetPlane_81 ?_
    refine lv_iload_n hx hb dX1_wetPlane_84 rfl (lv_at hl 3 rfl) ?_
    refine k_iald (k := i) (v := r 2 i) hx hb hK hP 3 0 rfl rfl hq hi ((bp_rw (by decide)).trans ((bp_rw (by decide)).trans ((bp_rw (by decide)).trans (rfl)))) dX1_wetPlane_85 ?_
    refine lv_topi (fun v5_7 ev5_7 => ?_)
    refine lv_istore (lv' := [(5, .int v5_7), (4, .int v4_4), (3, .int v3_1), (0, .ref (a 0)), (1, .int q), (2, .int x)]) hx hb dX1_wetPlane_86 hl (by decide) rfl (fun ls hl => ?_)
    refine lv_iload hx hb dX1_wetPlane_88 (lv_at hl 0 rfl) ?_
    refine k_calli (wc := ([] : va_W)) (w' := ([] : va_W)) (wn := cR cI a (bp (bp (bp r 12 2 f_2) 3 i a_3) 3 i a_6)) (va_runSN (As := [.int v5_7]) (rest := []) ⟨hx, hb, hml, hown, hts⟩ (mX3_isGutter l D cI cQ cJ v5_7 _) ⟨va_cnB 1 hts gX1_wetPlane_X3_isGutter_n67 rfl rfl rfl hE.1 (hts (.initialized RX3) (by decide +kernel)) (by decide +kernel) ⟨Nat.le_of_ble_eq_true rfl, Nat.le_of_ble_eq_true rfl⟩, hts (.static yX3_isGutter) (by decide +kernel), trivial⟩ (k_preS (wc := ([] : va_W)) hE hK hP hD [] (by decide) rfl [.int v5_7]) rfl rfl hl.1 rfl (lv_room (Nat.le_of_ble_eq_true rfl)) dX1_wetPlane_90 ⟨Nat.zero_le _, Nat.zero_le _⟩) hP hD hS hA [] rfl rfl rfl (fun H locs hP hD hS => ?_)
    refine lv_if_eq (tgt := 108) hx hb dX1_wetPlane_93 (by decide) (fun c_8 => ?_) (fun c_8 => ?_)
    · skip
      have e9 : (bp (bp (bp r 12 2 f_2) 3 i a_3) 3 i a_6 : rB) = wet r i x := by (replace ev5_7 := ev5_7.symm; subst ev5_7; replace ea_6 := ea_6.symm; subst ea_6; replace ev4_4 := ev4_4.symm; subst ev4_4; replace ea_3 := ea_3.symm; subst ea_3; replace ef_2 := ef_2.symm; subst ef_2; replace ev3_1 := ev3_1.symm; subst ev3_1; simp only [wet, c_5, c_8, ↓reduceIte])
      rw [e9] at hP
      exact k_vret hx hb hr hlocks hS hP dX1_wetPlane_108
    · skip
      refine lv_aload_n hx hb dX1_wetPlane_96 rfl (lv_at hl 3 rfl) ?_
      refine va_get (D := D) (ci := 1) (v := .ref (a 9)) (C := RX1) (T := TX1) (N := 16) hx hb hts hinX1 hown hK hP 0 rfl rfl 8 (by decide) fl36 (fun _ h9 => h9) rfl dX1_wetPlane_97 ?_
      refine lv_iload hx hb dX1_wetPlane_100 (lv_at hl 0 rfl) ?_
      refine lv_dup2_11 hx hb dX1_wetPlane_102 rfl rfl ?_
      refine k_iald (k := v5_7.toNatClampNeg) (v := r 8 v5_7.toNatClampNeg) hx hb hK hP 9 0 rfl rfl (zL_in (n := 6) rfl rfl c_8) rfl ((bp_rw (by decide)).trans ((bp_rw (by decide)).trans ((bp_rw (by decide)).trans (rfl)))) dX1_wetPlane_103 ?_
      refine lv_iload hx hb dX1_wetPlane_104 (lv_at hl 1 rfl) ?_
      refine lv_iadd hx hb dX1_wetPlane_106 ?_
      refine lv_topi (fun a_9 ea_9 => ?_)
      refine k_iast (k := v5_7.toNatClampNeg) (ws' := cR cI a (bp (bp (bp (bp r 12 2 f_2) 3 i a_3) 3 i a_6) 8 v5_7.toNatClampNeg a_9)) hx hb hK hP hD hS 9 0 rfl rfl (zL_in (n := 6) rfl rfl c_8) rfl rfl dX1_wetPlane_107 (fun H locs hP hD hS => ?_)
      have e9 : (bp (bp (bp (bp r 12 2 f_2) 3 i a_3) 3 i a_6) 8 v5_7.toNatClampNeg a_9 : rB) = wet r i x := by (replace ea_9 := ea_9.symm; subst ea_9; replace ev5_7 := ev5_7.symm; subst ev5_7; replace ea_6 := ea_6.symm; subst ea_6; replace ev4_4 := ev4_4.symm; subst ev4_4; replace ea_3 := ea_3.symm; subst ea_3; replace ef_2 := ef_2.symm; subst ef_2; replace ev3_1 := ev3_1.symm; subst ev3_1; simp only [wet, c_5, c_8, ↓reduceIte])
      rw [e9] at hP
      exact k_vret hx hb hr hlocks hS hP dX1_wetPlane_108
  · skip
    refine lv_aload_n hx hb dX1_wetPlane_57 rfl (lv_at hl 2 rfl) ?_
    refine va_get (D := D) (ci := 1) (v := .ref (a 4)) (C := RX1) (T := TX1) (N := 16) hx hb hts hinX1 hown hK hP 0 rfl rfl 3 (by decide) fl21 (fun _ h9 => h9) rfl dX1_wetPlane_58 ?_
    refine lv_iload_n hx hb dX1_wetPlane_61 rfl (lv_at hl 3 rfl) ?_
    refine k_iald (k := i) (v := a_3) hx hb hK hP 4 0 rfl rfl hq hi (bp_eq) dX1_wetPlane_62 ?_
    refine lv_if_le (tgt := 69) hx hb dX1_wetPlane_63 (by decide) (fun c_10 => ?_) (fun c_10 => ?_)
    · skip
      refine lv_aload_n hx hb dX1_wetPlane_69 rfl (lv_at hl 2 rfl) ?_
      refine va_get (D := D) (ci := 1) (v := .ref (a 4)) (C := RX1) (T := TX1) (N := 16) hx hb hts hinX1 hown hK hP 0 rfl rfl 3 (by decide) fl21 (fun _ h9 => h9) rfl dX1_wetPlane_70 ?_
      refine lv_iload_n hx hb dX1_wetPlane_73 rfl (lv_at hl 3 rfl) ?_
      refine lv_dup2_11 hx hb dX1_wetPlane_74 rfl rfl ?_
      refine k_iald (k := i) (v := a_3) hx hb hK hP 4 0 rfl rfl hq hi (bp_eq) dX1_wetPlane_75 ?_
      refine lv_iload hx hb dX1_wetPlane_76 (lv_at hl 0 rfl) ?_
      refine lv_isub hx hb dX1_wetPlane_78 ?_
      refine lv_topi (fun a_11 ea_11 => ?_)
      refine k_iast (k := i) (ws' := cR cI a (bp (bp (bp r 12 2 f_2) 3 i a_3) 3 i a_11)) hx hb hK hP hD hS 4 0 rfl rfl hq hi rfl dX1_wetPlane_79 (fun H locs hP hD hS => ?_)
      refine lv_aload_n hx hb dX1_wetPlane_80 rfl (lv_at hl 2 rfl) ?_
      refine va_get (D := D) (ci := 1) (v := .ref (a 3)) (C := RX1) (T := TX1) (N := 16) hx hb hts hinX1 hown hK hP 0 rfl rfl 2 (by decide) fl18 (fun _ h9 => h9) rfl dX1_wetPlane_81 ?_
      refine lv_iload_n hx hb dX1_wetPlane_84 rfl (lv_at hl 3 rfl) ?_
      refine k_iald (k := i) (v := r 2 i) hx hb hK hP 3 0 rfl rfl hq hi ((bp_rw (by decide)).trans ((bp_rw (by decide)).trans ((bp_rw (by decide)).trans (rfl)))) dX1_wetPlane_85 ?_
      refine lv_topi (fun v5_12 ev5_12 => ?_)
      refine lv_istore (lv' := [(5, .int v5_12), (4, .int v4_4), (3, .int v3_1), (0, .ref (a 0)), (1, .int q), (2, .int x)]) hx hb dX1_wetPlane_86 hl (by decide) rfl (fun ls hl => ?_)
      refine lv_iload hx hb dX1_wetPlane_88 (lv_at hl 0 rfl) ?_
      refine k_calli (wc := ([] : va_W)) (w' := ([] : va_W)) (wn := cR cI a (bp (bp (bp r 12 2 f_2) 3 i a_3) 3 i a_11)) (va_runSN (As := [.int v5_12]) (rest := []) ⟨hx, hb, hml, hown, hts⟩ (mX3_isGutter l D cI cQ cJ v5_12 _) ⟨va_cnB 1 hts gX1_wetPlane_X3_isGutter_n67 rfl rfl rfl hE.1 (hts (.initialized RX3) (by decide +kernel)) (by decide +kernel) ⟨Nat.le_of_ble_eq_true rfl, Nat.le_of_ble_eq_true rfl⟩, hts (.static yX3_isGutter) (by decide +kernel), trivial⟩ (k_preS (wc := ([] : va_W)) hE hK hP hD [] (by decide) rfl [.int v5_12]) rfl rfl hl.1 rfl (lv_room (Nat.le_of_ble_eq_true rfl)) dX1_wetPlane_90 ⟨Nat.zero_le _, Nat.zero_le _⟩) hP hD hS hA [] rfl rfl rfl (fun H locs hP hD hS => ?_)
      refine lv_if_eq (tgt := 108) hx hb dX1_wetPlane_93 (by decide) (fun c_13 => ?_) (fun c_13 => ?_)
      · skip
        have e9 : (bp (bp (bp r 12 2 f_2) 3 i a_3) 3 i a_11 : rB) = wet r i x := by (replace ev5_12 := ev5_12.symm; subst ev5_12; replace ea_11 := ea_11.symm; subst ea_11; replace ev4_4 := ev4_4.symm; subst ev4_4; replace ea_3 := ea_3.symm; subst ea_3; replace ef_2 := ef_2.symm; subst ef_2; replace ev3_1 := ev3_1.symm; subst ev3_1; simp only [wet, c_5, c_10, c_13, ↓reduceIte])
        rw [e9] at hP
        exact k_vret hx hb hr hlocks hS hP dX1_wetPlane_108
      · skip
        refine lv_aload_n hx hb dX1_wetPlane_96 rfl (lv_at hl 3 rfl) ?_
        refine va_get (D := D) (ci := 1) (v := .ref (a 9)) (C := RX1) (T := TX1) (N := 16) hx hb hts hinX1 hown hK hP 0 rfl rfl 8 (by decide) fl36 (fun _ h9 => h9) rfl dX1_wetPlane_97 ?_
        refine lv_iload hx hb dX1_wetPlane_100 (lv_at hl 0 rfl) ?_
        refine lv_dup2_11 hx hb dX1_wetPlane_102 rfl rfl ?_
        refine k_iald (k := v5_12.toNatClampNeg) (v := r 8 v5_12.toNatClampNeg) hx hb hK hP 9 0 rfl rfl (zL_in (n := 6) rfl rfl c_13) rfl ((bp_rw (by decide)).trans ((bp_rw (by decide)).trans ((bp_rw (by decide)).trans (rfl)))) dX1_wetPlane_103 ?_
        refine lv_iload hx hb dX1_wetPlane_104 (lv_at hl 1 rfl) ?_
        refine lv_iadd hx hb dX1_wetPlane_106 ?_
        refine lv_topi (fun a_14 ea_14 => ?_)
        refine k_iast (k := v5_12.toNatClampNeg) (ws' := cR cI a (bp (bp (bp (bp r 12 2 f_2) 3 i a_3) 3 i a_11) 8 v5_12.toNatClampNeg a_14)) hx hb hK hP hD hS 9 0 rfl rfl (zL_in (n := 6) rfl rfl c_13) rfl rfl dX1_wetPlane_107 (fun H locs hP hD hS => ?_)
        have e9 : (bp (bp (bp (bp r 12 2 f_2) 3 i a_3) 3 i a_11) 8 v5_12.toNatClampNeg a_14 : rB) = wet r i x := by (replace ea_14 := ea_14.symm; subst ea_14; replace ev5_12 := ev5_12.symm; subst ev5_12; replace ea_11 := ea_11.symm; subst ea_11; replace ev4_4 := ev4_4.symm; subst ev4_4; replace ea_3 := ea_3.symm; subst ea_3; replace ef_2 := ef_2.symm; subst ef_2; replace ev3_1 := ev3_1.symm; subst ev3_1; simp only [wet, c_5, c_10, c_13, ↓reduceIte])
        rw [e9] at hP
        exact k_vret hx hb hr hlocks hS hP dX1_wetPlane_108
    · skip
      refine lv_iconst (v := 1) hx hb dX1_wetPlane_66 (by decide) ?_
      refine lv_istore (lv' := [(4, .int 1), (3, .int v3_1), (0, .ref (a 0)), (1, .int q), (2, .int x)]) hx hb dX1_wetPlane_67 hl (by decide) rfl (fun ls hl => ?_)
      refine lv_aload_n hx hb dX1_wetPlane_69 rfl (lv_at hl 2 rfl) ?_
      refine va_get (D := D) (ci := 1) (v := .ref (a 4)) (C := RX1) (T := TX1) (N := 16) hx hb hts hinX1 hown hK hP 0 rfl rfl 3 (by decide) fl21 (fun _ h9 => h9) rfl dX1_wetPlane_70 ?_
      refine lv_iload_n hx hb dX1_wetPlane_73 rfl (lv_at hl 3 rfl) ?_
      refine lv_dup2_11 hx hb dX1_wetPlane_74 rfl rfl ?_
      refine k_iald (k := i) (v := a_3) hx hb hK hP 4 0 rfl rfl hq hi (bp_eq) dX1_wetPlane_75 ?_
      refine lv_iload hx hb dX1_wetPlane_76 (lv_at hl 0 rfl) ?_
      refine lv_isub hx hb dX1_wetPlane_78 ?_
      refine lv_topi (fun a_15 ea_15 => ?_)
      refine k_iast (k := i) (ws' := cR cI a (bp (bp (bp r 12 2 f_2) 3 i a_3) 3 i a_15)) hx hb hK hP hD hS 4 0 rfl rfl hq hi rfl dX1_wetPlane_79 (fun H locs hP hD hS => ?_)
      refine lv_aload_n hx hb dX1_wetPlane_80 rfl (lv_at hl 2 rfl) ?_
      refine va_get (D := D) (ci := 1) (v := .ref (a 3)) (C := RX1) (T := TX1) (N := 16) hx hb hts hinX1 hown hK hP 0 rfl rfl 2 (by decide) fl18 (fun _ h9 => h9) rfl dX1_wetPlane_81 ?_
      refine lv_iload_n hx hb dX1_wetPlane_84 rfl (lv_at hl 3 rfl) ?_
      refine k_iald (k := i) (v := r 2 i) hx hb hK hP 3 0 rfl rfl hq hi ((bp_rw (by decide)).trans ((bp_rw (by decide)).trans ((bp_rw (by decide)).trans (rfl)))) dX1_wetPlane_85 ?_
      refine lv_topi (fun v5_16 ev5_16 => ?_)
      refine lv_istore (lv' := [(5, .int v5_16), (4, .int 1), (3, .int v3_1), (0, .ref (a 0)), (1, .int q), (2, .int x)]) hx hb dX1_wetPlane_86 hl (by decide) rfl (fun ls hl => ?_)
      refine lv_iload hx hb dX1_wetPlane_88 (lv_at hl 0 rfl) ?_
      refine k_calli (wc := ([] : va_W)) (w' := ([] : va_W)) (wn := cR cI a (bp (bp (bp r 12 2 f_2) 3 i a_3) 3 i a_15)) (va_runSN (As := [.int v5_16]) (rest := []) ⟨hx, hb, hml, hown, hts⟩ (mX3_isGutter l D cI cQ cJ v5_16 _) ⟨va_cnB 1 hts gX1_wetPlane_X3_isGutter_n67 rfl rfl rfl hE.1 (hts (.initialized RX3) (by decide +kernel)) (by decide +kernel) ⟨Nat.le_of_ble_eq_true rfl, Nat.le_of_ble_eq_true rfl⟩, hts (.static yX3_isGutter) (by decide +kernel), trivial⟩ (k_preS (wc := ([] : va_W)) hE hK hP hD [] (by decide) rfl [.int v5_16]) rfl rfl hl.1 rfl (lv_room (Nat.le_of_ble_eq_true rfl)) dX1_wetPlane_90 ⟨Nat.zero_le _, Nat.zero_le _⟩) hP hD hS hA [] rfl rfl rfl (fun H locs hP hD hS => ?_)
      refine lv_if_eq (tgt := 108) hx hb dX1_wetPlane_93 (by decide) (fun c_17 => ?_) (fun c_17 => ?_)
      · skip
        have e9 : (bp (bp (bp r 12 2 f_2) 3 i a_3) 3 i a_15 : rB) = wet r i x := by (replace ev5_16 := ev5_16.symm; subst ev5_16; replace ea_15 := ea_15.symm; subst ea_15; replace ev4_4 := ev4_4.symm; subst ev4_4; replace ea_3 := ea_3.symm; subst ea_3; replace ef_2 := ef_2.symm; subst ef_2; replace ev3_1 := ev3_1.symm; subst ev3_1; simp only [wet, c_5, c_10, c_17, ↓reduceIte])
        rw [e9] at hP
        exact k_vret hx hb hr hlocks hS hP dX1_wetPlane_108
      · skip
        refine lv_aload_n hx hb dX1_wetPlane_96 rfl (lv_at hl 3 rfl) ?_
        refine va_get (D := D) (ci := 1) (v := .ref (a 9)) (C := RX1) (T := TX1) (N := 16) hx hb hts hinX1 hown hK hP 0 rfl rfl 8 (by decide) fl36 (fun _ h9 => h9) rfl dX1_wetPlane_97 ?_
        refine lv_iload hx hb dX1_wetPlane_100 (lv_at hl 0 rfl) ?_
        refine lv_dup2_11 hx hb dX1_wetPlane_102 rfl rfl ?_
        refine k_iald (k := v5_16.toNatClampNeg) (v := r 8 v5_16.toNatClampNeg) hx hb hK hP 9 0 rfl rfl (zL_in (n := 6) rfl rfl c_17) rfl ((bp_rw (by decide)).trans ((bp_rw (by decide)).trans ((bp_rw (by decide)).trans (rfl)))) dX1_wetPlane_103 ?_
        refine lv_iload hx hb dX1_wetPlane_104 (lv_at hl 1 rfl) ?_
        refine lv_iadd hx hb dX1_wetPlane_106 ?_
        refine lv_topi (fun a_18 ea_18 => ?_)
        refine k_iast (k := v5_16.toNatClampNeg) (ws' := cR cI a (bp (bp (bp (bp r 12 2 f_2) 3 i a_3) 3 i a_15) 8 v5_16.toNatClampNeg a_18)) hx hb hK hP hD hS 9 0 rfl rfl (zL_in (n := 6) rfl rfl c_17) rfl rfl dX1_wetPlane_107 (fun H locs hP hD hS => ?_)
        have e9 : (bp (bp (bp (bp r 12 2 f_2) 3 i a_3) 3 i a_15) 8 v5_16.toNatClampNeg a_18 : rB) = wet r i x := by (replace ea_18 := ea_18.symm; subst ea_18; replace ev5_16 := ev5_16.symm; subst ev5_16; replace ea_15 := ea_15.symm; subst ea_15; replace ev4_4 := ev4_4.symm; subst ev4_4; replace ea_3 := ea_3.symm; subst ea_3; replace ef_2 := ef_2.symm; subst ef_2; replace ev3_1 := ev3_1.symm; subst ev3_1; simp only [wet, c_5, c_10, c_17, ↓reduceIte])
        rw [e9] at hP
        exact k_vret hx hb hr hlocks hS hP dX1_wetPlane_108

set_option maxHeartbeats 4000000 in
set_option maxRecDepth 100000 in
theorem mX1_overflow (l : Launch) (D : va_G) (cI cQ cJ : ClassId) (a : Nat → Nat) (r : rB) (q : Int32) (i : Nat) (hq : vp_in q 6) (hi : q.toNatClampNeg = i) : Mv l D (tY cI cQ cJ) yX1_overflow wsX1_overflow ({ frames := 1, cells := 0, slots := 0, locals := 21 } : Room) [.ref (a 0), .int q] (cR cI a r) (cR cI a (ovf r i)) := by
  refine M_of (cc := cX1_overflow) (maxL := 4) (ret := none) (Qc := fun A => va_Qv (fun (_ : Unit) => True) (fun _ t => Wd D (cR cI a (ovf r i)) t) A) (by decide) rfl (Nat.le_of_ble_eq_true rfl) ?_
  intro p e s m below meth c A ls hB hE hP hK hD hA hl
  obtain ⟨hx, hb, hr, hml, hts, hown, hlocks⟩ := hB
  have hS : va_S A s.heap s.heap [] := va_S.rf
  have hl : lv_has ls 4 [(0, .ref (a 0)), (1, .int q)] := hl
  have hinX1 : ∀ w ∈ u_ws RX1 TX1 16, w ∈ wsX1_overflow := by decide +kernel
  have fl36 := hts (.fieldLink RX1 36 "RoofDrains$Roof" "inGutter" "[I") (by decide +kernel)
  have fl33 := hts (.fieldLink RX1 33 "RoofDrains$Roof" "valleyTo" "[I") (by decide +kernel)
  have fl39 := hts (.fieldLink RX1 39 "RoofDrains$Roof" "spilt" "[I") (by decide +kernel)
  refine lv_aload_n hx hb dX1_overflow_0 rfl (lv_at hl 0 rfl) ?_
  refine va_get (D := D) (ci := 1) (v := .ref (a 9)) (C := RX1) (T := TX1) (N := 16) hx hb hts hinX1 hown hK hP 0 rfl rfl 8 (by decide) fl36 (fun _ h9 => h9) rfl dX1_overflow_1 ?_
  refine lv_iload_n hx hb dX1_overflow_4 rfl (lv_at hl 1 rfl) ?_
  refine k_iald (k := i) (v := r 8 i) hx hb hK hP 9 0 rfl rfl hq hi (rfl) dX1_overflow_5 ?_
  refine lv_aload_n hx hb dX1_overflow_6 rfl (lv_at hl 0 rfl) ?_
  refine lv_iload_n hx hb dX1_overflow_7 rfl (lv_at hl 1 rfl) ?_
  refine k_calli (wc := cR cI a r) (w' := cR cI a r) (wn := cR cI a r) (va_runV (As := [.int q]) (rest := [.int (r 8 i)]) ⟨hx, hb, hml, hown, hts⟩ (mX1_room l D cI cQ cJ a r q i hq hi _) (cwV 1 hts gX1_overflow_X1_room rfl rfl rfl (by decide +kernel) ⟨Nat.le_of_ble_eq_true rfl, Nat.le_of_ble_eq_true rfl⟩) (k_preV (wc := cR cI a r) hE hK hP hD [0, 1, 2, 3, 4, 5, 6, 7, 8, 9, 10, 11, 12] (by decide) rfl (ci := 1) (q0 := 0) rfl rfl [.int q]) rfl rfl hl.1 rfl (lv_room (Nat.le_of_ble_eq_true rfl)) dX1_overflow_8 ⟨Nat.zero_le _, Nat.zero_le _⟩) hP hD hS hA [0, 1, 2, 3, 4, 5, 6, 7, 8, 9, 10, 11, 12] rfl rfl rfl (fun H locs hP hD hS => ?_)
  refine lv_isub hx hb dX1_overflow_11 ?_
  refine lv_topi (fun v2_1 ev2_1 => ?_)
  refine lv_istore_n (lv' := [(2, .int v2_1), (0, .ref (a 0)), (1, .int q)]) hx hb dX1_overflow_12 rfl hl (by decide) rfl (fun ls hl => ?_)
  refine lv_iload_n hx hb dX1_overflow_13 rfl (lv_at hl 0 rfl) ?_
  refine lv_if_gt (tgt := 18) hx hb dX1_overflow_14 (by decide) (fun c_2 => ?_) (fun c_2 => ?_)
  · skip
    refine lv_aload_n hx hb dX1_overflow_18 rfl (lv_at hl 1 rfl) ?_
    refine va_get (D := D) (ci := 1) (v := .ref (a 9)) (C := RX1) (T := TX1) (N := 16) hx hb hts hinX1 hown hK hP 0 rfl rfl 8 (by decide) fl36 (fun _ h9 => h9) rfl dX1_overflow_19 ?_
    refine lv_iload_n hx hb dX1_overflow_22 rfl (lv_at hl 2 rfl) ?_
    refine lv_dup2_11 hx hb dX1_overflow_23 rfl rfl ?_
    refine k_iald (k := i) (v := r 8 i) hx hb hK hP 9 0 rfl rfl hq hi (rfl) dX1_overflow_24 ?_
    refine lv_iload_n hx hb dX1_overflow_25 rfl (lv_at hl 0 rfl) ?_
    refine lv_isub hx hb dX1_overflow_26 ?_
    refine lv_topi (fun a_3 ea_3 => ?_)
    refine k_iast (k := i) (ws' := cR cI a (bp r 8 i a_3)) hx hb hK hP hD hS 9 0 rfl rfl hq hi rfl dX1_overflow_27 (fun H locs hP hD hS => ?_)
    refine lv_aload_n hx hb dX1_overflow_28 rfl (lv_at hl 1 rfl) ?_
    refine va_get (D := D) (ci := 1) (v := .ref (a 8)) (C := RX1) (T := TX1) (N := 16) hx hb hts hinX1 hown hK hP 0 rfl rfl 7 (by decide) fl33 (fun _ h9 => h9) rfl dX1_overflow_29 ?_
    refine lv_iload_n hx hb dX1_overflow_32 rfl (lv_at hl 2 rfl) ?_
    refine k_iald (k := i) (v := r 7 i) hx hb hK hP 8 0 rfl rfl hq hi ((bp_rw (by decide)).trans (rfl)) dX1_overflow_33 ?_
    refine lv_topi (fun v3_4 ev3_4 => ?_)
    refine lv_istore_n (lv' := [(3, .int v3_4), (2, .int v2_1), (0, .ref (a 0)), (1, .int q)]) hx hb dX1_overflow_34 rfl hl (by decide) rfl (fun ls hl => ?_)
    refine lv_iload_n hx hb dX1_overflow_35 rfl (lv_at hl 0 rfl) ?_
    refine k_calli (wc := ([] : va_W)) (w' := ([] : va_W)) (wn := cR cI a (bp r 8 i a_3)) (va_runSN (As := [.int v3_4]) (rest := []) ⟨hx, hb, hml, hown, hts⟩ (mX3_isGutter l D cI cQ cJ v3_4 _) ⟨va_cnB 1 hts gX1_overflow_X3_isGutter_n67 rfl rfl rfl hE.1 (hts (.initialized RX3) (by decide +kernel)) (by decide +kernel) ⟨Nat.le_of_ble_eq_true rfl, Nat.le_of_ble_eq_true rfl⟩, hts (.static yX3_isGutter) (by decide +kernel), trivial⟩ (k_preS (wc := ([] : va_W)) hE hK hP hD [] (by decide) rfl [.int v3_4]) rfl rfl hl.1 rfl (lv_room (Nat.le_of_ble_eq_true rfl)) dX1_overflow_36 ⟨Nat.zero_le _, Nat.zero_le _⟩) hP hD hS hA [] rfl rfl rfl (fun H locs hP hD hS => ?_)
    refine lv_if_eq (tgt := 55) hx hb dX1_overflow_39 (by decide) (fun c_5 => ?_) (fun c_5 => ?_)
    · skip
      refine lv_aload_n hx hb dX1_overflow_55 rfl (lv_at hl 2 rfl) ?_
      refine va_get (D := D) (ci := 1) (v := .ref (a 10)) (C := RX1) (T := TX1) (N := 16) hx hb hts hinX1 hown hK hP 0 rfl rfl 9 (by decide) fl39 (fun _ h9 => h9) rfl dX1_overflow_56 ?_
      refine lv_iload_n hx hb dX1_overflow_59 rfl (lv_at hl 3 rfl) ?_
      refine lv_dup2_11 hx hb dX1_overflow_60 rfl rfl ?_
      refine k_iald (k := i) (v := r 9 i) hx hb hK hP 10 0 rfl rfl hq hi ((bp_rw (by decide)).trans (rfl)) dX1_overflow_61 ?_
      refine lv_iload_n hx hb dX1_overflow_62 rfl (lv_at hl 1 rfl) ?_
      refine lv_iadd hx hb dX1_overflow_63 ?_
      refine lv_topi (fun a_6 ea_6 => ?_)
      refine k_iast (k := i) (ws' := cR cI a (bp (bp r 8 i a_3) 9 i a_6)) hx hb hK hP hD hS 10 0 rfl rfl hq hi rfl dX1_overflow_64 (fun H locs hP hD hS => ?_)
      have e9 : (bp (bp r 8 i a_3) 9 i a_6 : rB) = ovf r i := by (replace ea_6 := ea_6.symm; subst ea_6; replace ev3_4 := ev3_4.symm; subst ev3_4; replace ea_3 := ea_3.symm; subst ea_3; replace ev2_1 := ev2_1.symm; subst ev2_1; simp only [ovf, c_2, c_5, ↓reduceIte])
      rw [e9] at hP
      exact k_vret hx hb hr hlocks hS hP dX1_overflow_65
    · skip
      refine lv_aload_n hx hb dX1_overflow_42 rfl (lv_at hl 2 rfl) ?_
      refine va_get (D := D) (ci := 1) (v := .ref (a 9)) (C := RX1) (T := TX1) (N := 16) hx hb hts hinX1 hown hK hP 0 rfl rfl 8 (by decide) fl36 (fun _ h9 => h9) rfl dX1_overflow_43 ?_
      refine lv_iload_n hx hb dX1_overflow_46 rfl (lv_at hl 0 rfl) ?_
      refine lv_dup2_11 hx hb dX1_overflow_47 rfl rfl ?_
      refine k_iald (k := v3_4.toNatClampNeg) (v := (bp r 8 i a_3) 8 v3_4.toNatClampNeg) hx hb hK hP 9 0 rfl rfl (zL_in (n := 6) rfl rfl c_5) rfl (rfl) dX1_overflow_48 ?_
      refine lv_iload_n hx hb dX1_overflow_49 rfl (lv_at hl 1 rfl) ?_
      refine lv_iadd hx hb dX1_overflow_50 ?_
      refine lv_topi (fun a_7 ea_7 => ?_)
      refine k_iast (k := v3_4.toNatClampNeg) (ws' := cR cI a (bp (bp r 8 i a_3) 8 v3_4.toNatClampNeg a_7)) hx hb hK hP hD hS 9 0 rfl rfl (zL_in (n := 6) rfl rfl c_5) rfl rfl dX1_overflow_51 (fun H locs hP hD hS => ?_)
      refine lv_goto (tgt := 65) hx hb dX1_overflow_52 (by decide) ?_
      have e9 : (bp (bp r 8 i a_3) 8 v3_4.toNatClampNeg a_7 : rB) = ovf r i := by (replace ea_7 := ea_7.symm; subst ea_7; replace ev3_4 := ev3_4.symm; subst ev3_4; replace ea_3 := ea_3.symm; subst ea_3; replace ev2_1 := ev2_1.symm; subst ev2_1; simp only [ovf, c_2, c_5, ↓reduceIte])
      rw [e9] at hP
      exact k_vret hx hb hr hlocks hS hP dX1_overflow_65
  · skip
    have e9 : (r : rB) = ovf r i := by (replace ev2_1 := ev2_1.symm; subst ev2_1; simp only [ovf, c_2, ↓reduceIte])
    rw [e9] at hP
    exact k_vret hx hb hr hlocks hS hP dX1_overflow_17

set_option maxHeartbeats 4000000 in
set_option maxRecDepth 100000 in
theorem mX1_emptyIntoDrain (l : Launch) (D : va_G) (cI cQ cJ : ClassId) (a : Nat → Nat) (r : rB)  : Mv l D (tY cI cQ cJ) yX1_emptyIntoDrain wsX1_emptyIntoDrain ({ frames := 1, cells := 0, slots := 0, locals := 22 } : Room) [.ref (a 0)] (cR cI a r) (cR cI a (emptyD r)) := by
  refine M_of (cc := cX1_emptyIntoDrain) (maxL := 6) (ret := none) (Qc := fun A => va_Qv (fun (_ : Unit) => True) (fun _ t => Wd D (cR cI a (emptyD r)) t) A) (by decide) rfl (Nat.le_of_ble_eq_true rfl) ?_
  intro p e s m below meth c A ls hB hE hP hK hD hA hl
  obtain ⟨hx, hb, hr, hml, hts, hown, hlocks⟩ := hB
  have hS : va_S A s.heap s.heap [] := va_S.rf
  have hl : lv_has ls 6 [(0, .ref (a 0))] := hl
  have hinX1 : ∀ w ∈ u_ws RX1 TX1 16, w ∈ wsX1_emptyIntoDrain := by decide +kernel
  have fl45 := hts (.fieldLink RX1 45 "RoofDrains$Roof" "values" "[I") (by decide +kernel)
  have fl64 := hts (.fieldLink RX1 64 "RoofDrains$Roof" "backedUp" "I") (by decide +kernel)
  have fl36 := hts (.fieldLink RX1 36 "RoofDrains$Roof" "inGutter" "[I") (by decide +kernel)
  have mm1 := hts (.methodLink RX1 85 Lib.Math.min.name) (by decide +kernel)
  have mm2 := hts (.static Lib.Math.min.name) (by decide +kernel)
  have mm3 := hts (.initialized "java/lang/Math") (by decide +kernel)
  have mm4 := hts (.code Lib.Math.min.name Lib.Math.min.code 2 (some .int)) (by decide +kernel)
  have fl42 := hts (.fieldLink RX1 42 "RoofDrains$Roof" "drained" "[I") (by decide +kernel)
  refine lv_aload_n hx hb dX1_emptyIntoDrain_0 rfl (lv_at hl 0 rfl) ?_
  refine va_get (D := D) (ci := 1) (v := .ref (a 12)) (C := RX1) (T := TX1) (N := 16) hx hb hts hinX1 hown hK hP 0 rfl rfl 11 (by decide) fl45 (fun _ h9 => h9) rfl dX1_emptyIntoDrain_1 ?_
  refine lv_iconst (v := 0) hx hb dX1_emptyIntoDrain_4 (by decide) ?_
  refine k_iald (k := 0) (v := r 11 0) hx hb hK hP 12 0 rfl rfl (vp_in_nI (n := 0) (by omega) (by omega)) (nI_clamp (n := 0) (by omega)) (rfl) dX1_emptyIntoDrain_5 ?_
  refine lv_topi (fun v1_1 ev1_1 => ?_)
  refine lv_istore_n (lv' := [(1, .int v1_1), (0, .ref (a 0))]) hx hb dX1_emptyIntoDrain_6 rfl hl (by decide) rfl (fun ls hl => ?_)
  refine lv_iconst (v := 0) hx hb dX1_emptyIntoDrain_7 (by decide) ?_
  refine lv_istore_n (lv' := [(2, .int 0), (1, .int v1_1), (0, .ref (a 0))]) hx hb dX1_emptyIntoDrain_8 rfl hl (by decide) rfl (fun ls hl => ?_)
  refine lv_iconst (v := 0) hx hb dX1_emptyIntoDrain_9 (by decide) ?_
  refine lv_istore_n (lv' := [(3, .int 0), (2, .int 0), (1, .int v1_1), (0, .ref (a 0))]) hx hb dX1_emptyIntoDrain_10 rfl hl (by decide) rfl (fun ls hl => ?_)
  have Lp11 : ∀ (n i : Nat) (r1 : rB) (lf : Int32) (b : Int32), i + n = 6 → drL n i r1 lf b = drL 6 0 r v1_1 0 → ∀ (H : Heap) (locs : List Loc), va_P D vwCl (cR cI a r1) H → va_D A (cR cI a r1) → va_S A s.heap H locs → ∀ (ls : Array Slot), lv_has ls 6 [(3, .int (nI i)), (2, .int b), (1, .int lf), (0, .ref (a 0))] → W p l e ({ frames := 1, cells := 0, slots := 0, locals := 22 } : Room) s m ([.ref (a 0)] : List Value).toArray below meth c H locs 0 0 (MQ below (va_Qv (fun (_ : Unit) => True) (fun _ t => Wd D (cR cI a (emptyD r)) t) A) ([.ref (a 0)] : List Value).toArray s 0 0 A) (F0 m 11 ls []) := by
    intro n
    induction n with
    | zero =>
      intro i r1 lf b hin hres H locs hP hD hS ls hl
      have h9r1 : r1 = (drL 6 0 r v1_1 0).1 := congrArg Prod.fst hres
      have h9b : b = (drL 6 0 r v1_1 0).2 := congrArg Prod.snd hres
      refine lv_iload_n hx hb dX1_emptyIntoDrain_11 rfl (lv_at hl 0 rfl) ?_
      refine lv_bipush (v := 6) hx hb dX1_emptyIntoDrain_12 (by decide) ?_
      refine lv_icmp_ge (tgt := 91) hx hb dX1_emptyIntoDrain_14 (by decide) (fun _ => ?_) (fun h9 => absurd (nI_le (a := 6) (b := i) (by omega) (by omega)) h9)
      refine lv_iload_n hx hb dX1_emptyIntoDrain_91 rfl (lv_at hl 1 rfl) ?_
      refine lv_if_eq (tgt := 105) hx hb dX1_emptyIntoDrain_92 (by decide) (fun c_2 => ?_) (fun c_2 => ?_)
      · skip
        have e9 : (r1 : rB) = emptyD r := by (replace h9b := h9b.symm; subst h9b; replace h9r1 := h9r1.symm; subst h9r1; replace ev1_1 := ev1_1.symm; subst ev1_1; simp only [emptyD, c_2, ↓reduceIte])
        rw [e9] at hP
        exact k_vret hx hb hr hlocks hS hP dX1_emptyIntoDrain_105
      · skip
        refine lv_aload_n hx hb dX1_emptyIntoDrain_95 rfl (lv_at hl 3 rfl) ?_
        refine lv_dup hx hb dX1_emptyIntoDrain_96 rfl ?_
        refine va_get (D := D) (ci := 1) (v := .int (r1 12 3)) (C := RX1) (T := TX1) (N := 16) hx hb hts hinX1 hown hK hP 0 rfl rfl 15 (by decide) fl64 (fun _ h9 => h9) (congrArg (fun z => some (Value.int z)) (rfl)) dX1_emptyIntoDrain_97 ?_
        refine lv_iconst (v := 1) hx hb dX1_emptyIntoDrain_100 (by decide) ?_
        refine lv_iadd hx hb dX1_emptyIntoDrain_101 ?_
        refine lv_topi (fun f_3 ef_3 => ?_)
        refine k_put (D := D) (ci := 1) (v := .int f_3) (ty := .int) (C := RX1) (T := TX1) (N := 16) hx hb hts hinX1 tyX1 tyX1_ok nmX1 hown hK hP hD hS 0 rfl rfl 15 (by decide) fl64 (fun _ h9 => h9) rfl (by decide +kernel) rfl rfl (Nat.le_of_ble_eq_true rfl) (ws' := cR cI a (bp r1 12 3 f_3)) rfl dX1_emptyIntoDrain_102 (fun H locs hP hD hS => ?_)
        have e9 : (bp r1 12 3 f_3 : rB) = emptyD r := by (replace ef_3 := ef_3.symm; subst ef_3; replace h9b := h9b.symm; subst h9b; replace h9r1 := h9r1.symm; subst h9r1; replace ev1_1 := ev1_1.symm; subst ev1_1; simp only [emptyD, c_2, ↓reduceIte])
        rw [e9] at hP
        exact k_vret hx hb hr hlocks hS hP dX1_emptyIntoDrain_105
    | succ n ih =>
      intro i r1 lf b hin hres H locs hP hD hS ls hl
      refine lv_iload_n hx hb dX1_emptyIntoDrain_11 rfl (lv_at hl 0 rfl) ?_
      refine lv_bipush (v := 6) hx hb dX1_emptyIntoDrain_12 (by decide) ?_
      refine lv_icmp_ge (tgt := 91) hx hb dX1_emptyIntoDrain_14 (by decide) (fun h9 => absurd h9 (nI_ge (a := i) (b := 6) (by omega) (by omega))) (fun _ => ?_)
      refine lv_aload_n hx hb dX1_emptyIntoDrain_17 rfl (lv_at hl 3 rfl) ?_
      refine lv_iload_n hx hb dX1_emptyIntoDrain_18 rfl (lv_at hl 0 rfl) ?_
      refine k_calli (wc := cR cI a r1) (w' := cR cI a r1) (wn := cR cI a r1) (va_runV (As := [.int (nI i)]) (rest := []) ⟨hx, hb, hml, hown, hts⟩ (mX1_pipeTakes l D cI cQ cJ a r1 (nI i) i (vp_in_nI (n := i) (by omega) (by omega)) (nI_clamp (n := i) (by omega)) _) (cwV 1 hts gX1_emptyIntoDrain_X1_pipeTakes rfl rfl rfl (by decide +kernel) ⟨Nat.le_of_ble_eq_true rfl, Nat.le_of_ble_eq_true rfl⟩) (k_preV (wc := cR cI a r1) hE hK hP hD [0, 1, 2, 3, 4, 5, 6, 7, 8, 9, 10, 11, 12] (by decide) rfl (ci := 1) (q0 := 0) rfl rfl [.int (nI i)]) rfl rfl hl.1 rfl (lv_room (Nat.le_of_ble_eq_true rfl)) dX1_emptyIntoDrain_19 ⟨Nat.zero_le _, Nat.zero_le _⟩) hP hD hS hA [0, 1, 2, 3, 4, 5, 6, 7, 8, 9, 10, 11, 12] rfl rfl rfl (fun H locs hP hD hS => ?_)
      refine lv_aload_n hx hb dX1_emptyIntoDrain_22 rfl (lv_at hl 3 rfl) ?_
      refine va_get (D := D) (ci := 1) (v := .ref (a 9)) (C := RX1) (T := TX1) (N := 16) hx hb hts hinX1 hown hK hP 0 rfl rfl 8 (by decide) fl36 (fun _ h9 => h9) rfl dX1_emptyIntoDrain_23 ?_
      refine lv_iload_n hx hb dX1_emptyIntoDrain_26 rfl (lv_at hl 0 rfl) ?_
      refine k_iald (k := i) (v := r1 8 i) hx hb hK hP 9 0 rfl rfl (vp_in_nI (n := i) (by omega) (by omega)) (nI_clamp (n := i) (by omega)) (rfl) dX1_emptyIntoDrain_27 ?_
      refine va_mmin hx hb (hml.trans hl.1.symm) hown mm1 mm2 mm3 mm4 (Nat.le_of_ble_eq_true rfl) (Nat.le_of_ble_eq_true rfl) (Nat.zero_le _) (Nat.zero_le _) dX1_emptyIntoDrain_28 ?_
      refine lv_eqi (y := mn (pipeT r1 i) (r1 8 i)) rfl ?_
      refine lv_topi (fun mn_4 emn_4 => ?_)
      refine lv_istore (lv' := [(4, .int mn_4), (3, .int (nI i)), (2, .int b), (1, .int lf), (0, .ref (a 0))]) hx hb dX1_emptyIntoDrain_31 hl (by decide) rfl (fun ls hl => ?_)
      refine lv_iload hx hb dX1_emptyIntoDrain_33 (lv_at hl 0 rfl) ?_
      refine lv_iload_n hx hb dX1_emptyIntoDrain_35 rfl (lv_at hl 3 rfl) ?_
      refine va_mmin hx hb (hml.trans hl.1.symm) hown mm1 mm2 mm3 mm4 (Nat.le_of_ble_eq_true rfl) (Nat.le_of_ble_eq_true rfl) (Nat.zero_le _) (Nat.zero_le _) dX1_emptyIntoDrain_36 ?_
      refine lv_eqi (y := mn mn_4 lf) rfl ?_
      refine lv_topi (fun mn_5 emn_5 => ?_)
      refine lv_istore (lv' := [(5, .int mn_5), (4, .int mn_4), (3, .int (nI i)), (2, .int b), (1, .int lf), (0, .ref (a 0))]) hx hb dX1_emptyIntoDrain_39 hl (by decide) rfl (fun ls hl => ?_)
      refine lv_aload_n hx hb dX1_emptyIntoDrain_41 rfl (lv_at hl 5 rfl) ?_
      refine va_get (D := D) (ci := 1) (v := .ref (a 9)) (C := RX1) (T := TX1) (N := 16) hx hb hts hinX1 hown hK hP 0 rfl rfl 8 (by decide) fl36 (fun _ h9 => h9) rfl dX1_emptyIntoDrain_42 ?_
      refine lv_iload_n hx hb dX1_emptyIntoDrain_45 rfl (lv_at hl 2 rfl) ?_
      refine lv_dup2_11 hx hb dX1_emptyIntoDrain_46 rfl rfl ?_
      refine k_iald (k := i) (v := r1 8 i) hx hb hK hP 9 0 rfl rfl (vp_in_nI (n := i) (by omega) (by omega)) (nI_clamp (n := i) (by omega)) (rfl) dX1_emptyIntoDrain_47 ?_
      refine lv_iload hx hb dX1_emptyIntoDrain_48 (lv_at hl 0 rfl) ?_
      refine lv_isub hx hb dX1_emptyIntoDrain_50 ?_
      refine lv_topi (fun a_6 ea_6 => ?_)
      refine k_iast (k := i) (ws' := cR cI a (bp r1 8 i a_6)) hx hb hK hP hD hS 9 0 rfl rfl (vp_in_nI (n := i) (by omega) (by omega)) (nI_clamp (n := i) (by omega)) rfl dX1_emptyIntoDrain_51 (fun H locs hP hD hS => ?_)
      refine lv_aload_n hx hb dX1_emptyIntoDrain_52 rfl (lv_at hl 5 rfl) ?_
      refine va_get (D := D) (ci := 1) (v := .ref (a 11)) (C := RX1) (T := TX1) (N := 16) hx hb hts hinX1 hown hK hP 0 rfl rfl 10 (by decide) fl42 (fun _ h9 => h9) rfl dX1_emptyIntoDrain_53 ?_
      refine lv_iload_n hx hb dX1_emptyIntoDrain_56 rfl (lv_at hl 2 rfl) ?_
      refine lv_dup2_11 hx hb dX1_emptyIntoDrain_57 rfl rfl ?_
      refine k_iald (k := i) (v := r1 10 i) hx hb hK hP 11 0 rfl rfl (vp_in_nI (n := i) (by omega) (by omega)) (nI_clamp (n := i) (by omega)) ((bp_rw (by decide)).trans (rfl)) dX1_emptyIntoDrain_58 ?_
      refine lv_iload hx hb dX1_emptyIntoDrain_59 (lv_at hl 0 rfl) ?_
      refine lv_iadd hx hb dX1_emptyIntoDrain_61 ?_
      refine lv_topi (fun a_7 ea_7 => ?_)
      refine k_iast (k := i) (ws' := cR cI a (bp (bp r1 8 i a_6) 10 i a_7)) hx hb hK hP hD hS 11 0 rfl rfl (vp_in_nI (n := i) (by omega) (by omega)) (nI_clamp (n := i) (by omega)) rfl dX1_emptyIntoDrain_62 (fun H locs hP hD hS => ?_)
      refine lv_iload_n hx hb dX1_emptyIntoDrain_63 rfl (lv_at hl 4 rfl) ?_
      refine lv_iload hx hb dX1_emptyIntoDrain_64 (lv_at hl 0 rfl) ?_
      refine lv_isub hx hb dX1_emptyIntoDrain_66 ?_
      refine lv_topi (fun v1_8 ev1_8 => ?_)
      refine lv_istore_n (lv' := [(1, .int v1_8), (5, .int mn_5), (4, .int mn_4), (3, .int (nI i)), (2, .int b), (0, .ref (a 0))]) hx hb dX1_emptyIntoDrain_67 rfl hl (by decide) rfl (fun ls hl => ?_)
      refine lv_iload_n hx hb dX1_emptyIntoDrain_68 rfl (lv_at hl 4 rfl) ?_
      refine lv_if_ne (tgt := 79) hx hb dX1_emptyIntoDrain_69 (by decide) (fun c_9 => ?_) (fun c_9 => ?_)
      · skip
        refine lv_iconst (v := 1) hx hb dX1_emptyIntoDrain_79 (by decide) ?_
        refine lv_goto (tgt := 84) hx hb dX1_emptyIntoDrain_80 (by decide) ?_
        refine lv_istore_n (lv' := [(2, .int 1), (1, .int v1_8), (5, .int mn_5), (4, .int mn_4), (3, .int (nI i)), (0, .ref (a 0))]) hx hb dX1_emptyIntoDrain_84 rfl hl (by decide) rfl (fun ls hl => ?_)
        refine lv_iinc (v := nI (i + 1)) (lv' := [(3, .int (nI (i + 1))), (2, .int 1), (1, .int v1_8), (5, .int mn_5), (4, .int mn_4), (0, .ref (a 0))]) hx hb dX1_emptyIntoDrain_85 hl (k := 4) rfl (nI_1 i) (by decide) rfl (fun ls hl => ?_)
        refine lv_goto (tgt := 11) hx hb dX1_emptyIntoDrain_88 (by decide) ?_
        exact ih (i + 1) (bp (bp r1 8 i a_6) 10 i a_7) v1_8 1 (by omega) (by replace ev1_8 := ev1_8.symm; subst ev1_8; replace ea_7 := ea_7.symm; subst ea_7; replace ea_6 := ea_6.symm; subst ea_6; replace emn_5 := emn_5.symm; subst emn_5; replace emn_4 := emn_4.symm; subst emn_4; replace ev1_1 := ev1_1.symm; subst ev1_1; rw [← hres]; simp only [drL, drStep, drS, drW, c_9, ↓reduceIte]) H locs hP hD hS ls (lv_sub hl [0, 1, 2, 5] rfl)
      · skip
        refine lv_iload hx hb dX1_emptyIntoDrain_72 (lv_at hl 1 rfl) ?_
        refine lv_iload hx hb dX1_emptyIntoDrain_74 (lv_at hl 2 rfl) ?_
        refine lv_icmp_ge (tgt := 83) hx hb dX1_emptyIntoDrain_76 (by decide) (fun c_10 => ?_) (fun c_10 => ?_)
        · skip
          refine lv_iconst (v := 0) hx hb dX1_emptyIntoDrain_83 (by decide) ?_
          refine lv_istore_n (lv' := [(2, .int 0), (1, .int v1_8), (5, .int mn_5), (4, .int mn_4), (3, .int (nI i)), (0, .ref (a 0))]) hx hb dX1_emptyIntoDrain_84 rfl hl (by decide) rfl (fun ls hl => ?_)
          refine lv_iinc (v := nI (i + 1)) (lv' := [(3, .int (nI (i + 1))), (2, .int 0), (1, .int v1_8), (5, .int mn_5), (4, .int mn_4), (0, .ref (a 0))]) hx hb dX1_emptyIntoDrain_85 hl (k := 4) rfl (nI_1 i) (by decide) rfl (fun ls hl => ?_)
          refine lv_goto (tgt := 11) hx hb dX1_emptyIntoDrain_88 (by decide) ?_
          exact ih (i + 1) (bp (bp r1 8 i a_6) 10 i a_7) v1_8 0 (by omega) (by replace ev1_8 := ev1_8.symm; subst ev1_8; replace ea_7 := ea_7.symm; subst ea_7; replace ea_6 := ea_6.symm; subst ea_6; replace emn_5 := emn_5.symm; subst emn_5; replace emn_4 := emn_4.symm; subst emn_4; replace ev1_1 := ev1_1.symm; subst ev1_1; rw [← hres]; simp only [drL, drStep, drS, drW, c_9, c_10, ↓reduceIte]) H locs hP hD hS ls (lv_sub hl [0, 1, 2, 5] rfl)
        · skip
          refine lv_iconst (v := 1) hx hb dX1_emptyIntoDrain_79 (by decide) ?_
          refine lv_goto (tgt := 84) hx hb dX1_emptyIntoDrain_80 (by decide) ?_
          refine lv_istore_n (lv' := [(2, .int 1), (1, .int v1_8), (5, .int mn_5), (4, .int mn_4), (3, .int (nI i)), (0, .ref (a 0))]) hx hb dX1_emptyIntoDrain_84 rfl hl (by decide) rfl (fun ls hl => ?_)
          refine lv_iinc (v := nI (i + 1)) (lv' := [(3, .int (nI (i + 1))), (2, .int 1), (1, .int v1_8), (5, .int mn_5), (4, .int mn_4), (0, .ref (a 0))]) hx hb dX1_emptyIntoDrain_85 hl (k := 4) rfl (nI_1 i) (by decide) rfl (fun ls hl => ?_)
          refine lv_goto (tgt := 11) hx hb dX1_emptyIntoDrain_88 (by decide) ?_
          exact ih (i + 1) (bp (bp r1 8 i a_6) 10 i a_7) v1_8 1 (by omega) (by replace ev1_8 := ev1_8.symm; subst ev1_8; replace ea_7 := ea_7.symm; subst ea_7; replace ea_6 := ea_6.symm; subst ea_6; replace emn_5 := emn_5.symm; subst emn_5; replace emn_4 := emn_4.symm; subst emn_4; replace ev1_1 := ev1_1.symm; subst ev1_1; rw [← hres]; simp only [drL, drStep, drS, drW, c_9, c_10, ↓reduceIte]) H locs hP hD hS ls (lv_sub hl [0, 1, 2, 5] rfl)
  exact Lp11 6 0 r v1_1 0 (by omega) rfl _ _ hP hD hS ls (lv_sub hl [0, 1, 2, 3] rfl)

set_option maxHeartbeats 4000000 in
set_option maxRecDepth 100000 in
theorem mX1_passMinute (l : Launch) (D : va_G) (cI cQ cJ : ClassId) (a : Nat → Nat) (r : rB) (x : Int32) : Mv l D (tY cI cQ cJ) yX1_passMinute wsX1_passMinute ({ frames := 2, cells := 0, slots := 0, locals := 47 } : Room) [.ref (a 0), .int x] (cR cI a r) (cR cI a (minuteC r x)) := by
  refine M_of (cc := cX1_passMinute) (maxL := 3) (ret := none) (Qc := fun A => va_Qv (fun (_ : Unit) => True) (fun _ t => Wd D (cR cI a (minuteC r x)) t) A) (by decide) rfl (Nat.le_of_ble_eq_true rfl) ?_
  intro p e s m below meth c A ls hB hE hP hK hD hA hl
  obtain ⟨hx, hb, hr, hml, hts, hown, hlocks⟩ := hB
  have hS : va_S A s.heap s.heap [] := va_S.rf
  have hl : lv_has ls 3 [(0, .ref (a 0)), (1, .int x)] := hl
  have hinX1 : ∀ w ∈ u_ws RX1 TX1 16, w ∈ wsX1_passMinute := by decide +kernel
  have fl54 := hts (.fieldLink RX1 54 "RoofDrains$Roof" "minutesGone" "I") (by decide +kernel)
  refine lv_iconst (v := 0) hx hb dX1_passMinute_0 (by decide) ?_
  refine lv_istore_n (lv' := [(2, .int 0), (0, .ref (a 0)), (1, .int x)]) hx hb dX1_passMinute_1 rfl hl (by decide) rfl (fun ls hl => ?_)
  have Lp2 : ∀ (n i : Nat) (r1 : rB), i + n = 6 → wetAll n i r1 x = wetAll 6 0 r x → ∀ (H : Heap) (locs : List Loc), va_P D vwCl (cR cI a r1) H → va_D A (cR cI a r1) → va_S A s.heap H locs → ∀ (ls : Array Slot), lv_has ls 3 [(2, .int (nI i)), (0, .ref (a 0)), (1, .int x)] → W p l e ({ frames := 2, cells := 0, slots := 0, locals := 47 } : Room) s m ([.ref (a 0), .int x] : List Value).toArray below meth c H locs 0 0 (MQ below (va_Qv (fun (_ : Unit) => True) (fun _ t => Wd D (cR cI a (minuteC r x)) t) A) ([.ref (a 0), .int x] : List Value).toArray s 0 0 A) (F0 m 2 ls []) := by
    intro n
    induction n with
    | zero =>
      intro i r1 hin hres H locs hP hD hS ls hl
      have h9r1 : r1 = wetAll 6 0 r x := hres
      refine lv_iload_n hx hb dX1_passMinute_2 rfl (lv_at hl 0 rfl) ?_
      refine lv_bipush (v := 6) hx hb dX1_passMinute_3 (by decide) ?_
      refine lv_icmp_ge (tgt := 20) hx hb dX1_passMinute_5 (by decide) (fun _ => ?_) (fun h9 => absurd (nI_le (a := 6) (b := i) (by omega) (by omega)) h9)
      refine lv_aload_n hx hb dX1_passMinute_20 rfl (lv_at hl 1 rfl) ?_
      obtain ⟨r_1, er_1⟩ : ∃ z : rB, z = emptyD r1 := ⟨_, rfl⟩
      have hm_2 := mX1_emptyIntoDrain l D cI cQ cJ a r1
      rw [← er_1] at hm_2
      refine k_callv (wc := cR cI a r1) (w' := cR cI a r_1) (wn := cR cI a r_1) (va_runV (As := []) (rest := []) ⟨hx, hb, hml, hown, hts⟩ (hm_2 _) (cwV 0 hts gX1_passMinute_X1_emptyIntoDrain rfl rfl rfl (by decide +kernel) ⟨Nat.le_of_ble_eq_true rfl, Nat.le_of_ble_eq_true rfl⟩) (k_preV (wc := cR cI a r1) hE hK hP hD [0, 1, 2, 3, 4, 5, 6, 7, 8, 9, 10, 11, 12] (by decide) rfl (ci := 1) (q0 := 0) rfl rfl []) rfl rfl hl.1 rfl (lv_room (Nat.le_of_ble_eq_true rfl)) dX1_passMinute_21 ⟨Nat.zero_le _, Nat.zero_le _⟩) hP hD hS hA [0, 1, 2, 3, 4, 5, 6, 7, 8, 9, 10, 11, 12] rfl rfl rfl (fun H locs hP hD hS => ?_)
      refine lv_iconst (v := 0) hx hb dX1_passMinute_24 (by decide) ?_
      refine lv_istore_n (lv' := [(2, .int 0), (0, .ref (a 0)), (1, .int x)]) hx hb dX1_passMinute_25 rfl hl (by decide) rfl (fun ls hl => ?_)
      have Lp26 : ∀ (n i : Nat) (r2 : rB), i + n = 6 → ovfAll n i r2 = ovfAll 6 0 r_1 → ∀ (H : Heap) (locs : List Loc), va_P D vwCl (cR cI a r2) H → va_D A (cR cI a r2) → va_S A s.heap H locs → ∀ (ls : Array Slot), lv_has ls 3 [(2, .int (nI i)), (0, .ref (a 0)), (1, .int x)] → W p l e ({ frames := 2, cells := 0, slots := 0, locals := 47 } : Room) s m ([.ref (a 0), .int x] : List Value).toArray below meth c H locs 0 0 (MQ below (va_Qv (fun (_ : Unit) => True) (fun _ t => Wd D (cR cI a (minuteC r x)) t) A) ([.ref (a 0), .int x] : List Value).toArray s 0 0 A) (F0 m 26 ls []) := by
        intro n
        induction n with
        | zero =>
          intro i r2 hin hres H locs hP hD hS ls hl
          have h9r2 : r2 = ovfAll 6 0 r_1 := hres
          refine lv_iload_n hx hb dX1_passMinute_26 rfl (lv_at hl 0 rfl) ?_
          refine lv_bipush (v := 6) hx hb dX1_passMinute_27 (by decide) ?_
          refine lv_icmp_ge (tgt := 43) hx hb dX1_passMinute_29 (by decide) (fun _ => ?_) (fun h9 => absurd (nI_le (a := 6) (b := i) (by omega) (by omega)) h9)
          refine lv_aload_n hx hb dX1_passMinute_43 rfl (lv_at hl 1 rfl) ?_
          refine lv_dup hx hb dX1_passMinute_44 rfl ?_
          refine va_get (D := D) (ci := 1) (v := .int (r2 12 0)) (C := RX1) (T := TX1) (N := 16) hx hb hts hinX1 hown hK hP 0 rfl rfl 12 (by decide) fl54 (fun _ h9 => h9) (congrArg (fun z => some (Value.int z)) (rfl)) dX1_passMinute_45 ?_
          refine lv_iconst (v := 1) hx hb dX1_passMinute_48 (by decide) ?_
          refine lv_iadd hx hb dX1_passMinute_49 ?_
          refine lv_topi (fun f_3 ef_3 => ?_)
          refine k_put (D := D) (ci := 1) (v := .int f_3) (ty := .int) (C := RX1) (T := TX1) (N := 16) hx hb hts hinX1 tyX1 tyX1_ok nmX1 hown hK hP hD hS 0 rfl rfl 12 (by decide) fl54 (fun _ h9 => h9) rfl (by decide +kernel) rfl rfl (Nat.le_of_ble_eq_true rfl) (ws' := cR cI a (bp r2 12 0 f_3)) rfl dX1_passMinute_50 (fun H locs hP hD hS => ?_)
          have e9 : (bp r2 12 0 f_3 : rB) = minuteC r x := by (replace ef_3 := ef_3.symm; subst ef_3; replace h9r2 := h9r2.symm; subst h9r2; replace er_1 := er_1.symm; subst er_1; replace h9r1 := h9r1.symm; subst h9r1; simp only [minuteC, ↓reduceIte])
          rw [e9] at hP
          exact k_vret hx hb hr hlocks hS hP dX1_passMinute_53
        | succ n ih =>
          intro i r2 hin hres H locs hP hD hS ls hl
          refine lv_iload_n hx hb dX1_passMinute_26 rfl (lv_at hl 0 rfl) ?_
          refine lv_bipush (v := 6) hx hb dX1_passMinute_27 (by decide) ?_
          refine lv_icmp_ge (tgt := 43) hx hb dX1_passMinute_29 (by decide) (fun h9 => absurd h9 (nI_ge (a := i) (b := 6) (by omega) (by omega))) (fun _ => ?_)
          refine lv_aload_n hx hb dX1_passMinute_32 rfl (lv_at hl 1 rfl) ?_
          refine lv_iload_n hx hb dX1_passMinute_33 rfl (lv_at hl 0 rfl) ?_
          obtain ⟨r_4, er_4⟩ : ∃ z : rB, z = ovf r2 i := ⟨_, rfl⟩
          have hm_5 := mX1_overflow l D cI cQ cJ a r2 (nI i) i (vp_in_nI (n := i) (by omega) (by omega)) (nI_clamp (n := i) (by omega))
          rw [← er_4] at hm_5
          refine k_callv (wc := cR cI a r2) (w' := cR cI a r_4) (wn := cR cI a r_4) (va_runV (As := [.int (nI i)]) (rest := []) ⟨hx, hb, hml, hown, hts⟩ (hm_5 _) (cwV 1 hts gX1_passMinute_X1_overflow rfl rfl rfl (by decide +kernel) ⟨Nat.le_of_ble_eq_true rfl, Nat.le_of_ble_eq_true rfl⟩) (k_preV (wc := cR cI a r2) hE hK hP hD [0, 1, 2, 3, 4, 5, 6, 7, 8, 9, 10, 11, 12] (by decide) rfl (ci := 1) (q0 := 0) rfl rfl [.int (nI i)]) rfl rfl hl.1 rfl (lv_room (Nat.le_of_ble_eq_true rfl)) dX1_passMinute_34 ⟨Nat.zero_le _, Nat.zero_le _⟩) hP hD hS hA [0, 1, 2, 3, 4, 5, 6, 7, 8, 9, 10, 11, 12] rfl rfl rfl (fun H locs hP hD hS => ?_)
          refine lv_iinc (v := nI (i + 1)) (lv' := [(2, .int (nI (i + 1))), (0, .ref (a 0)), (1, .int x)]) hx hb dX1_passMinute_37 hl (k := 0) rfl (nI_1 i) (by decide) rfl (fun ls hl => ?_)
          refine lv_goto (tgt := 26) hx hb dX1_passMinute_40 (by decide) ?_
          exact ih (i + 1) r_4 (by omega) (by replace er_4 := er_4.symm; subst er_4; replace er_1 := er_1.symm; subst er_1; replace h9r1 := h9r1.symm; subst h9r1; exact hres) H locs hP hD hS ls (lv_sub hl [0, 1, 2] rfl)
      exact Lp26 6 0 r_1 (by omega) rfl _ _ hP hD hS ls (lv_sub hl [0, 1, 2] rfl)
    | succ n ih =>
      intro i r1 hin hres H locs hP hD hS ls hl
      refine lv_iload_n hx hb dX1_passMinute_2 rfl (lv_at hl 0 rfl) ?_
      refine lv_bipush (v := 6) hx hb dX1_passMinute_3 (by decide) ?_
      refine lv_icmp_ge (tgt := 20) hx hb dX1_passMinute_5 (by decide) (fun h9 => absurd h9 (nI_ge (a := i) (b := 6) (by omega) (by omega))) (fun _ => ?_)
      refine lv_aload_n hx hb dX1_passMinute_8 rfl (lv_at hl 1 rfl) ?_
      refine lv_iload_n hx hb dX1_passMinute_9 rfl (lv_at hl 0 rfl) ?_
      refine lv_iload_n hx hb dX1_passMinute_10 rfl (lv_at hl 2 rfl) ?_
      obtain ⟨r_6, er_6⟩ : ∃ z : rB, z = wet r1 i x := ⟨_, rfl⟩
      have hm_7 := mX1_wetPlane l D cI cQ cJ a r1 (nI i) i (vp_in_nI (n := i) (by omega) (by omega)) (nI_clamp (n := i) (by omega)) x
      rw [← er_6] at hm_7
      refine k_callv (wc := cR cI a r1) (w' := cR cI a r_6) (wn := cR cI a r_6) (va_runV (As := [.int (nI i), .int x]) (rest := []) ⟨hx, hb, hml, hown, hts⟩ (hm_7 _) (cwV 2 hts gX1_passMinute_X1_wetPlane rfl rfl rfl (by decide +kernel) ⟨Nat.le_of_ble_eq_true rfl, Nat.le_of_ble_eq_true rfl⟩) (k_preV (wc := cR cI a r1) hE hK hP hD [0, 1, 2, 3, 4, 5, 6, 7, 8, 9, 10, 11, 12] (by decide) rfl (ci := 1) (q0 := 0) rfl rfl [.int (nI i), .int x]) rfl rfl hl.1 rfl (lv_room (Nat.le_of_ble_eq_true rfl)) dX1_passMinute_11 ⟨Nat.zero_le _, Nat.zero_le _⟩) hP hD hS hA [0, 1, 2, 3, 4, 5, 6, 7, 8, 9, 10, 11, 12] rfl rfl rfl (fun H locs hP hD hS => ?_)
      refine lv_iinc (v := nI (i + 1)) (lv' := [(2, .int (nI (i + 1))), (0, .ref (a 0)), (1, .int x)]) hx hb dX1_passMinute_14 hl (k := 0) rfl (nI_1 i) (by decide) rfl (fun ls hl => ?_)
      refine lv_goto (tgt := 2) hx hb dX1_passMinute_17 (by decide) ?_
      exact ih (i + 1) r_6 (by omega) (by replace er_6 := er_6.symm; subst er_6; exact hres) H locs hP hD hS ls (lv_sub hl [0, 1, 2] rfl)
  exact Lp2 6 0 r (by omega) rfl _ _ hP hD hS ls (lv_sub hl [0, 1, 2] rfl)

set_option maxHeartbeats 4000000 in
set_option maxRecDepth 100000 in
theorem mX1_passMinutes (l : Launch) (D : va_G) (cI cQ cJ : ClassId) (a : Nat → Nat) (r : rB) (x mi : Int32) (k : Nat) (hk : mi.toNatClampNeg = k) : Mv l D (tY cI cQ cJ) yX1_passMinutes wsX1_passMinutes ({ frames := 3, cells := 0, slots := 0, locals := 69 } : Room) [.ref (a 0), .int x, .int mi] (cR cI a r) (cR cI a (minutesC k r x)) := by
  refine M_of (cc := cX1_passMinutes) (maxL := 4) (ret := none) (Qc := fun A => va_Qv (fun (_ : Unit) => True) (fun _ t => Wd D (cR cI a (minutesC k r x)) t) A) (by decide) rfl (Nat.le_of_ble_eq_true rfl) ?_
  intro p e s m below meth c A ls hB hE hP hK hD hA hl
  obtain ⟨hx, hb, hr, hml, hts, hown, hlocks⟩ := hB
  have hS : va_S A s.heap s.heap [] := va_S.rf
  have hl : lv_has ls 4 [(0, .ref (a 0)), (1, .int x), (2, .int mi)] := hl
  refine lv_iconst (v := 0) hx hb dX1_passMinutes_0 (by decide) ?_
  refine lv_istore_n (lv' := [(3, .int 0), (0, .ref (a 0)), (1, .int x), (2, .int mi)]) hx hb dX1_passMinutes_1 rfl hl (by decide) rfl (fun ls hl => ?_)
  have Lp2 : ∀ (n i : Nat) (r1 : rB), i + n = k → i ≤ k → minutesC n r1 x = minutesC k r x → ∀ (H : Heap) (locs : List Loc), va_P D vwCl (cR cI a r1) H → va_D A (cR cI a r1) → va_S A s.heap H locs → ∀ (ls : Array Slot), lv_has ls 4 [(3, .int (nI i)), (0, .ref (a 0)), (1, .int x), (2, .int mi)] → W p l e ({ frames := 3, cells := 0, slots := 0, locals := 69 } : Room) s m ([.ref (a 0), .int x, .int mi] : List Value).toArray below meth c H locs 0 0 (MQ below (va_Qv (fun (_ : Unit) => True) (fun _ t => Wd D (cR cI a (minutesC k r x)) t) A) ([.ref (a 0), .int x, .int mi] : List Value).toArray s 0 0 A) (F0 m 2 ls []) := by
    intro n
    induction n with
    | zero =>
      intro i r1 hin h8 hres H locs hP hD hS ls hl
      have h9r1 : r1 = minutesC k r x := hres
      refine lv_iload_n hx hb dX1_passMinutes_2 rfl (lv_at hl 0 rfl) ?_
      refine lv_iload_n hx hb dX1_passMinutes_3 rfl (lv_at hl 3 rfl) ?_
      refine lv_icmp_ge (tgt := 18) hx hb dX1_passMinutes_4 (by decide) (fun _ => ?_) (fun h9 => absurd (cl_le (i := i) (by omega)) h9)
      have e9 : (r1 : rB) = minutesC k r x := by (replace h9r1 := h9r1.symm; subst h9r1; simp only [↓reduceIte])
      rw [e9] at hP
      exact k_vret hx hb hr hlocks hS hP dX1_passMinutes_18
    | succ n ih =>
      intro i r1 hin h8 hres H locs hP hD hS ls hl
      refine lv_iload_n hx hb dX1_passMinutes_2 rfl (lv_at hl 0 rfl) ?_
      refine lv_iload_n hx hb dX1_passMinutes_3 rfl (lv_at hl 3 rfl) ?_
      refine lv_icmp_ge (tgt := 18) hx hb dX1_passMinutes_4 (by decide) (fun h9 => absurd h9 (cl_nle (i := i) (by omega))) (fun _ => ?_)
      refine lv_aload_n hx hb dX1_passMinutes_7 rfl (lv_at hl 1 rfl) ?_
      refine lv_iload_n hx hb dX1_passMinutes_8 rfl (lv_at hl 2 rfl) ?_
      obtain ⟨r_1, er_1⟩ : ∃ z : rB, z = minuteC r1 x := ⟨_, rfl⟩
      have hm_2 := mX1_passMinute l D cI cQ cJ a r1 x
      rw [← er_1] at hm_2
      refine k_callv (wc := cR cI a r1) (w' := cR cI a r_1) (wn := cR cI a r_1) (va_runV (As := [.int x]) (rest := []) ⟨hx, hb, hml, hown, hts⟩ (hm_2 _) (cwV 1 hts gX1_passMinutes_X1_passMinute rfl rfl rfl (by decide +kernel) ⟨Nat.le_of_ble_eq_true rfl, Nat.le_of_ble_eq_true rfl⟩) (k_preV (wc := cR cI a r1) hE hK hP hD [0, 1, 2, 3, 4, 5, 6, 7, 8, 9, 10, 11, 12] (by decide) rfl (ci := 1) (q0 := 0) rfl rfl [.int x]) rfl rfl hl.1 rfl (lv_room (Nat.le_of_ble_eq_true rfl)) dX1_passMinutes_9 ⟨Nat.zero_le _, Nat.zero_le _⟩) hP hD hS hA [0, 1, 2, 3, 4, 5, 6, 7, 8, 9, 10, 11, 12] rfl rfl rfl (fun H locs hP hD hS => ?_)
      refine lv_iinc (v := nI (i + 1)) (lv' := [(3, .int (nI (i + 1))), (0, .ref (a 0)), (1, .int x), (2, .int mi)]) hx hb dX1_passMinutes_12 hl (k := 0) rfl (nI_1 i) (by decide) rfl (fun ls hl => ?_)
      refine lv_goto (tgt := 2) hx hb dX1_passMinutes_15 (by decide) ?_
      exact ih (i + 1) r_1 (by omega) (by omega) (by replace er_1 := er_1.symm; subst er_1; exact hres) H locs hP hD hS ls (lv_sub hl [0, 1, 2, 3] rfl)
  exact Lp2 k 0 r (by omega) (by omega) rfl _ _ hP hD hS ls (lv_sub hl [0, 1, 2, 3] rfl)

set_option maxHeartbeats 4000000 in
set_option maxRecDepth 100000 in
theorem mX1_passWeek (l : Launch) (D : va_G) (cI cQ cJ : ClassId) (a : Nat → Nat) (r : rB)  : Mv l D (tY cI cQ cJ) yX1_passWeek wsX1_passWeek ({ frames := 1, cells := 0, slots := 0, locals := 21 } : Room) [.ref (a 0)] (cR cI a r) (cR cI a (weekC r)) := by
  refine M_of (cc := cX1_passWeek) (maxL := 2) (ret := none) (Qc := fun A => va_Qv (fun (_ : Unit) => True) (fun _ t => Wd D (cR cI a (weekC r)) t) A) (by decide) rfl (Nat.le_of_ble_eq_true rfl) ?_
  intro p e s m below meth c A ls hB hE hP hK hD hA hl
  obtain ⟨hx, hb, hr, hml, hts, hown, hlocks⟩ := hB
  have hS : va_S A s.heap s.heap [] := va_S.rf
  have hl : lv_has ls 2 [(0, .ref (a 0))] := hl
  have hinX1 : ∀ w ∈ u_ws RX1 TX1 16, w ∈ wsX1_passWeek := by decide +kernel
  have fl58 := hts (.fieldLink RX1 58 "RoofDrains$Roof" "weeksPassed" "I") (by decide +kernel)
  have fl30 := hts (.fieldLink RX1 30 "RoofDrains$Roof" "leaves" "[I") (by decide +kernel)
  have fl45 := hts (.fieldLink RX1 45 "RoofDrains$Roof" "values" "[I") (by decide +kernel)
  have mm1 := hts (.methodLink RX1 85 Lib.Math.min.name) (by decide +kernel)
  have mm2 := hts (.static Lib.Math.min.name) (by decide +kernel)
  have mm3 := hts (.initialized "java/lang/Math") (by decide +kernel)
  have mm4 := hts (.code Lib.Math.min.name Lib.Math.min.code 2 (some .int)) (by decide +kernel)
  refine lv_iconst (v := 0) hx hb dX1_passWeek_0 (by decide) ?_
  refine lv_istore_n (lv' := [(1, .int 0), (0, .ref (a 0))]) hx hb dX1_passWeek_1 rfl hl (by decide) rfl (fun ls hl => ?_)
  have Lp2 : ∀ (n i : Nat) (r1 : rB), i + n = 6 → weekL n i r1 = weekL 6 0 r → ∀ (H : Heap) (locs : List Loc), va_P D vwCl (cR cI a r1) H → va_D A (cR cI a r1) → va_S A s.heap H locs → ∀ (ls : Array Slot), lv_has ls 2 [(1, .int (nI i)), (0, .ref (a 0))] → W p l e ({ frames := 1, cells := 0, slots := 0, locals := 21 } : Room) s m ([.ref (a 0)] : List Value).toArray below meth c H locs 0 0 (MQ below (va_Qv (fun (_ : Unit) => True) (fun _ t => Wd D (cR cI a (weekC r)) t) A) ([.ref (a 0)] : List Value).toArray s 0 0 A) (F0 m 2 ls []) := by
    intro n
    induction n with
    | zero =>
      intro i r1 hin hres H locs hP hD hS ls hl
      have h9r1 : r1 = weekL 6 0 r := hres
      refine lv_iload_n hx hb dX1_passWeek_2 rfl (lv_at hl 0 rfl) ?_
      refine lv_bipush (v := 6) hx hb dX1_passWeek_3 (by decide) ?_
      refine lv_icmp_ge (tgt := 38) hx hb dX1_passWeek_5 (by decide) (fun _ => ?_) (fun h9 => absurd (nI_le (a := 6) (b := i) (by omega) (by omega)) h9)
      refine lv_aload_n hx hb dX1_passWeek_38 rfl (lv_at hl 1 rfl) ?_
      refine lv_dup hx hb dX1_passWeek_39 rfl ?_
      refine va_get (D := D) (ci := 1) (v := .int (r1 12 1)) (C := RX1) (T := TX1) (N := 16) hx hb hts hinX1 hown hK hP 0 rfl rfl 13 (by decide) fl58 (fun _ h9 => h9) (congrArg (fun z => some (Value.int z)) (rfl)) dX1_passWeek_40 ?_
      refine lv_iconst (v := 1) hx hb dX1_passWeek_43 (by decide) ?_
      refine lv_iadd hx hb dX1_passWeek_44 ?_
      refine lv_topi (fun f_1 ef_1 => ?_)
      refine k_put (D := D) (ci := 1) (v := .int f_1) (ty := .int) (C := RX1) (T := TX1) (N := 16) hx hb hts hinX1 tyX1 tyX1_ok nmX1 hown hK hP hD hS 0 rfl rfl 13 (by decide) fl58 (fun _ h9 => h9) rfl (by decide +kernel) rfl rfl (Nat.le_of_ble_eq_true rfl) (ws' := cR cI a (bp r1 12 1 f_1)) rfl dX1_passWeek_45 (fun H locs hP hD hS => ?_)
      have e9 : (bp r1 12 1 f_1 : rB) = weekC r := by (replace ef_1 := ef_1.symm; subst ef_1; replace h9r1 := h9r1.symm; subst h9r1; simp only [weekC, ↓reduceIte])
      rw [e9] at hP
      exact k_vret hx hb hr hlocks hS hP dX1_passWeek_48
    | succ n ih =>
      intro i r1 hin hres H locs hP hD hS ls hl
      refine lv_iload_n hx hb dX1_passWeek_2 rfl (lv_at hl 0 rfl) ?_
      refine lv_bipush (v := 6) hx hb dX1_passWeek_3 (by decide) ?_
      refine lv_icmp_ge (tgt := 38) hx hb dX1_passWeek_5 (by decide) (fun h9 => absurd h9 (nI_ge (a := i) (b := 6) (by omega) (by omega))) (fun _ => ?_)
      refine lv_aload_n hx hb dX1_passWeek_8 rfl (lv_at hl 1 rfl) ?_
      refine va_get (D := D) (ci := 1) (v := .ref (a 7)) (C := RX1) (T := TX1) (N := 16) hx hb hts hinX1 hown hK hP 0 rfl rfl 6 (by decide) fl30 (fun _ h9 => h9) rfl dX1_passWeek_9 ?_
      refine lv_iload_n hx hb dX1_passWeek_12 rfl (lv_at hl 0 rfl) ?_
      refine lv_bipush (v := 100) hx hb dX1_passWeek_13 (by decide) ?_
      refine lv_aload_n hx hb dX1_passWeek_15 rfl (lv_at hl 1 rfl) ?_
      refine va_get (D := D) (ci := 1) (v := .ref (a 7)) (C := RX1) (T := TX1) (N := 16) hx hb hts hinX1 hown hK hP 0 rfl rfl 6 (by decide) fl30 (fun _ h9 => h9) rfl dX1_passWeek_16 ?_
      refine lv_iload_n hx hb dX1_passWeek_19 rfl (lv_at hl 0 rfl) ?_
      refine k_iald (k := i) (v := r1 6 i) hx hb hK hP 7 0 rfl rfl (vp_in_nI (n := i) (by omega) (by omega)) (nI_clamp (n := i) (by omega)) (rfl) dX1_passWeek_20 ?_
      refine lv_aload_n hx hb dX1_passWeek_21 rfl (lv_at hl 1 rfl) ?_
      refine va_get (D := D) (ci := 1) (v := .ref (a 12)) (C := RX1) (T := TX1) (N := 16) hx hb hts hinX1 hown hK hP 0 rfl rfl 11 (by decide) fl45 (fun _ h9 => h9) rfl dX1_passWeek_22 ?_
      refine lv_iconst (v := 1) hx hb dX1_passWeek_25 (by decide) ?_
      refine k_iald (k := 1) (v := r1 11 1) hx hb hK hP 12 0 rfl rfl (vp_in_nI (n := 1) (by omega) (by omega)) (nI_clamp (n := 1) (by omega)) (rfl) dX1_passWeek_26 ?_
      refine lv_iadd hx hb dX1_passWeek_27 ?_
      refine va_mmin hx hb (hml.trans hl.1.symm) hown mm1 mm2 mm3 mm4 (Nat.le_of_ble_eq_true rfl) (Nat.le_of_ble_eq_true rfl) (Nat.zero_le _) (Nat.zero_le _) dX1_passWeek_28 ?_
      refine lv_eqi (y := mn 100 ((r1 6 i) + (r1 11 1))) rfl ?_
      refine lv_topi (fun mn_2 emn_2 => ?_)
      refine k_iast (k := i) (ws' := cR cI a (bp r1 6 i mn_2)) hx hb hK hP hD hS 7 0 rfl rfl (vp_in_nI (n := i) (by omega) (by omega)) (nI_clamp (n := i) (by omega)) rfl dX1_passWeek_31 (fun H locs hP hD hS => ?_)
      refine lv_iinc (v := nI (i + 1)) (lv' := [(1, .int (nI (i + 1))), (0, .ref (a 0))]) hx hb dX1_passWeek_32 hl (k := 0) rfl (nI_1 i) (by decide) rfl (fun ls hl => ?_)
      refine lv_goto (tgt := 2) hx hb dX1_passWeek_35 (by decide) ?_
      exact ih (i + 1) (bp r1 6 i mn_2) (by omega) (by replace emn_2 := emn_2.symm; subst emn_2; rw [← hres]; simp only [weekL, ↓reduceIte]) H locs hP hD hS ls (lv_sub hl [0, 1] rfl)
  exact Lp2 6 0 r (by omega) rfl _ _ hP hD hS ls (lv_sub hl [0, 1] rfl)

set_option maxHeartbeats 4000000 in
set_option maxRecDepth 100000 in
theorem mX1_valleysLead (l : Launch) (D : va_G) (cI cQ cJ : ClassId) (a : Nat → Nat) (r : rB) (q t : Int32) : Mi l D (tY cI cQ cJ) yX1_valleysLead wsX1_valleysLead ({ frames := 1, cells := 0, slots := 0, locals := 20 } : Room) [.ref (a 0), .int q, .int t] (cR cI a r) (cR cI a r) (vlead r t 6 q) := by
  refine M_of (cc := cX1_valleysLead) (maxL := 5) (ret := some .boolean) (Qc := fun A => va_Qi (fun (x : Int32) (_ : Unit) => x = vlead r t 6 q) (fun _ t => Wd D (cR cI a r) t) A) (by decide) rfl (Nat.le_of_ble_eq_true rfl) ?_
  intro p e s m below meth c A ls hB hE hP hK hD hA hl
  obtain ⟨hx, hb, hr, hml, hts, hown, hlocks⟩ := hB
  have hS : va_S A s.heap s.heap [] := va_S.rf
  have hl : lv_has ls 5 [(0, .ref (a 0)), (1, .int q), (2, .int t)] := hl
  have hinX1 : ∀ w ∈ u_ws RX1 TX1 16, w ∈ wsX1_valleysLead := by decide +kernel
  have fl33 := hts (.fieldLink RX1 33 "RoofDrains$Roof" "valleyTo" "[I") (by decide +kernel)
  refine lv_iload_n hx hb dX1_valleysLead_0 rfl (lv_at hl 1 rfl) ?_
  refine lv_istore_n (lv' := [(3, .int q), (0, .ref (a 0)), (1, .int q), (2, .int t)]) hx hb dX1_valleysLead_1 rfl hl (by decide) rfl (fun ls hl => ?_)
  refine lv_iconst (v := 0) hx hb dX1_valleysLead_2 (by decide) ?_
  refine lv_istore (lv' := [(4, .int 0), (3, .int q), (0, .ref (a 0)), (1, .int q), (2, .int t)]) hx hb dX1_valleysLead_3 hl (by decide) rfl (fun ls hl => ?_)
  have Lp5 : ∀ (n i : Nat) (aq : Int32), i + n = 6 → vlead r t n aq = vlead r t 6 q → ∀ (H : Heap) (locs : List Loc), va_P D vwCl (cR cI a r) H → va_D A (cR cI a r) → va_S A s.heap H locs → ∀ (ls : Array Slot), lv_has ls 5 [(4, .int (nI i)), (3, .int aq), (0, .ref (a 0)), (1, .int q), (2, .int t)] → W p l e ({ frames := 1, cells := 0, slots := 0, locals := 20 } : Room) s m ([.ref (a 0), .int q, .int t] : List Value).toArray below meth c H locs 0 0 (MQ below (va_Qi (fun (x : Int32) (_ : Unit) => x = vlead r t 6 q) (fun _ t => Wd D (cR cI a r) t) A) ([.ref (a 0), .int q, .int t] : List Value).toArray s 0 0 A) (F0 m 5 ls []) := by
    intro n
    induction n with
    | zero =>
      intro i aq hin hres H locs hP hD hS ls hl
      refine lv_iload hx hb dX1_valleysLead_5 (lv_at hl 0 rfl) ?_
      refine lv_bipush (v := 6) hx hb dX1_valleysLead_7 (by decide) ?_
      refine lv_icmp_ge (tgt := 39) hx hb dX1_valleysLead_9 (by decide) (fun _ => ?_) (fun h9 => absurd (nI_le (a := 6) (b := i) (by omega) (by omega)) h9)
      refine lv_iconst (v := 0) hx hb dX1_valleysLead_39 (by decide) ?_
      exact k_zret hx hb hr hlocks hS hP dX1_valleysLead_40 (by first | rfl | decide | exact rfl) (by (rw [← hres]; simp only [vlead, ↓reduceIte]))
    | succ n ih =>
      intro i aq hin hres H locs hP hD hS ls hl
      refine lv_iload hx hb dX1_valleysLead_5 (lv_at hl 0 rfl) ?_
      refine lv_bipush (v := 6) hx hb dX1_valleysLead_7 (by decide) ?_
      refine lv_icmp_ge (tgt := 39) hx hb dX1_valleysLead_9 (by decide) (fun h9 => absurd h9 (nI_ge (a := i) (b := 6) (by omega) (by omega))) (fun _ => ?_)
      refine lv_iload_n hx hb dX1_valleysLead_12 rfl (lv_at hl 1 rfl) ?_
      refine k_calli (wc := ([] : va_W)) (w' := ([] : va_W)) (wn := cR cI a r) (va_runSN (As := [.int aq]) (rest := []) ⟨hx, hb, hml, hown, hts⟩ (mX3_isGutter l D cI cQ cJ aq _) ⟨va_cnB 1 hts gX1_valleysLead_X3_isGutter_n67 rfl rfl rfl hE.1 (hts (.initialized RX3) (by decide +kernel)) (by decide +kernel) ⟨Nat.le_of_ble_eq_true rfl, Nat.le_of_ble_eq_true rfl⟩, hts (.static yX3_isGutter) (by decide +kernel), trivial⟩ (k_preS (wc := ([] : va_W)) hE hK hP hD [] (by decide) rfl [.int aq]) rfl rfl hl.1 rfl (lv_room (Nat.le_of_ble_eq_true rfl)) dX1_valleysLead_13 ⟨Nat.zero_le _, Nat.zero_le _⟩) hP hD hS hA [] rfl rfl rfl (fun H locs hP hD hS => ?_)
      refine lv_if_eq (tgt := 39) hx hb dX1_valleysLead_16 (by decide) (fun c_1 => ?_) (fun c_1 => ?_)
      · skip
        refine lv_iconst (v := 0) hx hb dX1_valleysLead_39 (by decide) ?_
        exact k_zret hx hb hr hlocks hS hP dX1_valleysLead_40 (by first | rfl | decide | exact rfl) (by (rw [← hres]; simp only [vlead, if_pos c_1, ↓reduceIte]))
      · skip
        refine lv_iload_n hx hb dX1_valleysLead_19 rfl (lv_at hl 1 rfl) ?_
        refine lv_iload_n hx hb dX1_valleysLead_20 rfl (lv_at hl 4 rfl) ?_
        refine lv_icmp_ne (tgt := 26) hx hb dX1_valleysLead_21 (by decide) (fun c_2 => ?_) (fun c_2 => ?_)
        · skip
          refine lv_aload_n hx hb dX1_valleysLead_26 rfl (lv_at hl 2 rfl) ?_
          refine va_get (D := D) (ci := 1) (v := .ref (a 8)) (C := RX1) (T := TX1) (N := 16) hx hb hts hinX1 hown hK hP 0 rfl rfl 7 (by decide) fl33 (fun _ h9 => h9) rfl dX1_valleysLead_27 ?_
          refine lv_iload_n hx hb dX1_valleysLead_30 rfl (lv_at hl 1 rfl) ?_
          refine k_iald (k := aq.toNatClampNeg) (v := r 7 aq.toNatClampNeg) hx hb hK hP 8 0 rfl rfl (zL_in (n := 6) rfl rfl c_1) rfl (rfl) dX1_valleysLead_31 ?_
          refine lv_topi (fun v3_3 ev3_3 => ?_)
          refine lv_istore_n (lv' := [(3, .int v3_3), (4, .int (nI i)), (0, .ref (a 0)), (1, .int q), (2, .int t)]) hx hb dX1_valleysLead_32 rfl hl (by decide) rfl (fun ls hl => ?_)
          refine lv_iinc (v := nI (i + 1)) (lv' := [(4, .int (nI (i + 1))), (3, .int v3_3), (0, .ref (a 0)), (1, .int q), (2, .int t)]) hx hb dX1_valleysLead_33 hl (k := 1) rfl (nI_1 i) (by decide) rfl (fun ls hl => ?_)
          refine lv_goto (tgt := 5) hx hb dX1_valleysLead_36 (by decide) ?_
          exact ih (i + 1) v3_3 (by omega) (by replace ev3_3 := ev3_3.symm; subst ev3_3; rw [← hres]; simp only [vlead, if_neg c_1, if_neg c_2, ↓reduceIte]) H locs hP hD hS ls (lv_sub hl [0, 1, 2, 3, 4] rfl)
        · skip
          refine lv_iconst (v := 1) hx hb dX1_valleysLead_24 (by decide) ?_
          exact k_zret hx hb hr hlocks hS hP dX1_valleysLead_25 (by first | rfl | decide | exact rfl) (by (rw [← hres]; simp only [vlead, if_neg c_1, if_pos c_2, ↓reduceIte]))
  exact Lp5 6 0 q (by omega) rfl _ _ hP hD hS ls (lv_sub hl [0, 1, 2, 3, 4] rfl)

set_option maxHeartbeats 4000000 in
set_option maxRecDepth 100000 in
theorem mX1_planeNumber (l : Launch) (D : va_G) (cI cQ cJ : ClassId) (a : Nat → Nat) (r : rB) (q : Int32) (i w : Nat) (hq : vp_in q 6) (hi : q.toNatClampNeg = i) (hw : w < 4) : Mi l D (tY cI cQ cJ) yX1_planeNumber wsX1_planeNumber ({ frames := 0, cells := 0, slots := 0, locals := 0 } : Room) [.ref (a 0), .int q, .int (nI w)] (cR cI a r) (cR cI a r) (pnC r i w) := by
  refine M_of (cc := cX1_planeNumber) (maxL := 3) (ret := some .int) (Qc := fun A => va_Qi (fun (x : Int32) (_ : Unit) => x = pnC r i w) (fun _ t => Wd D (cR cI a r) t) A) (by decide) rfl (Nat.le_of_ble_eq_true rfl) ?_
  intro p e s m below meth c A ls hB hE hP hK hD hA hl
  obtain ⟨hx, hb, hr, hml, hts, hown, hlocks⟩ := hB
  have hS : va_S A s.heap s.heap [] := va_S.rf
  have hl : lv_has ls 3 [(0, .ref (a 0)), (1, .int q), (2, .int (nI w))] := hl
  have hinX1 : ∀ w ∈ u_ws RX1 TX1 16, w ∈ wsX1_planeNumber := by decide +kernel
  have fl9 := hts (.fieldLink RX1 9 "RoofDrains$Roof" "area" "[I") (by decide +kernel)
  have fl15 := hts (.fieldLink RX1 15 "RoofDrains$Roof" "slope" "[I") (by decide +kernel)
  have fl18 := hts (.fieldLink RX1 18 "RoofDrains$Roof" "leadsTo" "[I") (by decide +kernel)
  have fl21 := hts (.fieldLink RX1 21 "RoofDrains$Roof" "onPlane" "[I") (by decide +kernel)
  refine lv_iload_n hx hb dX1_planeNumber_0 rfl (lv_at hl 2 rfl) ?_
  have hsw : w = 0 ∨ w = 1 ∨ w = 2 ∨ w = 3 := by omega
  rcases hsw with rfl | rfl | rfl | rfl
  · skip
    refine lv_tableIn (off := 27) (tgt := 28) hx hb dX1_planeNumber_1 (by decide +kernel) (by decide +kernel) (by decide +kernel) (by decide) ?_
    refine lv_aload_n hx hb dX1_planeNumber_28 rfl (lv_at hl 0 rfl) ?_
    refine va_get (D := D) (ci := 1) (v := .ref (a 1)) (C := RX1) (T := TX1) (N := 16) hx hb hts hinX1 hown hK hP 0 rfl rfl 0 (by decide) fl9 (fun _ h9 => h9) rfl dX1_planeNumber_29 ?_
    refine lv_iload_n hx hb dX1_planeNumber_32 rfl (lv_at hl 1 rfl) ?_
    refine k_iald (k := i) (v := r 0 i) hx hb hK hP 1 0 rfl rfl hq hi (rfl) dX1_planeNumber_33 ?_
    exact k_iret hx hb hr hlocks hS hP dX1_planeNumber_34 (by (simp only [pnC, ↓reduceIte]))
  · skip
    refine lv_tableIn (off := 34) (tgt := 35) hx hb dX1_planeNumber_1 (by decide +kernel) (by decide +kernel) (by decide +kernel) (by decide) ?_
    refine lv_aload_n hx hb dX1_planeNumber_35 rfl (lv_at hl 0 rfl) ?_
    refine va_get (D := D) (ci := 1) (v := .ref (a 2)) (C := RX1) (T := TX1) (N := 16) hx hb hts hinX1 hown hK hP 0 rfl rfl 1 (by decide) fl15 (fun _ h9 => h9) rfl dX1_planeNumber_36 ?_
    refine lv_iload_n hx hb dX1_planeNumber_39 rfl (lv_at hl 1 rfl) ?_
    refine k_iald (k := i) (v := r 1 i) hx hb hK hP 2 0 rfl rfl hq hi (rfl) dX1_planeNumber_40 ?_
    exact k_iret hx hb hr hlocks hS hP dX1_planeNumber_41 (by (simp only [pnC, ↓reduceIte]))
  · skip
    refine lv_tableIn (off := 41) (tgt := 42) hx hb dX1_planeNumber_1 (by decide +kernel) (by decide +kernel) (by decide +kernel) (by decide) ?_
    refine lv_aload_n hx hb dX1_planeNumber_42 rfl (lv_at hl 0 rfl) ?_
    refine va_get (D := D) (ci := 1) (v := .ref (a 3)) (C := RX1) (T := TX1) (N := 16) hx hb hts hinX1 hown hK hP 0 rfl rfl 2 (by decide) fl18 (fun _ h9 => h9) rfl dX1_planeNumber_43 ?_
    refine lv_iload_n hx hb dX1_planeNumber_46 rfl (lv_at hl 1 rfl) ?_
    refine k_iald (k := i) (v := r 2 i) hx hb hK hP 3 0 rfl rfl hq hi (rfl) dX1_planeNumber_47 ?_
    exact k_iret hx hb hr hlocks hS hP dX1_planeNumber_48 (by (simp only [pnC, ↓reduceIte]))
  · skip
    refine lv_tableOut (tgt := 49) hx hb dX1_planeNumber_1 (by decide +kernel) (by decide) ?_
    refine lv_aload_n hx hb dX1_planeNumber_49 rfl (lv_at hl 0 rfl) ?_
    refine va_get (D := D) (ci := 1) (v := .ref (a 4)) (C := RX1) (T := TX1) (N := 16) hx hb hts hinX1 hown hK hP 0 rfl rfl 3 (by decide) fl21 (fun _ h9 => h9) rfl dX1_planeNumber_50 ?_
    refine lv_iload_n hx hb dX1_planeNumber_53 rfl (lv_at hl 1 rfl) ?_
    refine k_iald (k := i) (v := r 3 i) hx hb hK hP 4 0 rfl rfl hq hi (rfl) dX1_planeNumber_54 ?_
    exact k_iret hx hb hr hlocks hS hP dX1_planeNumber_55 (by (simp only [pnC, ↓reduceIte]))

set_option maxHeartbeats 4000000 in
set_option maxRecDepth 100000 in
theorem mX1_gutterNumber (l : Launch) (D : va_G) (cI cQ cJ : ClassId) (a : Nat → Nat) (r : rB) (q : Int32) (i w : Nat) (hq : vp_in q 6) (hi : q.toNatClampNeg = i) (hw : w < 9) : Mi l D (tY cI cQ cJ) yX1_gutterNumber wsX1_gutterNumber ({ frames := 1, cells := 0, slots := 0, locals := 22 } : Room) [.ref (a 0), .int q, .int (nI w)] (cR cI a r) (cR cI a r) (gnC r i w) := by
  refine M_of (cc := cX1_gutterNumber) (maxL := 3) (ret := some .int) (Qc := fun A => va_Qi (fun (x : Int32) (_ : Unit) => x = gnC r i w) (fun _ t => Wd D (cR cI a r) t) A) (by decide) rfl (Nat.le_of_ble_eq_true rfl) ?_
  intro p e s m below meth c A ls hB hE hP hK hD hA hl
  obtain ⟨hx, hb, hr, hml, hts, hown, hlocks⟩ := hB
  have hS : va_S A s.heap s.heap [] := va_S.rf
  have hl : lv_has ls 3 [(0, .ref (a 0)), (1, .int q), (2, .int (nI w))] := hl
  have hinX1 : ∀ w ∈ u_ws RX1 TX1 16, w ∈ wsX1_gutterNumber := by decide +kernel
  have fl24 := hts (.fieldLink RX1 24 "RoofDrains$Roof" "size" "[I") (by decide +kernel)
  have fl27 := hts (.fieldLink RX1 27 "RoofDrains$Roof" "bore" "[I") (by decide +kernel)
  have fl30 := hts (.fieldLink RX1 30 "RoofDrains$Roof" "leaves" "[I") (by decide +kernel)
  have fl33 := hts (.fieldLink RX1 33 "RoofDrains$Roof" "valleyTo" "[I") (by decide +kernel)
  have fl36 := hts (.fieldLink RX1 36 "RoofDrains$Roof" "inGutter" "[I") (by decide +kernel)
  have fl39 := hts (.fieldLink RX1 39 "RoofDrains$Roof" "spilt" "[I") (by decide +kernel)
  have fl42 := hts (.fieldLink RX1 42 "RoofDrains$Roof" "drained" "[I") (by decide +kernel)
  refine lv_iload_n hx hb dX1_gutterNumber_0 rfl (lv_at hl 2 rfl) ?_
  have hsw : w = 0 ∨ w = 1 ∨ w = 2 ∨ w = 3 ∨ w = 4 ∨ w = 5 ∨ w = 6 ∨ w = 7 ∨ w = 8 := by omega
  rcases hsw with rfl | rfl | rfl | rfl | rfl | rfl | rfl | rfl | rfl
  · skip
    refine lv_tableIn (off := 47) (tgt := 48) hx hb dX1_gutterNumber_1 (by decide +kernel) (by decide +kernel) (by decide +kernel) (by decide) ?_
    refine lv_aload_n hx hb dX1_gutterNumber_48 rfl (lv_at hl 0 rfl) ?_
    refine va_get (D := D) (ci := 1) (v := .ref (a 5)) (C := RX1) (T := TX1) (N := 16) hx hb hts hinX1 hown hK hP 0 rfl rfl 4 (by decide) fl24 (fun _ h9 => h9) rfl dX1_gutterNumber_49 ?_
    refine lv_iload_n hx hb dX1_gutterNumber_52 rfl (lv_at hl 1 rfl) ?_
    refine k_iald (k := i) (v := r 4 i) hx hb hK hP 5 0 rfl rfl hq hi (rfl) dX1_gutterNumber_53 ?_
    exact k_iret hx hb hr hlocks hS hP dX1_gutterNumber_54 (by (simp only [gnC, ↓reduceIte]))
  · skip
    refine lv_tableIn (off := 54) (tgt := 55) hx hb dX1_gutterNumber_1 (by decide +kernel) (by decide +kernel) (by decide +kernel) (by decide) ?_
    refine lv_aload_n hx hb dX1_gutterNumber_55 rfl (lv_at hl 0 rfl) ?_
    refine va_get (D := D) (ci := 1) (v := .ref (a 6)) (C := RX1) (T := TX1) (N := 16) hx hb hts hinX1 hown hK hP 0 rfl rfl 5 (by decide) fl27 (fun _ h9 => h9) rfl dX1_gutterNumber_56 ?_
    refine lv_iload_n hx hb dX1_gutterNumber_59 rfl (lv_at hl 1 rfl) ?_
    refine k_iald (k := i) (v := r 5 i) hx hb hK hP 6 0 rfl rfl hq hi (rfl) dX1_gutterNumber_60 ?_
    exact k_iret hx hb hr hlocks hS hP dX1_gutterNumber_61 (by (simp only [gnC, ↓reduceIte]))
  · skip
    refine lv_tableIn (off := 61) (tgt := 62) hx hb dX1_gutterNumber_1 (by decide +kernel) (by decide +kernel) (by decide +kernel) (by decide) ?_
    refine lv_aload_n hx hb dX1_gutterNumber_62 rfl (lv_at hl 0 rfl) ?_
    refine va_get (D := D) (ci := 1) (v := .ref (a 7)) (C := RX1) (T := TX1) (N := 16) hx hb hts hinX1 hown hK hP 0 rfl rfl 6 (by decide) fl30 (fun _ h9 => h9) rfl dX1_gutterNumber_63 ?_
    refine lv_iload_n hx hb dX1_gutterNumber_66 rfl (lv_at hl 1 rfl) ?_
    refine k_iald (k := i) (v := r 6 i) hx hb hK hP 7 0 rfl rfl hq hi (rfl) dX1_gutterNumber_67 ?_
    exact k_iret hx hb hr hlocks hS hP dX1_gutterNumber_68 (by (simp only [gnC, ↓reduceIte]))
  · skip
    refine lv_tableIn (off := 68) (tgt := 69) hx hb dX1_gutterNumber_1 (by decide +kernel) (by decide +kernel) (by decide +kernel) (by decide) ?_
    refine lv_aload_n hx hb dX1_gutterNumber_69 rfl (lv_at hl 0 rfl) ?_
    refine va_get (D := D) (ci := 1) (v := .ref (a 8)) (C := RX1) (T := TX1) (N := 16) hx hb hts hinX1 hown hK hP 0 rfl rfl 7 (by decide) fl33 (fun _ h9 => h9) rfl dX1_gutterNumber_70 ?_
    refine lv_iload_n hx hb dX1_gutterNumber_73 rfl (lv_at hl 1 rfl) ?_
    refine k_iald (k := i) (v := r 7 i) hx hb hK hP 8 0 rfl rfl hq hi (rfl) dX1_gutterNumber_74 ?_
    exact k_iret hx hb hr hlocks hS hP dX1_gutterNumber_75 (by (simp only [gnC, ↓reduceIte]))
  · skip
    refine lv_tableIn (off := 75) (tgt := 76) hx hb dX1_gutterNumber_1 (by decide +kernel) (by decide +kernel) (by decide +kernel) (by decide) ?_
    refine lv_aload_n hx hb dX1_gutterNumber_76 rfl (lv_at hl 0 rfl) ?_
    refine va_get (D := D) (ci := 1) (v := .ref (a 9)) (C := RX1) (T := TX1) (N := 16) hx hb hts hinX1 hown hK hP 0 rfl rfl 8 (by decide) fl36 (fun _ h9 => h9) rfl dX1_gutterNumber_77 ?_
    refine lv_iload_n hx hb dX1_gutterNumber_80 rfl (lv_at hl 1 rfl) ?_
    refine k_iald (k := i) (v := r 8 i) hx hb hK hP 9 0 rfl rfl hq hi (rfl) dX1_gutterNumber_81 ?_
    exact k_iret hx hb hr hlocks hS hP dX1_gutterNumber_82 (by (simp only [gnC, ↓reduceIte]))
  · skip
    refine lv_tableIn (off := 82) (tgt := 83) hx hb dX1_gutterNumber_1 (by decide +kernel) (by decide +kernel) (by decide +kernel) (by decide) ?_
    refine lv_aload_n hx hb dX1_gutterNumber_83 rfl (lv_at hl 0 rfl) ?_
    refine lv_iload_n hx hb dX1_gutterNumber_84 rfl (lv_at hl 1 rfl) ?_
    refine k_calli (wc := cR cI a r) (w' := cR cI a r) (wn := cR cI a r) (va_runV (As := [.int q]) (rest := []) ⟨hx, hb, hml, hown, hts⟩ (mX1_room l D cI cQ cJ a r q i hq hi _) (cwV 1 hts gX1_gutterNumber_X1_room rfl rfl rfl (by decide +kernel) ⟨Nat.le_of_ble_eq_true rfl, Nat.le_of_ble_eq_true rfl⟩) (k_preV (wc := cR cI a r) hE hK hP hD [0, 1, 2, 3, 4, 5, 6, 7, 8, 9, 10, 11, 12] (by decide) rfl (ci := 1) (q0 := 0) rfl rfl [.int q]) rfl rfl hl.1 rfl (lv_room (Nat.le_of_ble_eq_true rfl)) dX1_gutterNumber_85 ⟨Nat.zero_le _, Nat.zero_le _⟩) hP hD hS hA [0, 1, 2, 3, 4, 5, 6, 7, 8, 9, 10, 11, 12] rfl rfl rfl (fun H locs hP hD hS => ?_)
    exact k_iret hx hb hr hlocks hS hP dX1_gutterNumber_88 (by (simp only [gnC, ↓reduceIte]))
  · skip
    refine lv_tableIn (off := 88) (tgt := 89) hx hb dX1_gutterNumber_1 (by decide +kernel) (by decide +kernel) (by decide +kernel) (by decide) ?_
    refine lv_aload_n hx hb dX1_gutterNumber_89 rfl (lv_at hl 0 rfl) ?_
    refine lv_iload_n hx hb dX1_gutterNumber_90 rfl (lv_at hl 1 rfl) ?_
    refine k_calli (wc := cR cI a r) (w' := cR cI a r) (wn := cR cI a r) (va_runV (As := [.int q]) (rest := []) ⟨hx, hb, hml, hown, hts⟩ (mX1_pipeTakes l D cI cQ cJ a r q i hq hi _) (cwV 1 hts gX1_gutterNumber_X1_pipeTakes rfl rfl rfl (by decide +kernel) ⟨Nat.le_of_ble_eq_true rfl, Nat.le_of_ble_eq_true rfl⟩) (k_preV (wc := cR cI a r) hE hK hP hD [0, 1, 2, 3, 4, 5, 6, 7, 8, 9, 10, 11, 12] (by decide) rfl (ci := 1) (q0 := 0) rfl rfl [.int q]) rfl rfl hl.1 rfl (lv_room (Nat.le_of_ble_eq_true rfl)) dX1_gutterNumber_91 ⟨Nat.zero_le _, Nat.zero_le _⟩) hP hD hS hA [0, 1, 2, 3, 4, 5, 6, 7, 8, 9, 10, 11, 12] rfl rfl rfl (fun H locs hP hD hS => ?_)
    exact k_iret hx hb hr hlocks hS hP dX1_gutterNumber_94 (by (simp only [gnC, ↓reduceIte]))
  · skip
    refine lv_tableIn (off := 94) (tgt := 95) hx hb dX1_gutterNumber_1 (by decide +kernel) (by decide +kernel) (by decide +kernel) (by decide) ?_
    refine lv_aload_n hx hb dX1_gutterNumber_95 rfl (lv_at hl 0 rfl) ?_
    refine va_get (D := D) (ci := 1) (v := .ref (a 10)) (C := RX1) (T := TX1) (N := 16) hx hb hts hinX1 hown hK hP 0 rfl rfl 9 (by decide) fl39 (fun _ h9 => h9) rfl dX1_gutterNumber_96 ?_
    refine lv_iload_n hx hb dX1_gutterNumber_99 rfl (lv_at hl 1 rfl) ?_
    refine k_iald (k := i) (v := r 9 i) hx hb hK hP 10 0 rfl rfl hq hi (rfl) dX1_gutterNumber_100 ?_
    exact k_iret hx hb hr hlocks hS hP dX1_gutterNumber_101 (by (simp only [gnC, ↓reduceIte]))
  · skip
    refine lv_tableOut (tgt := 102) hx hb dX1_gutterNumber_1 (by decide +kernel) (by decide) ?_
    refine lv_aload_n hx hb dX1_gutterNumber_102 rfl (lv_at hl 0 rfl) ?_
    refine va_get (D := D) (ci := 1) (v := .ref (a 11)) (C := RX1) (T := TX1) (N := 16) hx hb hts hinX1 hown hK hP 0 rfl rfl 10 (by decide) fl42 (fun _ h9 => h9) rfl dX1_gutterNumber_103 ?_
    refine lv_iload_n hx hb dX1_gutterNumber_106 rfl (lv_at hl 1 rfl) ?_
    refine k_iald (k := i) (v := r 10 i) hx hb hK hP 11 0 rfl rfl hq hi (rfl) dX1_gutterNumber_107 ?_
    exact k_iret hx hb hr hlocks hS hP dX1_gutterNumber_108 (by (simp only [gnC, ↓reduceIte]))
