set_option maxHeartbeats 4000000 in
set_option maxRecDepth 100000 in
theorem mX3_isGutter (l : Launch) (D : va_G) (cI cQ cJ : ClassId) (q : Int32) : Mi l D (tY cI cQ cJ) yX3_isGutter wsX3_isGutter ({ frames := 0, cells := 0, slots := 0, locals := 0 } : Room) [.int q] (([] : va_W)) (([] : va_W)) (zL q 6) := by
  refine M_of (cc := cX3_isGutter) (maxL := 1) (ret := some .boolean) (Qc := fun A => va_Qi (fun (x : Int32) (_ : Unit) => x = zL q 6) (fun _ t => Wd D (([] : va_W)) t) A) (by decide) rfl (Nat.le_of_ble_eq_true rfl) ?_
  intro p e s m below meth c A ls hB hE hP hK hD hA hl
  obtain ⟨hx, hb, hr, hml, hts, hown, hlocks⟩ := hB
  have hS : va_S A s.heap s.heap [] := va_S.rf
  have hl : lv_has ls 1 [(0, .int q)] := hl
  refine lv_iload_n hx hb dX3_isGutter_0 rfl (lv_at hl 0 rfl) ?_
  refine lv_if_lt (tgt := 14) hx hb dX3_isGutter_1 (by decide) (fun c_1 => ?_) (fun c_1 => ?_)
  · skip
    refine lv_iconst (v := 0) hx hb dX3_isGutter_14 (by decide) ?_
    exact k_zret hx hb hr hlocks hS hP dX3_isGutter_15 (by first | rfl | decide | exact rfl) (by (first | rfl | (simp only [zL, c_1, ↓reduceIte]; done) | (simp [zL, c_1]; done)))
  · skip
    refine lv_iload_n hx hb dX3_isGutter_4 rfl (lv_at hl 0 rfl) ?_
    refine lv_bipush (v := 6) hx hb dX3_isGutter_5 (by decide) ?_
    refine lv_icmp_ge (tgt := 14) hx hb dX3_isGutter_7 (by decide) (fun c_2 => ?_) (fun c_2 => ?_)
    · skip
      refine lv_iconst (v := 0) hx hb dX3_isGutter_14 (by decide) ?_
      exact k_zret hx hb hr hlocks hS hP dX3_isGutter_15 (by first | rfl | decide | exact rfl) (by (first | rfl | (simp only [zL, c_1, c_2, ↓reduceIte]; done) | (simp [zL, c_1, c_2]; done)))
    · skip
      refine lv_iconst (v := 1) hx hb dX3_isGutter_10 (by decide) ?_
      refine lv_goto (tgt := 15) hx hb dX3_isGutter_11 (by decide) ?_
      exact k_zret hx hb hr hlocks hS hP dX3_isGutter_15 (by first | rfl | decide | exact rfl) (by (first | rfl | (simp only [zL, c_1, c_2, ↓reduceIte]; done) | (simp [zL, c_1, c_2]; done)))
set_option maxHeartbeats 4000000 in
set_option maxRecDepth 100000 in
theorem mX3_isPlane (l : Launch) (D : va_G) (cI cQ cJ : ClassId) (q : Int32) : Mi l D (tY cI cQ cJ) yX3_isPlane wsX3_isPlane ({ frames := 0, cells := 0, slots := 0, locals := 0 } : Room) [.int q] (([] : va_W)) (([] : va_W)) (zL q 6) := by
  refine M_of (cc := cX3_isPlane) (maxL := 1) (ret := some .boolean) (Qc := fun A => va_Qi (fun (x : Int32) (_ : Unit) => x = zL q 6) (fun _ t => Wd D (([] : va_W)) t) A) (by decide) rfl (Nat.le_of_ble_eq_true rfl) ?_
  intro p e s m below meth c A ls hB hE hP hK hD hA hl
  obtain ⟨hx, hb, hr, hml, hts, hown, hlocks⟩ := hB
  have hS : va_S A s.heap s.heap [] := va_S.rf
  have hl : lv_has ls 1 [(0, .int q)] := hl
  refine lv_iload_n hx hb dX3_isPlane_0 rfl (lv_at hl 0 rfl) ?_
  refine lv_if_lt (tgt := 14) hx hb dX3_isPlane_1 (by decide) (fun c_1 => ?_) (fun c_1 => ?_)
  · skip
    refine lv_iconst (v := 0) hx hb dX3_isPlane_14 (by decide) ?_
    exact k_zret hx hb hr hlocks hS hP dX3_isPlane_15 (by first | rfl | decide | exact rfl) (by (first | rfl | (simp only [zL, c_1, ↓reduceIte]; done) | (simp [zL, c_1]; done)))
  · skip
    refine lv_iload_n hx hb dX3_isPlane_4 rfl (lv_at hl 0 rfl) ?_
    refine lv_bipush (v := 6) hx hb dX3_isPlane_5 (by decide) ?_
    refine lv_icmp_ge (tgt := 14) hx hb dX3_isPlane_7 (by decide) (fun c_2 => ?_) (fun c_2 => ?_)
    · skip
      refine lv_iconst (v := 0) hx hb dX3_isPlane_14 (by decide) ?_
      exact k_zret hx hb hr hlocks hS hP dX3_isPlane_15 (by first | rfl | decide | exact rfl) (by (first | rfl | (simp only [zL, c_1, c_2, ↓reduceIte]; done) | (simp [zL, c_1, c_2]; done)))
    · skip
      refine lv_iconst (v := 1) hx hb dX3_isPlane_10 (by decide) ?_
      refine lv_goto (tgt := 15) hx hb dX3_isPlane_11 (by decide) ?_
      exact k_zret hx hb hr hlocks hS hP dX3_isPlane_15 (by first | rfl | decide | exact rfl) (by (first | rfl | (simp only [zL, c_1, c_2, ↓reduceIte]; done) | (simp [zL, c_1, c_2]; done)))
set_option maxHeartbeats 4000000 in
set_option maxRecDepth 100000 in
theorem mX3_isSetting (l : Launch) (D : va_G) (cI cQ cJ : ClassId) (q : Int32) : Mi l D (tY cI cQ cJ) yX3_isSetting wsX3_isSetting ({ frames := 0, cells := 0, slots := 0, locals := 0 } : Room) [.int q] (([] : va_W)) (([] : va_W)) (zL q 3) := by
  refine M_of (cc := cX3_isSetting) (maxL := 1) (ret := some .boolean) (Qc := fun A => va_Qi (fun (x : Int32) (_ : Unit) => x = zL q 3) (fun _ t => Wd D (([] : va_W)) t) A) (by decide) rfl (Nat.le_of_ble_eq_true rfl) ?_
  intro p e s m below meth c A ls hB hE hP hK hD hA hl
  obtain ⟨hx, hb, hr, hml, hts, hown, hlocks⟩ := hB
  have hS : va_S A s.heap s.heap [] := va_S.rf
  have hl : lv_has ls 1 [(0, .int q)] := hl
  refine lv_iload_n hx hb dX3_isSetting_0 rfl (lv_at hl 0 rfl) ?_
  refine lv_if_lt (tgt := 13) hx hb dX3_isSetting_1 (by decide) (fun c_1 => ?_) (fun c_1 => ?_)
  · skip
    refine lv_iconst (v := 0) hx hb dX3_isSetting_13 (by decide) ?_
    exact k_zret hx hb hr hlocks hS hP dX3_isSetting_14 (by first | rfl | decide | exact rfl) (by (first | rfl | (simp only [zL, c_1, ↓reduceIte]; done) | (simp [zL, c_1]; done)))
  · skip
    refine lv_iload_n hx hb dX3_isSetting_4 rfl (lv_at hl 0 rfl) ?_
    refine lv_iconst (v := 3) hx hb dX3_isSetting_5 (by decide) ?_
    refine lv_icmp_ge (tgt := 13) hx hb dX3_isSetting_6 (by decide) (fun c_2 => ?_) (fun c_2 => ?_)
    · skip
      refine lv_iconst (v := 0) hx hb dX3_isSetting_13 (by decide) ?_
      exact k_zret hx hb hr hlocks hS hP dX3_isSetting_14 (by first | rfl | decide | exact rfl) (by (first | rfl | (simp only [zL, c_1, c_2, ↓reduceIte]; done) | (simp [zL, c_1, c_2]; done)))
    · skip
      refine lv_iconst (v := 1) hx hb dX3_isSetting_9 (by decide) ?_
      refine lv_goto (tgt := 14) hx hb dX3_isSetting_10 (by decide) ?_
      exact k_zret hx hb hr hlocks hS hP dX3_isSetting_14 (by first | rfl | decide | exact rfl) (by (first | rfl | (simp only [zL, c_1, c_2, ↓reduceIte]; done) | (simp [zL, c_1, c_2]; done)))
set_option maxHeartbeats 4000000 in
set_option maxRecDepth 100000 in
theorem mX3_isWithin (l : Launch) (D : va_G) (cI cQ cJ : ClassId) (v lo hi : Int32) : Mi l D (tY cI cQ cJ) yX3_isWithin wsX3_isWithin ({ frames := 0, cells := 0, slots := 0, locals := 0 } : Room) [.int v, .int lo, .int hi] (([] : va_W)) (([] : va_W)) (zW v lo hi) := by
  refine M_of (cc := cX3_isWithin) (maxL := 3) (ret := some .boolean) (Qc := fun A => va_Qi (fun (x : Int32) (_ : Unit) => x = zW v lo hi) (fun _ t => Wd D (([] : va_W)) t) A) (by decide) rfl (Nat.le_of_ble_eq_true rfl) ?_
  intro p e s m below meth c A ls hB hE hP hK hD hA hl
  obtain ⟨hx, hb, hr, hml, hts, hown, hlocks⟩ := hB
  have hS : va_S A s.heap s.heap [] := va_S.rf
  have hl : lv_has ls 3 [(0, .int v), (1, .int lo), (2, .int hi)] := hl
  refine lv_iload_n hx hb dX3_isWithin_0 rfl (lv_at hl 0 rfl) ?_
  refine lv_iload_n hx hb dX3_isWithin_1 rfl (lv_at hl 1 rfl) ?_
  refine lv_icmp_lt (tgt := 14) hx hb dX3_isWithin_2 (by decide) (fun c_1 => ?_) (fun c_1 => ?_)
  · skip
    refine lv_iconst (v := 0) hx hb dX3_isWithin_14 (by decide) ?_
    exact k_zret hx hb hr hlocks hS hP dX3_isWithin_15 (by first | rfl | decide | exact rfl) (by (first | rfl | (simp only [zW, c_1, ↓reduceIte]; done) | (simp [zW, c_1]; done)))
  · skip
    refine lv_iload_n hx hb dX3_isWithin_5 rfl (lv_at hl 0 rfl) ?_
    refine lv_iload_n hx hb dX3_isWithin_6 rfl (lv_at hl 2 rfl) ?_
    refine lv_icmp_gt (tgt := 14) hx hb dX3_isWithin_7 (by decide) (fun c_2 => ?_) (fun c_2 => ?_)
    · skip
      refine lv_iconst (v := 0) hx hb dX3_isWithin_14 (by decide) ?_
      exact k_zret hx hb hr hlocks hS hP dX3_isWithin_15 (by first | rfl | decide | exact rfl) (by (first | rfl | (simp only [zW, c_1, c_2, ↓reduceIte]; done) | (simp [zW, c_1, c_2]; done)))
    · skip
      refine lv_iconst (v := 1) hx hb dX3_isWithin_10 (by decide) ?_
      refine lv_goto (tgt := 15) hx hb dX3_isWithin_11 (by decide) ?_
      exact k_zret hx hb hr hlocks hS hP dX3_isWithin_15 (by first | rfl | decide | exact rfl) (by (first | rfl | (simp only [zW, c_1, c_2, ↓reduceIte]; done) | (simp [zW, c_1, c_2]; done)))
