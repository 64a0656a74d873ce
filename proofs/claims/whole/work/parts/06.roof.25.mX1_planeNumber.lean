set_option maxHeartbeats 4000000 in
set_option maxRecDepth 100000 in
theorem mX1_planeNumber (l : Launch) (D : va_G) (cI cQ cJ : ClassId) (a : Nat → Nat) (r : rB) (q : Int32) (i w : Nat) (hq : vp_in q 6) (hi : q.toNatClampNeg = i) (hw : w < 4) : Mi l D (tY cI cQ cJ) yX1_planeNumber wsX1_planeNumber ({ frames := 0, cells := 0, slots := 0, locals := 0 } : Room) [.ref (a 0), .int q, .int (nI w)] (cR cI a r) (cR cI a r) (pnC r i w) := by
  refine M_of (cc := cX1_planeNumber) (maxL := 3) (ret := some .int) (Qc := fun A => va_Qi (fun (x : Int32) (_ : Unit) => x = pnC r i w) (fun _ t => Wd D (cR cI a r) t) A) (by decide) rfl (Nat.le_of_ble_eq_true rfl) ?_
  intro p e s m below meth c A ls hB hE hP hK hD hA hl
  obtain ⟨hx, hb, hr, hml, hts, hown, hlocks⟩ := hB
  have hS : va_S A s.heap s.heap [] := va_S.rf
  have hl : lv_has ls 3 [(0, .ref (a 0)), (1, .int q), (2, .int (nI w))] := hl
  have hinX1 : ∀ w ∈ u_ws RX1 TX1 16, w ∈ wsX1_planeNumber := by decide +kernel
  have fl9 := hts (.fieldLink RX1 9 "RoofDrains$Roof" "area" "[I") (by decide +kernel)
  have fl15 := hts (.fieldLink RX1 15 "RoofDrains$Roof" "slope" "[I") (by decide +kernel)
  have fl18 := hts (.fieldLink RX1 18 "RoofDrains$Roof" "leadsTo" "[I") (by decide +kernel)
  have fl21 := hts (.fieldLink RX1 21 "RoofDrains$Roof" "onPlane" "[I") (by decide +kernel)
  refine lv_iload_n hx hb dX1_planeNumber_0 rfl (lv_at hl 2 rfl) ?_
  have hsw : w = 0 ∨ w = 1 ∨ w = 2 ∨ w = 3 := by omega
  rcases hsw with rfl | rfl | rfl | rfl
  · skip
    refine lv_tableIn (off := 27) (tgt := 28) hx hb dX1_planeNumber_1 (by decide +kernel) (by decide +kernel) (by decide +kernel) (by decide) ?_
    refine lv_aload_n hx hb dX1_planeNumber_28 rfl (lv_at hl 0 rfl) ?_
    refine va_get (D := D) (ci := 1) (v := .ref (a 1)) (C := RX1) (T := TX1) (N := 16) hx hb hts hinX1 hown hK hP 0 rfl rfl 0 (by decide) fl9 (fun _ h9 => h9) rfl dX1_planeNumber_29 ?_
    refine lv_iload_n hx hb dX1_planeNumber_32 rfl (lv_at hl 1 rfl) ?_
    refine k_iald (k := i) (v := r 0 i) hx hb hK hP 1 0 rfl rfl hq hi (rfl) dX1_planeNumber_33 ?_
    exact k_iret hx hb hr hlocks hS hP dX1_planeNumber_34 (by (simp only [pnC, ↓reduceIte]))
  · skip
    refine lv_tableIn (off := 34) (tgt := 35) hx hb dX1_planeNumber_1 (by decide +kernel) (by decide +kernel) (by decide +kernel) (by decide) ?_
    refine lv_aload_n hx hb dX1_planeNumber_35 rfl (lv_at hl 0 rfl) ?_
    refine va_get (D := D) (ci := 1) (v := .ref (a 2)) (C := RX1) (T := TX1) (N := 16) hx hb hts hinX1 hown hK hP 0 rfl rfl 1 (by decide) fl15 (fun _ h9 => h9) rfl dX1_planeNumber_36 ?_
    refine lv_iload_n hx hb dX1_planeNumber_39 rfl (lv_at hl 1 rfl) ?_
    refine k_iald (k := i) (v := r 1 i) hx hb hK hP 2 0 rfl rfl hq hi (rfl) dX1_planeNumber_40 ?_
    exact k_iret hx hb hr hlocks hS hP dX1_planeNumber_41 (by (simp only [pnC, ↓reduceIte]))
  · skip
    refine lv_tableIn (off := 41) (tgt := 42) hx hb dX1_planeNumber_1 (by decide +kernel) (by decide +kernel) (by decide +kernel) (by decide) ?_
    refine lv_aload_n hx hb dX1_planeNumber_42 rfl (lv_at hl 0 rfl) ?_
    refine va_get (D := D) (ci := 1) (v := .ref (a 3)) (C := RX1) (T := TX1) (N := 16) hx hb hts hinX1 hown hK hP 0 rfl rfl 2 (by decide) fl18 (fun _ h9 => h9) rfl dX1_planeNumber_43 ?_
    refine lv_iload_n hx hb dX1_planeNumber_46 rfl (lv_at hl 1 rfl) ?_
    refine k_iald (k := i) (v := r 2 i) hx hb hK hP 3 0 rfl rfl hq hi (rfl) dX1_planeNumber_47 ?_
    exact k_iret hx hb hr hlocks hS hP dX1_planeNumber_48 (by (simp only [pnC, ↓reduceIte]))
  · skip
    refine lv_tableOut (tgt := 49) hx hb dX1_planeNumber_1 (by decide +kernel) (by decide) ?_
    refine lv_aload_n hx hb dX1_planeNumber_49 rfl (lv_at hl 0 rfl) ?_
    refine va_get (D := D) (ci := 1) (v := .ref (a 4)) (C := RX1) (T := TX1) (N := 16) hx hb hts hinX1 hown hK hP 0 rfl rfl 3 (by decide) fl21 (fun _ h9 => h9) rfl dX1_planeNumber_50 ?_
    refine lv_iload_n hx hb dX1_planeNumber_53 rfl (lv_at hl 1 rfl) ?_
    refine k_iald (k := i) (v := r 3 i) hx hb hK hP 4 0 rfl rfl hq hi (rfl) dX1_planeNumber_54 ?_
    exact k_iret hx hb hr hlocks hS hP dX1_planeNumber_55 (by (simp only [pnC, ↓reduceIte]))
