set_option maxHeartbeats 4000000 in
set_option maxRecDepth 100000 in
theorem mX1_gutterNumber (l : Launch) (D : va_G) (cI cQ cJ : ClassId) (a : Nat → Nat) (r : rB) (q : Int32) (i w : Nat) (hq : vp_in q 6) (hi : q.toNatClampNeg = i) (hw : w < 9) : Mi l D (tY cI cQ cJ) yX1_gutterNumber wsX1_gutterNumber ({ frames := 1, cells := 0, slots := 0, locals := 22 } : Room) [.ref (a 0), .int q, .int (nI w)] (cR cI a r) (cR cI a r) (gnC r i w) := by
  refine M_of (cc := cX1_gutterNumber) (maxL := 3) (ret := some .int) (Qc := fun A => va_Qi (fun (x : Int32) (_ : Unit) => x = gnC r i w) (fun _ t => Wd D (cR cI a r) t) A) (by decide) rfl (Nat.le_of_ble_eq_true rfl) ?_
  intro p e s m below meth c A ls hB hE hP hK hD hA hl
  obtain ⟨hx, hb, hr, hml, hts, hown, hlocks⟩ := hB
  have hS : va_S A s.heap s.heap [] := va_S.rf
  have hl : lv_has ls 3 [(0, .ref (a 0)), (1, .int q), (2, .int (nI w))] := hl
  have hinX1 : ∀ w ∈ u_ws RX1 TX1 16, w ∈ wsX1_gutterNumber := by decide +kernel
  have fl24 := hts (.fieldLink RX1 24 "RoofDrains$Roof" "size" "[I") (by decide +kernel)
  have fl27 := hts (.fieldLink RX1 27 "RoofDrains$Roof" "bore" "[I") (by decide +kernel)
  have fl30 := hts (.fieldLink RX1 30 "RoofDrains$Roof" "leaves" "[I") (by decide +kernel)
  have fl33 := hts (.fieldLink RX1 33 "RoofDrains$Roof" "valleyTo" "[I") (by decide +kernel)
  have fl36 := hts (.fieldLink RX1 36 "RoofDrains$Roof" "inGutter" "[I") (by decide +kernel)
  have fl39 := hts (.fieldLink RX1 39 "RoofDrains$Roof" "spilt" "[I") (by decide +kernel)
  have fl42 := hts (.fieldLink RX1 42 "RoofDrains$Roof" "drained" "[I") (by decide +kernel)
  refine lv_iload_n hx hb dX1_gutterNumber_0 rfl (lv_at hl 2 rfl) ?_
  have hsw : w = 0 ∨ w = 1 ∨ w = 2 ∨ w = 3 ∨ w = 4 ∨ w = 5 ∨ w = 6 ∨ w = 7 ∨ w = 8 := by omega
  rcases hsw with rfl | rfl | rfl | rfl | rfl | rfl | rfl | rfl | rfl
  · skip
    refine lv_tableIn (off := 47) (tgt := 48) hx hb dX1_gutterNumber_1 (by decide +kernel) (by decide +kernel) (by decide +kernel) (by decide) ?_
    refine lv_aload_n hx hb dX1_gutterNumber_48 rfl (lv_at hl 0 rfl) ?_
    refine va_get (D := D) (ci := 1) (v := .ref (a 5)) (C := RX1) (T := TX1) (N := 16) hx hb hts hinX1 hown hK hP 0 rfl rfl 4 (by decide) fl24 (fun _ h9 => h9) rfl dX1_gutterNumber_49 ?_
    refine lv_iload_n hx hb dX1_gutterNumber_52 rfl (lv_at hl 1 rfl) ?_
    refine k_iald (k := i) (v := r 4 i) hx hb hK hP 5 0 rfl rfl hq hi (rfl) dX1_gutterNumber_53 ?_
    exact k_iret hx hb hr hlocks hS hP dX1_gutterNumber_54 (by (simp only [gnC, ↓reduceIte]))
  · skip
    refine lv_tableIn (off := 54) (tgt := 55) hx hb dX1_gutterNumber_1 (by decide +kernel) (by decide +kernel) (by decide +kernel) (by decide) ?_
    refine lv_aload_n hx hb dX1_gutterNumber_55 rfl (lv_at hl 0 rfl) ?_
    refine va_get (D := D) (ci := 1) (v := .ref (a 6)) (C := RX1) (T := TX1) (N := 16) hx hb hts hinX1 hown hK hP 0 rfl rfl 5 (by decide) fl27 (fun _ h9 => h9) rfl dX1_gutterNumber_56 ?_
    refine lv_iload_n hx hb dX1_gutterNumber_59 rfl (lv_at hl 1 rfl) ?_
    refine k_iald (k := i) (v := r 5 i) hx hb hK hP 6 0 rfl rfl hq hi (rfl) dX1_gutterNumber_60 ?_
    exact k_iret hx hb hr hlocks hS hP dX1_gutterNumber_61 (by (simp only [gnC, ↓reduceIte]))
  · skip
    refine lv_tableIn (off := 61) (tgt := 62) hx hb dX1_gutterNumber_1 (by decide +kernel) (by decide +kernel) (by decide +kernel) (by decide) ?_
    refine lv_aload_n hx hb dX1_gutterNumber_62 rfl (lv_at hl 0 rfl) ?_
    refine va_get (D := D) (ci := 1) (v := .ref (a 7)) (C := RX1) (T := TX1) (N := 16) hx hb hts hinX1 hown hK hP 0 rfl rfl 6 (by decide) fl30 (fun _ h9 => h9) rfl dX1_gutterNumber_63 ?_
    refine lv_iload_n hx hb dX1_gutterNumber_66 rfl (lv_at hl 1 rfl) ?_
    refine k_iald (k := i) (v := r 6 i) hx hb hK hP 7 0 rfl rfl hq hi (rfl) dX1_gutterNumber_67 ?_
    exact k_iret hx hb hr hlocks hS hP dX1_gutterNumber_68 (by (simp only [gnC, ↓reduceIte]))
  · skip
    refine lv_tableIn (off := 68) (tgt := 69) hx hb dX1_gutterNumber_1 (by decide +kernel) (by decide +kernel) (by decide +kernel) (by decide) ?_
    refine lv_aload_n hx hb dX1_gutterNumber_69 rfl (lv_at hl 0 rfl) ?_
    refine va_get (D := D) (ci := 1) (v := .ref (a 8)) (C := RX1) (T := TX1) (N := 16) hx hb hts hinX1 hown hK hP 0 rfl rfl 7 (by decide) fl33 (fun _ h9 => h9) rfl dX1_gutterNumber_70 ?_
    refine lv_iload_n hx hb dX1_gutterNumber_73 rfl (lv_at hl 1 rfl) ?_
    refine k_iald (k := i) (v := r 7 i) hx hb hK hP 8 0 rfl rfl hq hi (rfl) dX1_gutterNumber_74 ?_
    exact k_iret hx hb hr hlocks hS hP dX1_gutterNumber_75 (by (simp only [gnC, ↓reduceIte]))
  · skip
    refine lv_tableIn (off := 75) (tgt := 76) hx hb dX1_gutterNumber_1 (by decide +kernel) (by decide +kernel) (by decide +kernel) (by decide) ?_
    refine lv_aload_n hx hb dX1_gutterNumber_76 rfl (lv_at hl 0 rfl) ?_
    refine va_get (D := D) (ci := 1) (v := .ref (a 9)) (C := RX1) (T := TX1) (N := 16) hx hb hts hinX1 hown hK hP 0 rfl rfl 8 (by decide) fl36 (fun _ h9 => h9) rfl dX1_gutterNumber_77 ?_
    refine lv_iload_n hx hb dX1_gutterNumber_80 rfl (lv_at hl 1 rfl) ?_
    refine k_iald (k := i) (v := r 8 i) hx hb hK hP 9 0 rfl rfl hq hi (rfl) dX1_gutterNumber_81 ?_
    exact k_iret hx hb hr hlocks hS hP dX1_gutterNumber_82 (by (simp only [gnC, ↓reduceIte]))
  · skip
    refine lv_tableIn (off := 82) (tgt := 83) hx hb dX1_gutterNumber_1 (by decide +kernel) (by decide +kernel) (by decide +kernel) (by decide) ?_
    refine lv_aload_n hx hb dX1_gutterNumber_83 rfl (lv_at hl 0 rfl) ?_
    refine lv_iload_n hx hb dX1_gutterNumber_84 rfl (lv_at hl 1 rfl) ?_
    refine k_calli (wc := cR cI a r) (w' := cR cI a r) (wn := cR cI a r) (va_runV (As := [.int q]) (rest := []) ⟨hx, hb, hml, hown, hts⟩ (mX1_room l D cI cQ cJ a r q i hq hi _) (cwV 1 hts gX1_gutterNumber_X1_room rfl rfl rfl (by decide +kernel) ⟨Nat.le_of_ble_eq_true rfl, Nat.le_of_ble_eq_true rfl⟩) (k_preV (wc := cR cI a r) hE hK hP hD [0, 1, 2, 3, 4, 5, 6, 7, 8, 9, 10, 11, 12] (by decide) rfl (ci := 1) (q0 := 0) rfl rfl [.int q]) rfl rfl hl.1 rfl (lv_room (Nat.le_of_ble_eq_true rfl)) dX1_gutterNumber_85 ⟨Nat.zero_le _, Nat.zero_le _⟩) hP hD hS hA [0, 1, 2, 3, 4, 5, 6, 7, 8, 9, 10, 11, 12] rfl rfl rfl (fun H locs hP hD hS => ?_)
    exact k_iret hx hb hr hlocks hS hP dX1_gutterNumber_88 (by (simp only [gnC, ↓reduceIte]))
  · skip
    refine lv_tableIn (off := 88) (tgt := 89) hx hb dX1_gutterNumber_1 (by decide +kernel) (by decide +kernel) (by decide +kernel) (by decide) ?_
    refine lv_aload_n hx hb dX1_gutterNumber_89 rfl (lv_at hl 0 rfl) ?_
    refine lv_iload_n hx hb dX1_gutterNumber_90 rfl (lv_at hl 1 rfl) ?_
    refine k_calli (wc := cR cI a r) (w' := cR cI a r) (wn := cR cI a r) (va_runV (As := [.int q]) (rest := []) ⟨hx, hb, hml, hown, hts⟩ (mX1_pipeTakes l D cI cQ cJ a r q i hq hi _) (cwV 1 hts gX1_gutterNumber_X1_pipeTakes rfl rfl rfl (by decide +kernel) ⟨Nat.le_of_ble_eq_true rfl, Nat.le_of_ble_eq_true rfl⟩) (k_preV (wc := cR cI a r) hE hK hP hD [0, 1, 2, 3, 4, 5, 6, 7, 8, 9, 10, 11, 12] (by decide) rfl (ci := 1) (q0 := 0) rfl rfl [.int q]) rfl rfl hl.1 rfl (lv_room (Nat.le_of_ble_eq_true rfl)) dX1_gutterNumber_91 ⟨Nat.zero_le _, Nat.zero_le _⟩) hP hD hS hA [0, 1, 2, 3, 4, 5, 6, 7, 8, 9, 10, 11, 12] rfl rfl rfl (fun H locs hP hD hS => ?_)
    exact k_iret hx hb hr hlocks hS hP dX1_gutterNumber_94 (by (simp only [gnC, ↓reduceIte]))
  · skip
    refine lv_tableIn (off := 94) (tgt := 95) hx hb dX1_gutterNumber_1 (by decide +kernel) (by decide +kernel) (by decide +kernel) (by decide) ?_
    refine lv_aload_n hx hb dX1_gutterNumber_95 rfl (lv_at hl 0 rfl) ?_
    refine va_get (D := D) (ci := 1) (v := .ref (a 10)) (C := RX1) (T := TX1) (N := 16) hx hb hts hinX1 hown hK hP 0 rfl rfl 9 (by decide) fl39 (fun _ h9 => h9) rfl dX1_gutterNumber_96 ?_
    refine lv_iload_n hx hb dX1_gutterNumber_99 rfl (lv_at hl 1 rfl) ?_
    refine k_iald (k := i) (v := r 9 i) hx hb hK hP 10 0 rfl rfl hq hi (rfl) dX1_gutterNumber_100 ?_
    exact k_iret hx hb hr hlocks hS hP dX1_gutterNumber_101 (by (simp only [gnC, ↓reduceIte]))
  · skip
    refine lv_tableOut (tgt := 102) hx hb dX1_gutterNumber_1 (by decide +kernel) (by decide) ?_
    refine lv_aload_n hx hb dX1_gutterNumber_102 rfl (lv_at hl 0 rfl) ?_
    refine va_get (D := D) (ci := 1) (v := .ref (a 11)) (C := RX1) (T := TX1) (N := 16) hx hb hts hinX1 hown hK hP 0 rfl rfl 10 (by decide) fl42 (fun _ h9 => h9) rfl dX1_gutterNumber_103 ?_
    refine lv_iload_n hx hb dX1_gutterNumber_106 rfl (lv_at hl 1 rfl) ?_
    refine k_iald (k := i) (v := r 10 i) hx hb hK hP 11 0 rfl rfl hq hi (rfl) dX1_gutterNumber_107 ?_
    exact k_iret hx hb hr hlocks hS hP dX1_gutterNumber_108 (by (simp only [gnC, ↓reduceIte]))
