set_option maxHeartbeats 4000000 in
set_option maxRecDepth 100000 in
theorem mX1_copyFrom (l : Launch) (D : va_G) (cI cQ cJ : ClassId) (a : Nat → Nat) (r : rB) (a2 : Nat → Nat) (r2 : rB) : Mv l D (tY cI cQ cJ) yX1_copyFrom wsX1_copyFrom ({ frames := 1, cells := 0, slots := 0, locals := 60 } : Room) [.ref (a 0), .ref (a2 0)] ((cR cI a r) ++ (cR cI a2 r2)) ((cR cI a r2) ++ (cR cI a2 r2)) := by
  refine M_of (cc := cX1_copyFrom) (maxL := 2) (ret := none) (Qc := fun A => va_Qv (fun (_ : Unit) => True) (fun _ t => Wd D ((cR cI a r2) ++ (cR cI a2 r2)) t) A) (by decide) rfl (Nat.le_of_ble_eq_true rfl) ?_
  intro p e s m below meth c A ls hB hE hP hK hD hA hl
  obtain ⟨hx, hb, hr, hml, hts, hown, hlocks⟩ := hB
  have hS : va_S A s.heap s.heap [] := va_S.rf
  have hl : lv_has ls 2 [(0, .ref (a 0)), (1, .ref (a2 0))] := hl
  have hinX1 : ∀ w ∈ u_ws RX1 TX1 16, w ∈ wsX1_copyFrom := by decide +kernel
  have fl9 := hts (.fieldLink RX1 9 "RoofDrains$Roof" "area" "[I") (by decide +kernel)
  have ac1 := hts (.methodLink RX1 48 arraycopyName) (by decide +kernel)
  have ac2 := hts (.native arraycopyName) (by decide +kernel)
  have ac3 := hts (.static arraycopyName) (by decide +kernel)
  have ac4 := hts (.initialized "java/lang/System") (by decide +kernel)
  have fl15 := hts (.fieldLink RX1 15 "RoofDrains$Roof" "slope" "[I") (by decide +kernel)
  have fl18 := hts (.fieldLink RX1 18 "RoofDrains$Roof" "leadsTo" "[I") (by decide +kernel)
  have fl21 := hts (.fieldLink RX1 21 "RoofDrains$Roof" "onPlane" "[I") (by decide +kernel)
  have fl24 := hts (.fieldLink RX1 24 "RoofDrains$Roof" "size" "[I") (by decide +kernel)
  have fl27 := hts (.fieldLink RX1 27 "RoofDrains$Roof" "bore" "[I") (by decide +kernel)
  have fl30 := hts (.fieldLink RX1 30 "RoofDrains$Roof" "leaves" "[I") (by decide +kernel)
  have fl33 := hts (.fieldLink RX1 33 "RoofDrains$Roof" "valleyTo" "[I") (by decide +kernel)
  have fl36 := hts (.fieldLink RX1 36 "RoofDrains$Roof" "inGutter" "[I") (by decide +kernel)
  have fl39 := hts (.fieldLink RX1 39 "RoofDrains$Roof" "spilt" "[I") (by decide +kernel)
  have fl42 := hts (.fieldLink RX1 42 "RoofDrains$Roof" "drained" "[I") (by decide +kernel)
  have fl45 := hts (.fieldLink RX1 45 "RoofDrains$Roof" "values" "[I") (by decide +kernel)
  have fl54 := hts (.fieldLink RX1 54 "RoofDrains$Roof" "minutesGone" "I") (by decide +kernel)
  have fl58 := hts (.fieldLink RX1 58 "RoofDrains$Roof" "weeksPassed" "I") (by decide +kernel)
  have fl61 := hts (.fieldLink RX1 61 "RoofDrains$Roof" "rained" "I") (by decide +kernel)
  have fl64 := hts (.fieldLink RX1 64 "RoofDrains$Roof" "backedUp" "I") (by decide +kernel)
  refine lv_aload_n hx hb dX1_copyFrom_0 rfl (lv_at hl 1 rfl) ?_
  refine va_get (D := D) (ci := 1) (v := .ref (a2 1)) (C := RX1) (T := TX1) (N := 16) hx hb hts hinX1 hown hK hP 13 rfl rfl 0 (by decide) fl9 (fun _ h9 => h9) rfl dX1_copyFrom_1 ?_
  refine lv_iconst (v := 0) hx hb dX1_copyFrom_4 (by decide) ?_
  refine lv_aload_n hx hb dX1_copyFrom_5 rfl (lv_at hl 0 rfl) ?_
  refine va_get (D := D) (ci := 1) (v := .ref (a 1)) (C := RX1) (T := TX1) (N := 16) hx hb hts hinX1 hown hK hP 0 rfl rfl 0 (by decide) fl9 (fun _ h9 => h9) rfl dX1_copyFrom_6 ?_
  refine lv_iconst (v := 0) hx hb dX1_copyFrom_9 (by decide) ?_
  refine lv_bipush (v := 6) hx hb dX1_copyFrom_10 (by decide) ?_
  refine va_copyi (ty := .int) hx hb (hml.trans hl.1.symm) hown ac1 ac2 ac3 ac4 hK hP hD hS 14 1 0 0 rfl rfl rfl rfl rfl (by decide) (by decide) (by decide) (by decide) (by decide) (fun i _ => rfl) (Nat.le_of_ble_eq_true rfl) (Nat.le_of_ble_eq_true rfl) dX1_copyFrom_12 (fun H locs hP hD hS => ?_)
  obtain ⟨hP, hD⟩ := P_arr hP hD 1 (r2 0) rfl (fun j hj => sb_cpy0 hj) (ws' := (cR cI a (sr r 0 (r2 0))) ++ (cR cI a2 r2)) rfl
  refine lv_aload_n hx hb dX1_copyFrom_15 rfl (lv_at hl 1 rfl) ?_
  refine va_get (D := D) (ci := 1) (v := .ref (a2 2)) (C := RX1) (T := TX1) (N := 16) hx hb hts hinX1 hown hK hP 13 rfl rfl 1 (by decide) fl15 (fun _ h9 => h9) rfl dX1_copyFrom_16 ?_
  refine lv_iconst (v := 0) hx hb dX1_copyFrom_19 (by decide) ?_
  refine lv_aload_n hx hb dX1_copyFrom_20 rfl (lv_at hl 0 rfl) ?_
  refine va_get (D := D) (ci := 1) (v := .ref (a 2)) (C := RX1) (T := TX1) (N := 16) hx hb hts hinX1 hown hK hP 0 rfl rfl 1 (by decide) fl15 (fun _ h9 => h9) rfl dX1_copyFrom_21 ?_
  refine lv_iconst (v := 0) hx hb dX1_copyFrom_24 (by decide) ?_
  refine lv_bipush (v := 6) hx hb dX1_copyFrom_25 (by decide) ?_
  refine va_copyi (ty := .int) hx hb (hml.trans hl.1.symm) hown ac1 ac2 ac3 ac4 hK hP hD hS 15 2 0 0 rfl rfl rfl rfl rfl (by decide) (by decide) (by decide) (by decide) (by decide) (fun i _ => rfl) (Nat.le_of_ble_eq_true rfl) (Nat.le_of_ble_eq_true rfl) dX1_copyFrom_27 (fun H locs hP hD hS => ?_)
  obtain ⟨hP, hD⟩ := P_arr hP hD 2 (r2 1) rfl (fun j hj => sb_cpy0 hj) (ws' := (cR cI a (sr (sr r 0 (r2 0)) 1 (r2 1))) ++ (cR cI a2 r2)) rfl
  refine lv_aload_n hx hb dX1_copyFrom_30 rfl (lv_at hl 1 rfl) ?_
  refine va_get (D := D) (ci := 1) (v := .ref (a2 3)) (C := RX1) (T := TX1) (N := 16) hx hb hts hinX1 hown hK hP 13 rfl rfl 2 (by decide) fl18 (fun _ h9 => h9) rfl dX1_copyFrom_31 ?_
  refine lv_iconst (v := 0) hx hb dX1_copyFrom_34 (by decide) ?_
  refine lv_aload_n hx hb dX1_copyFrom_35 rfl (lv_at hl 0 rfl) ?_
  refine va_get (D := D) (ci := 1) (v := .ref (a 3)) (C := RX1) (T := TX1) (N := 16) hx hb hts hinX1 hown hK hP 0 rfl rfl 2 (by decide) fl18 (fun _ h9 => h9) rfl dX1_copyFrom_36 ?_
  refine lv_iconst (v := 0) hx hb dX1_copyFrom_39 (by decide) ?_
  refine lv_bipush (v := 6) hx hb dX1_copyFrom_40 (by decide) ?_
  refine va_copyi (ty := .int) hx hb (hml.trans hl.1.symm) hown ac1 ac2 ac3 ac4 hK hP hD hS 16 3 0 0 rfl rfl rfl rfl rfl (by decide) (by decide) (by decide) (by decide) (by decide) (fun i _ => rfl) (Nat.le_of_ble_eq_true rfl) (Nat.le_of_ble_eq_true rfl) dX1_copyFrom_42 (fun H locs hP hD hS => ?_)
  obtain ⟨hP, hD⟩ := P_arr hP hD 3 (r2 2) rfl (fun j hj => sb_cpy0 hj) (ws' := (cR cI a (sr (sr (sr r 0 (r2 0)) 1 (r2 1)) 2 (r2 2))) ++ (cR cI a2 r2)) rfl
  refine lv_aload_n hx hb dX1_copyFrom_45 rfl (lv_at hl 1 rfl) ?_
  refine va_get (D := D) (ci := 1) (v := .ref (a2 4)) (C := RX1) (T := TX1) (N := 16) hx hb hts hinX1 hown hK hP 13 rfl rfl 3 (by decide) fl21 (fun _ h9 => h9) rfl dX1_copyFrom_46 ?_
  refine lv_iconst (v := 0) hx hb dX1_copyFrom_49 (by decide) ?_
  refine lv_aload_n hx hb dX1_copyFrom_50 rfl (lv_at hl 0 rfl) ?_
  refine va_get (D := D) (ci := 1) (v := .ref (a 4)) (C := RX1) (T := TX1) (N := 16) hx hb hts hinX1 hown hK hP 0 rfl rfl 3 (by decide) fl21 (fun _ h9 => h9) rfl dX1_copyFrom_51 ?_
  refine lv_iconst (v := 0) hx hb dX1_copyFrom_54 (by decide) ?_
  refine lv_bipush (v := 6) hx hb dX1_copyFrom_55 (by decide) ?_
  refine va_copyi (ty := .int) hx hb (hml.trans hl.1.symm) hown ac1 ac2 ac3 ac4 hK hP hD hS 17 4 0 0 rfl rfl rfl rfl rfl (by decide) (by decide) (by decide) (by decide) (by decide) (fun i _ => rfl) (Nat.le_of_ble_eq_true rfl) (Nat.le_of_ble_eq_true rfl) dX1_copyFrom_57 (fun H locs hP hD hS => ?_)
  obtain ⟨hP, hD⟩ := P_arr hP hD 4 (r2 3) rfl (fun j hj => sb_cpy0 hj) (ws' := (cR cI a (sr (sr (sr (sr r 0 (r2 0)) 1 (r2 1)) 2 (r2 2)) 3 (r2 3))) ++ (cR cI a2 r2)) rfl
  refine lv_aload_n hx hb dX1_copyFrom_60 rfl (lv_at hl 1 rfl) ?_
  refine va_get (D := D) (ci := 1) (v := .ref (a2 5)) (C := RX1) (T := TX1) (N := 16) hx hb hts hinX1 hown hK hP 13 rfl rfl 4 (by decide) fl24 (fun _ h9 => h9) rfl dX1_copyFrom_61 ?_
  refine lv_iconst (v := 0) hx hb dX1_copyFrom_64 (by decide) ?_
  refine lv_aload_n hx hb dX1_copyFrom_65 rfl (lv_at hl 0 rfl) ?_
  refine va_get (D := D) (ci := 1) (v := .ref (a 5)) (C := RX1) (T := TX1) (N := 16) hx hb hts hinX1 hown hK hP 0 rfl rfl 4 (by decide) fl24 (fun _ h9 => h9) rfl dX1_copyFrom_66 ?_
  refine lv_iconst (v := 0) hx hb dX1_copyFrom_69 (by decide) ?_
  refine lv_bipush (v := 6) hx hb dX1_copyFrom_70 (by decide) ?_
  refine va_copyi (ty := .int) hx hb (hml.trans hl.1.symm) hown ac1 ac2 ac3 ac4 hK hP hD hS 18 5 0 0 rfl rfl rfl rfl rfl (by decide) (by decide) (by decide) (by decide) (by decide) (fun i _ => rfl) (Nat.le_of_ble_eq_true rfl) (Nat.le_of_ble_eq_true rfl) dX1_copyFrom_72 (fun H locs hP hD hS => ?_)
  obtain ⟨hP, hD⟩ := P_arr hP hD 5 (r2 4) rfl (fun j hj => sb_cpy0 hj) (ws' := (cR cI a (sr (sr (sr (sr (sr r 0 (r2 0)) 1 (r2 1)) 2 (r2 2)) 3 (r2 3)) 4 (r2 4))) ++ (cR cI a2 r2)) rfl
  refine lv_aload_n hx hb dX1_copyFrom_75 rfl (lv_at hl 1 rfl) ?_
  refine va_get (D := D) (ci := 1) (v := .ref (a2 6)) (C := RX1) (T := TX1) (N := 16) hx hb hts hinX1 hown hK hP 13 rfl rfl 5 (by decide) fl27 (fun _ h9 => h9) rfl dX1_copyFrom_76 ?_
  refine lv_iconst (v := 0) hx hb dX1_copyFrom_79 (by decide) ?_
  refine lv_aload_n hx hb dX1_copyFrom_80 rfl (lv_at hl 0 rfl) ?_
  refine va_get (D := D) (ci := 1) (v := .ref (a 6)) (C := RX1) (T := TX1) (N := 16) hx hb hts hinX1 hown hK hP 0 rfl rfl 5 (by decide) fl27 (fun _ h9 => h9) rfl dX1_copyFrom_81 ?_
  refine lv_iconst (v := 0) hx hb dX1_copyFrom_84 (by decide) ?_
  refine lv_bipush (v := 6) hx hb dX1_copyFrom_85 (by decide) ?_
  refine va_copyi (ty := .int) hx hb (hml.trans hl.1.symm) hown ac1 ac2 ac3 ac4 hK hP hD hS 19 6 0 0 rfl rfl rfl rfl rfl (by decide) (by decide) (by decide) (by decide) (by decide) (fun i _ => rfl) (Nat.le_of_ble_eq_true rfl) (Nat.le_of_ble_eq_true rfl) dX1_copyFrom_87 (fun H locs hP hD hS => ?_)
  obtain ⟨hP, hD⟩ := P_arr hP hD 6 (r2 5) rfl (fun j hj => sb_cpy0 hj) (ws' := (cR cI a (sr (sr (sr (sr (sr (sr r 0 (r2 0)) 1 (r2 1)) 2 (r2 2)) 3 (r2 3)) 4 (r2 4)) 5 (r2 5))) ++ (cR cI a2 r2)) rfl
  refine lv_aload_n hx hb dX1_copyFrom_90 rfl (lv_at hl 1 rfl) ?_
  refine va_get (D := D) (ci := 1) (v := .ref (a2 7)) (C := RX1) (T := TX1) (N := 16) hx hb hts hinX1 hown hK hP 13 rfl rfl 6 (by decide) fl30 (fun _ h9 => h9) rfl dX1_copyFrom_91 ?_
  refine lv_iconst (v := 0) hx hb dX1_copyFrom_94 (by decide) ?_
  refine lv_aload_n hx hb dX1_copyFrom_95 rfl (lv_at hl 0 rfl) ?_
  refine va_get (D := D) (ci := 1) (v := .ref (a 7)) (C := RX1) (T := TX1) (N := 16) hx hb hts hinX1 hown hK hP 0 rfl rfl 6 (by decide) fl30 (fun _ h9 => h9) rfl dX1_copyFrom_96 ?_
  refine lv_iconst (v := 0) hx hb dX1_copyFrom_99 (by decide) ?_
  refine lv_bipush (v := 6) hx hb dX1_copyFrom_100 (by decide) ?_
  refine va_copyi (ty := .int) hx hb (hml.trans hl.1.symm) hown ac1 ac2 ac3 ac4 hK hP hD hS 20 7 0 0 rfl rfl rfl rfl rfl (by decide) (by decide) (by decide) (by decide) (by decide) (fun i _ => rfl) (Nat.le_of_ble_eq_true rfl) (Nat.le_of_ble_eq_true rfl) dX1_copyFrom_102 (fun H locs hP hD hS => ?_)
  obtain ⟨hP, hD⟩ := P_arr hP hD 7 (r2 6) rfl (fun j hj => sb_cpy0 hj) (ws' := (cR cI a (sr (sr (sr (sr (sr (sr (sr r 0 (r2 0)) 1 (r2 1)) 2 (r2 2)) 3 (r2 3)) 4 (r2 4)) 5 (r2 5)) 6 (r2 6))) ++ (cR cI a2 r2)) rfl
  refine lv_aload_n hx hb dX1_copyFrom_105 rfl (lv_at hl 1 rfl) ?_
  refine va_get (D := D) (ci := 1) (v := .ref (a2 8)) (C := RX1) (T := TX1) (N := 16) hx hb hts hinX1 hown hK hP 13 rfl rfl 7 (by decide) fl33 (fun _ h9 => h9) rfl dX1_copyFrom_106 ?_
  refine lv_iconst (v := 0) hx hb dX1_copyFrom_109 (by decide) ?_
  refine lv_aload_n hx hb dX1_copyFrom_110 rfl (lv_at hl 0 rfl) ?_
  refine va_get (D := D) (ci := 1) (v := .ref (a 8)) (C := RX1) (T := TX1) (N := 16) hx hb hts hinX1 hown hK hP 0 rfl rfl 7 (by decide) fl33 (fun _ h9 => h9) rfl dX1_copyFrom_111 ?_
  refine lv_iconst (v := 0) hx hb dX1_copyFrom_114 (by decide) ?_
  refine lv_bipush (v := 6) hx hb dX1_copyFrom_115 (by decide) ?_
  refine va_copyi (ty := .int) hx hb (hml.trans hl.1.symm) hown ac1 ac2 ac3 ac4 hK hP hD hS 21 8 0 0 rfl rfl rfl rfl rfl (by decide) (by decide) (by decide) (by decide) (by decide) (fun i _ => rfl) (Nat.le_of_ble_eq_true rfl) (Nat.le_of_ble_eq_true rfl) dX1_copyFrom_117 (fun H locs hP hD hS => ?_)
  obtain ⟨hP, hD⟩ := P_arr hP hD 8 (r2 7) rfl (fun j hj => sb_cpy0 hj) (ws' := (cR cI a (sr (sr (sr (sr (sr (sr (sr (sr r 0 (r2 0)) 1 (r2 1)) 2 (r2 2)) 3 (r2 3)) 4 (r2 4)) 5 (r2 5)) 6 (r2 6)) 7 (r2 7))) ++ (cR cI a2 r2)) rfl
  refine lv_aload_n hx hb dX1_copyFrom_120 rfl (lv_at hl 1 rfl) ?_
  refine va_get (D := D) (ci := 1) (v := .ref (a2 9)) (C := RX1) (T := TX1) (N := 16) hx hb hts hinX1 hown hK hP 13 rfl rfl 8 (by decide) fl36 (fun _ h9 => h9) rfl dX1_copyFrom_121 ?_
  refine lv_iconst (v := 0) hx hb dX1_copyFrom_124 (by decide) ?_
  refine lv_aload_n hx hb dX1_copyFrom_125 rfl (lv_at hl 0 rfl) ?_
  refine va_get (D := D) (ci := 1) (v := .ref (a 9)) (C := RX1) (T := TX1) (N := 16) hx hb hts hinX1 hown hK hP 0 rfl rfl 8 (by decide) fl36 (fun _ h9 => h9) rfl dX1_copyFrom_126 ?_
  refine lv_iconst (v := 0) hx hb dX1_copyFrom_129 (by decide) ?_
  refine lv_bipush (v := 6) hx hb dX1_copyFrom_130 (by decide) ?_
  refine va_copyi (ty := .int) hx hb (hml.trans hl.1.symm) hown ac1 ac2 ac3 ac4 hK hP hD hS 22 9 0 0 rfl rfl rfl rfl rfl (by decide) (by decide) (by decide) (by decide) (by decide) (fun i _ => rfl) (Nat.le_of_ble_eq_true rfl) (Nat.le_of_ble_eq_true rfl) dX1_copyFrom_132 (fun H locs hP hD hS => ?_)
  obtain ⟨hP, hD⟩ := P_arr hP hD 9 (r2 8) rfl (fun j hj => sb_cpy0 hj) (ws' := (cR cI a (sr (sr (sr (sr (sr (sr (sr (sr (sr r 0 (r2 0)) 1 (r2 1)) 2 (r2 2)) 3 (r2 3)) 4 (r2 4)) 5 (r2 5)) 6 (r2 6)) 7 (r2 7)) 8 (r2 8))) ++ (cR cI a2 r2)) rfl
  refine lv_aload_n hx hb dX1_copyFrom_135 rfl (lv_at hl 1 rfl) ?_
  refine va_get (D := D) (ci := 1) (v := .ref (a2 10)) (C := RX1) (T := TX1) (N := 16) hx hb hts hinX1 hown hK hP 13 rfl rfl 9 (by decide) fl39 (fun _ h9 => h9) rfl dX1_copyFrom_136 ?_
  refine lv_iconst (v := 0) hx hb dX1_copyFrom_139 (by decide) ?_
  refine lv_aload_n hx hb dX1_copyFrom_140 rfl (lv_at hl 0 rfl) ?_
  refine va_get (D := D) (ci := 1) (v := .ref (a 10)) (C := RX1) (T := TX1) (N := 16) hx hb hts hinX1 hown hK hP 0 rfl rfl 9 (by decide) fl39 (fun _ h9 => h9) rfl dX1_copyFrom_141 ?_
  refine lv_iconst (v := 0) hx hb dX1_copyFrom_144 (by decide) ?_
  refine lv_bipush (v := 6) hx hb dX1_copyFrom_145 (by decide) ?_
  refine va_copyi (ty := .int) hx hb (hml.trans hl.1.symm) hown ac1 ac2 ac3 ac4 hK hP hD hS 23 10 0 0 rfl rfl rfl rfl rfl (by decide) (by decide) (by decide) (by decide) (by decide) (fun i _ => rfl) (Nat.le_of_ble_eq_true rfl) (Nat.le_of_ble_eq_true rfl) dX1_copyFrom_147 (fun H locs hP hD hS => ?_)
  obtain ⟨hP, hD⟩ := P_arr hP hD 10 (r2 9) rfl (fun j hj => sb_cpy0 hj) (ws' := (cR cI a (sr (sr (sr (sr (sr (sr (sr (sr (sr (sr r 0 (r2 0)) 1 (r2 1)) 2 (r2 2)) 3 (r2 3)) 4 (r2 4)) 5 (r2 5)) 6 (r2 6)) 7 (r2 7)) 8 (r2 8)) 9 (r2 9))) ++ (cR cI a2 r2)) rfl
  refine lv_aload_n hx hb dX1_copyFrom_150 rfl (lv_at hl 1 rfl) ?_
  refine va_get (D := D) (ci := 1) (v := .ref (a2 11)) (C := RX1) (T := TX1) (N := 16) hx hb hts hinX1 hown hK hP 13 rfl rfl 10 (by decide) fl42 (fun _ h9 => h9) rfl dX1_copyFrom_151 ?_
  refine lv_iconst (v := 0) hx hb dX1_copyFrom_154 (by decide) ?_
  refine lv_aload_n hx hb dX1_copyFrom_155 rfl (lv_at hl 0 rfl) ?_
  refine va_get (D := D) (ci := 1) (v := .ref (a 11)) (C := RX1) (T := TX1) (N := 16) hx hb hts hinX1 hown hK hP 0 rfl rfl 10 (by decide) fl42 (fun _ h9 => h9) rfl dX1_copyFrom_156 ?_
  refine lv_iconst (v := 0) hx hb dX1_copyFrom_159 (by decide) ?_
  refine lv_bipush (v := 6) hx hb dX1_copyFrom_160 (by decide) ?_
  refine va_copyi (ty := .int) hx hb (hml.trans hl.1.symm) hown ac1 ac2 ac3 ac4 hK hP hD hS 24 11 0 0 rfl rfl rfl rfl rfl (by decide) (by decide) (by decide) (by decide) (by decide) (fun i _ => rfl) (Nat.le_of_ble_eq_true rfl) (Nat.le_of_ble_eq_true rfl) dX1_copyFrom_162 (fun H locs hP hD hS => ?_)
  obtain ⟨hP, hD⟩ := P_arr hP hD 11 (r2 10) rfl (fun j hj => sb_cpy0 hj) (ws' := (cR cI a (sr (sr (sr (sr (sr (sr (sr (sr (sr (sr (sr r 0 (r2 0)) 1 (r2 1)) 2 (r2 2)) 3 (r2 3)) 4 (r2 4)) 5 (r2 5)) 6 (r2 6)) 7 (r2 7)) 8 (r2 8)) 9 (r2 9)) 10 (r2 10))) ++ (cR cI a2 r2)) rfl
  refine lv_aload_n hx hb dX1_copyFrom_165 rfl (lv_at hl 1 rfl) ?_
  refine va_get (D := D) (ci := 1) (v := .ref (a2 12)) (C := RX1) (T := TX1) (N := 16) hx hb hts hinX1 hown hK hP 13 rfl rfl 11 (by decide) fl45 (fun _ h9 => h9) rfl dX1_copyFrom_166 ?_
  refine lv_iconst (v := 0) hx hb dX1_copyFrom_169 (by decide) ?_
  refine lv_aload_n hx hb dX1_copyFrom_170 rfl (lv_at hl 0 rfl) ?_
  refine va_get (D := D) (ci := 1) (v := .ref (a 12)) (C := RX1) (T := TX1) (N := 16) hx hb hts hinX1 hown hK hP 0 rfl rfl 11 (by decide) fl45 (fun _ h9 => h9) rfl dX1_copyFrom_171 ?_
  refine lv_iconst (v := 0) hx hb dX1_copyFrom_174 (by decide) ?_
  refine lv_iconst (v := 3) hx hb dX1_copyFrom_175 (by decide) ?_
  refine va_copyi (ty := .int) hx hb (hml.trans hl.1.symm) hown ac1 ac2 ac3 ac4 hK hP hD hS 25 12 0 0 rfl rfl rfl rfl rfl (by decide) (by decide) (by decide) (by decide) (by decide) (fun i _ => rfl) (Nat.le_of_ble_eq_true rfl) (Nat.le_of_ble_eq_true rfl) dX1_copyFrom_176 (fun H locs hP hD hS => ?_)
  obtain ⟨hP, hD⟩ := P_arr hP hD 12 (r2 11) rfl (fun j hj => sb_cpy0 hj) (ws' := (cR cI a (sr (sr (sr (sr (sr (sr (sr (sr (sr (sr (sr (sr r 0 (r2 0)) 1 (r2 1)) 2 (r2 2)) 3 (r2 3)) 4 (r2 4)) 5 (r2 5)) 6 (r2 6)) 7 (r2 7)) 8 (r2 8)) 9 (r2 9)) 10 (r2 10)) 11 (r2 11))) ++ (cR cI a2 r2)) rfl
  refine lv_aload_n hx hb dX1_copyFrom_179 rfl (lv_at hl 0 rfl) ?_
  refine lv_aload_n hx hb dX1_copyFrom_180 rfl (lv_at hl 1 rfl) ?_
  refine va_get (D := D) (ci := 1) (v := .int (r2 12 0)) (C := RX1) (T := TX1) (N := 16) hx hb hts hinX1 hown hK hP 13 rfl rfl 12 (by decide) fl54 (fun _ h9 => h9) (congrArg (fun z => some (Value.int z)) (rfl)) dX1_copyFrom_181 ?_
  refine lv_topi (fun f_1 ef_1 => ?_)
  refine k_put (D := D) (ci := 1) (v := .int f_1) (ty := .int) (C := RX1) (T := TX1) (N := 16) hx hb hts hinX1 tyX1 tyX1_ok nmX1 hown hK hP hD hS 0 rfl rfl 12 (by decide) fl54 (fun _ h9 => h9) rfl (by decide +kernel) rfl rfl (Nat.le_of_ble_eq_true rfl) (ws' := (cR cI a (bp (sr (sr (sr (sr (sr (sr (sr (sr (sr (sr (sr (sr r 0 (r2 0)) 1 (r2 1)) 2 (r2 2)) 3 (r2 3)) 4 (r2 4)) 5 (r2 5)) 6 (r2 6)) 7 (r2 7)) 8 (r2 8)) 9 (r2 9)) 10 (r2 10)) 11 (r2 11)) 12 0 f_1)) ++ (cR cI a2 r2)) rfl dX1_copyFrom_184 (fun H locs hP hD hS => ?_)
  refine lv_aload_n hx hb dX1_copyFrom_187 rfl (lv_at hl 0 rfl) ?_
  refine lv_aload_n hx hb dX1_copyFrom_188 rfl (lv_at hl 1 rfl) ?_
  refine va_get (D := D) (ci := 1) (v := .int (r2 12 1)) (C := RX1) (T := TX1) (N := 16) hx hb hts hinX1 hown hK hP 13 rfl rfl 13 (by decide) fl58 (fun _ h9 => h9) (congrArg (fun z => some (Value.int z)) (rfl)) dX1_copyFrom_189 ?_
  refine lv_topi (fun f_2 ef_2 => ?_)
  refine k_put (D := D) (ci := 1) (v := .int f_2) (ty := .int) (C := RX1) (T := TX1) (N := 16) hx hb hts hinX1 tyX1 tyX1_ok nmX1 hown hK hP hD hS 0 rfl rfl 13 (by decide) fl58 (fun _ h9 => h9) rfl (by decide +kernel) rfl rfl (Nat.le_of_ble_eq_true rfl) (ws' := (cR cI a (bp (bp (sr (sr (sr (sr (sr (sr (sr (sr (sr (sr (sr (sr r 0 (r2 0)) 1 (r2 1)) 2 (r2 2)) 3 (r2 3)) 4 (r2 4)) 5 (r2 5)) 6 (r2 6)) 7 (r2 7)) 8 (r2 8)) 9 (r2 9)) 10 (r2 10)) 11 (r2 11)) 12 0 f_1) 12 1 f_2)) ++ (cR cI a2 r2)) rfl dX1_copyFrom_192 (fun H locs hP hD hS => ?_)
  refine lv_aload_n hx hb dX1_copyFrom_195 rfl (lv_at hl 0 rfl) ?_
  refine lv_aload_n hx hb dX1_copyFrom_196 rfl (lv_at hl 1 rfl) ?_
  refine va_get (D := D) (ci := 1) (v := .int (r2 12 2)) (C := RX1) (T := TX1) (N := 16) hx hb hts hinX1 hown hK hP 13 rfl rfl 14 (by decide) fl61 (fun _ h9 => h9) (congrArg (fun z => some (Value.int z)) (rfl)) dX1_copyFrom_197 ?_
  refine lv_topi (fun f_3 ef_3 => ?_)
  refine k_put (D := D) (ci := 1) (v := .int f_3) (ty := .int) (C := RX1) (T := TX1) (N := 16) hx hb hts hinX1 tyX1 tyX1_ok nmX1 hown hK hP hD hS 0 rfl rfl 14 (by decide) fl61 (fun _ h9 => h9) rfl (by decide +kernel) rfl rfl (Nat.le_of_ble_eq_true rfl) (ws' := (cR cI a (bp (bp (bp (sr (sr (sr (sr (sr (sr (sr (sr (sr (sr (sr (sr r 0 (r2 0)) 1 (r2 1)) 2 (r2 2)) 3 (r2 3)) 4 (r2 4)) 5 (r2 5)) 6 (r2 6)) 7 (r2 7)) 8 (r2 8)) 9 (r2 9)) 10 (r2 10)) 11 (r2 11)) 12 0 f_1) 12 1 f_2) 12 2 f_3)) ++ (cR cI a2 r2)) rfl dX1_copyFrom_200 (fun H locs hP hD hS => ?_)
  refine lv_aload_n hx hb dX1_copyFrom_203 rfl (lv_at hl 0 rfl) ?_
  refine lv_aload_n hx hb dX1_copyFrom_204 rfl (lv_at hl 1 rfl) ?_
  refine va_get (D := D) (ci := 1) (v := .int (r2 12 3)) (C := RX1) (T := TX1) (N := 16) hx hb hts hinX1 hown hK hP 13 rfl rfl 15 (by decide) fl64 (fun _ h9 => h9) (congrArg (fun z => some (Value.int z)) (rfl)) dX1_copyFrom_205 ?_
  refine lv_topi (fun f_4 ef_4 => ?_)
  refine k_put (D := D) (ci := 1) (v := .int f_4) (ty := .int) (C := RX1) (T := TX1) (N := 16) hx hb hts hinX1 tyX1 tyX1_ok nmX1 hown hK hP hD hS 0 rfl rfl 15 (by decide) fl64 (fun _ h9 => h9) rfl (by decide +kernel) rfl rfl (Nat.le_of_ble_eq_true rfl) (ws' := (cR cI a (bp (bp (bp (bp (sr (sr (sr (sr (sr (sr (sr (sr (sr (sr (sr (sr r 0 (r2 0)) 1 (r2 1)) 2 (r2 2)) 3 (r2 3)) 4 (r2 4)) 5 (r2 5)) 6 (r2 6)) 7 (r2 7)) 8 (r2 8)) 9 (r2 9)) 10 (r2 10)) 11 (r2 11)) 12 0 f_1) 12 1 f_2) 12 2 f_3) 12 3 f_4)) ++ (cR cI a2 r2)) rfl dX1_copyFrom_208 (fun H locs hP hD hS => ?_)
  replace ef_4 := ef_4.symm; subst ef_4
  replace ef_3 := ef_3.symm; subst ef_3
  replace ef_2 := ef_2.symm; subst ef_2
  replace ef_1 := ef_1.symm; subst ef_1
  have hP : va_P D vwCl ((cR cI a r2) ++ (cR cI a2 r2)) H := hP
  exact k_vret hx hb hr hlocks hS hP dX1_copyFrom_211
