set_option maxHeartbeats 4000000 in
set_option maxRecDepth 100000 in
theorem mX1_wetPlane (l : Launch) (D : va_G) (cI cQ cJ : ClassId) (a : Nat → Nat) (r : rB) (q : Int32) (i : Nat) (hq : vp_in q 6) (hi : q.toNatClampNeg = i) (x : Int32) : Mv l D (tY cI cQ cJ) yX1_wetPlane wsX1_wetPlane ({ frames := 1, cells := 0, slots := 0, locals := 20 } : Room) [.ref (a 0), .int q, .int x] (cR cI a r) (cR cI a (wet r i x)) := by
  refine M_of (cc := cX1_wetPlane) (maxL := 6) (ret := none) (Qc := fun A => va_Qv (fun (_ : Unit) => True) (fun _ t => Wd D (cR cI a (wet r i x)) t) A) (by decide) rfl (Nat.le_of_ble_eq_true rfl) ?_
  intro p e s m below meth c A ls hB hE hP hK hD hA hl
  obtain ⟨hx, hb, hr, hml, hts, hown, hlocks⟩ := hB
  have hS : va_S A s.heap s.heap [] := va_S.rf
  have hl : lv_has ls 6 [(0, .ref (a 0)), (1, .int q), (2, .int x)] := hl
  have hinX1 : ∀ w ∈ u_ws RX1 TX1 16, w ∈ wsX1_wetPlane := by decide +kernel
  have fl9 := hts (.fieldLink RX1 9 "RoofDrains$Roof" "area" "[I") (by decide +kernel)
  have fl61 := hts (.fieldLink RX1 61 "RoofDrains$Roof" "rained" "I") (by decide +kernel)
  have fl21 := hts (.fieldLink RX1 21 "RoofDrains$Roof" "onPlane" "[I") (by decide +kernel)
  have fl15 := hts (.fieldLink RX1 15 "RoofDrains$Roof" "slope" "[I") (by decide +kernel)
  have fl18 := hts (.fieldLink RX1 18 "RoofDrains$Roof" "leadsTo" "[I") (by decide +kernel)
  have fl36 := hts (.fieldLink RX1 36 "RoofDrains$Roof" "inGutter" "[I") (by decide +kernel)
  refine lv_aload_n hx hb dX1_wetPlane_0 rfl (lv_at hl 0 rfl) ?_
  refine va_get (D := D) (ci := 1) (v := .ref (a 1)) (C := RX1) (T := TX1) (N := 16) hx hb hts hinX1 hown hK hP 0 rfl rfl 0 (by decide) fl9 (fun _ h9 => h9) rfl dX1_wetPlane_1 ?_
  refine lv_iload_n hx hb dX1_wetPlane_4 rfl (lv_at hl 1 rfl) ?_
  refine k_iald (k := i) (v := r 0 i) hx hb hK hP 1 0 rfl rfl hq hi (rfl) dX1_wetPlane_5 ?_
  refine lv_iload_n hx hb dX1_wetPlane_6 rfl (lv_at hl 2 rfl) ?_
  refine lv_imul hx hb dX1_wetPlane_7 ?_
  refine lv_bipush (v := 10) hx hb dX1_wetPlane_8 (by decide) ?_
  refine lv_idiv hx hb dX1_wetPlane_10 (by decide) ?_
  refine lv_topi (fun v3_1 ev3_1 => ?_)
  refine lv_istore_n (lv' := [(3, .int v3_1), (0, .ref (a 0)), (1, .int q), (2, .int x)]) hx hb dX1_wetPlane_11 rfl hl (by decide) rfl (fun ls hl => ?_)
  refine lv_aload_n hx hb dX1_wetPlane_12 rfl (lv_at hl 1 rfl) ?_
  refine lv_dup hx hb dX1_wetPlane_13 rfl ?_
  refine va_get (D := D) (ci := 1) (v := .int (r 12 2)) (C := RX1) (T := TX1) (N := 16) hx hb hts hinX1 hown hK hP 0 rfl rfl 14 (by decide) fl61 (fun _ h9 => h9) (congrArg (fun z => some (Value.int z)) (rfl)) dX1_wetPlane_14 ?_
  refine lv_iload_n hx hb dX1_wetPlane_17 rfl (lv_at hl 0 rfl) ?_
  refine lv_iadd hx hb dX1_wetPlane_18 ?_
  refine lv_topi (fun f_2 ef_2 => ?_)
  refine k_put (D := D) (ci := 1) (v := .int f_2) (ty := .int) (C := RX1) (T := TX1) (N := 16) hx hb hts hinX1 tyX1 tyX1_ok nmX1 hown hK hP hD hS 0 rfl rfl 14 (by decide) fl61 (fun _ h9 => h9) rfl (by decide +kernel) rfl rfl (Nat.le_of_ble_eq_true rfl) (ws' := cR cI a (bp r 12 2 f_2)) rfl dX1_wetPlane_19 (fun H locs hP hD hS => ?_)
  refine lv_aload_n hx hb dX1_wetPlane_22 rfl (lv_at hl 1 rfl) ?_
  refine va_get (D := D) (ci := 1) (v := .ref (a 4)) (C := RX1) (T := TX1) (N := 16) hx hb hts hinX1 hown hK hP 0 rfl rfl 3 (by decide) fl21 (fun _ h9 => h9) rfl dX1_wetPlane_23 ?_
  refine lv_iload_n hx hb dX1_wetPlane_26 rfl (lv_at hl 2 rfl) ?_
  refine lv_dup2_11 hx hb dX1_wetPlane_27 rfl rfl ?_
  refine k_iald (k := i) (v := r 3 i) hx hb hK hP 4 0 rfl rfl hq hi ((bp_rw (by decide)).trans (rfl)) dX1_wetPlane_28 ?_
  refine lv_iload_n hx hb dX1_wetPlane_29 rfl (lv_at hl 0 rfl) ?_
  refine lv_iadd hx hb dX1_wetPlane_30 ?_
  refine lv_topi (fun a_3 ea_3 => ?_)
  refine k_iast (k := i) (ws' := cR cI a (bp (bp r 12 2 f_2) 3 i a_3)) hx hb hK hP hD hS 4 0 rfl rfl hq hi rfl dX1_wetPlane_31 (fun H locs hP hD hS => ?_)
  refine lv_aload_n hx hb dX1_wetPlane_32 rfl (lv_at hl 1 rfl) ?_
  refine va_get (D := D) (ci := 1) (v := .ref (a 4)) (C := RX1) (T := TX1) (N := 16) hx hb hts hinX1 hown hK hP 0 rfl rfl 3 (by decide) fl21 (fun _ h9 => h9) rfl dX1_wetPlane_33 ?_
  refine lv_iload_n hx hb dX1_wetPlane_36 rfl (lv_at hl 2 rfl) ?_
  refine k_iald (k := i) (v := a_3) hx hb hK hP 4 0 rfl rfl hq hi (bp_eq) dX1_wetPlane_37 ?_
  refine lv_iconst (v := 5) hx hb dX1_wetPlane_38 (by decide) ?_
  refine lv_aload_n hx hb dX1_wetPlane_39 rfl (lv_at hl 1 rfl) ?_
  refine va_get (D := D) (ci := 1) (v := .ref (a 2)) (C := RX1) (T := TX1) (N := 16) hx hb hts hinX1 hown hK hP 0 rfl rfl 1 (by decide) fl15 (fun _ h9 => h9) rfl dX1_wetPlane_40 ?_
  refine lv_iload_n hx hb dX1_wetPlane_43 rfl (lv_at hl 2 rfl) ?_
  refine k_iald (k := i) (v := r 1 i) hx hb hK hP 2 0 rfl rfl hq hi ((bp_rw (by decide)).trans ((bp_rw (by decide)).trans (rfl))) dX1_wetPlane_44 ?_
  refine lv_iadd hx hb dX1_wetPlane_45 ?_
  refine lv_imul hx hb dX1_wetPlane_46 ?_
  refine lv_bipush (v := 14) hx hb dX1_wetPlane_47 (by decide) ?_
  refine lv_idiv hx hb dX1_wetPlane_49 (by decide) ?_
  refine lv_topi (fun v4_4 ev4_4 => ?_)
  refine lv_istore (lv' := [(4, .int v4_4), (3, .int v3_1), (0, .ref (a 0)), (1, .int q), (2, .int x)]) hx hb dX1_wetPlane_50 hl (by decide) rfl (fun ls hl => ?_)
  refine lv_iload hx hb dX1_wetPlane_52 (lv_at hl 0 rfl) ?_
  refine lv_if_ne (tgt := 69) hx hb dX1_wetPlane_54 (by decide) (fun c_5 => ?_) (fun c_5 => ?_)
  · skip
    refine lv_aload_n hx hb dX1_wetPlane_69 rfl (lv_at hl 2 rfl) ?_
    refine va_get (D := D) (ci := 1) (v := .ref (a 4)) (C := RX1) (T := TX1) (N := 16) hx hb hts hinX1 hown hK hP 0 rfl rfl 3 (by decide) fl21 (fun _ h9 => h9) rfl dX1_wetPlane_70 ?_
    refine lv_iload_n hx hb dX1_wetPlane_73 rfl (lv_at hl 3 rfl) ?_
    refine lv_dup2_11 hx hb dX1_wetPlane_74 rfl rfl ?_
    refine k_iald (k := i) (v := a_3) hx hb hK hP 4 0 rfl rfl hq hi (bp_eq) dX1_wetPlane_75 ?_
    refine lv_iload hx hb dX1_wetPlane_76 (lv_at hl 0 rfl) ?_
    refine lv_isub hx hb dX1_wetPlane_78 ?_
    refine lv_topi (fun a_6 ea_6 => ?_)
    refine k_iast (k := i) (ws' := cR cI a (bp (bp (bp r 12 2 f_2) 3 i a_3) 3 i a_6)) hx hb hK hP hD hS 4 0 rfl rfl hq hi rfl dX1_wetPlane_79 (fun H locs hP hD hS => ?_)
    refine lv_aload_n hx hb dX1_wetPlane_80 rfl (lv_at hl 2 rfl) ?_
    refine va_get (D := D) (ci := 1) (v := .ref (a 3)) (C := RX1) (T := TX1) (N := 16) hx hb hts hinX1 hown hK hP 0 rfl rfl 2 (by decide) fl18 (fun _ h9 => h9) rfl dX1_wetPlane_81 ?_
    refine lv_iload_n hx hb dX1_wetPlane_84 rfl (lv_at hl 3 rfl) ?_
    refine k_iald (k := i) (v := r 2 i) hx hb hK hP 3 0 rfl rfl hq hi ((bp_rw (by decide)).trans ((bp_rw (by decide)).trans ((bp_rw (by decide)).trans (rfl)))) dX1_wetPlane_85 ?_
    refine lv_topi (fun v5_7 ev5_7 => ?_)
    refine lv_istore (lv' := [(5, .int v5_7), (4, .int v4_4), (3, .int v3_1), (0, .ref (a 0)), (1, .int q), (2, .int x)]) hx hb dX1_wetPlane_86 hl (by decide) rfl (fun ls hl => ?_)
    refine lv_iload hx hb dX1_wetPlane_88 (lv_at hl 0 rfl) ?_
    refine k_calli (wc := ([] : va_W)) (w' := ([] : va_W)) (wn := cR cI a (bp (bp (bp r 12 2 f_2) 3 i a_3) 3 i a_6)) (va_runSN (As := [.int v5_7]) (rest := []) ⟨hx, hb, hml, hown, hts⟩ (mX3_isGutter l D cI cQ cJ v5_7 _) ⟨va_cnB 1 hts gX1_wetPlane_X3_isGutter_n67 rfl rfl rfl hE.1 (hts (.initialized RX3) (by decide +kernel)) (by decide +kernel) ⟨Nat.le_of_ble_eq_true rfl, Nat.le_of_ble_eq_true rfl⟩, hts (.static yX3_isGutter) (by decide +kernel), trivial⟩ (k_preS (wc := ([] : va_W)) hE hK hP hD [] (by decide) rfl [.int v5_7]) rfl rfl hl.1 rfl (lv_room (Nat.le_of_ble_eq_true rfl)) dX1_wetPlane_90 ⟨Nat.zero_le _, Nat.zero_le _⟩) hP hD hS hA [] rfl rfl rfl (fun H locs hP hD hS => ?_)
    refine lv_if_eq (tgt := 108) hx hb dX1_wetPlane_93 (by decide) (fun c_8 => ?_) (fun c_8 => ?_)
    · skip
      have e9 : (bp (bp (bp r 12 2 f_2) 3 i a_3) 3 i a_6 : rB) = wet r i x := by (replace ev5_7 := ev5_7.symm; subst ev5_7; replace ea_6 := ea_6.symm; subst ea_6; replace ev4_4 := ev4_4.symm; subst ev4_4; replace ea_3 := ea_3.symm; subst ea_3; replace ef_2 := ef_2.symm; subst ef_2; replace ev3_1 := ev3_1.symm; subst ev3_1; simp only [wet, c_5, c_8, ↓reduceIte])
      rw [e9] at hP
      exact k_vret hx hb hr hlocks hS hP dX1_wetPlane_108
    · skip
      refine lv_aload_n hx hb dX1_wetPlane_96 rfl (lv_at hl 3 rfl) ?_
      refine va_get (D := D) (ci := 1) (v := .ref (a 9)) (C := RX1) (T := TX1) (N := 16) hx hb hts hinX1 hown hK hP 0 rfl rfl 8 (by decide) fl36 (fun _ h9 => h9) rfl dX1_wetPlane_97 ?_
      refine lv_iload hx hb dX1_wetPlane_100 (lv_at hl 0 rfl) ?_
      refine lv_dup2_11 hx hb dX1_wetPlane_102 rfl rfl ?_
      refine k_iald (k := v5_7.toNatClampNeg) (v := r 8 v5_7.toNatClampNeg) hx hb hK hP 9 0 rfl rfl (zL_in (n := 6) rfl rfl c_8) rfl ((bp_rw (by decide)).trans ((bp_rw (by decide)).trans ((bp_rw (by decide)).trans (rfl)))) dX1_wetPlane_103 ?_
      refine lv_iload hx hb dX1_wetPlane_104 (lv_at hl 1 rfl) ?_
      refine lv_iadd hx hb dX1_wetPlane_106 ?_
      refine lv_topi (fun a_9 ea_9 => ?_)
      refine k_iast (k := v5_7.toNatClampNeg) (ws' := cR cI a (bp (bp (bp (bp r 12 2 f_2) 3 i a_3) 3 i a_6) 8 v5_7.toNatClampNeg a_9)) hx hb hK hP hD hS 9 0 rfl rfl (zL_in (n := 6) rfl rfl c_8) rfl rfl dX1_wetPlane_107 (fun H locs hP hD hS => ?_)
      have e9 : (bp (bp (bp (bp r 12 2 f_2) 3 i a_3) 3 i a_6) 8 v5_7.toNatClampNeg a_9 : rB) = wet r i x := by (replace ea_9 := ea_9.symm; subst ea_9; replace ev5_7 := ev5_7.symm; subst ev5_7; replace ea_6 := ea_6.symm; subst ea_6; replace ev4_4 := ev4_4.symm; subst ev4_4; replace ea_3 := ea_3.symm; subst ea_3; replace ef_2 := ef_2.symm; subst ef_2; replace ev3_1 := ev3_1.symm; subst ev3_1; simp only [wet, c_5, c_8, ↓reduceIte])
      rw [e9] at hP
      exact k_vret hx hb hr hlocks hS hP dX1_wetPlane_108
  · skip
    refine lv_aload_n hx hb dX1_wetPlane_57 rfl (lv_at hl 2 rfl) ?_
    refine va_get (D := D) (ci := 1) (v := .ref (a 4)) (C := RX1) (T := TX1) (N := 16) hx hb hts hinX1 hown hK hP 0 rfl rfl 3 (by decide) fl21 (fun _ h9 => h9) rfl dX1_wetPlane_58 ?_
    refine lv_iload_n hx hb dX1_wetPlane_61 rfl (lv_at hl 3 rfl) ?_
    refine k_iald (k := i) (v := a_3) hx hb hK hP 4 0 rfl rfl hq hi (bp_eq) dX1_wetPlane_62 ?_
    refine lv_if_le (tgt := 69) hx hb dX1_wetPlane_63 (by decide) (fun c_10 => ?_) (fun c_10 => ?_)
    · skip
      refine lv_aload_n hx hb dX1_wetPlane_69 rfl (lv_at hl 2 rfl) ?_
      refine va_get (D := D) (ci := 1) (v := .ref (a 4)) (C := RX1) (T := TX1) (N := 16) hx hb hts hinX1 hown hK hP 0 rfl rfl 3 (by decide) fl21 (fun _ h9 => h9) rfl dX1_wetPlane_70 ?_
      refine lv_iload_n hx hb dX1_wetPlane_73 rfl (lv_at hl 3 rfl) ?_
      refine lv_dup2_11 hx hb dX1_wetPlane_74 rfl rfl ?_
      refine k_iald (k := i) (v := a_3) hx hb hK hP 4 0 rfl rfl hq hi (bp_eq) dX1_wetPlane_75 ?_
      refine lv_iload hx hb dX1_wetPlane_76 (lv_at hl 0 rfl) ?_
      refine lv_isub hx hb dX1_wetPlane_78 ?_
      refine lv_topi (fun a_11 ea_11 => ?_)
      refine k_iast (k := i) (ws' := cR cI a (bp (bp (bp r 12 2 f_2) 3 i a_3) 3 i a_11)) hx hb hK hP hD hS 4 0 rfl rfl hq hi rfl dX1_wetPlane_79 (fun H locs hP hD hS => ?_)
      refine lv_aload_n hx hb dX1_wetPlane_80 rfl (lv_at hl 2 rfl) ?_
      refine va_get (D := D) (ci := 1) (v := .ref (a 3)) (C := RX1) (T := TX1) (N := 16) hx hb hts hinX1 hown hK hP 0 rfl rfl 2 (by decide) fl18 (fun _ h9 => h9) rfl dX1_wetPlane_81 ?_
      refine lv_iload_n hx hb dX1_wetPlane_84 rfl (lv_at hl 3 rfl) ?_
      refine k_iald (k := i) (v := r 2 i) hx hb hK hP 3 0 rfl rfl hq hi ((bp_rw (by decide)).trans ((bp_rw (by decide)).trans ((bp_rw (by decide)).trans (rfl)))) dX1_wetPlane_85 ?_
      refine lv_topi (fun v5_12 ev5_12 => ?_)
      refine lv_istore (lv' := [(5, .int v5_12), (4, .int v4_4), (3, .int v3_1), (0, .ref (a 0)), (1, .int q), (2, .int x)]) hx hb dX1_wetPlane_86 hl (by decide) rfl (fun ls hl => ?_)
      refine lv_iload hx hb dX1_wetPlane_88 (lv_at hl 0 rfl) ?_
      refine k_calli (wc := ([] : va_W)) (w' := ([] : va_W)) (wn := cR cI a (bp (bp (bp r 12 2 f_2) 3 i a_3) 3 i a_11)) (va_runSN (As := [.int v5_12]) (rest := []) ⟨hx, hb, hml, hown, hts⟩ (mX3_isGutter l D cI cQ cJ v5_12 _) ⟨va_cnB 1 hts gX1_wetPlane_X3_isGutter_n67 rfl rfl rfl hE.1 (hts (.initialized RX3) (by decide +kernel)) (by decide +kernel) ⟨Nat.le_of_ble_eq_true rfl, Nat.le_of_ble_eq_true rfl⟩, hts (.static yX3_isGutter) (by decide +kernel), trivial⟩ (k_preS (wc := ([] : va_W)) hE hK hP hD [] (by decide) rfl [.int v5_12]) rfl rfl hl.1 rfl (lv_room (Nat.le_of_ble_eq_true rfl)) dX1_wetPlane_90 ⟨Nat.zero_le _, Nat.zero_le _⟩) hP hD hS hA [] rfl rfl rfl (fun H locs hP hD hS => ?_)
      refine lv_if_eq (tgt := 108) hx hb dX1_wetPlane_93 (by decide) (fun c_13 => ?_) (fun c_13 => ?_)
      · skip
        have e9 : (bp (bp (bp r 12 2 f_2) 3 i a_3) 3 i a_11 : rB) = wet r i x := by (replace ev5_12 := ev5_12.symm; subst ev5_12; replace ea_11 := ea_11.symm; subst ea_11; replace ev4_4 := ev4_4.symm; subst ev4_4; replace ea_3 := ea_3.symm; subst ea_3; replace ef_2 := ef_2.symm; subst ef_2; replace ev3_1 := ev3_1.symm; subst ev3_1; simp only [wet, c_5, c_10, c_13, ↓reduceIte])
        rw [e9] at hP
        exact k_vret hx hb hr hlocks hS hP dX1_wetPlane_108
      · skip
        refine lv_aload_n hx hb dX1_wetPlane_96 rfl (lv_at hl 3 rfl) ?_
        refine va_get (D := D) (ci := 1) (v := .ref (a 9)) (C := RX1) (T := TX1) (N := 16) hx hb hts hinX1 hown hK hP 0 rfl rfl 8 (by decide) fl36 (fun _ h9 => h9) rfl dX1_wetPlane_97 ?_
        refine lv_iload hx hb dX1_wetPlane_100 (lv_at hl 0 rfl) ?_
        refine lv_dup2_11 hx hb dX1_wetPlane_102 rfl rfl ?_
        refine k_iald (k := v5_12.toNatClampNeg) (v := r 8 v5_12.toNatClampNeg) hx hb hK hP 9 0 rfl rfl (zL_in (n := 6) rfl rfl c_13) rfl ((bp_rw (by decide)).trans ((bp_rw (by decide)).trans ((bp_rw (by decide)).trans (rfl)))) dX1_wetPlane_103 ?_
        refine lv_iload hx hb dX1_wetPlane_104 (lv_at hl 1 rfl) ?_
        refine lv_iadd hx hb dX1_wetPlane_106 ?_
        refine lv_topi (fun a_14 ea_14 => ?_)
        refine k_iast (k := v5_12.toNatClampNeg) (ws' := cR cI a (bp (bp (bp (bp r 12 2 f_2) 3 i a_3) 3 i a_11) 8 v5_12.toNatClampNeg a_14)) hx hb hK hP hD hS 9 0 rfl rfl (zL_in (n := 6) rfl rfl c_13) rfl rfl dX1_wetPlane_107 (fun H locs hP hD hS => ?_)
        have e9 : (bp (bp (bp (bp r 12 2 f_2) 3 i a_3) 3 i a_11) 8 v5_12.toNatClampNeg a_14 : rB) = wet r i x := by (replace ea_14 := ea_14.symm; subst ea_14; replace ev5_12 := ev5_12.symm; subst ev5_12; replace ea_11 := ea_11.symm; subst ea_11; replace ev4_4 := ev4_4.symm; subst ev4_4; replace ea_3 := ea_3.symm; subst ea_3; replace ef_2 := ef_2.symm; subst ef_2; replace ev3_1 := ev3_1.symm; subst ev3_1; simp only [wet, c_5, c_10, c_13, ↓reduceIte])
        rw [e9] at hP
        exact k_vret hx hb hr hlocks hS hP dX1_wetPlane_108
    · skip
      refine lv_iconst (v := 1) hx hb dX1_wetPlane_66 (by decide) ?_
      refine lv_istore (lv' := [(4, .int 1), (3, .int v3_1), (0, .ref (a 0)), (1, .int q), (2, .int x)]) hx hb dX1_wetPlane_67 hl (by decide) rfl (fun ls hl => ?_)
      refine lv_aload_n hx hb dX1_wetPlane_69 rfl (lv_at hl 2 rfl) ?_
      refine va_get (D := D) (ci := 1) (v := .ref (a 4)) (C := RX1) (T := TX1) (N := 16) hx hb hts hinX1 hown hK hP 0 rfl rfl 3 (by decide) fl21 (fun _ h9 => h9) rfl dX1_wetPlane_70 ?_
      refine lv_iload_n hx hb dX1_wetPlane_73 rfl (lv_at hl 3 rfl) ?_
      refine lv_dup2_11 hx hb dX1_wetPlane_74 rfl rfl ?_
      refine k_iald (k := i) (v := a_3) hx hb hK hP 4 0 rfl rfl hq hi (bp_eq) dX1_wetPlane_75 ?_
      refine lv_iload hx hb dX1_wetPlane_76 (lv_at hl 0 rfl) ?_
      refine lv_isub hx hb dX1_wetPlane_78 ?_
      refine lv_topi (fun a_15 ea_15 => ?_)
      refine k_iast (k := i) (ws' := cR cI a (bp (bp (bp r 12 2 f_2) 3 i a_3) 3 i a_15)) hx hb hK hP hD hS 4 0 rfl rfl hq hi rfl dX1_wetPlane_79 (fun H locs hP hD hS => ?_)
      refine lv_aload_n hx hb dX1_wetPlane_80 rfl (lv_at hl 2 rfl) ?_
      refine va_get (D := D) (ci := 1) (v := .ref (a 3)) (C := RX1) (T := TX1) (N := 16) hx hb hts hinX1 hown hK hP 0 rfl rfl 2 (by decide) fl18 (fun _ h9 => h9) rfl dX1_wetPlane_81 ?_
      refine lv_iload_n hx hb dX1_wetPlane_84 rfl (lv_at hl 3 rfl) ?_
      refine k_iald (k := i) (v := r 2 i) hx hb hK hP 3 0 rfl rfl hq hi ((bp_rw (by decide)).trans ((bp_rw (by decide)).trans ((bp_rw (by decide)).trans (rfl)))) dX1_wetPlane_85 ?_
      refine lv_topi (fun v5_16 ev5_16 => ?_)
      refine lv_istore (lv' := [(5, .int v5_16), (4, .int 1), (3, .int v3_1), (0, .ref (a 0)), (1, .int q), (2, .int x)]) hx hb dX1_wetPlane_86 hl (by decide) rfl (fun ls hl => ?_)
      refine lv_iload hx hb dX1_wetPlane_88 (lv_at hl 0 rfl) ?_
      refine k_calli (wc := ([] : va_W)) (w' := ([] : va_W)) (wn := cR cI a (bp (bp (bp r 12 2 f_2) 3 i a_3) 3 i a_15)) (va_runSN (As := [.int v5_16]) (rest := []) ⟨hx, hb, hml, hown, hts⟩ (mX3_isGutter l D cI cQ cJ v5_16 _) ⟨va_cnB 1 hts gX1_wetPlane_X3_isGutter_n67 rfl rfl rfl hE.1 (hts (.initialized RX3) (by decide +kernel)) (by decide +kernel) ⟨Nat.le_of_ble_eq_true rfl, Nat.le_of_ble_eq_true rfl⟩, hts (.static yX3_isGutter) (by decide +kernel), trivial⟩ (k_preS (wc := ([] : va_W)) hE hK hP hD [] (by decide) rfl [.int v5_16]) rfl rfl hl.1 rfl (lv_room (Nat.le_of_ble_eq_true rfl)) dX1_wetPlane_90 ⟨Nat.zero_le _, Nat.zero_le _⟩) hP hD hS hA [] rfl rfl rfl (fun H locs hP hD hS => ?_)
      refine lv_if_eq (tgt := 108) hx hb dX1_wetPlane_93 (by decide) (fun c_17 => ?_) (fun c_17 => ?_)
      · skip
        have e9 : (bp (bp (bp r 12 2 f_2) 3 i a_3) 3 i a_15 : rB) = wet r i x := by (replace ev5_16 := ev5_16.symm; subst ev5_16; replace ea_15 := ea_15.symm; subst ea_15; replace ev4_4 := ev4_4.symm; subst ev4_4; replace ea_3 := ea_3.symm; subst ea_3; replace ef_2 := ef_2.symm; subst ef_2; replace ev3_1 := ev3_1.symm; subst ev3_1; simp only [wet, c_5, c_10, c_17, ↓reduceIte])
        rw [e9] at hP
        exact k_vret hx hb hr hlocks hS hP dX1_wetPlane_108
      · skip
        refine lv_aload_n hx hb dX1_wetPlane_96 rfl (lv_at hl 3 rfl) ?_
        refine va_get (D := D) (ci := 1) (v := .ref (a 9)) (C := RX1) (T := TX1) (N := 16) hx hb hts hinX1 hown hK hP 0 rfl rfl 8 (by decide) fl36 (fun _ h9 => h9) rfl dX1_wetPlane_97 ?_
        refine lv_iload hx hb dX1_wetPlane_100 (lv_at hl 0 rfl) ?_
        refine lv_dup2_11 hx hb dX1_wetPlane_102 rfl rfl ?_
        refine k_iald (k := v5_16.toNatClampNeg) (v := r 8 v5_16.toNatClampNeg) hx hb hK hP 9 0 rfl rfl (zL_in (n := 6) rfl rfl c_17) rfl ((bp_rw (by decide)).trans ((bp_rw (by decide)).trans ((bp_rw (by decide)).trans (rfl)))) dX1_wetPlane_103 ?_
        refine lv_iload hx hb dX1_wetPlane_104 (lv_at hl 1 rfl) ?_
        refine lv_iadd hx hb dX1_wetPlane_106 ?_
        refine lv_topi (fun a_18 ea_18 => ?_)
        refine k_iast (k := v5_16.toNatClampNeg) (ws' := cR cI a (bp (bp (bp (bp r 12 2 f_2) 3 i a_3) 3 i a_15) 8 v5_16.toNatClampNeg a_18)) hx hb hK hP hD hS 9 0 rfl rfl (zL_in (n := 6) rfl rfl c_17) rfl rfl dX1_wetPlane_107 (fun H locs hP hD hS => ?_)
        have e9 : (bp (bp (bp (bp r 12 2 f_2) 3 i a_3) 3 i a_15) 8 v5_16.toNatClampNeg a_18 : rB) = wet r i x := by (replace ea_18 := ea_18.symm; subst ea_18; replace ev5_16 := ev5_16.symm; subst ev5_16; replace ea_15 := ea_15.symm; subst ea_15; replace ev4_4 := ev4_4.symm; subst ev4_4; replace ea_3 := ea_3.symm; subst ea_3; replace ef_2 := ef_2.symm; subst ef_2; replace ev3_1 := ev3_1.symm; subst ev3_1; simp only [wet, c_5, c_10, c_17, ↓reduceIte])
        rw [e9] at hP
        exact k_vret hx hb hr hlocks hS hP dX1_wetPlane_108
