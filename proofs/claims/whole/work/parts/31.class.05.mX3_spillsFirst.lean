set_option maxHeartbeats 4000000 in
set_option maxRecDepth 100000 in
theorem mX3_spillsFirst (l : Launch) (D : va_G) (cI cQ cJ : ClassId) (o s0 x0 : Nat) (a a2 : Nat → Nat) (r q : rB) (w : Int32) (hww : ¬ zW w 0 1 = 0) : Mi l D (tY cI cQ cJ) yX3_spillsFirst wsX3_spillsFirst ({ frames := 3, cells := 0, slots := 0, locals := 81 } : Room) [.ref o, .int w] ((cO o [.ref (a 0), .ref (a2 0), .ref s0, .ref x0]) ++ (cR cI a r) ++ (cR cI a2 q)) ((cO o [.ref (a 0), .ref (a2 0), .ref s0, .ref x0]) ++ (cR cI a r) ++ (cR cI a2 ((sfC r w (61 - 1) 1 r).1))) ((sfC r w (61 - 1) 1 r).2) := by
  refine M_of (cc := cX3_spillsFirst) (maxL := 4) (ret := some .int) (Qc := fun A => va_Qi (fun (x : Int32) (_ : Unit) => x = (sfC r w (61 - 1) 1 r).2) (fun _ t => Wd D ((cO o [.ref (a 0), .ref (a2 0), .ref s0, .ref x0]) ++ (cR cI a r) ++ (cR cI a2 ((sfC r w (61 - 1) 1 r).1))) t) A) (by decide) rfl (Nat.le_of_ble_eq_true rfl) ?_
  intro p e s m below meth c A ls hB hE hP hK hD hA hl
  obtain ⟨hx, hb, hr, hml, hts, hown, hlocks⟩ := hB
  have hS : va_S A s.heap s.heap [] := va_S.rf
  have hl : lv_has ls 4 [(0, .ref o), (1, .int w)] := hl
  have hinX3 : ∀ w ∈ u_ws RX3 TX3 4, w ∈ wsX3_spillsFirst := by decide +kernel
  have fl16 := hts (.fieldLink RX3 16 "RoofDrains" "thought" "LRoofDrains$Roof;") (by decide +kernel)
  have fl10 := hts (.fieldLink RX3 10 "RoofDrains" "roof" "LRoofDrains$Roof;") (by decide +kernel)
  refine lv_iload_n hx hb dX3_spillsFirst_0 rfl (lv_at hl 1 rfl) ?_
  refine lv_iconst (v := 0) hx hb dX3_spillsFirst_1 (by decide) ?_
  refine lv_iconst (v := 1) hx hb dX3_spillsFirst_2 (by decide) ?_
  refine k_calli (wc := ([] : va_W)) (w' := ([] : va_W)) (wn := (cO o [.ref (a 0), .ref (a2 0), .ref s0, .ref x0]) ++ (cR cI a r) ++ (cR cI a2 q)) (va_runS (As := [.int w, .int 0, .int 1]) (rest := []) ⟨hx, hb, hml, hown, hts⟩ (mX3_isWithin l D cI cQ cJ w 0 1 _) (va_cwS 3 hts gX3_spillsFirst_X3_isWithin rfl rfl rfl (by decide +kernel) ⟨Nat.le_of_ble_eq_true rfl, Nat.le_of_ble_eq_true rfl⟩) (k_preS (wc := ([] : va_W)) hE hK hP hD [] (by decide) rfl [.int w, .int 0, .int 1]) rfl rfl hl.1 rfl (lv_room (Nat.le_of_ble_eq_true rfl)) dX3_spillsFirst_3 ⟨Nat.zero_le _, Nat.zero_le _⟩) hP hD hS hA [] rfl rfl rfl (fun H locs hP hD hS => ?_)
  refine lv_if_ne (tgt := 19) hx hb dX3_spillsFirst_6 (by decide) (fun _ => ?_) (fun h9 => absurd h9 hww)
  refine lv_aload_n hx hb dX3_spillsFirst_19 rfl (lv_at hl 0 rfl) ?_
  refine va_get (D := D) (ci := 3) (v := .ref (a2 0)) (C := RX3) (T := TX3) (N := 4) hx hb hts hinX3 hown hK hP 0 rfl rfl 1 (by decide) fl16 (fun _ h9 => h9) rfl dX3_spillsFirst_20 ?_
  refine lv_aload_n hx hb dX3_spillsFirst_23 rfl (lv_at hl 0 rfl) ?_
  refine va_get (D := D) (ci := 3) (v := .ref (a 0)) (C := RX3) (T := TX3) (N := 4) hx hb hts hinX3 hown hK hP 0 rfl rfl 0 (by decide) fl10 (fun _ h9 => h9) rfl dX3_spillsFirst_24 ?_
  refine k_callv (wc := (cR cI a2 q) ++ (cR cI a r)) (w' := (cR cI a2 r) ++ (cR cI a r)) (wn := (cO o [.ref (a 0), .ref (a2 0), .ref s0, .ref x0]) ++ (cR cI a r) ++ (cR cI a2 r)) (va_runV (As := [.ref (a 0)]) (rest := []) ⟨hx, hb, hml, hown, hts⟩ (mX1_copyFrom l D cI cQ cJ a2 q a r _) (cwV 1 hts gX3_spillsFirst_X1_copyFrom rfl rfl rfl (by decide +kernel) ⟨Nat.le_of_ble_eq_true rfl, Nat.le_of_ble_eq_true rfl⟩) (k_preV (wc := (cR cI a2 q) ++ (cR cI a r)) hE hK hP hD [14, 15, 16, 17, 18, 19, 20, 21, 22, 23, 24, 25, 26, 1, 2, 3, 4, 5, 6, 7, 8, 9, 10, 11, 12, 13] (by decide) rfl (ci := 1) (q0 := 14) rfl rfl [.ref (a 0)]) rfl rfl hl.1 rfl (lv_room (Nat.le_of_ble_eq_true rfl)) dX3_spillsFirst_27 ⟨Nat.zero_le _, Nat.zero_le _⟩) hP hD hS hA [14, 15, 16, 17, 18, 19, 20, 21, 22, 23, 24, 25, 26, 1, 2, 3, 4, 5, 6, 7, 8, 9, 10, 11, 12, 13] rfl rfl (by rw [show [14, 15, 16, 17, 18, 19, 20, 21, 22, 23, 24, 25, 26, 1, 2, 3, 4, 5, 6, 7, 8, 9, 10, 11, 12, 13] = List.range' 14 13 ++ List.range' 1 13 from rfl, putAt_cat, putAt_0 13 _ _ _ 14, putAt_l _ _ _ _ 14, putAt_0 13 _ _ _ 1] <;> first | rfl | decide) (fun H locs hP hD hS => ?_)
  refine lv_iconst (v := 1) hx hb dX3_spillsFirst_30 (by decide) ?_
  refine lv_istore_n (lv' := [(2, .int 1), (0, .ref o), (1, .int w)]) hx hb dX3_spillsFirst_31 rfl hl (by decide) rfl (fun ls hl => ?_)
  have Lp32 : ∀ (n i : Nat) (q1 : rB), i + n = 61 → sfC r w n i q1 = sfC r w (61 - 1) 1 r → ∀ (H : Heap) (locs : List Loc), va_P D vwCl ((cO o [.ref (a 0), .ref (a2 0), .ref s0, .ref x0]) ++ (cR cI a r) ++ (cR cI a2 q1)) H → va_D A ((cO o [.ref (a 0), .ref (a2 0), .ref s0, .ref x0]) ++ (cR cI a r) ++ (cR cI a2 q1)) → va_S A s.heap H locs → ∀ (ls : Array Slot), lv_has ls 4 [(2, .int (nI i)), (0, .ref o), (1, .int w)] → W p l e ({ frames := 3, cells := 0, slots := 0, locals := 81 } : Room) s m ([.ref o, .int w] : List Value).toArray below meth c H locs 0 0 (MQ below (va_Qi (fun (x : Int32) (_ : Unit) => x = (sfC r w (61 - 1) 1 r).2) (fun _ t => Wd D ((cO o [.ref (a 0), .ref (a2 0), .ref s0, .ref x0]) ++ (cR cI a r) ++ (cR cI a2 ((sfC r w (61 - 1) 1 r).1))) t) A) ([.ref o, .int w] : List Value).toArray s 0 0 A) (F0 m 32 ls []) := by
    intro n
    induction n with
    | zero =>
      intro i q1 hin hres H locs hP hD hS ls hl
      refine lv_iload_n hx hb dX3_spillsFirst_32 rfl (lv_at hl 0 rfl) ?_
      refine lv_bipush (v := 60) hx hb dX3_spillsFirst_33 (by decide) ?_
      refine lv_icmp_gt (tgt := 86) hx hb dX3_spillsFirst_35 (by decide) (fun _ => ?_) (fun h9 => absurd (nI_lt (a := 60) (b := i) (by omega) (by omega)) h9)
      refine lv_iconst (v := (-1)) hx hb dX3_spillsFirst_86 (by decide) ?_
      have e9 : (q1 : rB) = (sfC r w (61 - 1) 1 r).1 := by (rw [← hres]; simp only [sfC, ↓reduceIte])
      rw [e9] at hP
      exact k_iret hx hb hr hlocks hS hP dX3_spillsFirst_87 (by (rw [← hres]; simp only [sfC, ↓reduceIte]))
    | succ n ih =>
      intro i q1 hin hres H locs hP hD hS ls hl
      refine lv_iload_n hx hb dX3_spillsFirst_32 rfl (lv_at hl 0 rfl) ?_
      refine lv_bipush (v := 60) hx hb dX3_spillsFirst_33 (by decide) ?_
      refine lv_icmp_gt (tgt := 86) hx hb dX3_spillsFirst_35 (by decide) (fun h9 => absurd h9 (nI_nlt (a := 60) (b := i) (by omega) (by omega))) (fun _ => ?_)
      refine lv_aload_n hx hb dX3_spillsFirst_38 rfl (lv_at hl 1 rfl) ?_
      refine va_get (D := D) (ci := 3) (v := .ref (a2 0)) (C := RX3) (T := TX3) (N := 4) hx hb hts hinX3 hown hK hP 0 rfl rfl 1 (by decide) fl16 (fun _ h9 => h9) rfl dX3_spillsFirst_39 ?_
      refine lv_aload_n hx hb dX3_spillsFirst_42 rfl (lv_at hl 1 rfl) ?_
      refine va_get (D := D) (ci := 3) (v := .ref (a 0)) (C := RX3) (T := TX3) (N := 4) hx hb hts hinX3 hown hK hP 0 rfl rfl 0 (by decide) fl10 (fun _ h9 => h9) rfl dX3_spillsFirst_43 ?_
      refine lv_iconst (v := 2) hx hb dX3_spillsFirst_46 (by decide) ?_
      refine k_calli (wc := cR cI a r) (w' := cR cI a r) (wn := (cO o [.ref (a 0), .ref (a2 0), .ref s0, .ref x0]) ++ (cR cI a r) ++ (cR cI a2 q1)) (va_runV (As := [.int 2]) (rest := [.ref (a2 0)]) ⟨hx, hb, hml, hown, hts⟩ (mX1_settingValue l D cI cQ cJ a r 2 2 (vp_in_nI (n := 2) (by omega) (by omega)) (nI_clamp (n := 2) (by omega)) _) (cwV 1 hts gX3_spillsFirst_X1_settingValue rfl rfl rfl (by decide +kernel) ⟨Nat.le_of_ble_eq_true rfl, Nat.le_of_ble_eq_true rfl⟩) (k_preV (wc := cR cI a r) hE hK hP hD [1, 2, 3, 4, 5, 6, 7, 8, 9, 10, 11, 12, 13] (by decide) rfl (ci := 1) (q0 := 1) rfl rfl [.int 2]) rfl rfl hl.1 rfl (lv_room (Nat.le_of_ble_eq_true rfl)) dX3_spillsFirst_47 ⟨Nat.zero_le _, Nat.zero_le _⟩) hP hD hS hA [1, 2, 3, 4, 5, 6, 7, 8, 9, 10, 11, 12, 13] rfl rfl (by rw [show [1, 2, 3, 4, 5, 6, 7, 8, 9, 10, 11, 12, 13] = List.range' 1 13 from rfl, putAt_l _ _ _ _ 14, putAt_0 13 _ _ _ 1] <;> first | rfl | decide) (fun H locs hP hD hS => ?_)
      obtain ⟨r_1, er_1⟩ : ∃ z : rB, z = minuteC q1 (r 11 2) := ⟨_, rfl⟩
      have hm_2 := mX1_passMinute l D cI cQ cJ a2 q1 (r 11 2)
      rw [← er_1] at hm_2
      refine k_callv (wc := cR cI a2 q1) (w' := cR cI a2 r_1) (wn := (cO o [.ref (a 0), .ref (a2 0), .ref s0, .ref x0]) ++ (cR cI a r) ++ (cR cI a2 r_1)) (va_runV (As := [.int (r 11 2)]) (rest := []) ⟨hx, hb, hml, hown, hts⟩ (hm_2 _) (cwV 1 hts gX3_spillsFirst_X1_passMinute rfl rfl rfl (by decide +kernel) ⟨Nat.le_of_ble_eq_true rfl, Nat.le_of_ble_eq_true rfl⟩) (k_preV (wc := cR cI a2 q1) hE hK hP hD [14, 15, 16, 17, 18, 19, 20, 21, 22, 23, 24, 25, 26] (by decide) rfl (ci := 1) (q0 := 14) rfl rfl [.int (r 11 2)]) rfl rfl hl.1 rfl (lv_room (Nat.le_of_ble_eq_true rfl)) dX3_spillsFirst_50 ⟨Nat.zero_le _, Nat.zero_le _⟩) hP hD hS hA [14, 15, 16, 17, 18, 19, 20, 21, 22, 23, 24, 25, 26] rfl rfl (by rw [show [14, 15, 16, 17, 18, 19, 20, 21, 22, 23, 24, 25, 26] = List.range' 14 13 from rfl, putAt_0 13 _ _ _ 14] <;> first | rfl | decide) (fun H locs hP hD hS => ?_)
      refine lv_aload_n hx hb dX3_spillsFirst_53 rfl (lv_at hl 1 rfl) ?_
      refine va_get (D := D) (ci := 3) (v := .ref (a2 0)) (C := RX3) (T := TX3) (N := 4) hx hb hts hinX3 hown hK hP 0 rfl rfl 1 (by decide) fl16 (fun _ h9 => h9) rfl dX3_spillsFirst_54 ?_
      refine lv_aload_n hx hb dX3_spillsFirst_57 rfl (lv_at hl 1 rfl) ?_
      refine va_get (D := D) (ci := 3) (v := .ref (a 0)) (C := RX3) (T := TX3) (N := 4) hx hb hts hinX3 hown hK hP 0 rfl rfl 0 (by decide) fl10 (fun _ h9 => h9) rfl dX3_spillsFirst_58 ?_
      refine k_calli (wc := (cR cI a2 r_1) ++ (cR cI a r)) (w' := (cR cI a2 r_1) ++ (cR cI a r)) (wn := (cO o [.ref (a 0), .ref (a2 0), .ref s0, .ref x0]) ++ (cR cI a r) ++ (cR cI a2 r_1)) (va_runV (As := [.ref (a 0)]) (rest := []) ⟨hx, hb, hml, hown, hts⟩ (mX1_lowest l D cI cQ cJ a2 r_1 a r _) (cwV 1 hts gX3_spillsFirst_X1_lowestThatSpiltMoreThanIn rfl rfl rfl (by decide +kernel) ⟨Nat.le_of_ble_eq_true rfl, Nat.le_of_ble_eq_true rfl⟩) (k_preV (wc := (cR cI a2 r_1) ++ (cR cI a r)) hE hK hP hD [14, 15, 16, 17, 18, 19, 20, 21, 22, 23, 24, 25, 26, 1, 2, 3, 4, 5, 6, 7, 8, 9, 10, 11, 12, 13] (by decide) rfl (ci := 1) (q0 := 14) rfl rfl [.ref (a 0)]) rfl rfl hl.1 rfl (lv_room (Nat.le_of_ble_eq_true rfl)) dX3_spillsFirst_61 ⟨Nat.zero_le _, Nat.zero_le _⟩) hP hD hS hA [14, 15, 16, 17, 18, 19, 20, 21, 22, 23, 24, 25, 26, 1, 2, 3, 4, 5, 6, 7, 8, 9, 10, 11, 12, 13] rfl rfl (by rw [show [14, 15, 16, 17, 18, 19, 20, 21, 22, 23, 24, 25, 26, 1, 2, 3, 4, 5, 6, 7, 8, 9, 10, 11, 12, 13] = List.range' 14 13 ++ List.range' 1 13 from rfl, putAt_cat, putAt_0 13 _ _ _ 14, putAt_l _ _ _ _ 14, putAt_0 13 _ _ _ 1] <;> first | rfl | decide) (fun H locs hP hD hS => ?_)
      refine lv_topi (fun v3_3 ev3_3 => ?_)
      refine lv_istore_n (lv' := [(3, .int v3_3), (2, .int (nI i)), (0, .ref o), (1, .int w)]) hx hb dX3_spillsFirst_64 rfl hl (by decide) rfl (fun ls hl => ?_)
      refine lv_iload_n hx hb dX3_spillsFirst_65 rfl (lv_at hl 0 rfl) ?_
      refine lv_iconst (v := (-1)) hx hb dX3_spillsFirst_66 (by decide) ?_
      refine lv_icmp_eq (tgt := 80) hx hb dX3_spillsFirst_67 (by decide) (fun c_4 => ?_) (fun c_4 => ?_)
      · skip
        refine lv_iinc (v := nI (i + 1)) (lv' := [(2, .int (nI (i + 1))), (3, .int v3_3), (0, .ref o), (1, .int w)]) hx hb dX3_spillsFirst_80 hl (k := 1) rfl (nI_1 i) (by decide) rfl (fun ls hl => ?_)
        refine lv_goto (tgt := 32) hx hb dX3_spillsFirst_83 (by decide) ?_
        exact ih (i + 1) r_1 (by omega) (by replace ev3_3 := ev3_3.symm; subst ev3_3; replace er_1 := er_1.symm; subst er_1; rw [← hres]; simp only [sfC, if_pos c_4, ↓reduceIte]) H locs hP hD hS ls (lv_sub hl [0, 2, 3] rfl)
      · skip
        refine lv_iload_n hx hb dX3_spillsFirst_70 rfl (lv_at hl 3 rfl) ?_
        refine lv_if_ne (tgt := 78) hx hb dX3_spillsFirst_71 (by decide) (fun c_5 => ?_) (fun c_5 => ?_)
        · skip
          refine lv_iload_n hx hb dX3_spillsFirst_78 rfl (lv_at hl 1 rfl) ?_
          have e9 : (r_1 : rB) = (sfC r w (61 - 1) 1 r).1 := by (replace ev3_3 := ev3_3.symm; subst ev3_3; replace er_1 := er_1.symm; subst er_1; rw [← hres]; simp only [sfC, if_neg c_4, if_neg c_5, ↓reduceIte])
          rw [e9] at hP
          exact k_iret hx hb hr hlocks hS hP dX3_spillsFirst_79 (by (replace ev3_3 := ev3_3.symm; subst ev3_3; replace er_1 := er_1.symm; subst er_1; rw [← hres]; simp only [sfC, if_neg c_4, if_neg c_5, ↓reduceIte]))
        · skip
          refine lv_iload_n hx hb dX3_spillsFirst_74 rfl (lv_at hl 0 rfl) ?_
          refine lv_goto (tgt := 79) hx hb dX3_spillsFirst_75 (by decide) ?_
          have e9 : (r_1 : rB) = (sfC r w (61 - 1) 1 r).1 := by (replace ev3_3 := ev3_3.symm; subst ev3_3; replace er_1 := er_1.symm; subst er_1; rw [← hres]; simp only [sfC, if_neg c_4, if_pos c_5, ↓reduceIte])
          rw [e9] at hP
          exact k_iret hx hb hr hlocks hS hP dX3_spillsFirst_79 (by (replace ev3_3 := ev3_3.symm; subst ev3_3; replace er_1 := er_1.symm; subst er_1; rw [← hres]; simp only [sfC, if_neg c_4, if_pos c_5, ↓reduceIte]))
  exact Lp32 (61 - 1) 1 r (by omega) rfl _ _ hP hD hS ls (lv_sub hl [0, 1, 2] rfl)
