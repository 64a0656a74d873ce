set_option maxHeartbeats 4000000 in
set_option maxRecDepth 100000 in
theorem mX3_dryIn (l : Launch) (D : va_G) (cI cQ cJ : ClassId) (o s0 x0 : Nat) (a a2 : Nat → Nat) (r q : rB)  : Mi l D (tY cI cQ cJ) yX3_dryIn wsX3_dryIn ({ frames := 3, cells := 0, slots := 0, locals := 81 } : Room) [.ref o] ((cO o [.ref (a 0), .ref (a2 0), .ref s0, .ref x0]) ++ (cR cI a r) ++ (cR cI a2 q)) ((cO o [.ref (a 0), .ref (a2 0), .ref s0, .ref x0]) ++ (cR cI a r) ++ (cR cI a2 ((dyC 301 0 r).1))) ((dyC 301 0 r).2) := by
  refine M_of (cc := cX3_dryIn) (maxL := 2) (ret := some .int) (Qc := fun A => va_Qi (fun (x : Int32) (_ : Unit) => x = (dyC 301 0 r).2) (fun _ t => Wd D ((cO o [.ref (a 0), .ref (a2 0), .ref s0, .ref x0]) ++ (cR cI a r) ++ (cR cI a2 ((dyC 301 0 r).1))) t) A) (by decide) rfl (Nat.le_of_ble_eq_true rfl) ?_
  intro p e s m below meth c A ls hB hE hP hK hD hA hl
  obtain ⟨hx, hb, hr, hml, hts, hown, hlocks⟩ := hB
  have hS : va_S A s.heap s.heap [] := va_S.rf
  have hl : lv_has ls 2 [(0, .ref o)] := hl
  have hinX3 : ∀ w ∈ u_ws RX3 TX3 4, w ∈ wsX3_dryIn := by decide +kernel
  have fl16 := hts (.fieldLink RX3 16 "RoofDrains" "thought" "LRoofDrains$Roof;") (by decide +kernel)
  have fl10 := hts (.fieldLink RX3 10 "RoofDrains" "roof" "LRoofDrains$Roof;") (by decide +kernel)
  refine lv_aload_n hx hb dX3_dryIn_0 rfl (lv_at hl 0 rfl) ?_
  refine va_get (D := D) (ci := 3) (v := .ref (a2 0)) (C := RX3) (T := TX3) (N := 4) hx hb hts hinX3 hown hK hP 0 rfl rfl 1 (by decide) fl16 (fun _ h9 => h9) rfl dX3_dryIn_1 ?_
  refine lv_aload_n hx hb dX3_dryIn_4 rfl (lv_at hl 0 rfl) ?_
  refine va_get (D := D) (ci := 3) (v := .ref (a 0)) (C := RX3) (T := TX3) (N := 4) hx hb hts hinX3 hown hK hP 0 rfl rfl 0 (by decide) fl10 (fun _ h9 => h9) rfl dX3_dryIn_5 ?_
  refine k_callv (wc := (cR cI a2 q) ++ (cR cI a r)) (w' := (cR cI a2 r) ++ (cR cI a r)) (wn := (cO o [.ref (a 0), .ref (a2 0), .ref s0, .ref x0]) ++ (cR cI a r) ++ (cR cI a2 r)) (va_runV (As := [.ref (a 0)]) (rest := []) ⟨hx, hb, hml, hown, hts⟩ (mX1_copyFrom l D cI cQ cJ a2 q a r _) (cwV 1 hts gX3_dryIn_X1_copyFrom rfl rfl rfl (by decide +kernel) ⟨Nat.le_of_ble_eq_true rfl, Nat.le_of_ble_eq_true rfl⟩) (k_preV (wc := (cR cI a2 q) ++ (cR cI a r)) hE hK hP hD [14, 15, 16, 17, 18, 19, 20, 21, 22, 23, 24, 25, 26, 1, 2, 3, 4, 5, 6, 7, 8, 9, 10, 11, 12, 13] (by decide) rfl (ci := 1) (q0 := 14) rfl rfl [.ref (a 0)]) rfl rfl hl.1 rfl (lv_room (Nat.le_of_ble_eq_true rfl)) dX3_dryIn_8 ⟨Nat.zero_le _, Nat.zero_le _⟩) hP hD hS hA [14, 15, 16, 17, 18, 19, 20, 21, 22, 23, 24, 25, 26, 1, 2, 3, 4, 5, 6, 7, 8, 9, 10, 11, 12, 13] rfl rfl (by rw [show [14, 15, 16, 17, 18, 19, 20, 21, 22, 23, 24, 25, 26, 1, 2, 3, 4, 5, 6, 7, 8, 9, 10, 11, 12, 13] = List.range' 14 13 ++ List.range' 1 13 from rfl, putAt_cat, putAt_0 13 _ _ _ 14, putAt_l _ _ _ _ 14, putAt_0 13 _ _ _ 1] <;> first | rfl | decide) (fun H locs hP hD hS => ?_)
  refine lv_iconst (v := 0) hx hb dX3_dryIn_11 (by decide) ?_
  refine lv_istore_n (lv' := [(1, .int 0), (0, .ref o)]) hx hb dX3_dryIn_12 rfl hl (by decide) rfl (fun ls hl => ?_)
  have Lp13 : ∀ (n i : Nat) (q1 : rB), i + n = 301 → dyC n i q1 = dyC 301 0 r → ∀ (H : Heap) (locs : List Loc), va_P D vwCl ((cO o [.ref (a 0), .ref (a2 0), .ref s0, .ref x0]) ++ (cR cI a r) ++ (cR cI a2 q1)) H → va_D A ((cO o [.ref (a 0), .ref (a2 0), .ref s0, .ref x0]) ++ (cR cI a r) ++ (cR cI a2 q1)) → va_S A s.heap H locs → ∀ (ls : Array Slot), lv_has ls 2 [(1, .int (nI i)), (0, .ref o)] → W p l e ({ frames := 3, cells := 0, slots := 0, locals := 81 } : Room) s m ([.ref o] : List Value).toArray below meth c H locs 0 0 (MQ below (va_Qi (fun (x : Int32) (_ : Unit) => x = (dyC 301 0 r).2) (fun _ t => Wd D ((cO o [.ref (a 0), .ref (a2 0), .ref s0, .ref x0]) ++ (cR cI a r) ++ (cR cI a2 ((dyC 301 0 r).1))) t) A) ([.ref o] : List Value).toArray s 0 0 A) (F0 m 13 ls []) := by
    intro n
    induction n with
    | zero =>
      intro i q1 hin hres H locs hP hD hS ls hl
      refine lv_iload_n hx hb dX3_dryIn_13 rfl (lv_at hl 0 rfl) ?_
      refine lv_sipush (v := 300) hx hb dX3_dryIn_14 (by decide) ?_
      refine lv_icmp_gt (tgt := 46) hx hb dX3_dryIn_17 (by decide) (fun _ => ?_) (fun h9 => absurd (nI_lt (a := 300) (b := i) (by omega) (by omega)) h9)
      refine lv_iconst (v := (-1)) hx hb dX3_dryIn_46 (by decide) ?_
      have e9 : (q1 : rB) = (dyC 301 0 r).1 := by (rw [← hres]; simp only [dyC, ↓reduceIte])
      rw [e9] at hP
      exact k_iret hx hb hr hlocks hS hP dX3_dryIn_47 (by (rw [← hres]; simp only [dyC, ↓reduceIte]))
    | succ n ih =>
      intro i q1 hin hres H locs hP hD hS ls hl
      refine lv_iload_n hx hb dX3_dryIn_13 rfl (lv_at hl 0 rfl) ?_
      refine lv_sipush (v := 300) hx hb dX3_dryIn_14 (by decide) ?_
      refine lv_icmp_gt (tgt := 46) hx hb dX3_dryIn_17 (by decide) (fun h9 => absurd h9 (nI_nlt (a := 300) (b := i) (by omega) (by omega))) (fun _ => ?_)
      refine lv_aload_n hx hb dX3_dryIn_20 rfl (lv_at hl 1 rfl) ?_
      refine va_get (D := D) (ci := 3) (v := .ref (a2 0)) (C := RX3) (T := TX3) (N := 4) hx hb hts hinX3 hown hK hP 0 rfl rfl 1 (by decide) fl16 (fun _ h9 => h9) rfl dX3_dryIn_21 ?_
      refine k_calli (wc := cR cI a2 q1) (w' := cR cI a2 q1) (wn := (cO o [.ref (a 0), .ref (a2 0), .ref s0, .ref x0]) ++ (cR cI a r) ++ (cR cI a2 q1)) (va_runV (As := []) (rest := []) ⟨hx, hb, hml, hown, hts⟩ (mX1_standingLitres l D cI cQ cJ a2 q1 _) (cwV 0 hts gX3_dryIn_X1_standingLitres rfl rfl rfl (by decide +kernel) ⟨Nat.le_of_ble_eq_true rfl, Nat.le_of_ble_eq_true rfl⟩) (k_preV (wc := cR cI a2 q1) hE hK hP hD [14, 15, 16, 17, 18, 19, 20, 21, 22, 23, 24, 25, 26] (by decide) rfl (ci := 1) (q0 := 14) rfl rfl []) rfl rfl hl.1 rfl (lv_room (Nat.le_of_ble_eq_true rfl)) dX3_dryIn_24 ⟨Nat.zero_le _, Nat.zero_le _⟩) hP hD hS hA [14, 15, 16, 17, 18, 19, 20, 21, 22, 23, 24, 25, 26] rfl rfl (by rw [show [14, 15, 16, 17, 18, 19, 20, 21, 22, 23, 24, 25, 26] = List.range' 14 13 from rfl, putAt_0 13 _ _ _ 14] <;> first | rfl | decide) (fun H locs hP hD hS => ?_)
      refine lv_if_ne (tgt := 32) hx hb dX3_dryIn_27 (by decide) (fun c_1 => ?_) (fun c_1 => ?_)
      · skip
        refine lv_aload_n hx hb dX3_dryIn_32 rfl (lv_at hl 1 rfl) ?_
        refine va_get (D := D) (ci := 3) (v := .ref (a2 0)) (C := RX3) (T := TX3) (N := 4) hx hb hts hinX3 hown hK hP 0 rfl rfl 1 (by decide) fl16 (fun _ h9 => h9) rfl dX3_dryIn_33 ?_
        refine lv_iconst (v := 0) hx hb dX3_dryIn_36 (by decide) ?_
        obtain ⟨r_2, er_2⟩ : ∃ z : rB, z = minuteC q1 0 := ⟨_, rfl⟩
        have hm_3 := mX1_passMinute l D cI cQ cJ a2 q1 0
        rw [← er_2] at hm_3
        refine k_callv (wc := cR cI a2 q1) (w' := cR cI a2 r_2) (wn := (cO o [.ref (a 0), .ref (a2 0), .ref s0, .ref x0]) ++ (cR cI a r) ++ (cR cI a2 r_2)) (va_runV (As := [.int 0]) (rest := []) ⟨hx, hb, hml, hown, hts⟩ (hm_3 _) (cwV 1 hts gX3_dryIn_X1_passMinute rfl rfl rfl (by decide +kernel) ⟨Nat.le_of_ble_eq_true rfl, Nat.le_of_ble_eq_true rfl⟩) (k_preV (wc := cR cI a2 q1) hE hK hP hD [14, 15, 16, 17, 18, 19, 20, 21, 22, 23, 24, 25, 26] (by decide) rfl (ci := 1) (q0 := 14) rfl rfl [.int 0]) rfl rfl hl.1 rfl (lv_room (Nat.le_of_ble_eq_true rfl)) dX3_dryIn_37 ⟨Nat.zero_le _, Nat.zero_le _⟩) hP hD hS hA [14, 15, 16, 17, 18, 19, 20, 21, 22, 23, 24, 25, 26] rfl rfl (by rw [show [14, 15, 16, 17, 18, 19, 20, 21, 22, 23, 24, 25, 26] = List.range' 14 13 from rfl, putAt_0 13 _ _ _ 14] <;> first | rfl | decide) (fun H locs hP hD hS => ?_)
        refine lv_iinc (v := nI (i + 1)) (lv' := [(1, .int (nI (i + 1))), (0, .ref o)]) hx hb dX3_dryIn_40 hl (k := 0) rfl (nI_1 i) (by decide) rfl (fun ls hl => ?_)
        refine lv_goto (tgt := 13) hx hb dX3_dryIn_43 (by decide) ?_
        exact ih (i + 1) r_2 (by omega) (by replace er_2 := er_2.symm; subst er_2; rw [← hres]; simp only [dyC, if_neg c_1, ↓reduceIte]) H locs hP hD hS ls (lv_sub hl [0, 1] rfl)
      · skip
        refine lv_iload_n hx hb dX3_dryIn_30 rfl (lv_at hl 0 rfl) ?_
        have e9 : (q1 : rB) = (dyC 301 0 r).1 := by (rw [← hres]; simp only [dyC, if_pos c_1, ↓reduceIte])
        rw [e9] at hP
        exact k_iret hx hb hr hlocks hS hP dX3_dryIn_31 (by (rw [← hres]; simp only [dyC, if_pos c_1, ↓reduceIte]))
  exact Lp13 301 0 r (by omega) rfl _ _ hP hD hS ls (lv_sub hl [0, 1] rfl)
