set_option maxHeartbeats 4000000 in
set_option maxRecDepth 100000 in
theorem mX4_tellsGutter (l : Launch) (D : va_G) (cI cQ cJ : ClassId) (a : Nat → Nat) (r : rB) (h : Int64) (x : Int32) (i w : Nat) (hxi : x = nI i) (hi : i < 6) (hw : w < 9) : Mi l D (tY cI cQ cJ) yX4_tellsGutter wsX4_tellsGutter ({ frames := 2, cells := 0, slots := 0, locals := 44 } : Room) [.ref (a 0), .int x, .int (nI w)] (cM cI a r h) (cM cI a r h) (tgM r i w) := by
  refine M_of (cc := cX4_tellsGutter) (maxL := 3) (ret := some .int) (Qc := fun A => va_Qi (fun (x : Int32) (_ : Unit) => x = tgM r i w) (fun _ t => Wd D (cM cI a r h) t) A) (by decide) rfl (Nat.le_of_ble_eq_true rfl) ?_
  intro p e s m below meth c A ls hB hE hP hK hD hA hl
  obtain ⟨hx, hb, hr, hml, hts, hown, hlocks⟩ := hB
  have hS : va_S A s.heap s.heap [] := va_S.rf
  have hl : lv_has ls 3 [(0, .ref (a 0)), (1, .int x), (2, .int (nI w))] := hl
  subst hxi
  refine lv_iload_n hx hb dX4_tellsGutter_0 rfl (lv_at hl 2 rfl) ?_
  have hsw : w = 0 ∨ w = 1 ∨ w = 2 ∨ w = 3 ∨ w = 4 ∨ w = 5 ∨ w = 6 ∨ w = 7 ∨ w = 8 := by omega
  rcases hsw with rfl | rfl | rfl | rfl | rfl | rfl | rfl | rfl | rfl
  · skip
    refine lv_tableOut (tgt := 70) hx hb dX4_tellsGutter_1 (by decide +kernel) (by decide) ?_
    refine lv_aload_n hx hb dX4_tellsGutter_70 rfl (lv_at hl 0 rfl) ?_
    refine lv_iload_n hx hb dX4_tellsGutter_71 rfl (lv_at hl 1 rfl) ?_
    refine lv_iload_n hx hb dX4_tellsGutter_72 rfl (lv_at hl 2 rfl) ?_
    refine k_calli (wc := cM cI a r h) (w' := cM cI a r h) (wn := cM cI a r h) (va_runV (As := [.int (nI i), .int (nI 0)]) (rest := []) ⟨hx, hb, hml, hown, hts⟩ (mX4_of l D cI cQ cJ a r h (nI i) i 0 rfl (by omega) (by omega) _) (cwV 2 hts gX4_tellsGutter_X4_of rfl rfl rfl (by decide +kernel) ⟨Nat.le_of_ble_eq_true rfl, Nat.le_of_ble_eq_true rfl⟩) (k_preV (wc := cM cI a r h) hE hK hP hD [0, 1, 2, 3, 4, 5] (by decide) rfl (ci := 4) (q0 := 0) rfl rfl [.int (nI i), .int (nI 0)]) rfl rfl hl.1 rfl (lv_room (Nat.le_of_ble_eq_true rfl)) dX4_tellsGutter_73 ⟨Nat.zero_le _, Nat.zero_le _⟩) hP hD hS hA [0, 1, 2, 3, 4, 5] rfl rfl rfl (fun H locs hP hD hS => ?_)
    exact k_iret hx hb hr hlocks hS hP dX4_tellsGutter_76 (by (first | with_reducible rfl | simp only [tgM, ↓reduceIte]))
  · skip
    refine lv_tableOut (tgt := 70) hx hb dX4_tellsGutter_1 (by decide +kernel) (by decide) ?_
    refine lv_aload_n hx hb dX4_tellsGutter_70 rfl (lv_at hl 0 rfl) ?_
    refine lv_iload_n hx hb dX4_tellsGutter_71 rfl (lv_at hl 1 rfl) ?_
    refine lv_iload_n hx hb dX4_tellsGutter_72 rfl (lv_at hl 2 rfl) ?_
    refine k_calli (wc := cM cI a r h) (w' := cM cI a r h) (wn := cM cI a r h) (va_runV (As := [.int (nI i), .int (nI 1)]) (rest := []) ⟨hx, hb, hml, hown, hts⟩ (mX4_of l D cI cQ cJ a r h (nI i) i 1 rfl (by omega) (by omega) _) (cwV 2 hts gX4_tellsGutter_X4_of rfl rfl rfl (by decide +kernel) ⟨Nat.le_of_ble_eq_true rfl, Nat.le_of_ble_eq_true rfl⟩) (k_preV (wc := cM cI a r h) hE hK hP hD [0, 1, 2, 3, 4, 5] (by decide) rfl (ci := 4) (q0 := 0) rfl rfl [.int (nI i), .int (nI 1)]) rfl rfl hl.1 rfl (lv_room (Nat.le_of_ble_eq_true rfl)) dX4_tellsGutter_73 ⟨Nat.zero_le _, Nat.zero_le _⟩) hP hD hS hA [0, 1, 2, 3, 4, 5] rfl rfl rfl (fun H locs hP hD hS => ?_)
    exact k_iret hx hb hr hlocks hS hP dX4_tellsGutter_76 (by (first | with_reducible rfl | simp only [tgM, ↓reduceIte]))
  · skip
    refine lv_tableOut (tgt := 70) hx hb dX4_tellsGutter_1 (by decide +kernel) (by decide) ?_
    refine lv_aload_n hx hb dX4_tellsGutter_70 rfl (lv_at hl 0 rfl) ?_
    refine lv_iload_n hx hb dX4_tellsGutter_71 rfl (lv_at hl 1 rfl) ?_
    refine lv_iload_n hx hb dX4_tellsGutter_72 rfl (lv_at hl 2 rfl) ?_
    refine k_calli (wc := cM cI a r h) (w' := cM cI a r h) (wn := cM cI a r h) (va_runV (As := [.int (nI i), .int (nI 2)]) (rest := []) ⟨hx, hb, hml, hown, hts⟩ (mX4_of l D cI cQ cJ a r h (nI i) i 2 rfl (by omega) (by omega) _) (cwV 2 hts gX4_tellsGutter_X4_of rfl rfl rfl (by decide +kernel) ⟨Nat.le_of_ble_eq_true rfl, Nat.le_of_ble_eq_true rfl⟩) (k_preV (wc := cM cI a r h) hE hK hP hD [0, 1, 2, 3, 4, 5] (by decide) rfl (ci := 4) (q0 := 0) rfl rfl [.int (nI i), .int (nI 2)]) rfl rfl hl.1 rfl (lv_room (Nat.le_of_ble_eq_true rfl)) dX4_tellsGutter_73 ⟨Nat.zero_le _, Nat.zero_le _⟩) hP hD hS hA [0, 1, 2, 3, 4, 5] rfl rfl rfl (fun H locs hP hD hS => ?_)
    exact k_iret hx hb hr hlocks hS hP dX4_tellsGutter_76 (by (first | with_reducible rfl | simp only [tgM, ↓reduceIte]))
  · skip
    refine lv_tableIn (off := 39) (tgt := 40) hx hb dX4_tellsGutter_1 (by decide +kernel) (by decide +kernel) (by decide +kernel) (by decide) ?_
    refine lv_aload_n hx hb dX4_tellsGutter_40 rfl (lv_at hl 0 rfl) ?_
    refine lv_iload_n hx hb dX4_tellsGutter_41 rfl (lv_at hl 1 rfl) ?_
    refine lv_iconst (v := 3) hx hb dX4_tellsGutter_42 (by decide) ?_
    refine k_calli (wc := cM cI a r h) (w' := cM cI a r h) (wn := cM cI a r h) (va_runV (As := [.int (nI i), .int 3]) (rest := []) ⟨hx, hb, hml, hown, hts⟩ (mX4_of l D cI cQ cJ a r h (nI i) i 3 rfl (by omega) (by omega) _) (cwV 2 hts gX4_tellsGutter_X4_of rfl rfl rfl (by decide +kernel) ⟨Nat.le_of_ble_eq_true rfl, Nat.le_of_ble_eq_true rfl⟩) (k_preV (wc := cM cI a r h) hE hK hP hD [0, 1, 2, 3, 4, 5] (by decide) rfl (ci := 4) (q0 := 0) rfl rfl [.int (nI i), .int 3]) rfl rfl hl.1 rfl (lv_room (Nat.le_of_ble_eq_true rfl)) dX4_tellsGutter_43 ⟨Nat.zero_le _, Nat.zero_le _⟩) hP hD hS hA [0, 1, 2, 3, 4, 5] rfl rfl rfl (fun H locs hP hD hS => ?_)
    refine lv_iconst (v := 1) hx hb dX4_tellsGutter_46 (by decide) ?_
    refine lv_isub hx hb dX4_tellsGutter_47 ?_
    exact k_iret hx hb hr hlocks hS hP dX4_tellsGutter_48 (by (first | with_reducible rfl | simp only [tgM, ↓reduceIte]))
  · skip
    refine lv_tableIn (off := 69) (tgt := 70) hx hb dX4_tellsGutter_1 (by decide +kernel) (by decide +kernel) (by decide +kernel) (by decide) ?_
    refine lv_aload_n hx hb dX4_tellsGutter_70 rfl (lv_at hl 0 rfl) ?_
    refine lv_iload_n hx hb dX4_tellsGutter_71 rfl (lv_at hl 1 rfl) ?_
    refine lv_iload_n hx hb dX4_tellsGutter_72 rfl (lv_at hl 2 rfl) ?_
    refine k_calli (wc := cM cI a r h) (w' := cM cI a r h) (wn := cM cI a r h) (va_runV (As := [.int (nI i), .int (nI 4)]) (rest := []) ⟨hx, hb, hml, hown, hts⟩ (mX4_of l D cI cQ cJ a r h (nI i) i 4 rfl (by omega) (by omega) _) (cwV 2 hts gX4_tellsGutter_X4_of rfl rfl rfl (by decide +kernel) ⟨Nat.le_of_ble_eq_true rfl, Nat.le_of_ble_eq_true rfl⟩) (k_preV (wc := cM cI a r h) hE hK hP hD [0, 1, 2, 3, 4, 5] (by decide) rfl (ci := 4) (q0 := 0) rfl rfl [.int (nI i), .int (nI 4)]) rfl rfl hl.1 rfl (lv_room (Nat.le_of_ble_eq_true rfl)) dX4_tellsGutter_73 ⟨Nat.zero_le _, Nat.zero_le _⟩) hP hD hS hA [0, 1, 2, 3, 4, 5] rfl rfl rfl (fun H locs hP hD hS => ?_)
    exact k_iret hx hb hr hlocks hS hP dX4_tellsGutter_76 (by (first | with_reducible rfl | simp only [tgM, ↓reduceIte]))
  · skip
    refine lv_tableIn (off := 48) (tgt := 49) hx hb dX4_tellsGutter_1 (by decide +kernel) (by decide +kernel) (by decide +kernel) (by decide) ?_
    refine lv_aload_n hx hb dX4_tellsGutter_49 rfl (lv_at hl 0 rfl) ?_
    refine lv_iload_n hx hb dX4_tellsGutter_50 rfl (lv_at hl 1 rfl) ?_
    refine k_calli (wc := cM cI a r h) (w' := cM cI a r h) (wn := cM cI a r h) (va_runV (As := [.int (nI i)]) (rest := []) ⟨hx, hb, hml, hown, hts⟩ (mX4_room l D cI cQ cJ a r h (nI i) i rfl (by omega) _) (cwV 1 hts gX4_tellsGutter_X4_room rfl rfl rfl (by decide +kernel) ⟨Nat.le_of_ble_eq_true rfl, Nat.le_of_ble_eq_true rfl⟩) (k_preV (wc := cM cI a r h) hE hK hP hD [0, 1, 2, 3, 4, 5] (by decide) rfl (ci := 4) (q0 := 0) rfl rfl [.int (nI i)]) rfl rfl hl.1 rfl (lv_room (Nat.le_of_ble_eq_true rfl)) dX4_tellsGutter_51 ⟨Nat.zero_le _, Nat.zero_le _⟩) hP hD hS hA [0, 1, 2, 3, 4, 5] rfl rfl rfl (fun H locs hP hD hS => ?_)
    exact k_iret hx hb hr hlocks hS hP dX4_tellsGutter_54 (by (first | with_reducible rfl | simp only [tgM, ↓reduceIte]))
  · skip
    refine lv_tableIn (off := 54) (tgt := 55) hx hb dX4_tellsGutter_1 (by decide +kernel) (by decide +kernel) (by decide +kernel) (by decide) ?_
    refine lv_aload_n hx hb dX4_tellsGutter_55 rfl (lv_at hl 0 rfl) ?_
    refine lv_iload_n hx hb dX4_tellsGutter_56 rfl (lv_at hl 1 rfl) ?_
    refine k_calli (wc := cM cI a r h) (w' := cM cI a r h) (wn := cM cI a r h) (va_runV (As := [.int (nI i)]) (rest := []) ⟨hx, hb, hml, hown, hts⟩ (mX4_takes l D cI cQ cJ a r h (nI i) i rfl (by omega) _) (cwV 1 hts gX4_tellsGutter_X4_takes rfl rfl rfl (by decide +kernel) ⟨Nat.le_of_ble_eq_true rfl, Nat.le_of_ble_eq_true rfl⟩) (k_preV (wc := cM cI a r h) hE hK hP hD [0, 1, 2, 3, 4, 5] (by decide) rfl (ci := 4) (q0 := 0) rfl rfl [.int (nI i)]) rfl rfl hl.1 rfl (lv_room (Nat.le_of_ble_eq_true rfl)) dX4_tellsGutter_57 ⟨Nat.zero_le _, Nat.zero_le _⟩) hP hD hS hA [0, 1, 2, 3, 4, 5] rfl rfl rfl (fun H locs hP hD hS => ?_)
    exact k_iret hx hb hr hlocks hS hP dX4_tellsGutter_60 (by (first | with_reducible rfl | simp only [tgM, ↓reduceIte]))
  · skip
    refine lv_tableIn (off := 60) (tgt := 61) hx hb dX4_tellsGutter_1 (by decide +kernel) (by decide +kernel) (by decide +kernel) (by decide) ?_
    refine lv_aload_n hx hb dX4_tellsGutter_61 rfl (lv_at hl 0 rfl) ?_
    refine lv_iload_n hx hb dX4_tellsGutter_62 rfl (lv_at hl 1 rfl) ?_
    refine lv_iload_n hx hb dX4_tellsGutter_63 rfl (lv_at hl 2 rfl) ?_
    refine lv_iconst (v := 2) hx hb dX4_tellsGutter_64 (by decide) ?_
    refine lv_isub hx hb dX4_tellsGutter_65 ?_
    refine lv_eqi (y := nI (7 - 2)) (pk_sub (a := 7) (b := 2) (by omega)) ?_
    refine k_calli (wc := cM cI a r h) (w' := cM cI a r h) (wn := cM cI a r h) (va_runV (As := [.int (nI i), .int (nI (7 - 2))]) (rest := []) ⟨hx, hb, hml, hown, hts⟩ (mX4_of l D cI cQ cJ a r h (nI i) i (7 - 2) rfl (by omega) (by omega) _) (cwV 2 hts gX4_tellsGutter_X4_of rfl rfl rfl (by decide +kernel) ⟨Nat.le_of_ble_eq_true rfl, Nat.le_of_ble_eq_true rfl⟩) (k_preV (wc := cM cI a r h) hE hK hP hD [0, 1, 2, 3, 4, 5] (by decide) rfl (ci := 4) (q0 := 0) rfl rfl [.int (nI i), .int (nI (7 - 2))]) rfl rfl hl.1 rfl (lv_room (Nat.le_of_ble_eq_true rfl)) dX4_tellsGutter_66 ⟨Nat.zero_le _, Nat.zero_le _⟩) hP hD hS hA [0, 1, 2, 3, 4, 5] rfl rfl rfl (fun H locs hP hD hS => ?_)
    exact k_iret hx hb hr hlocks hS hP dX4_tellsGutter_69 (by (first | with_reducible rfl | simp only [tgM, ↓reduceIte]))
  · skip
    refine lv_tableIn (off := 60) (tgt := 61) hx hb dX4_tellsGutter_1 (by decide +kernel) (by decide +kernel) (by decide +kernel) (by decide) ?_
    refine lv_aload_n hx hb dX4_tellsGutter_61 rfl (lv_at hl 0 rfl) ?_
    refine lv_iload_n hx hb dX4_tellsGutter_62 rfl (lv_at hl 1 rfl) ?_
    refine lv_iload_n hx hb dX4_tellsGutter_63 rfl (lv_at hl 2 rfl) ?_
    refine lv_iconst (v := 2) hx hb dX4_tellsGutter_64 (by decide) ?_
    refine lv_isub hx hb dX4_tellsGutter_65 ?_
    refine lv_eqi (y := nI (8 - 2)) (pk_sub (a := 8) (b := 2) (by omega)) ?_
    refine k_calli (wc := cM cI a r h) (w' := cM cI a r h) (wn := cM cI a r h) (va_runV (As := [.int (nI i), .int (nI (8 - 2))]) (rest := []) ⟨hx, hb, hml, hown, hts⟩ (mX4_of l D cI cQ cJ a r h (nI i) i (8 - 2) rfl (by omega) (by omega) _) (cwV 2 hts gX4_tellsGutter_X4_of rfl rfl rfl (by decide +kernel) ⟨Nat.le_of_ble_eq_true rfl, Nat.le_of_ble_eq_true rfl⟩) (k_preV (wc := cM cI a r h) hE hK hP hD [0, 1, 2, 3, 4, 5] (by decide) rfl (ci := 4) (q0 := 0) rfl rfl [.int (nI i), .int (nI (8 - 2))]) rfl rfl hl.1 rfl (lv_room (Nat.le_of_ble_eq_true rfl)) dX4_tellsGutter_66 ⟨Nat.zero_le _, Nat.zero_le _⟩) hP hD hS hA [0, 1, 2, 3, 4, 5] rfl rfl rfl (fun H locs hP hD hS => ?_)
    exact k_iret hx hb hr hlocks hS hP dX4_tellsGutter_69 (by (first | with_reducible rfl | simp only [tgM, ↓reduceIte]))
