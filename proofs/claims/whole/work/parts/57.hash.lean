/-! the hash, the share and other looks, by the class -/
def cnC (r : rB) (vh : Int32) (w : Nat) : Int32 := match w with
  | 0 => r 12 0
  | 1 => r 12 1
  | 2 => r 12 2
  | 3 => standC r
  | 4 => smI (r 10) 6 0 0
  | 5 => smI (r 9) 6 0 0
  | 6 => r 12 3
  | 7 => smI (r 6) 6 0 0
  | _ => vh
def ccH (r : rB) (vh : Int32) : Nat → Nat → Int64 → Int64
  | 0, _, h => h
  | n + 1, i, h => ccH r vh n (i + 1) (hsh h (cnC r vh i).toInt64)
def csH (r : rB) : Nat → Nat → Int64 → Int64
  | 0, _, h => h
  | n + 1, i, h => csH r n (i + 1) (hsh h (r 11 i).toInt64)
def cpI (r : rB) (k : Nat) : Nat → Nat → Int64 → Int64
  | 0, _, h => h
  | n + 1, i, h => cpI r k n (i + 1) (hsh h (pnC r k i).toInt64)
def cpH (r : rB) : Nat → Nat → Int64 → Int64
  | 0, _, h => h
  | n + 1, i, h => cpH r n (i + 1) (cpI r i 4 0 h)
def cgI (r : rB) (k : Nat) : Nat → Nat → Int64 → Int64
  | 0, _, h => h
  | n + 1, i, h => cgI r k n (i + 1) (hsh h (gnC r k i).toInt64)
def cgH (r : rB) : Nat → Nat → Int64 → Int64
  | 0, _, h => h
  | n + 1, i, h => cgH r n (i + 1) (cgI r i 9 0 h)
def ctH (t : rB) : Nat → Nat → Int64 → Int64
  | 0, _, h => h
  | n + 1, i, h => ctH t n (i + 1) (hsh h (t 0 i).toInt64)
def shC (r : rB) : UInt64 := if r 12 2 = 0 then FP.dconst1 else FP.ddiv (FP.i2d (smI (r 10) 6 0 0)) (FP.i2d (r 12 2))
set_option maxHeartbeats 4000000 in
set_option maxRecDepth 100000 in
theorem mX3_hashWith (l : Launch) (D : va_G) (cI cQ cJ : ClassId) (h v : Int64) : Ml l D (tY cI cQ cJ) yX3_hashWith wsX3_hashWith ({ frames := 0, cells := 0, slots := 0, locals := 0 } : Room) [.long h, .long v] (([] : va_W)) (([] : va_W)) (hsh h v) := by
  refine M_of (cc := cX3_hashWith) (maxL := 4) (ret := some .long) (Qc := fun A => va_Ql (fun (x : Int64) (_ : Unit) => x = hsh h v) (fun _ t => Wd D (([] : va_W)) t) A) (by decide) rfl (Nat.le_of_ble_eq_true rfl) ?_
  intro p e s m below meth c A ls hB hE hP hK hD hA hl
  obtain ⟨hx, hb, hr, hml, hts, hown, hlocks⟩ := hB
  have hS : va_S A s.heap s.heap [] := va_S.rf
  have hl : lv_has ls 4 [(0, .long h), (2, .long v)] := hl
  refine lv_ldc2 (v := 31) hx hb hown (hts (.constantLong RX3 258 31) (by decide +kernel)) dX3_hashWith_0 ?_
  refine lv_lload_n hx hb dX3_hashWith_3 rfl (lv_at hl 0 rfl) ?_
  refine lv_lmul hx hb dX3_hashWith_4 ?_
  refine lv_lload_n hx hb dX3_hashWith_5 rfl (lv_at hl 1 rfl) ?_
  refine lv_ladd hx hb dX3_hashWith_6 ?_
  exact k_lret hx hb hr hlocks hS hP dX3_hashWith_7 (by (first | with_reducible rfl | simp only [hsh, ↓reduceIte]))
set_option maxHeartbeats 4000000 in
set_option maxRecDepth 100000 in
theorem mX3_count (l : Launch) (D : va_G) (cI cQ cJ : ClassId) (o s0 x0 : Nat) (a a2 : Nat → Nat) (r : rB) (w0 : Nat) (f : Nat → Option Nat) (vo vh : Int32) (w : Nat) (hw : w < 9) : Mi l D (tY cI cQ cJ) yX3_count wsX3_count ({ frames := 2, cells := 0, slots := 0, locals := 45 } : Room) [.ref o, .int (nI w)] ((cO o [.ref (a 0), .ref (a2 0), .ref s0, .ref x0]) ++ (cR cI a r) ++ (cS cQ s0 w0 f vo vh)) ((cO o [.ref (a 0), .ref (a2 0), .ref s0, .ref x0]) ++ (cR cI a r) ++ (cS cQ s0 w0 f vo vh)) (cnC r vh w) := by
  refine M_of (cc := cX3_count) (maxL := 2) (ret := some .int) (Qc := fun A => va_Qi (fun (x : Int32) (_ : Unit) => x = cnC r vh w) (fun _ t => Wd D ((cO o [.ref (a 0), .ref (a2 0), .ref s0, .ref x0]) ++ (cR cI a r) ++ (cS cQ s0 w0 f vo vh)) t) A) (by decide) rfl (Nat.le_of_ble_eq_true rfl) ?_
  intro p e s m below meth c A ls hB hE hP hK hD hA hl
  obtain ⟨hx, hb, hr, hml, hts, hown, hlocks⟩ := hB
  have hS : va_S A s.heap s.heap [] := va_S.rf
  have hl : lv_has ls 2 [(0, .ref o), (1, .int (nI w))] := hl
  have hinX3 : ∀ w ∈ u_ws RX3 TX3 4, w ∈ wsX3_count := by decide +kernel
  have fl10 := hts (.fieldLink RX3 10 "RoofDrains" "roof" "LRoofDrains$Roof;") (by decide +kernel)
  have fl22 := hts (.fieldLink RX3 22 "RoofDrains" "saved" "LRoofDrains$SavedRoofs;") (by decide +kernel)
  refine lv_iload_n hx hb dX3_count_0 rfl (lv_at hl 1 rfl) ?_
  have hsw : w = 0 ∨ w = 1 ∨ w = 2 ∨ w = 3 ∨ w = 4 ∨ w = 5 ∨ w = 6 ∨ w = 7 ∨ w = 8 := by omega
  rcases hsw with rfl | rfl | rfl | rfl | rfl | rfl | rfl | rfl | rfl
  · skip
    refine lv_tableIn (off := 51) (tgt := 52) hx hb dX3_count_1 (by decide +kernel) (by decide +kernel) (by decide +kernel) (by decide) ?_
    refine lv_aload_n hx hb dX3_count_52 rfl (lv_at hl 0 rfl) ?_
    refine va_get (D := D) (ci := 3) (v := .ref (a 0)) (C := RX3) (T := TX3) (N := 4) hx hb hts hinX3 hown hK hP 0 rfl rfl 0 (by decide) fl10 (fun _ h9 => h9) rfl dX3_count_53 ?_
    refine k_calli (wc := cR cI a r) (w' := cR cI a r) (wn := (cO o [.ref (a 0), .ref (a2 0), .ref s0, .ref x0]) ++ (cR cI a r) ++ (cS cQ s0 w0 f vo vh)) (va_runV (As := []) (rest := []) ⟨hx, hb, hml, hown, hts⟩ (mX1_minutesGone l D cI cQ cJ a r _) (cwV 0 hts gX3_count_X1_minutesGone rfl rfl rfl (by decide +kernel) ⟨Nat.le_of_ble_eq_true rfl, Nat.le_of_ble_eq_true rfl⟩) (k_preV (wc := cR cI a r) hE hK hP hD [1, 2, 3, 4, 5, 6, 7, 8, 9, 10, 11, 12, 13] (by decide) rfl (ci := 1) (q0 := 1) rfl rfl []) rfl rfl hl.1 rfl (lv_room (Nat.le_of_ble_eq_true rfl)) dX3_count_56 ⟨Nat.zero_le _, Nat.zero_le _⟩) hP hD hS hA [1, 2, 3, 4, 5, 6, 7, 8, 9, 10, 11, 12, 13] rfl rfl (by rw [show [1, 2, 3, 4, 5, 6, 7, 8, 9, 10, 11, 12, 13] = List.range' 1 13 from rfl, putAt_l _ _ _ _ 14, putAt_0 13 _ _ _ 1] <;> first | rfl | decide) (fun H locs hP hD hS => ?_)
    exact k_iret hx hb hr hlocks hS hP dX3_count_59 (by (first | with_reducible rfl | simp only [cnC, ↓reduceIte]))
  · skip
    refine lv_tableIn (off := 59) (tgt := 60) hx hb dX3_count_1 (by decide +kernel) (by decide +kernel) (by decide +kernel) (by decide) ?_
    refine lv_aload_n hx hb dX3_count_60 rfl (lv_at hl 0 rfl) ?_
    refine va_get (D := D) (ci := 3) (v := .ref (a 0)) (C := RX3) (T := TX3) (N := 4) hx hb hts hinX3 hown hK hP 0 rfl rfl 0 (by decide) fl10 (fun _ h9 => h9) rfl dX3_count_61 ?_
    refine k_calli (wc := cR cI a r) (w' := cR cI a r) (wn := (cO o [.ref (a 0), .ref (a2 0), .ref s0, .ref x0]) ++ (cR cI a r) ++ (cS cQ s0 w0 f vo vh)) (va_runV (As := []) (rest := []) ⟨hx, hb, hml, hown, hts⟩ (mX1_weeksPassed l D cI cQ cJ a r _) (cwV 0 hts gX3_count_X1_weeksPassed rfl rfl rfl (by decide +kernel) ⟨Nat.le_of_ble_eq_true rfl, Nat.le_of_ble_eq_true rfl⟩) (k_preV (wc := cR cI a r) hE hK hP hD [1, 2, 3, 4, 5, 6, 7, 8, 9, 10, 11, 12, 13] (by decide) rfl (ci := 1) (q0 := 1) rfl rfl []) rfl rfl hl.1 rfl (lv_room (Nat.le_of_ble_eq_true rfl)) dX3_count_64 ⟨Nat.zero_le _, Nat.zero_le _⟩) hP hD hS hA [1, 2, 3, 4, 5, 6, 7, 8, 9, 10, 11, 12, 13] rfl rfl (by rw [show [1, 2, 3, 4, 5, 6, 7, 8, 9, 10, 11, 12, 13] = List.range' 1 13 from rfl, putAt_l _ _ _ _ 14, putAt_0 13 _ _ _ 1] <;> first | rfl | decide) (fun H locs hP hD hS => ?_)
    exact k_iret hx hb hr hlocks hS hP dX3_count_67 (by (first | with_reducible rfl | simp only [cnC, ↓reduceIte]))
  · skip
    refine lv_tableIn (off := 67) (tgt := 68) hx hb dX3_count_1 (by decide +kernel) (by decide +kernel) (by decide +kernel) (by decide) ?_
    refine lv_aload_n hx hb dX3_count_68 rfl (lv_at hl 0 rfl) ?_
    refine va_get (D := D) (ci := 3) (v := .ref (a 0)) (C := RX3) (T := TX3) (N := 4) hx hb hts hinX3 hown hK hP 0 rfl rfl 0 (by decide) fl10 (fun _ h9 => h9) rfl dX3_count_69 ?_
    refine k_calli (wc := cR cI a r) (w' := cR cI a r) (wn := (cO o [.ref (a 0), .ref (a2 0), .ref s0, .ref x0]) ++ (cR cI a r) ++ (cS cQ s0 w0 f vo vh)) (va_runV (As := []) (rest := []) ⟨hx, hb, hml, hown, hts⟩ (mX1_rainedLitres l D cI cQ cJ a r _) (cwV 0 hts gX3_count_X1_rainedLitres rfl rfl rfl (by decide +kernel) ⟨Nat.le_of_ble_eq_true rfl, Nat.le_of_ble_eq_true rfl⟩) (k_preV (wc := cR cI a r) hE hK hP hD [1, 2, 3, 4, 5, 6, 7, 8, 9, 10, 11, 12, 13] (by decide) rfl (ci := 1) (q0 := 1) rfl rfl []) rfl rfl hl.1 rfl (lv_room (Nat.le_of_ble_eq_true rfl)) dX3_count_72 ⟨Nat.zero_le _, Nat.zero_le _⟩) hP hD hS hA [1, 2, 3, 4, 5, 6, 7, 8, 9, 10, 11, 12, 13] rfl rfl (by rw [show [1, 2, 3, 4, 5, 6, 7, 8, 9, 10, 11, 12, 13] = List.range' 1 13 from rfl, putAt_l _ _ _ _ 14, putAt_0 13 _ _ _ 1] <;> first | rfl | decide) (fun H locs hP hD hS => ?_)
    exact k_iret hx hb hr hlocks hS hP dX3_count_75 (by (first | with_reducible rfl | simp only [cnC, ↓reduceIte]))
  · skip
    refine lv_tableIn (off := 75) (tgt := 76) hx hb dX3_count_1 (by decide +kernel) (by decide +kernel) (by decide +kernel) (by decide) ?_
    refine lv_aload_n hx hb dX3_count_76 rfl (lv_at hl 0 rfl) ?_
    refine va_get (D := D) (ci := 3) (v := .ref (a 0)) (C := RX3) (T := TX3) (N := 4) hx hb hts hinX3 hown hK hP 0 rfl rfl 0 (by decide) fl10 (fun _ h9 => h9) rfl dX3_count_77 ?_
    refine k_calli (wc := cR cI a r) (w' := cR cI a r) (wn := (cO o [.ref (a 0), .ref (a2 0), .ref s0, .ref x0]) ++ (cR cI a r) ++ (cS cQ s0 w0 f vo vh)) (va_runV (As := []) (rest := []) ⟨hx, hb, hml, hown, hts⟩ (mX1_standingLitres l D cI cQ cJ a r _) (cwV 0 hts gX3_count_X1_standingLitres rfl rfl rfl (by decide +kernel) ⟨Nat.le_of_ble_eq_true rfl, Nat.le_of_ble_eq_true rfl⟩) (k_preV (wc := cR cI a r) hE hK hP hD [1, 2, 3, 4, 5, 6, 7, 8, 9, 10, 11, 12, 13] (by decide) rfl (ci := 1) (q0 := 1) rfl rfl []) rfl rfl hl.1 rfl (lv_room (Nat.le_of_ble_eq_true rfl)) dX3_count_80 ⟨Nat.zero_le _, Nat.zero_le _⟩) hP hD hS hA [1, 2, 3, 4, 5, 6, 7, 8, 9, 10, 11, 12, 13] rfl rfl (by rw [show [1, 2, 3, 4, 5, 6, 7, 8, 9, 10, 11, 12, 13] = List.range' 1 13 from rfl, putAt_l _ _ _ _ 14, putAt_0 13 _ _ _ 1] <;> first | rfl | decide) (fun H locs hP hD hS => ?_)
    exact k_iret hx hb hr hlocks hS hP dX3_count_83 (by (first | with_reducible rfl | simp only [cnC, ↓reduceIte]))
  · skip
    refine lv_tableIn (off := 83) (tgt := 84) hx hb dX3_count_1 (by decide +kernel) (by decide +kernel) (by decide +kernel) (by decide) ?_
    refine lv_aload_n hx hb dX3_count_84 rfl (lv_at hl 0 rfl) ?_
    refine va_get (D := D) (ci := 3) (v := .ref (a 0)) (C := RX3) (T := TX3) (N := 4) hx hb hts hinX3 hown hK hP 0 rfl rfl 0 (by decide) fl10 (fun _ h9 => h9) rfl dX3_count_85 ?_
    refine k_calli (wc := cR cI a r) (w' := cR cI a r) (wn := (cO o [.ref (a 0), .ref (a2 0), .ref s0, .ref x0]) ++ (cR cI a r) ++ (cS cQ s0 w0 f vo vh)) (va_runV (As := []) (rest := []) ⟨hx, hb, hml, hown, hts⟩ (mX1_drainedLitres l D cI cQ cJ a r _) (cwV 0 hts gX3_count_X1_drainedLitres rfl rfl rfl (by decide +kernel) ⟨Nat.le_of_ble_eq_true rfl, Nat.le_of_ble_eq_true rfl⟩) (k_preV (wc := cR cI a r) hE hK hP hD [1, 2, 3, 4, 5, 6, 7, 8, 9, 10, 11, 12, 13] (by decide) rfl (ci := 1) (q0 := 1) rfl rfl []) rfl rfl hl.1 rfl (lv_room (Nat.le_of_ble_eq_true rfl)) dX3_count_88 ⟨Nat.zero_le _, Nat.zero_le _⟩) hP hD hS hA [1, 2, 3, 4, 5, 6, 7, 8, 9, 10, 11, 12, 13] rfl rfl (by rw [show [1, 2, 3, 4, 5, 6, 7, 8, 9, 10, 11, 12, 13] = List.range' 1 13 from rfl, putAt_l _ _ _ _ 14, putAt_0 13 _ _ _ 1] <;> first | rfl | decide) (fun H locs hP hD hS => ?_)
    exact k_iret hx hb hr hlocks hS hP dX3_count_91 (by (first | with_reducible rfl | simp only [cnC, ↓reduceIte]))
  · skip
    refine lv_tableIn (off := 91) (tgt := 92) hx hb dX3_count_1 (by decide +kernel) (by decide +kernel) (by decide +kernel) (by decide) ?_
    refine lv_aload_n hx hb dX3_count_92 rfl (lv_at hl 0 rfl) ?_
    refine va_get (D := D) (ci := 3) (v := .ref (a 0)) (C := RX3) (T := TX3) (N := 4) hx hb hts hinX3 hown hK hP 0 rfl rfl 0 (by decide) fl10 (fun _ h9 => h9) rfl dX3_count_93 ?_
    refine k_calli (wc := cR cI a r) (w' := cR cI a r) (wn := (cO o [.ref (a 0), .ref (a2 0), .ref s0, .ref x0]) ++ (cR cI a r) ++ (cS cQ s0 w0 f vo vh)) (va_runV (As := []) (rest := []) ⟨hx, hb, hml, hown, hts⟩ (mX1_spiltLitres l D cI cQ cJ a r _) (cwV 0 hts gX3_count_X1_spiltLitres rfl rfl rfl (by decide +kernel) ⟨Nat.le_of_ble_eq_true rfl, Nat.le_of_ble_eq_true rfl⟩) (k_preV (wc := cR cI a r) hE hK hP hD [1, 2, 3, 4, 5, 6, 7, 8, 9, 10, 11, 12, 13] (by decide) rfl (ci := 1) (q0 := 1) rfl rfl []) rfl rfl hl.1 rfl (lv_room (Nat.le_of_ble_eq_true rfl)) dX3_count_96 ⟨Nat.zero_le _, Nat.zero_le _⟩) hP hD hS hA [1, 2, 3, 4, 5, 6, 7, 8, 9, 10, 11, 12, 13] rfl rfl (by rw [show [1, 2, 3, 4, 5, 6, 7, 8, 9, 10, 11, 12, 13] = List.range' 1 13 from rfl, putAt_l _ _ _ _ 14, putAt_0 13 _ _ _ 1] <;> first | rfl | decide) (fun H locs hP hD hS => ?_)
    exact k_iret hx hb hr hlocks hS hP dX3_count_99 (by (first | with_reducible rfl | simp only [cnC, ↓reduceIte]))
  · skip
    refine lv_tableIn (off := 99) (tgt := 100) hx hb dX3_count_1 (by decide +kernel) (by decide +kernel) (by decide +kernel) (by decide) ?_
    refine lv_aload_n hx hb dX3_count_100 rfl (lv_at hl 0 rfl) ?_
    refine va_get (D := D) (ci := 3) (v := .ref (a 0)) (C := RX3) (T := TX3) (N := 4) hx hb hts hinX3 hown hK hP 0 rfl rfl 0 (by decide) fl10 (fun _ h9 => h9) rfl dX3_count_101 ?_
    refine k_calli (wc := cR cI a r) (w' := cR cI a r) (wn := (cO o [.ref (a 0), .ref (a2 0), .ref s0, .ref x0]) ++ (cR cI a r) ++ (cS cQ s0 w0 f vo vh)) (va_runV (As := []) (rest := []) ⟨hx, hb, hml, hown, hts⟩ (mX1_backedUpMinutes l D cI cQ cJ a r _) (cwV 0 hts gX3_count_X1_backedUpMinutes rfl rfl rfl (by decide +kernel) ⟨Nat.le_of_ble_eq_true rfl, Nat.le_of_ble_eq_true rfl⟩) (k_preV (wc := cR cI a r) hE hK hP hD [1, 2, 3, 4, 5, 6, 7, 8, 9, 10, 11, 12, 13] (by decide) rfl (ci := 1) (q0 := 1) rfl rfl []) rfl rfl hl.1 rfl (lv_room (Nat.le_of_ble_eq_true rfl)) dX3_count_104 ⟨Nat.zero_le _, Nat.zero_le _⟩) hP hD hS hA [1, 2, 3, 4, 5, 6, 7, 8, 9, 10, 11, 12, 13] rfl rfl (by rw [show [1, 2, 3, 4, 5, 6, 7, 8, 9, 10, 11, 12, 13] = List.range' 1 13 from rfl, putAt_l _ _ _ _ 14, putAt_0 13 _ _ _ 1] <;> first | rfl | decide) (fun H locs hP hD hS => ?_)
    exact k_iret hx hb hr hlocks hS hP dX3_count_107 (by (first | with_reducible rfl | simp only [cnC, ↓reduceIte]))
  · skip
    refine lv_tableIn (off := 107) (tgt := 108) hx hb dX3_count_1 (by decide +kernel) (by decide +kernel) (by decide +kernel) (by decide) ?_
    refine lv_aload_n hx hb dX3_count_108 rfl (lv_at hl 0 rfl) ?_
    refine va_get (D := D) (ci := 3) (v := .ref (a 0)) (C := RX3) (T := TX3) (N := 4) hx hb hts hinX3 hown hK hP 0 rfl rfl 0 (by decide) fl10 (fun _ h9 => h9) rfl dX3_count_109 ?_
    refine k_calli (wc := cR cI a r) (w' := cR cI a r) (wn := (cO o [.ref (a 0), .ref (a2 0), .ref s0, .ref x0]) ++ (cR cI a r) ++ (cS cQ s0 w0 f vo vh)) (va_runV (As := []) (rest := []) ⟨hx, hb, hml, hown, hts⟩ (mX1_leavesTogether l D cI cQ cJ a r _) (cwV 0 hts gX3_count_X1_leavesTogether rfl rfl rfl (by decide +kernel) ⟨Nat.le_of_ble_eq_true rfl, Nat.le_of_ble_eq_true rfl⟩) (k_preV (wc := cR cI a r) hE hK hP hD [1, 2, 3, 4, 5, 6, 7, 8, 9, 10, 11, 12, 13] (by decide) rfl (ci := 1) (q0 := 1) rfl rfl []) rfl rfl hl.1 rfl (lv_room (Nat.le_of_ble_eq_true rfl)) dX3_count_112 ⟨Nat.zero_le _, Nat.zero_le _⟩) hP hD hS hA [1, 2, 3, 4, 5, 6, 7, 8, 9, 10, 11, 12, 13] rfl rfl (by rw [show [1, 2, 3, 4, 5, 6, 7, 8, 9, 10, 11, 12, 13] = List.range' 1 13 from rfl, putAt_l _ _ _ _ 14, putAt_0 13 _ _ _ 1] <;> first | rfl | decide) (fun H locs hP hD hS => ?_)
    exact k_iret hx hb hr hlocks hS hP dX3_count_115 (by (first | with_reducible rfl | simp only [cnC, ↓reduceIte]))
  · skip
    refine lv_tableIn (off := 115) (tgt := 116) hx hb dX3_count_1 (by decide +kernel) (by decide +kernel) (by decide +kernel) (by decide) ?_
    refine lv_aload_n hx hb dX3_count_116 rfl (lv_at hl 0 rfl) ?_
    refine va_get (D := D) (ci := 3) (v := .ref s0) (C := RX3) (T := TX3) (N := 4) hx hb hts hinX3 hown hK hP 0 rfl rfl 2 (by decide) fl22 (fun _ h9 => h9) rfl dX3_count_117 ?_
    refine k_calli (wc := cS cQ s0 w0 f vo vh) (w' := cS cQ s0 w0 f vo vh) (wn := (cO o [.ref (a 0), .ref (a2 0), .ref s0, .ref x0]) ++ (cR cI a r) ++ (cS cQ s0 w0 f vo vh)) (va_runV (As := []) (rest := []) ⟨hx, hb, hml, hown, hts⟩ (mX2_held l D cI cQ cJ s0 w0 f vo vh _) (cwV 0 hts gX3_count_X2_held rfl rfl rfl (by decide +kernel) ⟨Nat.le_of_ble_eq_true rfl, Nat.le_of_ble_eq_true rfl⟩) (k_preV (wc := cS cQ s0 w0 f vo vh) hE hK hP hD [14, 15] (by decide) rfl (ci := 2) (q0 := 14) rfl rfl []) rfl rfl hl.1 rfl (lv_room (Nat.le_of_ble_eq_true rfl)) dX3_count_120 ⟨Nat.zero_le _, Nat.zero_le _⟩) hP hD hS hA [14, 15] rfl rfl rfl (fun H locs hP hD hS => ?_)
    exact k_iret hx hb hr hlocks hS hP dX3_count_123 (by (first | with_reducible rfl | simp only [cnC, ↓reduceIte]))
set_option maxHeartbeats 4000000 in
set_option maxRecDepth 100000 in
theorem mX3_hashOfCounts (l : Launch) (D : va_G) (cI cQ cJ : ClassId) (o s0 x0 : Nat) (a a2 : Nat → Nat) (r : rB) (w0 : Nat) (f : Nat → Option Nat) (vo vh : Int32) (h : Int64) : Ml l D (tY cI cQ cJ) yX3_hashOfCounts wsX3_hashOfCounts ({ frames := 3, cells := 0, slots := 0, locals := 66 } : Room) [.ref o, .long h] ((cO o [.ref (a 0), .ref (a2 0), .ref s0, .ref x0]) ++ (cR cI a r) ++ (cS cQ s0 w0 f vo vh)) ((cO o [.ref (a 0), .ref (a2 0), .ref s0, .ref x0]) ++ (cR cI a r) ++ (cS cQ s0 w0 f vo vh)) (csH r 3 0 (ccH r vh 9 0 h)) := by
  refine M_of (cc := cX3_hashOfCounts) (maxL := 6) (ret := some .long) (Qc := fun A => va_Ql (fun (x : Int64) (_ : Unit) => x = csH r 3 0 (ccH r vh 9 0 h)) (fun _ t => Wd D ((cO o [.ref (a 0), .ref (a2 0), .ref s0, .ref x0]) ++ (cR cI a r) ++ (cS cQ s0 w0 f vo vh)) t) A) (by decide) rfl (Nat.le_of_ble_eq_true rfl) ?_
  intro p e s m below meth c A ls hB hE hP hK hD hA hl
  obtain ⟨hx, hb, hr, hml, hts, hown, hlocks⟩ := hB
  have hS : va_S A s.heap s.heap [] := va_S.rf
  have hl : lv_has ls 6 [(0, .ref o), (1, .long h)] := hl
  have hinX3 : ∀ w ∈ u_ws RX3 TX3 4, w ∈ wsX3_hashOfCounts := by decide +kernel
  have fl10 := hts (.fieldLink RX3 10 "RoofDrains" "roof" "LRoofDrains$Roof;") (by decide +kernel)
  refine lv_lload_n hx hb dX3_hashOfCounts_0 rfl (lv_at hl 1 rfl) ?_
  refine lv_lstore_n (lv' := [(3, .long h), (0, .ref o), (1, .long h)]) hx hb dX3_hashOfCounts_1 rfl hl (by decide) rfl (fun ls hl => ?_)
  refine lv_iconst (v := 0) hx hb dX3_hashOfCounts_2 (by decide) ?_
  refine lv_istore (lv' := [(5, .int 0), (3, .long h), (0, .ref o), (1, .long h)]) hx hb dX3_hashOfCounts_3 hl (by decide) rfl (fun ls hl => ?_)
  have Lp5 : ∀ (n1 i1 : Nat) (v1 : Int64), i1 + n1 = 9 → ccH r vh n1 i1 v1 = ccH r vh 9 0 h → ∀ (H : Heap) (locs : List Loc), va_P D vwCl ((cO o [.ref (a 0), .ref (a2 0), .ref s0, .ref x0]) ++ (cR cI a r) ++ (cS cQ s0 w0 f vo vh)) H → va_D A ((cO o [.ref (a 0), .ref (a2 0), .ref s0, .ref x0]) ++ (cR cI a r) ++ (cS cQ s0 w0 f vo vh)) → va_S A s.heap H locs → ∀ (ls : Array Slot), lv_has ls 6 [(5, .int (nI i1)), (3, .long v1), (0, .ref o)] → W p l e ({ frames := 3, cells := 0, slots := 0, locals := 66 } : Room) s m ([.ref o, .long h] : List Value).toArray below meth c H locs 0 0 (MQ below (va_Ql (fun (x : Int64) (_ : Unit) => x = csH r 3 0 (ccH r vh 9 0 h)) (fun _ t => Wd D ((cO o [.ref (a 0), .ref (a2 0), .ref s0, .ref x0]) ++ (cR cI a r) ++ (cS cQ s0 w0 f vo vh)) t) A) ([.ref o, .long h] : List Value).toArray s 0 0 A) (F0 m 5 ls []) := by
    intro n1
    induction n1 with
    | zero =>
      intro i1 v1 hin5 hres5 H locs hP hD hS ls hl
      have h95 : v1 = ccH r vh 9 0 h := hres5
      refine lv_iload hx hb dX3_hashOfCounts_5 (lv_at hl 0 rfl) ?_
      refine lv_bipush (v := 8) hx hb dX3_hashOfCounts_7 (by decide) ?_
      refine lv_icmp_gt (tgt := 30) hx hb dX3_hashOfCounts_9 (by decide) (fun _ => ?_) (fun h9 => absurd (nI_lt (a := 8) (b := i1) (by omega) (by omega)) h9)
      refine lv_iconst (v := 0) hx hb dX3_hashOfCounts_30 (by decide) ?_
      refine lv_istore (lv' := [(5, .int 0), (3, .long v1), (0, .ref o)]) hx hb dX3_hashOfCounts_31 hl (by decide) rfl (fun ls hl => ?_)
      have Lp33 : ∀ (n2 i2 : Nat) (v2 : Int64), i2 + n2 = 3 → csH r n2 i2 v2 = csH r 3 0 v1 → ∀ (H : Heap) (locs : List Loc), va_P D vwCl ((cO o [.ref (a 0), .ref (a2 0), .ref s0, .ref x0]) ++ (cR cI a r) ++ (cS cQ s0 w0 f vo vh)) H → va_D A ((cO o [.ref (a 0), .ref (a2 0), .ref s0, .ref x0]) ++ (cR cI a r) ++ (cS cQ s0 w0 f vo vh)) → va_S A s.heap H locs → ∀ (ls : Array Slot), lv_has ls 6 [(5, .int (nI i2)), (3, .long v2), (0, .ref o)] → W p l e ({ frames := 3, cells := 0, slots := 0, locals := 66 } : Room) s m ([.ref o, .long h] : List Value).toArray below meth c H locs 0 0 (MQ below (va_Ql (fun (x : Int64) (_ : Unit) => x = csH r 3 0 (ccH r vh 9 0 h)) (fun _ t => Wd D ((cO o [.ref (a 0), .ref (a2 0), .ref s0, .ref x0]) ++ (cR cI a r) ++ (cS cQ s0 w0 f vo vh)) t) A) ([.ref o, .long h] : List Value).toArray s 0 0 A) (F0 m 33 ls []) := by
        intro n2
        induction n2 with
        | zero =>
          intro i2 v2 hin33 hres33 H locs hP hD hS ls hl
          have h933 : v2 = csH r 3 0 v1 := hres33
          refine lv_iload hx hb dX3_hashOfCounts_33 (lv_at hl 0 rfl) ?_
          refine lv_iconst (v := 3) hx hb dX3_hashOfCounts_35 (by decide) ?_
          refine lv_icmp_ge (tgt := 60) hx hb dX3_hashOfCounts_36 (by decide) (fun _ => ?_) (fun h9 => absurd (nI_le (a := 3) (b := i2) (by omega) (by omega)) h9)
          refine lv_lload_n hx hb dX3_hashOfCounts_60 rfl (lv_at hl 1 rfl) ?_
          exact k_lret hx hb hr hlocks hS hP dX3_hashOfCounts_61 (by (replace h933 := h933.symm; subst h933; replace h95 := h95.symm; subst h95; first | with_reducible rfl | simp only [↓reduceIte]))
        | succ n2 ih33 =>
          intro i2 v2 hin33 hres33 H locs hP hD hS ls hl
          refine lv_iload hx hb dX3_hashOfCounts_33 (lv_at hl 0 rfl) ?_
          refine lv_iconst (v := 3) hx hb dX3_hashOfCounts_35 (by decide) ?_
          refine lv_icmp_ge (tgt := 60) hx hb dX3_hashOfCounts_36 (by decide) (fun h9 => absurd h9 (nI_ge (a := i2) (b := 3) (by omega) (by omega))) (fun _ => ?_)
          refine lv_lload_n hx hb dX3_hashOfCounts_39 rfl (lv_at hl 1 rfl) ?_
          refine lv_aload_n hx hb dX3_hashOfCounts_40 rfl (lv_at hl 2 rfl) ?_
          refine va_get (D := D) (ci := 3) (v := .ref (a 0)) (C := RX3) (T := TX3) (N := 4) hx hb hts hinX3 hown hK hP 0 rfl rfl 0 (by decide) fl10 (fun _ h9 => h9) rfl dX3_hashOfCounts_41 ?_
          refine lv_iload hx hb dX3_hashOfCounts_44 (lv_at hl 0 rfl) ?_
          refine k_calli (wc := cR cI a r) (w' := cR cI a r) (wn := (cO o [.ref (a 0), .ref (a2 0), .ref s0, .ref x0]) ++ (cR cI a r) ++ (cS cQ s0 w0 f vo vh)) (va_runV (As := [.int (nI i2)]) (rest := [.long v2]) ⟨hx, hb, hml, hown, hts⟩ (mX1_settingValue l D cI cQ cJ a r (nI i2) i2 (vp_in_nI (n := i2) (by omega) (by omega)) (nI_clamp (n := i2) (by omega)) _) (cwV 1 hts gX3_hashOfCounts_X1_settingValue rfl rfl rfl (by decide +kernel) ⟨Nat.le_of_ble_eq_true rfl, Nat.le_of_ble_eq_true rfl⟩) (k_preV (wc := cR cI a r) hE hK hP hD [1, 2, 3, 4, 5, 6, 7, 8, 9, 10, 11, 12, 13] (by decide) rfl (ci := 1) (q0 := 1) rfl rfl [.int (nI i2)]) rfl rfl hl.1 rfl (lv_room (Nat.le_of_ble_eq_true rfl)) dX3_hashOfCounts_46 ⟨Nat.zero_le _, Nat.zero_le _⟩) hP hD hS hA [1, 2, 3, 4, 5, 6, 7, 8, 9, 10, 11, 12, 13] rfl rfl (by rw [show [1, 2, 3, 4, 5, 6, 7, 8, 9, 10, 11, 12, 13] = List.range' 1 13 from rfl, putAt_l _ _ _ _ 14, putAt_0 13 _ _ _ 1] <;> first | rfl | decide) (fun H locs hP hD hS => ?_)
          refine lv_i2l (v := Int32.toInt64 (r 11 i2)) hx hb dX3_hashOfCounts_49 rfl ?_
          refine k_calll (wc := ([] : va_W)) (w' := ([] : va_W)) (wn := (cO o [.ref (a 0), .ref (a2 0), .ref s0, .ref x0]) ++ (cR cI a r) ++ (cS cQ s0 w0 f vo vh)) (va_runS (As := [.long v2, .long (Int32.toInt64 (r 11 i2))]) (rest := []) ⟨hx, hb, hml, hown, hts⟩ (mX3_hashWith l D cI cQ cJ v2 (Int32.toInt64 (r 11 i2)) _) (va_cwS 2 hts gX3_hashOfCounts_X3_hashWith rfl rfl rfl (by decide +kernel) ⟨Nat.le_of_ble_eq_true rfl, Nat.le_of_ble_eq_true rfl⟩) (k_preS (wc := ([] : va_W)) hE hK hP hD [] (by decide) rfl [.long v2, .long (Int32.toInt64 (r 11 i2))]) rfl rfl hl.1 rfl (lv_room (Nat.le_of_ble_eq_true rfl)) dX3_hashOfCounts_50 ⟨Nat.zero_le _, Nat.zero_le _⟩) hP hD hS hA [] rfl rfl rfl (fun H locs hP hD hS => ?_)
          refine lv_lstore_n (lv' := [(3, .long (hsh v2 (Int32.toInt64 (r 11 i2)))), (5, .int (nI i2)), (0, .ref o)]) hx hb dX3_hashOfCounts_53 rfl hl (by decide) rfl (fun ls hl => ?_)
          refine lv_iinc (v := nI (i2 + 1)) (lv' := [(5, .int (nI (i2 + 1))), (3, .long (hsh v2 (Int32.toInt64 (r 11 i2)))), (0, .ref o)]) hx hb dX3_hashOfCounts_54 hl (k := 1) rfl (nI_1 i2) (by decide) rfl (fun ls hl => ?_)
          refine lv_goto (tgt := 33) hx hb dX3_hashOfCounts_57 (by decide) ?_
          exact ih33 (i2 + 1) (hsh v2 (Int32.toInt64 (r 11 i2))) (by omega) (by rw [← hres33]; simp only [csH, ↓reduceIte]) H locs hP hD hS ls (lv_sub hl [0, 1, 2] rfl)
      exact Lp33 3 0 v1 (by omega) rfl _ _ hP hD hS ls (lv_sub hl [0, 1, 2] rfl)
    | succ n1 ih5 =>
      intro i1 v1 hin5 hres5 H locs hP hD hS ls hl
      refine lv_iload hx hb dX3_hashOfCounts_5 (lv_at hl 0 rfl) ?_
      refine lv_bipush (v := 8) hx hb dX3_hashOfCounts_7 (by decide) ?_
      refine lv_icmp_gt (tgt := 30) hx hb dX3_hashOfCounts_9 (by decide) (fun h9 => absurd h9 (nI_nlt (a := 8) (b := i1) (by omega) (by omega))) (fun _ => ?_)
      refine lv_lload_n hx hb dX3_hashOfCounts_12 rfl (lv_at hl 1 rfl) ?_
      refine lv_aload_n hx hb dX3_hashOfCounts_13 rfl (lv_at hl 2 rfl) ?_
      refine lv_iload hx hb dX3_hashOfCounts_14 (lv_at hl 0 rfl) ?_
      refine k_calli (wc := (cO o [.ref (a 0), .ref (a2 0), .ref s0, .ref x0]) ++ (cR cI a r) ++ (cS cQ s0 w0 f vo vh)) (w' := (cO o [.ref (a 0), .ref (a2 0), .ref s0, .ref x0]) ++ (cR cI a r) ++ (cS cQ s0 w0 f vo vh)) (wn := (cO o [.ref (a 0), .ref (a2 0), .ref s0, .ref x0]) ++ (cR cI a r) ++ (cS cQ s0 w0 f vo vh)) (va_runV (As := [.int (nI i1)]) (rest := [.long v1]) ⟨hx, hb, hml, hown, hts⟩ (mX3_count l D cI cQ cJ o s0 x0 a a2 r w0 f vo vh i1 (by omega) _) (cwV 1 hts gX3_hashOfCounts_X3_count rfl rfl rfl (by decide +kernel) ⟨Nat.le_of_ble_eq_true rfl, Nat.le_of_ble_eq_true rfl⟩) (k_preV (wc := (cO o [.ref (a 0), .ref (a2 0), .ref s0, .ref x0]) ++ (cR cI a r) ++ (cS cQ s0 w0 f vo vh)) hE hK hP hD [0, 1, 2, 3, 4, 5, 6, 7, 8, 9, 10, 11, 12, 13, 14, 15] (by decide) rfl (ci := 3) (q0 := 0) rfl rfl [.int (nI i1)]) rfl rfl hl.1 rfl (lv_room (Nat.le_of_ble_eq_true rfl)) dX3_hashOfCounts_16 ⟨Nat.zero_le _, Nat.zero_le _⟩) hP hD hS hA [0, 1, 2, 3, 4, 5, 6, 7, 8, 9, 10, 11, 12, 13, 14, 15] rfl rfl (by rw [show [0, 1, 2, 3, 4, 5, 6, 7, 8, 9, 10, 11, 12, 13, 14, 15] = List.range' 0 16 from rfl, putAt_f 16] <;> rfl) (fun H locs hP hD hS => ?_)
      refine lv_i2l (v := Int32.toInt64 (cnC r vh i1)) hx hb dX3_hashOfCounts_19 rfl ?_
      refine k_calll (wc := ([] : va_W)) (w' := ([] : va_W)) (wn := (cO o [.ref (a 0), .ref (a2 0), .ref s0, .ref x0]) ++ (cR cI a r) ++ (cS cQ s0 w0 f vo vh)) (va_runS (As := [.long v1, .long (Int32.toInt64 (cnC r vh i1))]) (rest := []) ⟨hx, hb, hml, hown, hts⟩ (mX3_hashWith l D cI cQ cJ v1 (Int32.toInt64 (cnC r vh i1)) _) (va_cwS 2 hts gX3_hashOfCounts_X3_hashWith rfl rfl rfl (by decide +kernel) ⟨Nat.le_of_ble_eq_true rfl, Nat.le_of_ble_eq_true rfl⟩) (k_preS (wc := ([] : va_W)) hE hK hP hD [] (by decide) rfl [.long v1, .long (Int32.toInt64 (cnC r vh i1))]) rfl rfl hl.1 rfl (lv_room (Nat.le_of_ble_eq_true rfl)) dX3_hashOfCounts_20 ⟨Nat.zero_le _, Nat.zero_le _⟩) hP hD hS hA [] rfl rfl rfl (fun H locs hP hD hS => ?_)
      refine lv_lstore_n (lv' := [(3, .long (hsh v1 (Int32.toInt64 (cnC r vh i1)))), (5, .int (nI i1)), (0, .ref o)]) hx hb dX3_hashOfCounts_23 rfl hl (by decide) rfl (fun ls hl => ?_)
      refine lv_iinc (v := nI (i1 + 1)) (lv' := [(5, .int (nI (i1 + 1))), (3, .long (hsh v1 (Int32.toInt64 (cnC r vh i1)))), (0, .ref o)]) hx hb dX3_hashOfCounts_24 hl (k := 1) rfl (nI_1 i1) (by decide) rfl (fun ls hl => ?_)
      refine lv_goto (tgt := 5) hx hb dX3_hashOfCounts_27 (by decide) ?_
      exact ih5 (i1 + 1) (hsh v1 (Int32.toInt64 (cnC r vh i1))) (by omega) (by rw [← hres5]; simp only [ccH, ↓reduceIte]) H locs hP hD hS ls (lv_sub hl [0, 1, 2] rfl)
  exact Lp5 9 0 h (by omega) rfl _ _ hP hD hS ls (lv_sub hl [0, 1, 2] rfl)
set_option maxHeartbeats 4000000 in
set_option maxRecDepth 100000 in
theorem mX3_hashOfRoof (l : Launch) (D : va_G) (cI cQ cJ : ClassId) (o s0 x0 : Nat) (a a2 : Nat → Nat) (r : rB) (h : Int64) : Ml l D (tY cI cQ cJ) yX3_hashOfRoof wsX3_hashOfRoof ({ frames := 2, cells := 0, slots := 0, locals := 44 } : Room) [.ref o, .long h] ((cO o [.ref (a 0), .ref (a2 0), .ref s0, .ref x0]) ++ (cR cI a r)) ((cO o [.ref (a 0), .ref (a2 0), .ref s0, .ref x0]) ++ (cR cI a r)) (cgH r 6 0 (cpH r 6 0 h)) := by
  refine M_of (cc := cX3_hashOfRoof) (maxL := 7) (ret := some .long) (Qc := fun A => va_Ql (fun (x : Int64) (_ : Unit) => x = cgH r 6 0 (cpH r 6 0 h)) (fun _ t => Wd D ((cO o [.ref (a 0), .ref (a2 0), .ref s0, .ref x0]) ++ (cR cI a r)) t) A) (by decide) rfl (Nat.le_of_ble_eq_true rfl) ?_
  intro p e s m below meth c A ls hB hE hP hK hD hA hl
  obtain ⟨hx, hb, hr, hml, hts, hown, hlocks⟩ := hB
  have hS : va_S A s.heap s.heap [] := va_S.rf
  have hl : lv_has ls 7 [(0, .ref o), (1, .long h)] := hl
  have hinX3 : ∀ w ∈ u_ws RX3 TX3 4, w ∈ wsX3_hashOfRoof := by decide +kernel
  have fl10 := hts (.fieldLink RX3 10 "RoofDrains" "roof" "LRoofDrains$Roof;") (by decide +kernel)
  refine lv_lload_n hx hb dX3_hashOfRoof_0 rfl (lv_at hl 1 rfl) ?_
  refine lv_lstore_n (lv' := [(3, .long h), (0, .ref o), (1, .long h)]) hx hb dX3_hashOfRoof_1 rfl hl (by decide) rfl (fun ls hl => ?_)
  refine lv_iconst (v := 0) hx hb dX3_hashOfRoof_2 (by decide) ?_
  refine lv_istore (lv' := [(5, .int 0), (3, .long h), (0, .ref o), (1, .long h)]) hx hb dX3_hashOfRoof_3 hl (by decide) rfl (fun ls hl => ?_)
  have Lp5 : ∀ (n1 i1 : Nat) (v1 : Int64), i1 + n1 = 6 → cpH r n1 i1 v1 = cpH r 6 0 h → ∀ (H : Heap) (locs : List Loc), va_P D vwCl ((cO o [.ref (a 0), .ref (a2 0), .ref s0, .ref x0]) ++ (cR cI a r)) H → va_D A ((cO o [.ref (a 0), .ref (a2 0), .ref s0, .ref x0]) ++ (cR cI a r)) → va_S A s.heap H locs → ∀ (ls : Array Slot), lv_has ls 7 [(5, .int (nI i1)), (3, .long v1), (0, .ref o)] → W p l e ({ frames := 2, cells := 0, slots := 0, locals := 44 } : Room) s m ([.ref o, .long h] : List Value).toArray below meth c H locs 0 0 (MQ below (va_Ql (fun (x : Int64) (_ : Unit) => x = cgH r 6 0 (cpH r 6 0 h)) (fun _ t => Wd D ((cO o [.ref (a 0), .ref (a2 0), .ref s0, .ref x0]) ++ (cR cI a r)) t) A) ([.ref o, .long h] : List Value).toArray s 0 0 A) (F0 m 5 ls []) := by
    intro n1
    induction n1 with
    | zero =>
      intro i1 v1 hin5 hres5 H locs hP hD hS ls hl
      have h95 : v1 = cpH r 6 0 h := hres5
      refine lv_iload hx hb dX3_hashOfRoof_5 (lv_at hl 0 rfl) ?_
      refine lv_bipush (v := 6) hx hb dX3_hashOfRoof_7 (by decide) ?_
      refine lv_icmp_ge (tgt := 50) hx hb dX3_hashOfRoof_9 (by decide) (fun _ => ?_) (fun h9 => absurd (nI_le (a := 6) (b := i1) (by omega) (by omega)) h9)
      refine lv_iconst (v := 0) hx hb dX3_hashOfRoof_50 (by decide) ?_
      refine lv_istore (lv' := [(5, .int 0), (3, .long v1), (0, .ref o)]) hx hb dX3_hashOfRoof_51 hl (by decide) rfl (fun ls hl => ?_)
      have Lp53 : ∀ (n2 i2 : Nat) (v2 : Int64), i2 + n2 = 6 → cgH r n2 i2 v2 = cgH r 6 0 v1 → ∀ (H : Heap) (locs : List Loc), va_P D vwCl ((cO o [.ref (a 0), .ref (a2 0), .ref s0, .ref x0]) ++ (cR cI a r)) H → va_D A ((cO o [.ref (a 0), .ref (a2 0), .ref s0, .ref x0]) ++ (cR cI a r)) → va_S A s.heap H locs → ∀ (ls : Array Slot), lv_has ls 7 [(5, .int (nI i2)), (3, .long v2), (0, .ref o)] → W p l e ({ frames := 2, cells := 0, slots := 0, locals := 44 } : Room) s m ([.ref o, .long h] : List Value).toArray below meth c H locs 0 0 (MQ below (va_Ql (fun (x : Int64) (_ : Unit) => x = cgH r 6 0 (cpH r 6 0 h)) (fun _ t => Wd D ((cO o [.ref (a 0), .ref (a2 0), .ref s0, .ref x0]) ++ (cR cI a r)) t) A) ([.ref o, .long h] : List Value).toArray s 0 0 A) (F0 m 53 ls []) := by
        intro n2
        induction n2 with
        | zero =>
          intro i2 v2 hin53 hres53 H locs hP hD hS ls hl
          have h953 : v2 = cgH r 6 0 v1 := hres53
          refine lv_iload hx hb dX3_hashOfRoof_53 (lv_at hl 0 rfl) ?_
          refine lv_bipush (v := 6) hx hb dX3_hashOfRoof_55 (by decide) ?_
          refine lv_icmp_ge (tgt := 99) hx hb dX3_hashOfRoof_57 (by decide) (fun _ => ?_) (fun h9 => absurd (nI_le (a := 6) (b := i2) (by omega) (by omega)) h9)
          refine lv_lload_n hx hb dX3_hashOfRoof_99 rfl (lv_at hl 1 rfl) ?_
          exact k_lret hx hb hr hlocks hS hP dX3_hashOfRoof_100 (by (replace h953 := h953.symm; subst h953; replace h95 := h95.symm; subst h95; first | with_reducible rfl | simp only [↓reduceIte]))
        | succ n2 ih53 =>
          intro i2 v2 hin53 hres53 H locs hP hD hS ls hl
          refine lv_iload hx hb dX3_hashOfRoof_53 (lv_at hl 0 rfl) ?_
          refine lv_bipush (v := 6) hx hb dX3_hashOfRoof_55 (by decide) ?_
          refine lv_icmp_ge (tgt := 99) hx hb dX3_hashOfRoof_57 (by decide) (fun h9 => absurd h9 (nI_ge (a := i2) (b := 6) (by omega) (by omega))) (fun _ => ?_)
          refine lv_iconst (v := 0) hx hb dX3_hashOfRoof_60 (by decide) ?_
          refine lv_istore (lv' := [(6, .int 0), (5, .int (nI i2)), (3, .long v2), (0, .ref o)]) hx hb dX3_hashOfRoof_61 hl (by decide) rfl (fun ls hl => ?_)
          have Lp63 : ∀ (n4 i4 : Nat) (v4 : Int64), i4 + n4 = 9 → cgI r i2 n4 i4 v4 = cgI r i2 9 0 v2 → ∀ (H : Heap) (locs : List Loc), va_P D vwCl ((cO o [.ref (a 0), .ref (a2 0), .ref s0, .ref x0]) ++ (cR cI a r)) H → va_D A ((cO o [.ref (a 0), .ref (a2 0), .ref s0, .ref x0]) ++ (cR cI a r)) → va_S A s.heap H locs → ∀ (ls : Array Slot), lv_has ls 7 [(6, .int (nI i4)), (5, .int (nI i2)), (3, .long v4), (0, .ref o)] → W p l e ({ frames := 2, cells := 0, slots := 0, locals := 44 } : Room) s m ([.ref o, .long h] : List Value).toArray below meth c H locs 0 0 (MQ below (va_Ql (fun (x : Int64) (_ : Unit) => x = cgH r 6 0 (cpH r 6 0 h)) (fun _ t => Wd D ((cO o [.ref (a 0), .ref (a2 0), .ref s0, .ref x0]) ++ (cR cI a r)) t) A) ([.ref o, .long h] : List Value).toArray s 0 0 A) (F0 m 63 ls []) := by
            intro n4
            induction n4 with
            | zero =>
              intro i4 v4 hin63 hres63 H locs hP hD hS ls hl
              have h963 : v4 = cgI r i2 9 0 v2 := hres63
              refine lv_iload hx hb dX3_hashOfRoof_63 (lv_at hl 0 rfl) ?_
              refine lv_bipush (v := 8) hx hb dX3_hashOfRoof_65 (by decide) ?_
              refine lv_icmp_gt (tgt := 93) hx hb dX3_hashOfRoof_67 (by decide) (fun _ => ?_) (fun h9 => absurd (nI_lt (a := 8) (b := i4) (by omega) (by omega)) h9)
              refine lv_iinc (v := nI (i2 + 1)) (lv' := [(5, .int (nI (i2 + 1))), (6, .int (nI i4)), (3, .long v4), (0, .ref o)]) hx hb dX3_hashOfRoof_93 hl (k := 1) rfl (nI_1 i2) (by decide) rfl (fun ls hl => ?_)
              refine lv_goto (tgt := 53) hx hb dX3_hashOfRoof_96 (by decide) ?_
              exact ih53 (i2 + 1) v4 (by omega) (by replace h963 := h963.symm; subst h963; rw [← hres53]; simp only [cgH, ↓reduceIte]) H locs hP hD hS ls (lv_sub hl [0, 2, 3] rfl)
            | succ n4 ih63 =>
              intro i4 v4 hin63 hres63 H locs hP hD hS ls hl
              refine lv_iload hx hb dX3_hashOfRoof_63 (lv_at hl 0 rfl) ?_
              refine lv_bipush (v := 8) hx hb dX3_hashOfRoof_65 (by decide) ?_
              refine lv_icmp_gt (tgt := 93) hx hb dX3_hashOfRoof_67 (by decide) (fun h9 => absurd h9 (nI_nlt (a := 8) (b := i4) (by omega) (by omega))) (fun _ => ?_)
              refine lv_lload_n hx hb dX3_hashOfRoof_70 rfl (lv_at hl 2 rfl) ?_
              refine lv_aload_n hx hb dX3_hashOfRoof_71 rfl (lv_at hl 3 rfl) ?_
              refine va_get (D := D) (ci := 3) (v := .ref (a 0)) (C := RX3) (T := TX3) (N := 4) hx hb hts hinX3 hown hK hP 0 rfl rfl 0 (by decide) fl10 (fun _ h9 => h9) rfl dX3_hashOfRoof_72 ?_
              refine lv_iload hx hb dX3_hashOfRoof_75 (lv_at hl 1 rfl) ?_
              refine lv_iload hx hb dX3_hashOfRoof_77 (lv_at hl 0 rfl) ?_
              refine k_calli (wc := cR cI a r) (w' := cR cI a r) (wn := (cO o [.ref (a 0), .ref (a2 0), .ref s0, .ref x0]) ++ (cR cI a r)) (va_runV (As := [.int (nI i2), .int (nI i4)]) (rest := [.long v4]) ⟨hx, hb, hml, hown, hts⟩ (mX1_gutterNumber l D cI cQ cJ a r (nI i2) i2 i4 (vp_in_nI (n := i2) (by omega) (by omega)) (nI_clamp (n := i2) (by omega)) (by omega) _) (cwV 2 hts gX3_hashOfRoof_X1_gutterNumber rfl rfl rfl (by decide +kernel) ⟨Nat.le_of_ble_eq_true rfl, Nat.le_of_ble_eq_true rfl⟩) (k_preV (wc := cR cI a r) hE hK hP hD [1, 2, 3, 4, 5, 6, 7, 8, 9, 10, 11, 12, 13] (by decide) rfl (ci := 1) (q0 := 1) rfl rfl [.int (nI i2), .int (nI i4)]) rfl rfl hl.1 rfl (lv_room (Nat.le_of_ble_eq_true rfl)) dX3_hashOfRoof_79 ⟨Nat.zero_le _, Nat.zero_le _⟩) hP hD hS hA [1, 2, 3, 4, 5, 6, 7, 8, 9, 10, 11, 12, 13] rfl rfl (by rw [show [1, 2, 3, 4, 5, 6, 7, 8, 9, 10, 11, 12, 13] = List.range' 1 13 from rfl, putAt_0 13 _ _ _ 1] <;> first | rfl | decide) (fun H locs hP hD hS => ?_)
              refine lv_i2l (v := Int32.toInt64 (gnC r i2 i4)) hx hb dX3_hashOfRoof_82 rfl ?_
              refine k_calll (wc := ([] : va_W)) (w' := ([] : va_W)) (wn := (cO o [.ref (a 0), .ref (a2 0), .ref s0, .ref x0]) ++ (cR cI a r)) (va_runS (As := [.long v4, .long (Int32.toInt64 (gnC r i2 i4))]) (rest := []) ⟨hx, hb, hml, hown, hts⟩ (mX3_hashWith l D cI cQ cJ v4 (Int32.toInt64 (gnC r i2 i4)) _) (va_cwS 2 hts gX3_hashOfRoof_X3_hashWith rfl rfl rfl (by decide +kernel) ⟨Nat.le_of_ble_eq_true rfl, Nat.le_of_ble_eq_true rfl⟩) (k_preS (wc := ([] : va_W)) hE hK hP hD [] (by decide) rfl [.long v4, .long (Int32.toInt64 (gnC r i2 i4))]) rfl rfl hl.1 rfl (lv_room (Nat.le_of_ble_eq_true rfl)) dX3_hashOfRoof_83 ⟨Nat.zero_le _, Nat.zero_le _⟩) hP hD hS hA [] rfl rfl rfl (fun H locs hP hD hS => ?_)
              refine lv_lstore_n (lv' := [(3, .long (hsh v4 (Int32.toInt64 (gnC r i2 i4)))), (6, .int (nI i4)), (5, .int (nI i2)), (0, .ref o)]) hx hb dX3_hashOfRoof_86 rfl hl (by decide) rfl (fun ls hl => ?_)
              refine lv_iinc (v := nI (i4 + 1)) (lv' := [(6, .int (nI (i4 + 1))), (3, .long (hsh v4 (Int32.toInt64 (gnC r i2 i4)))), (5, .int (nI i2)), (0, .ref o)]) hx hb dX3_hashOfRoof_87 hl (k := 1) rfl (nI_1 i4) (by decide) rfl (fun ls hl => ?_)
              refine lv_goto (tgt := 63) hx hb dX3_hashOfRoof_90 (by decide) ?_
              exact ih63 (i4 + 1) (hsh v4 (Int32.toInt64 (gnC r i2 i4))) (by omega) (by rw [← hres63]; simp only [cgI, ↓reduceIte]) H locs hP hD hS ls (lv_sub hl [0, 2, 1, 3] rfl)
          exact Lp63 9 0 v2 (by omega) rfl _ _ hP hD hS ls (lv_sub hl [0, 1, 2, 3] rfl)
      exact Lp53 6 0 v1 (by omega) rfl _ _ hP hD hS ls (lv_sub hl [0, 1, 2] rfl)
    | succ n1 ih5 =>
      intro i1 v1 hin5 hres5 H locs hP hD hS ls hl
      refine lv_iload hx hb dX3_hashOfRoof_5 (lv_at hl 0 rfl) ?_
      refine lv_bipush (v := 6) hx hb dX3_hashOfRoof_7 (by decide) ?_
      refine lv_icmp_ge (tgt := 50) hx hb dX3_hashOfRoof_9 (by decide) (fun h9 => absurd h9 (nI_ge (a := i1) (b := 6) (by omega) (by omega))) (fun _ => ?_)
      refine lv_iconst (v := 0) hx hb dX3_hashOfRoof_12 (by decide) ?_
      refine lv_istore (lv' := [(6, .int 0), (5, .int (nI i1)), (3, .long v1), (0, .ref o)]) hx hb dX3_hashOfRoof_13 hl (by decide) rfl (fun ls hl => ?_)
      have Lp15 : ∀ (n3 i3 : Nat) (v3 : Int64), i3 + n3 = 4 → cpI r i1 n3 i3 v3 = cpI r i1 4 0 v1 → ∀ (H : Heap) (locs : List Loc), va_P D vwCl ((cO o [.ref (a 0), .ref (a2 0), .ref s0, .ref x0]) ++ (cR cI a r)) H → va_D A ((cO o [.ref (a 0), .ref (a2 0), .ref s0, .ref x0]) ++ (cR cI a r)) → va_S A s.heap H locs → ∀ (ls : Array Slot), lv_has ls 7 [(6, .int (nI i3)), (5, .int (nI i1)), (3, .long v3), (0, .ref o)] → W p l e ({ frames := 2, cells := 0, slots := 0, locals := 44 } : Room) s m ([.ref o, .long h] : List Value).toArray below meth c H locs 0 0 (MQ below (va_Ql (fun (x : Int64) (_ : Unit) => x = cgH r 6 0 (cpH r 6 0 h)) (fun _ t => Wd D ((cO o [.ref (a 0), .ref (a2 0), .ref s0, .ref x0]) ++ (cR cI a r)) t) A) ([.ref o, .long h] : List Value).toArray s 0 0 A) (F0 m 15 ls []) := by
        intro n3
        induction n3 with
        | zero =>
          intro i3 v3 hin15 hres15 H locs hP hD hS ls hl
          have h915 : v3 = cpI r i1 4 0 v1 := hres15
          refine lv_iload hx hb dX3_hashOfRoof_15 (lv_at hl 0 rfl) ?_
          refine lv_iconst (v := 3) hx hb dX3_hashOfRoof_17 (by decide) ?_
          refine lv_icmp_gt (tgt := 44) hx hb dX3_hashOfRoof_18 (by decide) (fun _ => ?_) (fun h9 => absurd (nI_lt (a := 3) (b := i3) (by omega) (by omega)) h9)
          refine lv_iinc (v := nI (i1 + 1)) (lv' := [(5, .int (nI (i1 + 1))), (6, .int (nI i3)), (3, .long v3), (0, .ref o)]) hx hb dX3_hashOfRoof_44 hl (k := 1) rfl (nI_1 i1) (by decide) rfl (fun ls hl => ?_)
          refine lv_goto (tgt := 5) hx hb dX3_hashOfRoof_47 (by decide) ?_
          exact ih5 (i1 + 1) v3 (by omega) (by replace h915 := h915.symm; subst h915; rw [← hres5]; simp only [cpH, ↓reduceIte]) H locs hP hD hS ls (lv_sub hl [0, 2, 3] rfl)
        | succ n3 ih15 =>
          intro i3 v3 hin15 hres15 H locs hP hD hS ls hl
          refine lv_iload hx hb dX3_hashOfRoof_15 (lv_at hl 0 rfl) ?_
          refine lv_iconst (v := 3) hx hb dX3_hashOfRoof_17 (by decide) ?_
          refine lv_icmp_gt (tgt := 44) hx hb dX3_hashOfRoof_18 (by decide) (fun h9 => absurd h9 (nI_nlt (a := 3) (b := i3) (by omega) (by omega))) (fun _ => ?_)
          refine lv_lload_n hx hb dX3_hashOfRoof_21 rfl (lv_at hl 2 rfl) ?_
          refine lv_aload_n hx hb dX3_hashOfRoof_22 rfl (lv_at hl 3 rfl) ?_
          refine va_get (D := D) (ci := 3) (v := .ref (a 0)) (C := RX3) (T := TX3) (N := 4) hx hb hts hinX3 hown hK hP 0 rfl rfl 0 (by decide) fl10 (fun _ h9 => h9) rfl dX3_hashOfRoof_23 ?_
          refine lv_iload hx hb dX3_hashOfRoof_26 (lv_at hl 1 rfl) ?_
          refine lv_iload hx hb dX3_hashOfRoof_28 (lv_at hl 0 rfl) ?_
          refine k_calli (wc := cR cI a r) (w' := cR cI a r) (wn := (cO o [.ref (a 0), .ref (a2 0), .ref s0, .ref x0]) ++ (cR cI a r)) (va_runV (As := [.int (nI i1), .int (nI i3)]) (rest := [.long v3]) ⟨hx, hb, hml, hown, hts⟩ (mX1_planeNumber l D cI cQ cJ a r (nI i1) i1 i3 (vp_in_nI (n := i1) (by omega) (by omega)) (nI_clamp (n := i1) (by omega)) (by omega) _) (cwV 2 hts gX3_hashOfRoof_X1_planeNumber rfl rfl rfl (by decide +kernel) ⟨Nat.le_of_ble_eq_true rfl, Nat.le_of_ble_eq_true rfl⟩) (k_preV (wc := cR cI a r) hE hK hP hD [1, 2, 3, 4, 5, 6, 7, 8, 9, 10, 11, 12, 13] (by decide) rfl (ci := 1) (q0 := 1) rfl rfl [.int (nI i1), .int (nI i3)]) rfl rfl hl.1 rfl (lv_room (Nat.le_of_ble_eq_true rfl)) dX3_hashOfRoof_30 ⟨Nat.zero_le _, Nat.zero_le _⟩) hP hD hS hA [1, 2, 3, 4, 5, 6, 7, 8, 9, 10, 11, 12, 13] rfl rfl (by rw [show [1, 2, 3, 4, 5, 6, 7, 8, 9, 10, 11, 12, 13] = List.range' 1 13 from rfl, putAt_0 13 _ _ _ 1] <;> first | rfl | decide) (fun H locs hP hD hS => ?_)
          refine lv_i2l (v := Int32.toInt64 (pnC r i1 i3)) hx hb dX3_hashOfRoof_33 rfl ?_
          refine k_calll (wc := ([] : va_W)) (w' := ([] : va_W)) (wn := (cO o [.ref (a 0), .ref (a2 0), .ref s0, .ref x0]) ++ (cR cI a r)) (va_runS (As := [.long v3, .long (Int32.toInt64 (pnC r i1 i3))]) (rest := []) ⟨hx, hb, hml, hown, hts⟩ (mX3_hashWith l D cI cQ cJ v3 (Int32.toInt64 (pnC r i1 i3)) _) (va_cwS 2 hts gX3_hashOfRoof_X3_hashWith rfl rfl rfl (by decide +kernel) ⟨Nat.le_of_ble_eq_true rfl, Nat.le_of_ble_eq_true rfl⟩) (k_preS (wc := ([] : va_W)) hE hK hP hD [] (by decide) rfl [.long v3, .long (Int32.toInt64 (pnC r i1 i3))]) rfl rfl hl.1 rfl (lv_room (Nat.le_of_ble_eq_true rfl)) dX3_hashOfRoof_34 ⟨Nat.zero_le _, Nat.zero_le _⟩) hP hD hS hA [] rfl rfl rfl (fun H locs hP hD hS => ?_)
          refine lv_lstore_n (lv' := [(3, .long (hsh v3 (Int32.toInt64 (pnC r i1 i3)))), (6, .int (nI i3)), (5, .int (nI i1)), (0, .ref o)]) hx hb dX3_hashOfRoof_37 rfl hl (by decide) rfl (fun ls hl => ?_)
          refine lv_iinc (v := nI (i3 + 1)) (lv' := [(6, .int (nI (i3 + 1))), (3, .long (hsh v3 (Int32.toInt64 (pnC r i1 i3)))), (5, .int (nI i1)), (0, .ref o)]) hx hb dX3_hashOfRoof_38 hl (k := 1) rfl (nI_1 i3) (by decide) rfl (fun ls hl => ?_)
          refine lv_goto (tgt := 15) hx hb dX3_hashOfRoof_41 (by decide) ?_
          exact ih15 (i3 + 1) (hsh v3 (Int32.toInt64 (pnC r i1 i3))) (by omega) (by rw [← hres15]; simp only [cpI, ↓reduceIte]) H locs hP hD hS ls (lv_sub hl [0, 2, 1, 3] rfl)
      exact Lp15 4 0 v1 (by omega) rfl _ _ hP hD hS ls (lv_sub hl [0, 1, 2, 3] rfl)
  exact Lp5 6 0 h (by omega) rfl _ _ hP hD hS ls (lv_sub hl [0, 1, 2] rfl)
set_option maxHeartbeats 4000000 in
set_option maxRecDepth 100000 in
theorem mX3_hashOfText (l : Launch) (D : va_G) (cI cQ cJ : ClassId) (o s0 : Nat) (a a2 x : Nat → Nat) (tb : rB) (L : Nat) (hL : tb 1 0 = nI L) (hL60 : L ≤ 60) (h : Int64) : Ml l D (tY cI cQ cJ) yX3_hashOfText wsX3_hashOfText ({ frames := 1, cells := 0, slots := 0, locals := 23 } : Room) [.ref o, .long h] ((cO o [.ref (a 0), .ref (a2 0), .ref s0, .ref (x 0)]) ++ (cT cI x tb)) ((cO o [.ref (a 0), .ref (a2 0), .ref s0, .ref (x 0)]) ++ (cT cI x tb)) (ctH tb L 0 (hsh h (nI L).toInt64)) := by
  refine M_of (cc := cX3_hashOfText) (maxL := 6) (ret := some .long) (Qc := fun A => va_Ql (fun (x : Int64) (_ : Unit) => x = ctH tb L 0 (hsh h (nI L).toInt64)) (fun _ t => Wd D ((cO o [.ref (a 0), .ref (a2 0), .ref s0, .ref (x 0)]) ++ (cT cI x tb)) t) A) (by decide) rfl (Nat.le_of_ble_eq_true rfl) ?_
  intro p e s m below meth c A ls hB hE hP hK hD hA hl
  obtain ⟨hx, hb, hr, hml, hts, hown, hlocks⟩ := hB
  have hS : va_S A s.heap s.heap [] := va_S.rf
  have hl : lv_has ls 6 [(0, .ref o), (1, .long h)] := hl
  have hinX3 : ∀ w ∈ u_ws RX3 TX3 4, w ∈ wsX3_hashOfText := by decide +kernel
  have fl29 := hts (.fieldLink RX3 29 "RoofDrains" "text" "LRoofDrains$RainText;") (by decide +kernel)
  refine lv_lload_n hx hb dX3_hashOfText_0 rfl (lv_at hl 1 rfl) ?_
  refine lv_aload_n hx hb dX3_hashOfText_1 rfl (lv_at hl 0 rfl) ?_
  refine va_get (D := D) (ci := 3) (v := .ref (x 0)) (C := RX3) (T := TX3) (N := 4) hx hb hts hinX3 hown hK hP 0 rfl rfl 3 (by decide) fl29 (fun _ h9 => h9) rfl dX3_hashOfText_2 ?_
  refine k_calli (wc := cT cI x tb) (w' := cT cI x tb) (wn := (cO o [.ref (a 0), .ref (a2 0), .ref s0, .ref (x 0)]) ++ (cT cI x tb)) (va_runV (As := []) (rest := [.long h]) ⟨hx, hb, hml, hown, hts⟩ (mX0_length l D cI cQ cJ x tb _) (cwV 0 hts gX3_hashOfText_X0_length rfl rfl rfl (by decide +kernel) ⟨Nat.le_of_ble_eq_true rfl, Nat.le_of_ble_eq_true rfl⟩) (k_preV (wc := cT cI x tb) hE hK hP hD [1, 2] (by decide) rfl (ci := 0) (q0 := 1) rfl rfl []) rfl rfl hl.1 rfl (lv_room (Nat.le_of_ble_eq_true rfl)) dX3_hashOfText_5 ⟨Nat.zero_le _, Nat.zero_le _⟩) hP hD hS hA [1, 2] rfl rfl rfl (fun H locs hP hD hS => ?_)
  refine lv_eqi (y := nI L) hL ?_
  refine lv_i2l (v := Int32.toInt64 (nI L)) hx hb dX3_hashOfText_8 rfl ?_
  refine k_calll (wc := ([] : va_W)) (w' := ([] : va_W)) (wn := (cO o [.ref (a 0), .ref (a2 0), .ref s0, .ref (x 0)]) ++ (cT cI x tb)) (va_runS (As := [.long h, .long (Int32.toInt64 (nI L))]) (rest := []) ⟨hx, hb, hml, hown, hts⟩ (mX3_hashWith l D cI cQ cJ h (Int32.toInt64 (nI L)) _) (va_cwS 2 hts gX3_hashOfText_X3_hashWith rfl rfl rfl (by decide +kernel) ⟨Nat.le_of_ble_eq_true rfl, Nat.le_of_ble_eq_true rfl⟩) (k_preS (wc := ([] : va_W)) hE hK hP hD [] (by decide) rfl [.long h, .long (Int32.toInt64 (nI L))]) rfl rfl hl.1 rfl (lv_room (Nat.le_of_ble_eq_true rfl)) dX3_hashOfText_9 ⟨Nat.zero_le _, Nat.zero_le _⟩) hP hD hS hA [] rfl rfl rfl (fun H locs hP hD hS => ?_)
  refine lv_lstore_n (lv' := [(3, .long (hsh h (Int32.toInt64 (nI L)))), (0, .ref o), (1, .long h)]) hx hb dX3_hashOfText_12 rfl hl (by decide) rfl (fun ls hl => ?_)
  refine lv_iconst (v := 0) hx hb dX3_hashOfText_13 (by decide) ?_
  refine lv_istore (lv' := [(5, .int 0), (3, .long (hsh h (Int32.toInt64 (nI L)))), (0, .ref o), (1, .long h)]) hx hb dX3_hashOfText_14 hl (by decide) rfl (fun ls hl => ?_)
  have Lp16 : ∀ (n1 i1 : Nat) (v1 : Int64), i1 + n1 = L → ctH tb n1 i1 v1 = ctH tb L 0 (hsh h (Int32.toInt64 (nI L))) → ∀ (H : Heap) (locs : List Loc), va_P D vwCl ((cO o [.ref (a 0), .ref (a2 0), .ref s0, .ref (x 0)]) ++ (cT cI x tb)) H → va_D A ((cO o [.ref (a 0), .ref (a2 0), .ref s0, .ref (x 0)]) ++ (cT cI x tb)) → va_S A s.heap H locs → ∀ (ls : Array Slot), lv_has ls 6 [(5, .int (nI i1)), (3, .long v1), (0, .ref o)] → W p l e ({ frames := 1, cells := 0, slots := 0, locals := 23 } : Room) s m ([.ref o, .long h] : List Value).toArray below meth c H locs 0 0 (MQ below (va_Ql (fun (x : Int64) (_ : Unit) => x = ctH tb L 0 (hsh h (nI L).toInt64)) (fun _ t => Wd D ((cO o [.ref (a 0), .ref (a2 0), .ref s0, .ref (x 0)]) ++ (cT cI x tb)) t) A) ([.ref o, .long h] : List Value).toArray s 0 0 A) (F0 m 16 ls []) := by
    intro n1
    induction n1 with
    | zero =>
      intro i1 v1 hin16 hres16 H locs hP hD hS ls hl
      have h916 : v1 = ctH tb L 0 (hsh h (Int32.toInt64 (nI L))) := hres16
      refine lv_iload hx hb dX3_hashOfText_16 (lv_at hl 0 rfl) ?_
      refine lv_aload_n hx hb dX3_hashOfText_18 rfl (lv_at hl 2 rfl) ?_
      refine va_get (D := D) (ci := 3) (v := .ref (x 0)) (C := RX3) (T := TX3) (N := 4) hx hb hts hinX3 hown hK hP 0 rfl rfl 3 (by decide) fl29 (fun _ h9 => h9) rfl dX3_hashOfText_19 ?_
      refine k_calli (wc := cT cI x tb) (w' := cT cI x tb) (wn := (cO o [.ref (a 0), .ref (a2 0), .ref s0, .ref (x 0)]) ++ (cT cI x tb)) (va_runV (As := []) (rest := [.int (nI i1)]) ⟨hx, hb, hml, hown, hts⟩ (mX0_length l D cI cQ cJ x tb _) (cwV 0 hts gX3_hashOfText_X0_length rfl rfl rfl (by decide +kernel) ⟨Nat.le_of_ble_eq_true rfl, Nat.le_of_ble_eq_true rfl⟩) (k_preV (wc := cT cI x tb) hE hK hP hD [1, 2] (by decide) rfl (ci := 0) (q0 := 1) rfl rfl []) rfl rfl hl.1 rfl (lv_room (Nat.le_of_ble_eq_true rfl)) dX3_hashOfText_22 ⟨Nat.zero_le _, Nat.zero_le _⟩) hP hD hS hA [1, 2] rfl rfl rfl (fun H locs hP hD hS => ?_)
      refine lv_eqi (y := nI L) hL ?_
      refine lv_icmp_ge (tgt := 49) hx hb dX3_hashOfText_25 (by decide) (fun _ => ?_) (fun h9 => absurd (nI_le (a := L) (b := i1) (by omega) (by omega)) h9)
      refine lv_lload_n hx hb dX3_hashOfText_49 rfl (lv_at hl 1 rfl) ?_
      exact k_lret hx hb hr hlocks hS hP dX3_hashOfText_50 (by (replace h916 := h916.symm; subst h916; first | with_reducible rfl | simp only [↓reduceIte]))
    | succ n1 ih16 =>
      intro i1 v1 hin16 hres16 H locs hP hD hS ls hl
      refine lv_iload hx hb dX3_hashOfText_16 (lv_at hl 0 rfl) ?_
      refine lv_aload_n hx hb dX3_hashOfText_18 rfl (lv_at hl 2 rfl) ?_
      refine va_get (D := D) (ci := 3) (v := .ref (x 0)) (C := RX3) (T := TX3) (N := 4) hx hb hts hinX3 hown hK hP 0 rfl rfl 3 (by decide) fl29 (fun _ h9 => h9) rfl dX3_hashOfText_19 ?_
      refine k_calli (wc := cT cI x tb) (w' := cT cI x tb) (wn := (cO o [.ref (a 0), .ref (a2 0), .ref s0, .ref (x 0)]) ++ (cT cI x tb)) (va_runV (As := []) (rest := [.int (nI i1)]) ⟨hx, hb, hml, hown, hts⟩ (mX0_length l D cI cQ cJ x tb _) (cwV 0 hts gX3_hashOfText_X0_length rfl rfl rfl (by decide +kernel) ⟨Nat.le_of_ble_eq_true rfl, Nat.le_of_ble_eq_true rfl⟩) (k_preV (wc := cT cI x tb) hE hK hP hD [1, 2] (by decide) rfl (ci := 0) (q0 := 1) rfl rfl []) rfl rfl hl.1 rfl (lv_room (Nat.le_of_ble_eq_true rfl)) dX3_hashOfText_22 ⟨Nat.zero_le _, Nat.zero_le _⟩) hP hD hS hA [1, 2] rfl rfl rfl (fun H locs hP hD hS => ?_)
      refine lv_eqi (y := nI L) hL ?_
      refine lv_icmp_ge (tgt := 49) hx hb dX3_hashOfText_25 (by decide) (fun h9 => absurd h9 (nI_ge (a := i1) (b := L) (by omega) (by omega))) (fun _ => ?_)
      refine lv_lload_n hx hb dX3_hashOfText_28 rfl (lv_at hl 1 rfl) ?_
      refine lv_aload_n hx hb dX3_hashOfText_29 rfl (lv_at hl 2 rfl) ?_
      refine va_get (D := D) (ci := 3) (v := .ref (x 0)) (C := RX3) (T := TX3) (N := 4) hx hb hts hinX3 hown hK hP 0 rfl rfl 3 (by decide) fl29 (fun _ h9 => h9) rfl dX3_hashOfText_30 ?_
      refine lv_iload hx hb dX3_hashOfText_33 (lv_at hl 0 rfl) ?_
      refine k_calli (wc := cT cI x tb) (w' := cT cI x tb) (wn := (cO o [.ref (a 0), .ref (a2 0), .ref s0, .ref (x 0)]) ++ (cT cI x tb)) (va_runV (As := [.int (nI i1)]) (rest := [.long v1]) ⟨hx, hb, hml, hown, hts⟩ (mX0_codeAt l D cI cQ cJ x tb (nI i1) i1 (vp_in_nI (n := i1) (by omega) (by omega)) (nI_clamp (n := i1) (by omega)) _) (cwV 1 hts gX3_hashOfText_X0_codeAt rfl rfl rfl (by decide +kernel) ⟨Nat.le_of_ble_eq_true rfl, Nat.le_of_ble_eq_true rfl⟩) (k_preV (wc := cT cI x tb) hE hK hP hD [1, 2] (by decide) rfl (ci := 0) (q0 := 1) rfl rfl [.int (nI i1)]) rfl rfl hl.1 rfl (lv_room (Nat.le_of_ble_eq_true rfl)) dX3_hashOfText_35 ⟨Nat.zero_le _, Nat.zero_le _⟩) hP hD hS hA [1, 2] rfl rfl rfl (fun H locs hP hD hS => ?_)
      refine lv_i2l (v := Int32.toInt64 (tb 0 i1)) hx hb dX3_hashOfText_38 rfl ?_
      refine k_calll (wc := ([] : va_W)) (w' := ([] : va_W)) (wn := (cO o [.ref (a 0), .ref (a2 0), .ref s0, .ref (x 0)]) ++ (cT cI x tb)) (va_runS (As := [.long v1, .long (Int32.toInt64 (tb 0 i1))]) (rest := []) ⟨hx, hb, hml, hown, hts⟩ (mX3_hashWith l D cI cQ cJ v1 (Int32.toInt64 (tb 0 i1)) _) (va_cwS 2 hts gX3_hashOfText_X3_hashWith rfl rfl rfl (by decide +kernel) ⟨Nat.le_of_ble_eq_true rfl, Nat.le_of_ble_eq_true rfl⟩) (k_preS (wc := ([] : va_W)) hE hK hP hD [] (by decide) rfl [.long v1, .long (Int32.toInt64 (tb 0 i1))]) rfl rfl hl.1 rfl (lv_room (Nat.le_of_ble_eq_true rfl)) dX3_hashOfText_39 ⟨Nat.zero_le _, Nat.zero_le _⟩) hP hD hS hA [] rfl rfl rfl (fun H locs hP hD hS => ?_)
      refine lv_lstore_n (lv' := [(3, .long (hsh v1 (Int32.toInt64 (tb 0 i1)))), (5, .int (nI i1)), (0, .ref o)]) hx hb dX3_hashOfText_42 rfl hl (by decide) rfl (fun ls hl => ?_)
      refine lv_iinc (v := nI (i1 + 1)) (lv' := [(5, .int (nI (i1 + 1))), (3, .long (hsh v1 (Int32.toInt64 (tb 0 i1)))), (0, .ref o)]) hx hb dX3_hashOfText_43 hl (k := 1) rfl (nI_1 i1) (by decide) rfl (fun ls hl => ?_)
      refine lv_goto (tgt := 16) hx hb dX3_hashOfText_46 (by decide) ?_
      exact ih16 (i1 + 1) (hsh v1 (Int32.toInt64 (tb 0 i1))) (by omega) (by rw [← hres16]; simp only [ctH, ↓reduceIte]) H locs hP hD hS ls (lv_sub hl [0, 1, 2] rfl)
  exact Lp16 L 0 (hsh h (Int32.toInt64 (nI L))) (by omega) rfl _ _ hP hD hS ls (lv_sub hl [0, 1, 2] rfl)
set_option maxHeartbeats 4000000 in
set_option maxRecDepth 100000 in
theorem mX3_clearBuffer (l : Launch) (D : va_G) (cI cQ cJ : ClassId) (o s0 : Nat) (a a2 x : Nat → Nat) (tb : rB) (L : Nat) (hL : tb 1 0 = nI L) (hL60 : L ≤ 60)  : Mi l D (tY cI cQ cJ) yX3_clearBuffer wsX3_clearBuffer ({ frames := 1, cells := 0, slots := 0, locals := 20 } : Room) [.ref o] ((cO o [.ref (a 0), .ref (a2 0), .ref s0, .ref (x 0)]) ++ (cT cI x tb)) ((cO o [.ref (a 0), .ref (a2 0), .ref s0, .ref (x 0)]) ++ (cT cI x (bp tb 1 0 0))) (tb 1 0) := by
  refine M_of (cc := cX3_clearBuffer) (maxL := 2) (ret := some .int) (Qc := fun A => va_Qi (fun (x : Int32) (_ : Unit) => x = tb 1 0) (fun _ t => Wd D ((cO o [.ref (a 0), .ref (a2 0), .ref s0, .ref (x 0)]) ++ (cT cI x (bp tb 1 0 0))) t) A) (by decide) rfl (Nat.le_of_ble_eq_true rfl) ?_
  intro p e s m below meth c A ls hB hE hP hK hD hA hl
  obtain ⟨hx, hb, hr, hml, hts, hown, hlocks⟩ := hB
  have hS : va_S A s.heap s.heap [] := va_S.rf
  have hl : lv_has ls 2 [(0, .ref o)] := hl
  have hinX3 : ∀ w ∈ u_ws RX3 TX3 4, w ∈ wsX3_clearBuffer := by decide +kernel
  have fl29 := hts (.fieldLink RX3 29 "RoofDrains" "text" "LRoofDrains$RainText;") (by decide +kernel)
  refine lv_aload_n hx hb dX3_clearBuffer_0 rfl (lv_at hl 0 rfl) ?_
  refine va_get (D := D) (ci := 3) (v := .ref (x 0)) (C := RX3) (T := TX3) (N := 4) hx hb hts hinX3 hown hK hP 0 rfl rfl 3 (by decide) fl29 (fun _ h9 => h9) rfl dX3_clearBuffer_1 ?_
  refine k_calli (wc := cT cI x tb) (w' := cT cI x tb) (wn := (cO o [.ref (a 0), .ref (a2 0), .ref s0, .ref (x 0)]) ++ (cT cI x tb)) (va_runV (As := []) (rest := []) ⟨hx, hb, hml, hown, hts⟩ (mX0_length l D cI cQ cJ x tb _) (cwV 0 hts gX3_clearBuffer_X0_length rfl rfl rfl (by decide +kernel) ⟨Nat.le_of_ble_eq_true rfl, Nat.le_of_ble_eq_true rfl⟩) (k_preV (wc := cT cI x tb) hE hK hP hD [1, 2] (by decide) rfl (ci := 0) (q0 := 1) rfl rfl []) rfl rfl hl.1 rfl (lv_room (Nat.le_of_ble_eq_true rfl)) dX3_clearBuffer_4 ⟨Nat.zero_le _, Nat.zero_le _⟩) hP hD hS hA [1, 2] rfl rfl rfl (fun H locs hP hD hS => ?_)
  refine lv_topi (fun v1_1 ev1_1 => ?_)
  refine lv_istore_n (lv' := [(1, .int v1_1), (0, .ref o)]) hx hb dX3_clearBuffer_7 rfl hl (by decide) rfl (fun ls hl => ?_)
  refine lv_aload_n hx hb dX3_clearBuffer_8 rfl (lv_at hl 1 rfl) ?_
  refine va_get (D := D) (ci := 3) (v := .ref (x 0)) (C := RX3) (T := TX3) (N := 4) hx hb hts hinX3 hown hK hP 0 rfl rfl 3 (by decide) fl29 (fun _ h9 => h9) rfl dX3_clearBuffer_9 ?_
  obtain ⟨r_2, er_2⟩ : ∃ z : rB, z = bp tb 1 0 0 := ⟨_, rfl⟩
  have hm_3 := mX0_empty l D cI cQ cJ x tb
  rw [← er_2] at hm_3
  refine k_callv (wc := cT cI x tb) (w' := cT cI x r_2) (wn := (cO o [.ref (a 0), .ref (a2 0), .ref s0, .ref (x 0)]) ++ (cT cI x r_2)) (va_runV (As := []) (rest := []) ⟨hx, hb, hml, hown, hts⟩ (hm_3 _) (cwV 0 hts gX3_clearBuffer_X0_empty rfl rfl rfl (by decide +kernel) ⟨Nat.le_of_ble_eq_true rfl, Nat.le_of_ble_eq_true rfl⟩) (k_preV (wc := cT cI x tb) hE hK hP hD [1, 2] (by decide) rfl (ci := 0) (q0 := 1) rfl rfl []) rfl rfl hl.1 rfl (lv_room (Nat.le_of_ble_eq_true rfl)) dX3_clearBuffer_12 ⟨Nat.zero_le _, Nat.zero_le _⟩) hP hD hS hA [1, 2] rfl rfl rfl (fun H locs hP hD hS => ?_)
  refine lv_iload_n hx hb dX3_clearBuffer_15 rfl (lv_at hl 0 rfl) ?_
  have e9 : (r_2 : rB) = bp tb 1 0 0 := by (replace er_2 := er_2.symm; subst er_2; replace ev1_1 := ev1_1.symm; subst ev1_1; first | with_reducible rfl | simp only [↓reduceIte])
  rw [e9] at hP
  exact k_iret hx hb hr hlocks hS hP dX3_clearBuffer_16 (by (replace er_2 := er_2.symm; subst er_2; replace ev1_1 := ev1_1.symm; subst ev1_1; first | with_reducible rfl | simp only [↓reduceIte]))
set_option maxHeartbeats 4000000 in
set_option maxRecDepth 100000 in
theorem mX3_firstError (l : Launch) (D : va_G) (cI cQ cJ : ClassId) (o s0 : Nat) (a a2 x : Nat → Nat) (tb : rB) (L : Nat) (hL : tb 1 0 = nI L) (hL60 : L ≤ 60)  : Mi l D (tY cI cQ cJ) yX3_firstError wsX3_firstError ({ frames := 4, cells := 0, slots := 0, locals := 85 } : Room) [.ref o] ((cO o [.ref (a 0), .ref (a2 0), .ref s0, .ref (x 0)]) ++ (cT cI x tb)) ((cO o [.ref (a 0), .ref (a2 0), .ref s0, .ref (x 0)]) ++ (cT cI x tb)) (fwL tb L 0 1) := by
  refine M_of (cc := cX3_firstError) (maxL := 1) (ret := some .int) (Qc := fun A => va_Qi (fun (x : Int32) (_ : Unit) => x = fwL tb L 0 1) (fun _ t => Wd D ((cO o [.ref (a 0), .ref (a2 0), .ref s0, .ref (x 0)]) ++ (cT cI x tb)) t) A) (by decide) rfl (Nat.le_of_ble_eq_true rfl) ?_
  intro p e s m below meth c A ls hB hE hP hK hD hA hl
  obtain ⟨hx, hb, hr, hml, hts, hown, hlocks⟩ := hB
  have hS : va_S A s.heap s.heap [] := va_S.rf
  have hl : lv_has ls 1 [(0, .ref o)] := hl
  have hinX3 : ∀ w ∈ u_ws RX3 TX3 4, w ∈ wsX3_firstError := by decide +kernel
  have fl29 := hts (.fieldLink RX3 29 "RoofDrains" "text" "LRoofDrains$RainText;") (by decide +kernel)
  refine lv_aload_n hx hb dX3_firstError_0 rfl (lv_at hl 0 rfl) ?_
  refine va_get (D := D) (ci := 3) (v := .ref (x 0)) (C := RX3) (T := TX3) (N := 4) hx hb hts hinX3 hown hK hP 0 rfl rfl 3 (by decide) fl29 (fun _ h9 => h9) rfl dX3_firstError_1 ?_
  refine k_calli (wc := cT cI x tb) (w' := cT cI x tb) (wn := (cO o [.ref (a 0), .ref (a2 0), .ref s0, .ref (x 0)]) ++ (cT cI x tb)) (va_runV (As := []) (rest := []) ⟨hx, hb, hml, hown, hts⟩ (mX0_firstWrong l D cI cQ cJ x tb L hL hL60 _) (cwV 0 hts gX3_firstError_X0_firstWrong rfl rfl rfl (by decide +kernel) ⟨Nat.le_of_ble_eq_true rfl, Nat.le_of_ble_eq_true rfl⟩) (k_preV (wc := cT cI x tb) hE hK hP hD [1, 2] (by decide) rfl (ci := 0) (q0 := 1) rfl rfl []) rfl rfl hl.1 rfl (lv_room (Nat.le_of_ble_eq_true rfl)) dX3_firstError_4 ⟨Nat.zero_le _, Nat.zero_le _⟩) hP hD hS hA [1, 2] rfl rfl rfl (fun H locs hP hD hS => ?_)
  exact k_iret hx hb hr hlocks hS hP dX3_firstError_7 (by (first | with_reducible rfl | simp only [↓reduceIte]))
set_option maxHeartbeats 4000000 in
set_option maxRecDepth 100000 in
theorem mX3_drainedShare (l : Launch) (D : va_G) (cI cQ cJ : ClassId) (o s0 x0 : Nat) (a a2 : Nat → Nat) (r : rB) (hF : FPok) : Md l D (tY cI cQ cJ) yX3_drainedShare wsX3_drainedShare ({ frames := 2, cells := 0, slots := 0, locals := 45 } : Room) [.ref o] ((cO o [.ref (a 0), .ref (a2 0), .ref s0, .ref x0]) ++ (cR cI a r)) ((cO o [.ref (a 0), .ref (a2 0), .ref s0, .ref x0]) ++ (cR cI a r)) (shC r) := by
  refine M_of (cc := cX3_drainedShare) (maxL := 2) (ret := some .double) (Qc := fun A => va_Qd (fun (x : UInt64) (_ : Unit) => x = shC r) (fun _ t => Wd D ((cO o [.ref (a 0), .ref (a2 0), .ref s0, .ref x0]) ++ (cR cI a r)) t) A) (by decide) rfl (Nat.le_of_ble_eq_true rfl) ?_
  intro p e s m below meth c A ls hB hE hP hK hD hA hl
  obtain ⟨hx, hb, hr, hml, hts, hown, hlocks⟩ := hB
  have hS : va_S A s.heap s.heap [] := va_S.rf
  have hl : lv_has ls 2 [(0, .ref o)] := hl
  have hinX3 : ∀ w ∈ u_ws RX3 TX3 4, w ∈ wsX3_drainedShare := by decide +kernel
  have fl10 := hts (.fieldLink RX3 10 "RoofDrains" "roof" "LRoofDrains$Roof;") (by decide +kernel)
  refine lv_aload_n hx hb dX3_drainedShare_0 rfl (lv_at hl 0 rfl) ?_
  refine va_get (D := D) (ci := 3) (v := .ref (a 0)) (C := RX3) (T := TX3) (N := 4) hx hb hts hinX3 hown hK hP 0 rfl rfl 0 (by decide) fl10 (fun _ h9 => h9) rfl dX3_drainedShare_1 ?_
  refine k_calli (wc := cR cI a r) (w' := cR cI a r) (wn := (cO o [.ref (a 0), .ref (a2 0), .ref s0, .ref x0]) ++ (cR cI a r)) (va_runV (As := []) (rest := []) ⟨hx, hb, hml, hown, hts⟩ (mX1_rainedLitres l D cI cQ cJ a r _) (cwV 0 hts gX3_drainedShare_X1_rainedLitres rfl rfl rfl (by decide +kernel) ⟨Nat.le_of_ble_eq_true rfl, Nat.le_of_ble_eq_true rfl⟩) (k_preV (wc := cR cI a r) hE hK hP hD [1, 2, 3, 4, 5, 6, 7, 8, 9, 10, 11, 12, 13] (by decide) rfl (ci := 1) (q0 := 1) rfl rfl []) rfl rfl hl.1 rfl (lv_room (Nat.le_of_ble_eq_true rfl)) dX3_drainedShare_4 ⟨Nat.zero_le _, Nat.zero_le _⟩) hP hD hS hA [1, 2, 3, 4, 5, 6, 7, 8, 9, 10, 11, 12, 13] rfl rfl (by rw [show [1, 2, 3, 4, 5, 6, 7, 8, 9, 10, 11, 12, 13] = List.range' 1 13 from rfl, putAt_0 13 _ _ _ 1] <;> first | rfl | decide) (fun H locs hP hD hS => ?_)
  refine lv_topi (fun v1_1 ev1_1 => ?_)
  refine lv_istore_n (lv' := [(1, .int v1_1), (0, .ref o)]) hx hb dX3_drainedShare_7 rfl hl (by decide) rfl (fun ls hl => ?_)
  refine lv_iload_n hx hb dX3_drainedShare_8 rfl (lv_at hl 0 rfl) ?_
  refine lv_if_ne (tgt := 16) hx hb dX3_drainedShare_9 (by decide) (fun c_2 => ?_) (fun c_2 => ?_)
  · skip
    refine lv_aload_n hx hb dX3_drainedShare_16 rfl (lv_at hl 1 rfl) ?_
    refine va_get (D := D) (ci := 3) (v := .ref (a 0)) (C := RX3) (T := TX3) (N := 4) hx hb hts hinX3 hown hK hP 0 rfl rfl 0 (by decide) fl10 (fun _ h9 => h9) rfl dX3_drainedShare_17 ?_
    refine k_calli (wc := cR cI a r) (w' := cR cI a r) (wn := (cO o [.ref (a 0), .ref (a2 0), .ref s0, .ref x0]) ++ (cR cI a r)) (va_runV (As := []) (rest := []) ⟨hx, hb, hml, hown, hts⟩ (mX1_drainedLitres l D cI cQ cJ a r _) (cwV 0 hts gX3_drainedShare_X1_drainedLitres rfl rfl rfl (by decide +kernel) ⟨Nat.le_of_ble_eq_true rfl, Nat.le_of_ble_eq_true rfl⟩) (k_preV (wc := cR cI a r) hE hK hP hD [1, 2, 3, 4, 5, 6, 7, 8, 9, 10, 11, 12, 13] (by decide) rfl (ci := 1) (q0 := 1) rfl rfl []) rfl rfl hl.1 rfl (lv_room (Nat.le_of_ble_eq_true rfl)) dX3_drainedShare_20 ⟨Nat.zero_le _, Nat.zero_le _⟩) hP hD hS hA [1, 2, 3, 4, 5, 6, 7, 8, 9, 10, 11, 12, 13] rfl rfl (by rw [show [1, 2, 3, 4, 5, 6, 7, 8, 9, 10, 11, 12, 13] = List.range' 1 13 from rfl, putAt_0 13 _ _ _ 1] <;> first | rfl | decide) (fun H locs hP hD hS => ?_)
    refine lv_i2d hx hb dX3_drainedShare_23 ?_
    refine lv_iload_n hx hb dX3_drainedShare_24 rfl (lv_at hl 0 rfl) ?_
    refine lv_i2d hx hb dX3_drainedShare_25 ?_
    refine lv_ddiv hx hb dX3_drainedShare_26 (hF.1 _ _ c_2) ?_
    exact k_dret hx hb hr hlocks hS hP dX3_drainedShare_27 (by (replace ev1_1 := ev1_1.symm; subst ev1_1; first | with_reducible rfl | simp only [shC, if_neg c_2, ↓reduceIte]))
  · skip
    refine lv_dconst1 hx hb dX3_drainedShare_12 ?_
    refine lv_goto (tgt := 27) hx hb dX3_drainedShare_13 (by decide) ?_
    exact k_dret hx hb hr hlocks hS hP dX3_drainedShare_27 (by (replace ev1_1 := ev1_1.symm; subst ev1_1; first | with_reducible rfl | simp only [shC, if_pos c_2, ↓reduceIte]))
