set_option maxHeartbeats 4000000 in
set_option maxRecDepth 100000 in
theorem mX4_clearBuffer (l : Launch) (D : va_G) (cI cQ cJ : ClassId) (a : Nat → Nat) (r : rB) (h : Int64)  : Mi l D (tY cI cQ cJ) yX4_clearBuffer wsX4_clearBuffer ({ frames := 0, cells := 0, slots := 0, locals := 0 } : Room) [.ref (a 0)] (cM cI a r h) (cM cI a (bp (bp r 5 0 0) 5 2 0) h) (r 5 2) := by
  refine M_of (cc := cX4_clearBuffer) (maxL := 2) (ret := some .int) (Qc := fun A => va_Qi (fun (x : Int32) (_ : Unit) => x = r 5 2) (fun _ t => Wd D (cM cI a (bp (bp r 5 0 0) 5 2 0) h) t) A) (by decide) rfl (Nat.le_of_ble_eq_true rfl) ?_
  intro p e s m below meth c A ls hB hE hP hK hD hA hl
  obtain ⟨hx, hb, hr, hml, hts, hown, hlocks⟩ := hB
  have hS : va_S A s.heap s.heap [] := va_S.rf
  have hl : lv_has ls 2 [(0, .ref (a 0))] := hl
  have hinX4 : ∀ w ∈ u_ws RX4 TX4 12, w ∈ wsX4_clearBuffer := by decide +kernel
  have fl25 := hts (.fieldLink RX4 25 "RoofDrainsModel" "thrown" "I") (by decide +kernel)
  have fl93 := hts (.fieldLink RX4 93 "RoofDrainsModel" "length" "I") (by decide +kernel)
  refine lv_aload_n hx hb dX4_clearBuffer_0 rfl (lv_at hl 0 rfl) ?_
  refine lv_iconst (v := 0) hx hb dX4_clearBuffer_1 (by decide) ?_
  refine k_put (D := D) (ci := 4) (v := .int 0) (ty := .int) (C := RX4) (T := TX4) (N := 12) hx hb hts hinX4 tyX4 tyX4_ok nmX4 hown hK hP hD hS 0 rfl rfl 0 (by decide) fl25 (fun _ h9 => h9) rfl (by decide +kernel) rfl rfl (Nat.le_of_ble_eq_true rfl) (ws' := cM cI a (bp r 5 0 0) h) rfl dX4_clearBuffer_2 (fun H locs hP hD hS => ?_)
  refine lv_aload_n hx hb dX4_clearBuffer_5 rfl (lv_at hl 0 rfl) ?_
  refine va_get (D := D) (ci := 4) (v := .int (r 5 2)) (C := RX4) (T := TX4) (N := 12) hx hb hts hinX4 hown hK hP 0 rfl rfl 6 (by decide) fl93 (fun _ h9 => h9) (congrArg (fun z => some (Value.int z)) ((bp_ne (by omega)).trans (rfl))) dX4_clearBuffer_6 ?_
  refine lv_topi (fun v1_1 ev1_1 => ?_)
  refine lv_istore_n (lv' := [(1, .int v1_1), (0, .ref (a 0))]) hx hb dX4_clearBuffer_9 rfl hl (by decide) rfl (fun ls hl => ?_)
  refine lv_aload_n hx hb dX4_clearBuffer_10 rfl (lv_at hl 1 rfl) ?_
  refine lv_iconst (v := 0) hx hb dX4_clearBuffer_11 (by decide) ?_
  refine k_put (D := D) (ci := 4) (v := .int 0) (ty := .int) (C := RX4) (T := TX4) (N := 12) hx hb hts hinX4 tyX4 tyX4_ok nmX4 hown hK hP hD hS 0 rfl rfl 6 (by decide) fl93 (fun _ h9 => h9) rfl (by decide +kernel) rfl rfl (Nat.le_of_ble_eq_true rfl) (ws' := cM cI a (bp (bp r 5 0 0) 5 2 0) h) rfl dX4_clearBuffer_12 (fun H locs hP hD hS => ?_)
  refine lv_iload_n hx hb dX4_clearBuffer_15 rfl (lv_at hl 0 rfl) ?_
  exact k_iret hx hb hr hlocks hS hP dX4_clearBuffer_16 (by (replace ev1_1 := ev1_1.symm; subst ev1_1; simp only [↓reduceIte]))
