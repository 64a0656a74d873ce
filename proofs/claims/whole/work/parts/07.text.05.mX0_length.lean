set_option maxHeartbeats 4000000 in
set_option maxRecDepth 100000 in
theorem mX0_length (l : Launch) (D : va_G) (cI cQ cJ : ClassId) (a : Nat → Nat) (r : rB)  : Mi l D (tY cI cQ cJ) yX0_length wsX0_length ({ frames := 0, cells := 0, slots := 0, locals := 0 } : Room) [.ref (a 0)] (cT cI a r) (cT cI a r) (r 1 0) := by
  refine M_of (cc := cX0_length) (maxL := 1) (ret := some .int) (Qc := fun A => va_Qi (fun (x : Int32) (_ : Unit) => x = r 1 0) (fun _ t => Wd D (cT cI a r) t) A) (by decide) rfl (Nat.le_of_ble_eq_true rfl) ?_
  intro p e s m below meth c A ls hB hE hP hK hD hA hl
  obtain ⟨hx, hb, hr, hml, hts, hown, hlocks⟩ := hB
  have hS : va_S A s.heap s.heap [] := va_S.rf
  have hl : lv_has ls 1 [(0, .ref (a 0))] := hl
  have hinX0 : ∀ w ∈ u_ws RX0 TX0 2, w ∈ wsX0_length := by decide +kernel
  have fl13 := hts (.fieldLink RX0 13 "RoofDrains$RainText" "length" "I") (by decide +kernel)
  refine lv_aload_n hx hb dX0_length_0 rfl (lv_at hl 0 rfl) ?_
  refine va_get (D := D) (ci := 0) (v := .int (r 1 0)) (C := RX0) (T := TX0) (N := 2) hx hb hts hinX0 hown hK hP 0 rfl rfl 1 (by decide) fl13 (fun _ h9 => h9) (congrArg (fun z => some (Value.int z)) (rfl)) dX0_length_1 ?_
  exact k_iret hx hb hr hlocks hS hP dX0_length_4 (by (simp only [↓reduceIte]))
