set_option maxHeartbeats 4000000 in
set_option maxRecDepth 100000 in
theorem mX4_thrown (l : Launch) (D : va_G) (cI cQ cJ : ClassId) (a : Nat → Nat) (r : rB) (h : Int64)  : Mi l D (tY cI cQ cJ) yX4_thrown wsX4_thrown ({ frames := 0, cells := 0, slots := 0, locals := 0 } : Room) [.ref (a 0)] (cM cI a r h) (cM cI a r h) (r 5 0) := by
  refine M_of (cc := cX4_thrown) (maxL := 1) (ret := some .int) (Qc := fun A => va_Qi (fun (x : Int32) (_ : Unit) => x = r 5 0) (fun _ t => Wd D (cM cI a r h) t) A) (by decide) rfl (Nat.le_of_ble_eq_true rfl) ?_
  intro p e s m below meth c A ls hB hE hP hK hD hA hl
  obtain ⟨hx, hb, hr, hml, hts, hown, hlocks⟩ := hB
  have hS : va_S A s.heap s.heap [] := va_S.rf
  have hl : lv_has ls 1 [(0, .ref (a 0))] := hl
  have hinX4 : ∀ w ∈ u_ws RX4 TX4 12, w ∈ wsX4_thrown := by decide +kernel
  have fl25 := hts (.fieldLink RX4 25 "RoofDrainsModel" "thrown" "I") (by decide +kernel)
  refine lv_aload_n hx hb dX4_thrown_0 rfl (lv_at hl 0 rfl) ?_
  refine va_get (D := D) (ci := 4) (v := .int (r 5 0)) (C := RX4) (T := TX4) (N := 12) hx hb hts hinX4 hown hK hP 0 rfl rfl 0 (by decide) fl25 (fun _ h9 => h9) (congrArg (fun z => some (Value.int z)) (rfl)) dX4_thrown_1 ?_
  exact k_iret hx hb hr hlocks hS hP dX4_thrown_4 (by (simp only [↓reduceIte]))
