set_option maxHeartbeats 4000000 in
set_option maxRecDepth 100000 in
theorem mX4_fails (l : Launch) (D : va_G) (cI cQ cJ : ClassId) (a : Nat → Nat) (r : rB) (h : Int64) (x : Int32) : Mi l D (tY cI cQ cJ) yX4_fails wsX4_fails ({ frames := 0, cells := 0, slots := 0, locals := 0 } : Room) [.ref (a 0), .int x] (cM cI a r h) (cM cI a (bp r 5 0 x) h) 0 := by
  refine M_of (cc := cX4_fails) (maxL := 2) (ret := some .int) (Qc := fun A => va_Qi (fun (x : Int32) (_ : Unit) => x = 0) (fun _ t => Wd D (cM cI a (bp r 5 0 x) h) t) A) (by decide) rfl (Nat.le_of_ble_eq_true rfl) ?_
  intro p e s m below meth c A ls hB hE hP hK hD hA hl
  obtain ⟨hx, hb, hr, hml, hts, hown, hlocks⟩ := hB
  have hS : va_S A s.heap s.heap [] := va_S.rf
  have hl : lv_has ls 2 [(0, .ref (a 0)), (1, .int x)] := hl
  have hinX4 : ∀ w ∈ u_ws RX4 TX4 12, w ∈ wsX4_fails := by decide +kernel
  have fl25 := hts (.fieldLink RX4 25 "RoofDrainsModel" "thrown" "I") (by decide +kernel)
  refine lv_aload_n hx hb dX4_fails_0 rfl (lv_at hl 0 rfl) ?_
  refine lv_iload_n hx hb dX4_fails_1 rfl (lv_at hl 1 rfl) ?_
  refine k_put (D := D) (ci := 4) (v := .int x) (ty := .int) (C := RX4) (T := TX4) (N := 12) hx hb hts hinX4 tyX4 tyX4_ok nmX4 hown hK hP hD hS 0 rfl rfl 0 (by decide) fl25 (fun _ h9 => h9) rfl (by decide +kernel) rfl rfl (Nat.le_of_ble_eq_true rfl) (ws' := cM cI a (bp r 5 0 x) h) rfl dX4_fails_2 (fun H locs hP hD hS => ?_)
  refine lv_iconst (v := 0) hx hb dX4_fails_5 (by decide) ?_
  exact k_iret hx hb hr hlocks hS hP dX4_fails_6 (by (simp only [↓reduceIte]))
