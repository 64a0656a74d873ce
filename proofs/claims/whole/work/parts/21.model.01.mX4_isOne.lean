set_option maxHeartbeats 4000000 in
set_option maxRecDepth 100000 in
theorem mX4_isOne (l : Launch) (D : va_G) (cI cQ cJ : ClassId) (q : Int32) : Mi l D (tY cI cQ cJ) yX4_isOne wsX4_isOne ({ frames := 1, cells := 0, slots := 0, locals := 22 } : Room) [.int q] (([] : va_W)) (([] : va_W)) (zW q 0 5) := by
  refine M_of (cc := cX4_isOne) (maxL := 1) (ret := some .boolean) (Qc := fun A => va_Qi (fun (x : Int32) (_ : Unit) => x = zW q 0 5) (fun _ t => Wd D (([] : va_W)) t) A) (by decide) rfl (Nat.le_of_ble_eq_true rfl) ?_
  intro p e s m below meth c A ls hB hE hP hK hD hA hl
  obtain ⟨hx, hb, hr, hml, hts, hown, hlocks⟩ := hB
  have hS : va_S A s.heap s.heap [] := va_S.rf
  have hl : lv_has ls 1 [(0, .int q)] := hl
  refine lv_iload_n hx hb dX4_isOne_0 rfl (lv_at hl 0 rfl) ?_
  refine lv_iconst (v := 0) hx hb dX4_isOne_1 (by decide) ?_
  refine lv_iconst (v := 5) hx hb dX4_isOne_2 (by decide) ?_
  refine k_calli (wc := ([] : va_W)) (w' := ([] : va_W)) (wn := ([] : va_W)) (va_runS (As := [.int q, .int 0, .int 5]) (rest := []) ⟨hx, hb, hml, hown, hts⟩ (mX4_in l D cI cQ cJ q 0 5 _) (va_cwS 3 hts gX4_isOne_X4_in rfl rfl rfl (by decide +kernel) ⟨Nat.le_of_ble_eq_true rfl, Nat.le_of_ble_eq_true rfl⟩) (k_preS (wc := ([] : va_W)) hE hK hP hD [] (by decide) rfl [.int q, .int 0, .int 5]) rfl rfl hl.1 rfl (lv_room (Nat.le_of_ble_eq_true rfl)) dX4_isOne_3 ⟨Nat.zero_le _, Nat.zero_le _⟩) hP hD hS hA [] rfl rfl rfl (fun H locs hP hD hS => ?_)
  exact k_zret hx hb hr hlocks hS hP dX4_isOne_6 (by first | rfl | decide | exact zW_nar _ _ _) (by (simp only [↓reduceIte]))
