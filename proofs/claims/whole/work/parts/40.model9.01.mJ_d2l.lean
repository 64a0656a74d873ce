set_option maxHeartbeats 4000000 in
set_option maxRecDepth 100000 in
theorem mJ_d2l (l : Launch) (D : va_G) (cI cQ cJ : ClassId) (x0 : UInt64) (hx0 : Op.cmpValue (FP.dcmp x0 x0) .l = 0) : Ml l D (tY cI cQ cJ) yJxe99ae_doubleToLongBits_ccdee wsJxe99ae_doubleToLongBits_ccdee ({ frames := 1, cells := 0, slots := 0, locals := 30 } : Room) [.double x0] (([] : va_W)) (([] : va_W)) x0.toInt64 := by
  refine M_of (cc := cJxe99ae_doubleToLongBits_ccdee) (maxL := 2) (ret := some .long) (Qc := fun A => va_Ql (fun (x : Int64) (_ : Unit) => x = x0.toInt64) (fun _ t => Wd D (([] : va_W)) t) A) (by decide) rfl (Nat.le_of_ble_eq_true rfl) ?_
  intro p e s m below meth c A ls hB hE hP hK hD hA hl
  obtain ⟨hx, hb, hr, hml, hts, hown, hlocks⟩ := hB
  have hS : va_S A s.heap s.heap [] := va_S.rf
  have hl : lv_has ls 2 [(0, .double x0)] := hl
  have rb1 := hts (.methodLink RJxe99ae 134 ⟨"java/lang/Double", "doubleToRawLongBits", "(D)J"⟩) (by decide +kernel)
  have rb2 := hts (.native ⟨"java/lang/Double", "doubleToRawLongBits", "(D)J"⟩) (by decide +kernel)
  have rb3 := hts (.static ⟨"java/lang/Double", "doubleToRawLongBits", "(D)J"⟩) (by decide +kernel)
  have rb4 := hts (.initialized "java/lang/Double") (by decide +kernel)
  refine lv_dload_n hx hb dJxe99ae_doubleToLongBits_ccdee_0 rfl (lv_at hl 0 rfl) ?_
  refine k_calli (wc := ([] : va_W)) (w' := ([] : va_W)) (wn := ([] : va_W)) (va_runS (As := [.double x0]) (rest := []) ⟨hx, hb, hml, hown, hts⟩ (mJ_isNaN l D cI cQ cJ x0 hx0 _) (va_cwS 1 hts gJxe99ae_doubleToLongBits_ccdee_Jxe99ae_isNaN_b9ae7 rfl rfl rfl (by decide +kernel) ⟨Nat.le_of_ble_eq_true rfl, Nat.le_of_ble_eq_true rfl⟩) (k_preS (wc := ([] : va_W)) hE hK hP hD [] (by decide) rfl [.double x0]) rfl rfl hl.1 rfl (lv_room (Nat.le_of_ble_eq_true rfl)) dJxe99ae_doubleToLongBits_ccdee_1 ⟨Nat.zero_le _, Nat.zero_le _⟩) hP hD hS hA [] rfl rfl rfl (fun H locs hP hD hS => ?_)
  refine lv_if_ne (tgt := 12) hx hb dJxe99ae_doubleToLongBits_ccdee_4 (by decide) (fun h9 => absurd (by decide) h9) (fun _ => ?_)
  refine lv_dload_n hx hb dJxe99ae_doubleToLongBits_ccdee_7 rfl (lv_at hl 0 rfl) ?_
  refine vn_d2l hx hb (hml.trans hl.1.symm) hown rb1 rb2 rb3 rb4 (Nat.le_of_ble_eq_true rfl) (Nat.le_of_ble_eq_true rfl) dJxe99ae_doubleToLongBits_ccdee_8 ?_
  exact k_lret hx hb hr hlocks hS hP dJxe99ae_doubleToLongBits_ccdee_11 (by (first | with_reducible rfl | simp only [↓reduceIte]))
