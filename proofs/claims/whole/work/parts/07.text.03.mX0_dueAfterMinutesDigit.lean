set_option maxHeartbeats 4000000 in
set_option maxRecDepth 100000 in
theorem mX0_dueAfterMinutesDigit (l : Launch) (D : va_G) (cI cQ cJ : ClassId) (ch : Int32) : Mi l D (tY cI cQ cJ) yX0_dueAfterMinutesDigit wsX0_dueAfterMinutesDigit ({ frames := 1, cells := 0, slots := 0, locals := 22 } : Room) [.int ch] (([] : va_W)) (([] : va_W)) (nI (d3 ch)) := by
  refine M_of (cc := cX0_dueAfterMinutesDigit) (maxL := 1) (ret := some .int) (Qc := fun A => va_Qi (fun (x : Int32) (_ : Unit) => x = nI (d3 ch)) (fun _ t => Wd D (([] : va_W)) t) A) (by decide) rfl (Nat.le_of_ble_eq_true rfl) ?_
  intro p e s m below meth c A ls hB hE hP hK hD hA hl
  obtain ⟨hx, hb, hr, hml, hts, hown, hlocks⟩ := hB
  have hS : va_S A s.heap s.heap [] := va_S.rf
  have hl : lv_has ls 1 [(0, .int ch)] := hl
  refine lv_iload_n hx hb dX0_dueAfterMinutesDigit_0 rfl (lv_at hl 0 rfl) ?_
  refine lv_bipush (v := 49) hx hb dX0_dueAfterMinutesDigit_1 (by decide) ?_
  refine lv_bipush (v := 53) hx hb dX0_dueAfterMinutesDigit_3 (by decide) ?_
  refine k_calli (wc := ([] : va_W)) (w' := ([] : va_W)) (wn := ([] : va_W)) (va_runSN (As := [.int ch, .int 49, .int 53]) (rest := []) ⟨hx, hb, hml, hown, hts⟩ (mX3_isWithin l D cI cQ cJ ch 49 53 _) ⟨va_cnB 3 hts gX0_dueAfterMinutesDigit_X3_isWithin_n29 rfl rfl rfl hE.2.1 (hts (.initialized RX3) (by decide +kernel)) (by decide +kernel) ⟨Nat.le_of_ble_eq_true rfl, Nat.le_of_ble_eq_true rfl⟩, hts (.static yX3_isWithin) (by decide +kernel), trivial⟩ (k_preS (wc := ([] : va_W)) hE hK hP hD [] (by decide) rfl [.int ch, .int 49, .int 53]) rfl rfl hl.1 rfl (lv_room (Nat.le_of_ble_eq_true rfl)) dX0_dueAfterMinutesDigit_5 ⟨Nat.zero_le _, Nat.zero_le _⟩) hP hD hS hA [] rfl rfl rfl (fun H locs hP hD hS => ?_)
  refine lv_if_eq (tgt := 13) hx hb dX0_dueAfterMinutesDigit_8 (by decide) (fun c_1 => ?_) (fun c_1 => ?_)
  · skip
    refine lv_iload_n hx hb dX0_dueAfterMinutesDigit_13 rfl (lv_at hl 0 rfl) ?_
    refine lv_bipush (v := 54) hx hb dX0_dueAfterMinutesDigit_14 (by decide) ?_
    refine lv_icmp_ne (tgt := 22) hx hb dX0_dueAfterMinutesDigit_16 (by decide) (fun c_2 => ?_) (fun c_2 => ?_)
    · skip
      refine lv_iload_n hx hb dX0_dueAfterMinutesDigit_22 rfl (lv_at hl 0 rfl) ?_
      refine lv_bipush (v := 55) hx hb dX0_dueAfterMinutesDigit_23 (by decide) ?_
      refine lv_bipush (v := 57) hx hb dX0_dueAfterMinutesDigit_25 (by decide) ?_
      refine k_calli (wc := ([] : va_W)) (w' := ([] : va_W)) (wn := ([] : va_W)) (va_runSN (As := [.int ch, .int 55, .int 57]) (rest := []) ⟨hx, hb, hml, hown, hts⟩ (mX3_isWithin l D cI cQ cJ ch 55 57 _) ⟨va_cnB 3 hts gX0_dueAfterMinutesDigit_X3_isWithin_n29 rfl rfl rfl hE.2.1 (hts (.initialized RX3) (by decide +kernel)) (by decide +kernel) ⟨Nat.le_of_ble_eq_true rfl, Nat.le_of_ble_eq_true rfl⟩, hts (.static yX3_isWithin) (by decide +kernel), trivial⟩ (k_preS (wc := ([] : va_W)) hE hK hP hD [] (by decide) rfl [.int ch, .int 55, .int 57]) rfl rfl hl.1 rfl (lv_room (Nat.le_of_ble_eq_true rfl)) dX0_dueAfterMinutesDigit_27 ⟨Nat.zero_le _, Nat.zero_le _⟩) hP hD hS hA [] rfl rfl rfl (fun H locs hP hD hS => ?_)
      refine lv_if_eq (tgt := 38) hx hb dX0_dueAfterMinutesDigit_30 (by decide) (fun c_3 => ?_) (fun c_3 => ?_)
      · skip
        refine lv_iconst (v := 0) hx hb dX0_dueAfterMinutesDigit_38 (by decide) ?_
        exact k_iret hx hb hr hlocks hS hP dX0_dueAfterMinutesDigit_39 (by (simp only [d3, if_pos c_1, if_neg c_2, if_pos c_3, ↓reduceIte] <;> rfl))
      · skip
        refine lv_bipush (v := 7) hx hb dX0_dueAfterMinutesDigit_33 (by decide) ?_
        refine lv_goto (tgt := 39) hx hb dX0_dueAfterMinutesDigit_35 (by decide) ?_
        exact k_iret hx hb hr hlocks hS hP dX0_dueAfterMinutesDigit_39 (by (simp only [d3, if_pos c_1, if_neg c_2, if_neg c_3, ↓reduceIte] <;> rfl))
    · skip
      refine lv_bipush (v := 6) hx hb dX0_dueAfterMinutesDigit_19 (by decide) ?_
      exact k_iret hx hb hr hlocks hS hP dX0_dueAfterMinutesDigit_21 (by (simp only [d3, if_pos c_1, if_pos c_2, ↓reduceIte] <;> rfl))
  · skip
    refine lv_iconst (v := 5) hx hb dX0_dueAfterMinutesDigit_11 (by decide) ?_
    exact k_iret hx hb hr hlocks hS hP dX0_dueAfterMinutesDigit_12 (by (simp only [d3, if_neg c_1, ↓reduceIte] <;> rfl))
