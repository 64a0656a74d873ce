set_option maxHeartbeats 4000000 in
set_option maxRecDepth 100000 in
theorem mX0_dueAfterFirst (l : Launch) (D : va_G) (cI cQ cJ : ClassId) (ch : Int32) : Mi l D (tY cI cQ cJ) yX0_dueAfterFirst wsX0_dueAfterFirst ({ frames := 1, cells := 0, slots := 0, locals := 22 } : Room) [.int ch] (([] : va_W)) (([] : va_W)) (nI (d1 ch)) := by
  refine M_of (cc := cX0_dueAfterFirst) (maxL := 1) (ret := some .int) (Qc := fun A => va_Qi (fun (x : Int32) (_ : Unit) => x = nI (d1 ch)) (fun _ t => Wd D (([] : va_W)) t) A) (by decide) rfl (Nat.le_of_ble_eq_true rfl) ?_
  intro p e s m below meth c A ls hB hE hP hK hD hA hl
  obtain ⟨hx, hb, hr, hml, hts, hown, hlocks⟩ := hB
  have hS : va_S A s.heap s.heap [] := va_S.rf
  have hl : lv_has ls 1 [(0, .int ch)] := hl
  refine lv_iload_n hx hb dX0_dueAfterFirst_0 rfl (lv_at hl 0 rfl) ?_
  refine lv_bipush (v := 119) hx hb dX0_dueAfterFirst_1 (by decide) ?_
  refine lv_icmp_ne (tgt := 9) hx hb dX0_dueAfterFirst_3 (by decide) (fun c_1 => ?_) (fun c_1 => ?_)
  · skip
    refine lv_iload_n hx hb dX0_dueAfterFirst_9 rfl (lv_at hl 0 rfl) ?_
    refine lv_bipush (v := 99) hx hb dX0_dueAfterFirst_10 (by decide) ?_
    refine lv_icmp_ne (tgt := 18) hx hb dX0_dueAfterFirst_12 (by decide) (fun c_2 => ?_) (fun c_2 => ?_)
    · skip
      refine lv_iload_n hx hb dX0_dueAfterFirst_18 rfl (lv_at hl 0 rfl) ?_
      refine lv_bipush (v := 48) hx hb dX0_dueAfterFirst_19 (by decide) ?_
      refine lv_icmp_ne (tgt := 26) hx hb dX0_dueAfterFirst_21 (by decide) (fun c_3 => ?_) (fun c_3 => ?_)
      · skip
        refine lv_iload_n hx hb dX0_dueAfterFirst_26 rfl (lv_at hl 0 rfl) ?_
        refine lv_bipush (v := 49) hx hb dX0_dueAfterFirst_27 (by decide) ?_
        refine lv_bipush (v := 57) hx hb dX0_dueAfterFirst_29 (by decide) ?_
        refine k_calli (wc := ([] : va_W)) (w' := ([] : va_W)) (wn := ([] : va_W)) (va_runSN (As := [.int ch, .int 49, .int 57]) (rest := []) ⟨hx, hb, hml, hown, hts⟩ (mX3_isWithin l D cI cQ cJ ch 49 57 _) ⟨va_cnB 3 hts gX0_dueAfterFirst_X3_isWithin_n29 rfl rfl rfl hE.2.1 (hts (.initialized RX3) (by decide +kernel)) (by decide +kernel) ⟨Nat.le_of_ble_eq_true rfl, Nat.le_of_ble_eq_true rfl⟩, hts (.static yX3_isWithin) (by decide +kernel), trivial⟩ (k_preS (wc := ([] : va_W)) hE hK hP hD [] (by decide) rfl [.int ch, .int 49, .int 57]) rfl rfl hl.1 rfl (lv_room (Nat.le_of_ble_eq_true rfl)) dX0_dueAfterFirst_31 ⟨Nat.zero_le _, Nat.zero_le _⟩) hP hD hS hA [] rfl rfl rfl (fun H locs hP hD hS => ?_)
        refine lv_if_eq (tgt := 41) hx hb dX0_dueAfterFirst_34 (by decide) (fun c_4 => ?_) (fun c_4 => ?_)
        · skip
          refine lv_iconst (v := 0) hx hb dX0_dueAfterFirst_41 (by decide) ?_
          exact k_iret hx hb hr hlocks hS hP dX0_dueAfterFirst_42 (by (simp only [d1, if_neg c_1, if_neg c_2, if_neg c_3, if_pos c_4, ↓reduceIte] <;> rfl))
        · skip
          refine lv_iconst (v := 2) hx hb dX0_dueAfterFirst_37 (by decide) ?_
          refine lv_goto (tgt := 42) hx hb dX0_dueAfterFirst_38 (by decide) ?_
          exact k_iret hx hb hr hlocks hS hP dX0_dueAfterFirst_42 (by (simp only [d1, if_neg c_1, if_neg c_2, if_neg c_3, if_neg c_4, ↓reduceIte] <;> rfl))
      · skip
        refine lv_iconst (v := 3) hx hb dX0_dueAfterFirst_24 (by decide) ?_
        exact k_iret hx hb hr hlocks hS hP dX0_dueAfterFirst_25 (by (simp only [d1, if_neg c_1, if_neg c_2, if_pos c_3, ↓reduceIte] <;> rfl))
    · skip
      refine lv_bipush (v := 8) hx hb dX0_dueAfterFirst_15 (by decide) ?_
      exact k_iret hx hb hr hlocks hS hP dX0_dueAfterFirst_17 (by (simp only [d1, if_neg c_1, if_pos c_2, ↓reduceIte] <;> rfl))
  · skip
    refine lv_bipush (v := 7) hx hb dX0_dueAfterFirst_6 (by decide) ?_
    exact k_iret hx hb hr hlocks hS hP dX0_dueAfterFirst_8 (by (simp only [d1, if_pos c_1, ↓reduceIte] <;> rfl))
