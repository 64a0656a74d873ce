set_option maxHeartbeats 4000000 in
set_option maxRecDepth 100000 in
theorem mX0_dueAfter (l : Launch) (D : va_G) (cI cQ cJ : ClassId) (d : Nat) (hd : d ≤ 8) (ch : Int32) : Mi l D (tY cI cQ cJ) yX0_dueAfter wsX0_dueAfter ({ frames := 2, cells := 0, slots := 0, locals := 42 } : Room) [.int (nI d), .int ch] (([] : va_W)) (([] : va_W)) (nI (dA d ch)) := by
  refine M_of (cc := cX0_dueAfter) (maxL := 2) (ret := some .int) (Qc := fun A => va_Qi (fun (x : Int32) (_ : Unit) => x = nI (dA d ch)) (fun _ t => Wd D (([] : va_W)) t) A) (by decide) rfl (Nat.le_of_ble_eq_true rfl) ?_
  intro p e s m below meth c A ls hB hE hP hK hD hA hl
  obtain ⟨hx, hb, hr, hml, hts, hown, hlocks⟩ := hB
  have hS : va_S A s.heap s.heap [] := va_S.rf
  have hl : lv_has ls 2 [(0, .int (nI d)), (1, .int ch)] := hl
  refine lv_iload_n hx hb dX0_dueAfter_0 rfl (lv_at hl 1 rfl) ?_
  refine lv_bipush (v := 59) hx hb dX0_dueAfter_1 (by decide) ?_
  refine lv_icmp_ne (tgt := 19) hx hb dX0_dueAfter_3 (by decide) (fun c_1 => ?_) (fun c_1 => ?_)
  · skip
    refine lv_iload_n hx hb dX0_dueAfter_19 rfl (lv_at hl 0 rfl) ?_
    have hsw : d = 0 ∨ d = 1 ∨ d = 2 ∨ d = 3 ∨ d = 4 ∨ d = 5 ∨ d = 6 ∨ d = 7 ∨ d = 8 := by omega
    rcases hsw with rfl | rfl | rfl | rfl | rfl | rfl | rfl | rfl | rfl
    · skip
      refine lv_tableOut (tgt := 152) hx hb dX0_dueAfter_20 (by decide +kernel) (by decide) ?_
      refine lv_iconst (v := 0) hx hb dX0_dueAfter_152 (by decide) ?_
      exact k_iret hx hb hr hlocks hS hP dX0_dueAfter_153 (by (simp only [dA, if_neg c_1, ↓reduceIte] <;> rfl))
    · skip
      refine lv_tableIn (off := 48) (tgt := 68) hx hb dX0_dueAfter_20 (by decide +kernel) (by decide +kernel) (by decide +kernel) (by decide) ?_
      refine lv_iload_n hx hb dX0_dueAfter_68 rfl (lv_at hl 1 rfl) ?_
      refine k_calli (wc := ([] : va_W)) (w' := ([] : va_W)) (wn := ([] : va_W)) (va_runS (As := [.int ch]) (rest := []) ⟨hx, hb, hml, hown, hts⟩ (mX0_dueAfterFirst l D cI cQ cJ ch _) (va_cwS 1 hts gX0_dueAfter_X0_dueAfterFirst rfl rfl rfl (by decide +kernel) ⟨Nat.le_of_ble_eq_true rfl, Nat.le_of_ble_eq_true rfl⟩) (k_preS (wc := ([] : va_W)) hE hK hP hD [] (by decide) rfl [.int ch]) rfl rfl hl.1 rfl (lv_room (Nat.le_of_ble_eq_true rfl)) dX0_dueAfter_69 ⟨Nat.zero_le _, Nat.zero_le _⟩) hP hD hS hA [] rfl rfl rfl (fun H locs hP hD hS => ?_)
      exact k_iret hx hb hr hlocks hS hP dX0_dueAfter_72 (by (simp only [dA, if_neg c_1, ↓reduceIte] <;> rfl))
    · skip
      refine lv_tableIn (off := 53) (tgt := 73) hx hb dX0_dueAfter_20 (by decide +kernel) (by decide +kernel) (by decide +kernel) (by decide) ?_
      refine lv_iload_n hx hb dX0_dueAfter_73 rfl (lv_at hl 1 rfl) ?_
      refine lv_bipush (v := 48) hx hb dX0_dueAfter_74 (by decide) ?_
      refine lv_bipush (v := 57) hx hb dX0_dueAfter_76 (by decide) ?_
      refine k_calli (wc := ([] : va_W)) (w' := ([] : va_W)) (wn := ([] : va_W)) (va_runSN (As := [.int ch, .int 48, .int 57]) (rest := []) ⟨hx, hb, hml, hown, hts⟩ (mX3_isWithin l D cI cQ cJ ch 48 57 _) ⟨va_cnB 3 hts gX0_dueAfter_X3_isWithin_n29 rfl rfl rfl hE.2.1 (hts (.initialized RX3) (by decide +kernel)) (by decide +kernel) ⟨Nat.le_of_ble_eq_true rfl, Nat.le_of_ble_eq_true rfl⟩, hts (.static yX3_isWithin) (by decide +kernel), trivial⟩ (k_preS (wc := ([] : va_W)) hE hK hP hD [] (by decide) rfl [.int ch, .int 48, .int 57]) rfl rfl hl.1 rfl (lv_room (Nat.le_of_ble_eq_true rfl)) dX0_dueAfter_78 ⟨Nat.zero_le _, Nat.zero_le _⟩) hP hD hS hA [] rfl rfl rfl (fun H locs hP hD hS => ?_)
      refine lv_if_eq (tgt := 88) hx hb dX0_dueAfter_81 (by decide) (fun c_2 => ?_) (fun c_2 => ?_)
      · skip
        refine lv_iload_n hx hb dX0_dueAfter_88 rfl (lv_at hl 1 rfl) ?_
        refine k_calli (wc := ([] : va_W)) (w' := ([] : va_W)) (wn := ([] : va_W)) (va_runS (As := [.int ch]) (rest := []) ⟨hx, hb, hml, hown, hts⟩ (mX0_dueAfterStar l D cI cQ cJ ch _) (va_cwS 1 hts gX0_dueAfter_X0_dueAfterStar rfl rfl rfl (by decide +kernel) ⟨Nat.le_of_ble_eq_true rfl, Nat.le_of_ble_eq_true rfl⟩) (k_preS (wc := ([] : va_W)) hE hK hP hD [] (by decide) rfl [.int ch]) rfl rfl hl.1 rfl (lv_room (Nat.le_of_ble_eq_true rfl)) dX0_dueAfter_89 ⟨Nat.zero_le _, Nat.zero_le _⟩) hP hD hS hA [] rfl rfl rfl (fun H locs hP hD hS => ?_)
        exact k_iret hx hb hr hlocks hS hP dX0_dueAfter_92 (by (simp only [dA, if_neg c_1, if_pos c_2, ↓reduceIte] <;> rfl))
      · skip
        refine lv_iconst (v := 3) hx hb dX0_dueAfter_84 (by decide) ?_
        refine lv_goto (tgt := 92) hx hb dX0_dueAfter_85 (by decide) ?_
        exact k_iret hx hb hr hlocks hS hP dX0_dueAfter_92 (by (simp only [dA, if_neg c_1, if_neg c_2, ↓reduceIte] <;> rfl))
    · skip
      refine lv_tableIn (off := 73) (tgt := 93) hx hb dX0_dueAfter_20 (by decide +kernel) (by decide +kernel) (by decide +kernel) (by decide) ?_
      refine lv_iload_n hx hb dX0_dueAfter_93 rfl (lv_at hl 1 rfl) ?_
      refine k_calli (wc := ([] : va_W)) (w' := ([] : va_W)) (wn := ([] : va_W)) (va_runS (As := [.int ch]) (rest := []) ⟨hx, hb, hml, hown, hts⟩ (mX0_dueAfterStar l D cI cQ cJ ch _) (va_cwS 1 hts gX0_dueAfter_X0_dueAfterStar rfl rfl rfl (by decide +kernel) ⟨Nat.le_of_ble_eq_true rfl, Nat.le_of_ble_eq_true rfl⟩) (k_preS (wc := ([] : va_W)) hE hK hP hD [] (by decide) rfl [.int ch]) rfl rfl hl.1 rfl (lv_room (Nat.le_of_ble_eq_true rfl)) dX0_dueAfter_94 ⟨Nat.zero_le _, Nat.zero_le _⟩) hP hD hS hA [] rfl rfl rfl (fun H locs hP hD hS => ?_)
      exact k_iret hx hb hr hlocks hS hP dX0_dueAfter_97 (by (simp only [dA, if_neg c_1, ↓reduceIte] <;> rfl))
    · skip
      refine lv_tableIn (off := 78) (tgt := 98) hx hb dX0_dueAfter_20 (by decide +kernel) (by decide +kernel) (by decide +kernel) (by decide) ?_
      refine lv_iload_n hx hb dX0_dueAfter_98 rfl (lv_at hl 1 rfl) ?_
      refine k_calli (wc := ([] : va_W)) (w' := ([] : va_W)) (wn := ([] : va_W)) (va_runS (As := [.int ch]) (rest := []) ⟨hx, hb, hml, hown, hts⟩ (mX0_dueAfterMinutesDigit l D cI cQ cJ ch _) (va_cwS 1 hts gX0_dueAfter_X0_dueAfterMinutesDigit rfl rfl rfl (by decide +kernel) ⟨Nat.le_of_ble_eq_true rfl, Nat.le_of_ble_eq_true rfl⟩) (k_preS (wc := ([] : va_W)) hE hK hP hD [] (by decide) rfl [.int ch]) rfl rfl hl.1 rfl (lv_room (Nat.le_of_ble_eq_true rfl)) dX0_dueAfter_99 ⟨Nat.zero_le _, Nat.zero_le _⟩) hP hD hS hA [] rfl rfl rfl (fun H locs hP hD hS => ?_)
      exact k_iret hx hb hr hlocks hS hP dX0_dueAfter_102 (by (simp only [dA, if_neg c_1, ↓reduceIte] <;> rfl))
    · skip
      refine lv_tableIn (off := 83) (tgt := 103) hx hb dX0_dueAfter_20 (by decide +kernel) (by decide +kernel) (by decide +kernel) (by decide) ?_
      refine lv_iload_n hx hb dX0_dueAfter_103 rfl (lv_at hl 1 rfl) ?_
      refine lv_bipush (v := 48) hx hb dX0_dueAfter_104 (by decide) ?_
      refine lv_bipush (v := 57) hx hb dX0_dueAfter_106 (by decide) ?_
      refine k_calli (wc := ([] : va_W)) (w' := ([] : va_W)) (wn := ([] : va_W)) (va_runSN (As := [.int ch, .int 48, .int 57]) (rest := []) ⟨hx, hb, hml, hown, hts⟩ (mX3_isWithin l D cI cQ cJ ch 48 57 _) ⟨va_cnB 3 hts gX0_dueAfter_X3_isWithin_n29 rfl rfl rfl hE.2.1 (hts (.initialized RX3) (by decide +kernel)) (by decide +kernel) ⟨Nat.le_of_ble_eq_true rfl, Nat.le_of_ble_eq_true rfl⟩, hts (.static yX3_isWithin) (by decide +kernel), trivial⟩ (k_preS (wc := ([] : va_W)) hE hK hP hD [] (by decide) rfl [.int ch, .int 48, .int 57]) rfl rfl hl.1 rfl (lv_room (Nat.le_of_ble_eq_true rfl)) dX0_dueAfter_108 ⟨Nat.zero_le _, Nat.zero_le _⟩) hP hD hS hA [] rfl rfl rfl (fun H locs hP hD hS => ?_)
      refine lv_if_eq (tgt := 119) hx hb dX0_dueAfter_111 (by decide) (fun c_3 => ?_) (fun c_3 => ?_)
      · skip
        refine lv_iconst (v := 0) hx hb dX0_dueAfter_119 (by decide) ?_
        exact k_iret hx hb hr hlocks hS hP dX0_dueAfter_120 (by (simp only [dA, if_neg c_1, if_pos c_3, ↓reduceIte] <;> rfl))
      · skip
        refine lv_bipush (v := 7) hx hb dX0_dueAfter_114 (by decide) ?_
        refine lv_goto (tgt := 120) hx hb dX0_dueAfter_116 (by decide) ?_
        exact k_iret hx hb hr hlocks hS hP dX0_dueAfter_120 (by (simp only [dA, if_neg c_1, if_neg c_3, ↓reduceIte] <;> rfl))
    · skip
      refine lv_tableIn (off := 101) (tgt := 121) hx hb dX0_dueAfter_20 (by decide +kernel) (by decide +kernel) (by decide +kernel) (by decide) ?_
      refine lv_iload_n hx hb dX0_dueAfter_121 rfl (lv_at hl 1 rfl) ?_
      refine lv_bipush (v := 48) hx hb dX0_dueAfter_122 (by decide) ?_
      refine lv_icmp_ne (tgt := 132) hx hb dX0_dueAfter_124 (by decide) (fun c_4 => ?_) (fun c_4 => ?_)
      · skip
        refine lv_iconst (v := 0) hx hb dX0_dueAfter_132 (by decide) ?_
        exact k_iret hx hb hr hlocks hS hP dX0_dueAfter_133 (by (simp only [dA, if_neg c_1, if_neg c_4, ↓reduceIte] <;> rfl))
      · skip
        refine lv_bipush (v := 7) hx hb dX0_dueAfter_127 (by decide) ?_
        refine lv_goto (tgt := 133) hx hb dX0_dueAfter_129 (by decide) ?_
        exact k_iret hx hb hr hlocks hS hP dX0_dueAfter_133 (by (simp only [dA, if_neg c_1, if_pos c_4, ↓reduceIte] <;> rfl))
    · skip
      refine lv_tableIn (off := 132) (tgt := 152) hx hb dX0_dueAfter_20 (by decide +kernel) (by decide +kernel) (by decide +kernel) (by decide) ?_
      refine lv_iconst (v := 0) hx hb dX0_dueAfter_152 (by decide) ?_
      exact k_iret hx hb hr hlocks hS hP dX0_dueAfter_153 (by (simp only [dA, if_neg c_1, ↓reduceIte] <;> rfl))
    · skip
      refine lv_tableIn (off := 114) (tgt := 134) hx hb dX0_dueAfter_20 (by decide +kernel) (by decide +kernel) (by decide +kernel) (by decide) ?_
      refine lv_iload_n hx hb dX0_dueAfter_134 rfl (lv_at hl 1 rfl) ?_
      refine lv_bipush (v := 48) hx hb dX0_dueAfter_135 (by decide) ?_
      refine lv_bipush (v := 53) hx hb dX0_dueAfter_137 (by decide) ?_
      refine k_calli (wc := ([] : va_W)) (w' := ([] : va_W)) (wn := ([] : va_W)) (va_runSN (As := [.int ch, .int 48, .int 53]) (rest := []) ⟨hx, hb, hml, hown, hts⟩ (mX3_isWithin l D cI cQ cJ ch 48 53 _) ⟨va_cnB 3 hts gX0_dueAfter_X3_isWithin_n29 rfl rfl rfl hE.2.1 (hts (.initialized RX3) (by decide +kernel)) (by decide +kernel) ⟨Nat.le_of_ble_eq_true rfl, Nat.le_of_ble_eq_true rfl⟩, hts (.static yX3_isWithin) (by decide +kernel), trivial⟩ (k_preS (wc := ([] : va_W)) hE hK hP hD [] (by decide) rfl [.int ch, .int 48, .int 53]) rfl rfl hl.1 rfl (lv_room (Nat.le_of_ble_eq_true rfl)) dX0_dueAfter_139 ⟨Nat.zero_le _, Nat.zero_le _⟩) hP hD hS hA [] rfl rfl rfl (fun H locs hP hD hS => ?_)
      refine lv_if_eq (tgt := 150) hx hb dX0_dueAfter_142 (by decide) (fun c_5 => ?_) (fun c_5 => ?_)
      · skip
        refine lv_iconst (v := 0) hx hb dX0_dueAfter_150 (by decide) ?_
        exact k_iret hx hb hr hlocks hS hP dX0_dueAfter_151 (by (simp only [dA, if_neg c_1, if_pos c_5, ↓reduceIte] <;> rfl))
      · skip
        refine lv_bipush (v := 7) hx hb dX0_dueAfter_145 (by decide) ?_
        refine lv_goto (tgt := 151) hx hb dX0_dueAfter_147 (by decide) ?_
        exact k_iret hx hb hr hlocks hS hP dX0_dueAfter_151 (by (simp only [dA, if_neg c_1, if_neg c_5, ↓reduceIte] <;> rfl))
  · skip
    refine lv_iload_n hx hb dX0_dueAfter_6 rfl (lv_at hl 0 rfl) ?_
    refine k_calli (wc := ([] : va_W)) (w' := ([] : va_W)) (wn := ([] : va_W)) (va_runS (As := [.int (nI d)]) (rest := []) ⟨hx, hb, hml, hown, hts⟩ (mX0_mayEnd l D cI cQ cJ (nI d) _) (va_cwS 1 hts gX0_dueAfter_X0_mayEnd rfl rfl rfl (by decide +kernel) ⟨Nat.le_of_ble_eq_true rfl, Nat.le_of_ble_eq_true rfl⟩) (k_preS (wc := ([] : va_W)) hE hK hP hD [] (by decide) rfl [.int (nI d)]) rfl rfl hl.1 rfl (lv_room (Nat.le_of_ble_eq_true rfl)) dX0_dueAfter_7 ⟨Nat.zero_le _, Nat.zero_le _⟩) hP hD hS hA [] rfl rfl rfl (fun H locs hP hD hS => ?_)
    refine lv_if_eq (tgt := 17) hx hb dX0_dueAfter_10 (by decide) (fun c_6 => ?_) (fun c_6 => ?_)
    · skip
      refine lv_iconst (v := 0) hx hb dX0_dueAfter_17 (by decide) ?_
      exact k_iret hx hb hr hlocks hS hP dX0_dueAfter_18 (by (simp only [dA, if_pos c_1, if_pos c_6, ↓reduceIte] <;> rfl))
    · skip
      refine lv_iconst (v := 1) hx hb dX0_dueAfter_13 (by decide) ?_
      refine lv_goto (tgt := 18) hx hb dX0_dueAfter_14 (by decide) ?_
      exact k_iret hx hb hr hlocks hS hP dX0_dueAfter_18 (by (simp only [dA, if_pos c_1, if_neg c_6, ↓reduceIte] <;> rfl))
