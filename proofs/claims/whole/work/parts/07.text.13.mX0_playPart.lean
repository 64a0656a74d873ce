set_option maxHeartbeats 4000000 in
set_option maxRecDepth 100000 in
theorem mX0_playPart (l : Launch) (D : va_G) (cI cQ cJ : ClassId) (a : Nat → Nat) (r : rB) (k ra nu : Int32) : Mv l D (tY cI cQ cJ) yX0_playPart wsX0_playPart ({ frames := 4, cells := 0, slots := 0, locals := 92 } : Room) [.ref (a 0), .int k, .int ra, .int nu] (cR cI a r) (cR cI a (playP r k ra nu)) := by
  refine M_of (cc := cX0_playPart) (maxL := 4) (ret := none) (Qc := fun A => va_Qv (fun (_ : Unit) => True) (fun _ t => Wd D (cR cI a (playP r k ra nu)) t) A) (by decide) rfl (Nat.le_of_ble_eq_true rfl) ?_
  intro p e s m below meth c A ls hB hE hP hK hD hA hl
  obtain ⟨hx, hb, hr, hml, hts, hown, hlocks⟩ := hB
  have hS : va_S A s.heap s.heap [] := va_S.rf
  have hl : lv_has ls 4 [(0, .ref (a 0)), (1, .int k), (2, .int ra), (3, .int nu)] := hl
  refine lv_iload_n hx hb dX0_playPart_0 rfl (lv_at hl 1 rfl) ?_
  refine lv_bipush (v := 119) hx hb dX0_playPart_1 (by decide) ?_
  refine lv_icmp_ne (tgt := 13) hx hb dX0_playPart_3 (by decide) (fun c_1 => ?_) (fun c_1 => ?_)
  · skip
    refine lv_iload_n hx hb dX0_playPart_13 rfl (lv_at hl 1 rfl) ?_
    refine lv_bipush (v := 99) hx hb dX0_playPart_14 (by decide) ?_
    refine lv_icmp_ne (tgt := 27) hx hb dX0_playPart_16 (by decide) (fun c_2 => ?_) (fun c_2 => ?_)
    · skip
      refine lv_aload_n hx hb dX0_playPart_27 rfl (lv_at hl 0 rfl) ?_
      refine lv_iload_n hx hb dX0_playPart_28 rfl (lv_at hl 2 rfl) ?_
      refine lv_iload_n hx hb dX0_playPart_29 rfl (lv_at hl 3 rfl) ?_
      obtain ⟨r_3, er_3⟩ : ∃ z : rB, z = minutesC nu.toNatClampNeg r ra := ⟨_, rfl⟩
      have hm_4 := mX1_passMinutes l D cI cQ cJ a r ra nu nu.toNatClampNeg rfl
      rw [← er_3] at hm_4
      refine k_callv (wc := cR cI a r) (w' := cR cI a r_3) (wn := cR cI a r_3) (va_runV (As := [.int ra, .int nu]) (rest := []) ⟨hx, hb, hml, hown, hts⟩ (hm_4 _) (cwV 2 hts gX0_playPart_X1_passMinutes rfl rfl rfl (by decide +kernel) ⟨Nat.le_of_ble_eq_true rfl, Nat.le_of_ble_eq_true rfl⟩) (k_preV (wc := cR cI a r) hE hK hP hD [0, 1, 2, 3, 4, 5, 6, 7, 8, 9, 10, 11, 12] (by decide) rfl (ci := 1) (q0 := 0) rfl rfl [.int ra, .int nu]) rfl rfl hl.1 rfl (lv_room (Nat.le_of_ble_eq_true rfl)) dX0_playPart_30 ⟨Nat.zero_le _, Nat.zero_le _⟩) hP hD hS hA [0, 1, 2, 3, 4, 5, 6, 7, 8, 9, 10, 11, 12] rfl rfl rfl (fun H locs hP hD hS => ?_)
      have e9 : (r_3 : rB) = playP r k ra nu := by (replace er_3 := er_3.symm; subst er_3; simp only [playP, if_neg c_1, if_neg c_2, ↓reduceIte])
      rw [e9] at hP
      exact k_vret hx hb hr hlocks hS hP dX0_playPart_33
    · skip
      refine lv_aload_n hx hb dX0_playPart_19 rfl (lv_at hl 0 rfl) ?_
      refine lv_iload_n hx hb dX0_playPart_20 rfl (lv_at hl 3 rfl) ?_
      obtain ⟨r_5, er_5⟩ : ∃ z : rB, z = clnC r nu := ⟨_, rfl⟩
      have hm_6 := mX0_cleanOn l D cI cQ cJ a r nu
      rw [← er_5] at hm_6
      refine k_callv (wc := cR cI a r) (w' := cR cI a r_5) (wn := cR cI a r_5) (va_runS (As := [.ref (a 0), .int nu]) (rest := []) ⟨hx, hb, hml, hown, hts⟩ (hm_6 _) (va_cwS 2 hts gX0_playPart_X0_cleanOn rfl rfl rfl (by decide +kernel) ⟨Nat.le_of_ble_eq_true rfl, Nat.le_of_ble_eq_true rfl⟩) (k_preS (wc := cR cI a r) hE hK hP hD [0, 1, 2, 3, 4, 5, 6, 7, 8, 9, 10, 11, 12] (by decide) rfl [.ref (a 0), .int nu]) rfl rfl hl.1 rfl (lv_room (Nat.le_of_ble_eq_true rfl)) dX0_playPart_21 ⟨Nat.zero_le _, Nat.zero_le _⟩) hP hD hS hA [0, 1, 2, 3, 4, 5, 6, 7, 8, 9, 10, 11, 12] rfl rfl rfl (fun H locs hP hD hS => ?_)
      refine lv_goto (tgt := 33) hx hb dX0_playPart_24 (by decide) ?_
      have e9 : (r_5 : rB) = playP r k ra nu := by (replace er_5 := er_5.symm; subst er_5; simp only [playP, if_neg c_1, if_pos c_2, ↓reduceIte])
      rw [e9] at hP
      exact k_vret hx hb hr hlocks hS hP dX0_playPart_33
  · skip
    refine lv_aload_n hx hb dX0_playPart_6 rfl (lv_at hl 0 rfl) ?_
    obtain ⟨r_7, er_7⟩ : ∃ z : rB, z = weekC r := ⟨_, rfl⟩
    have hm_8 := mX1_passWeek l D cI cQ cJ a r
    rw [← er_7] at hm_8
    refine k_callv (wc := cR cI a r) (w' := cR cI a r_7) (wn := cR cI a r_7) (va_runV (As := []) (rest := []) ⟨hx, hb, hml, hown, hts⟩ (hm_8 _) (cwV 0 hts gX0_playPart_X1_passWeek rfl rfl rfl (by decide +kernel) ⟨Nat.le_of_ble_eq_true rfl, Nat.le_of_ble_eq_true rfl⟩) (k_preV (wc := cR cI a r) hE hK hP hD [0, 1, 2, 3, 4, 5, 6, 7, 8, 9, 10, 11, 12] (by decide) rfl (ci := 1) (q0 := 0) rfl rfl []) rfl rfl hl.1 rfl (lv_room (Nat.le_of_ble_eq_true rfl)) dX0_playPart_7 ⟨Nat.zero_le _, Nat.zero_le _⟩) hP hD hS hA [0, 1, 2, 3, 4, 5, 6, 7, 8, 9, 10, 11, 12] rfl rfl rfl (fun H locs hP hD hS => ?_)
    refine lv_goto (tgt := 33) hx hb dX0_playPart_10 (by decide) ?_
    have e9 : (r_7 : rB) = playP r k ra nu := by (replace er_7 := er_7.symm; subst er_7; simp only [playP, if_pos c_1, ↓reduceIte])
    rw [e9] at hP
    exact k_vret hx hb hr hlocks hS hP dX0_playPart_33
