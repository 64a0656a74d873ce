set_option maxHeartbeats 4000000 in
set_option maxRecDepth 100000 in
theorem mX4_takes (l : Launch) (D : va_G) (cI cQ cJ : ClassId) (a : Nat → Nat) (r : rB) (h : Int64) (x : Int32) (i : Nat) (hxi : x = nI i) (hi : i < 6) : Mi l D (tY cI cQ cJ) yX4_takes wsX4_takes ({ frames := 1, cells := 0, slots := 0, locals := 22 } : Room) [.ref (a 0), .int x] (cM cI a r h) (cM cI a r h) (takM r i) := by
  refine M_of (cc := cX4_takes) (maxL := 3) (ret := some .int) (Qc := fun A => va_Qi (fun (x : Int32) (_ : Unit) => x = takM r i) (fun _ t => Wd D (cM cI a r h) t) A) (by decide) rfl (Nat.le_of_ble_eq_true rfl) ?_
  intro p e s m below meth c A ls hB hE hP hK hD hA hl
  obtain ⟨hx, hb, hr, hml, hts, hown, hlocks⟩ := hB
  have hS : va_S A s.heap s.heap [] := va_S.rf
  have hl : lv_has ls 3 [(0, .ref (a 0)), (1, .int x)] := hl
  subst hxi
  refine lv_aload_n hx hb dX4_takes_0 rfl (lv_at hl 0 rfl) ?_
  refine lv_iload_n hx hb dX4_takes_1 rfl (lv_at hl 1 rfl) ?_
  refine lv_iconst (v := 1) hx hb dX4_takes_2 (by decide) ?_
  refine k_calli (wc := cM cI a r h) (w' := cM cI a r h) (wn := cM cI a r h) (va_runV (As := [.int (nI i), .int 1]) (rest := []) ⟨hx, hb, hml, hown, hts⟩ (mX4_of l D cI cQ cJ a r h (nI i) i 1 rfl (by omega) (by omega) _) (cwV 2 hts gX4_takes_X4_of rfl rfl rfl (by decide +kernel) ⟨Nat.le_of_ble_eq_true rfl, Nat.le_of_ble_eq_true rfl⟩) (k_preV (wc := cM cI a r h) hE hK hP hD [0, 1, 2, 3, 4, 5] (by decide) rfl (ci := 4) (q0 := 0) rfl rfl [.int (nI i), .int 1]) rfl rfl hl.1 rfl (lv_room (Nat.le_of_ble_eq_true rfl)) dX4_takes_3 ⟨Nat.zero_le _, Nat.zero_le _⟩) hP hD hS hA [0, 1, 2, 3, 4, 5] rfl rfl rfl (fun H locs hP hD hS => ?_)
  refine lv_bipush (v := 100) hx hb dX4_takes_6 (by decide) ?_
  refine lv_aload_n hx hb dX4_takes_8 rfl (lv_at hl 0 rfl) ?_
  refine lv_iload_n hx hb dX4_takes_9 rfl (lv_at hl 1 rfl) ?_
  refine lv_iconst (v := 2) hx hb dX4_takes_10 (by decide) ?_
  refine k_calli (wc := cM cI a r h) (w' := cM cI a r h) (wn := cM cI a r h) (va_runV (As := [.int (nI i), .int 2]) (rest := [.int 100, .int (r 0 (33 + 7 * i + 1))]) ⟨hx, hb, hml, hown, hts⟩ (mX4_of l D cI cQ cJ a r h (nI i) i 2 rfl (by omega) (by omega) _) (cwV 2 hts gX4_takes_X4_of rfl rfl rfl (by decide +kernel) ⟨Nat.le_of_ble_eq_true rfl, Nat.le_of_ble_eq_true rfl⟩) (k_preV (wc := cM cI a r h) hE hK hP hD [0, 1, 2, 3, 4, 5] (by decide) rfl (ci := 4) (q0 := 0) rfl rfl [.int (nI i), .int 2]) rfl rfl hl.1 rfl (lv_room (Nat.le_of_ble_eq_true rfl)) dX4_takes_11 ⟨Nat.zero_le _, Nat.zero_le _⟩) hP hD hS hA [0, 1, 2, 3, 4, 5] rfl rfl rfl (fun H locs hP hD hS => ?_)
  refine lv_isub hx hb dX4_takes_14 ?_
  refine lv_imul hx hb dX4_takes_15 ?_
  refine lv_bipush (v := 100) hx hb dX4_takes_16 (by decide) ?_
  refine lv_idiv hx hb dX4_takes_18 (by decide) ?_
  refine lv_topi (fun v2_1 ev2_1 => ?_)
  refine lv_istore_n (lv' := [(2, .int v2_1), (0, .ref (a 0)), (1, .int (nI i))]) hx hb dX4_takes_19 rfl hl (by decide) rfl (fun ls hl => ?_)
  refine lv_iload_n hx hb dX4_takes_20 rfl (lv_at hl 0 rfl) ?_
  refine lv_if_ne (tgt := 37) hx hb dX4_takes_21 (by decide) (fun c_2 => ?_) (fun c_2 => ?_)
  · skip
    refine lv_iload_n hx hb dX4_takes_37 rfl (lv_at hl 0 rfl) ?_
    exact k_iret hx hb hr hlocks hS hP dX4_takes_38 (by (replace ev2_1 := ev2_1.symm; subst ev2_1; simp only [takM, if_neg c_2, ↓reduceIte]))
  · skip
    refine lv_aload_n hx hb dX4_takes_24 rfl (lv_at hl 1 rfl) ?_
    refine lv_iload_n hx hb dX4_takes_25 rfl (lv_at hl 2 rfl) ?_
    refine lv_iconst (v := 1) hx hb dX4_takes_26 (by decide) ?_
    refine k_calli (wc := cM cI a r h) (w' := cM cI a r h) (wn := cM cI a r h) (va_runV (As := [.int (nI i), .int 1]) (rest := []) ⟨hx, hb, hml, hown, hts⟩ (mX4_of l D cI cQ cJ a r h (nI i) i 1 rfl (by omega) (by omega) _) (cwV 2 hts gX4_takes_X4_of rfl rfl rfl (by decide +kernel) ⟨Nat.le_of_ble_eq_true rfl, Nat.le_of_ble_eq_true rfl⟩) (k_preV (wc := cM cI a r h) hE hK hP hD [0, 1, 2, 3, 4, 5] (by decide) rfl (ci := 4) (q0 := 0) rfl rfl [.int (nI i), .int 1]) rfl rfl hl.1 rfl (lv_room (Nat.le_of_ble_eq_true rfl)) dX4_takes_27 ⟨Nat.zero_le _, Nat.zero_le _⟩) hP hD hS hA [0, 1, 2, 3, 4, 5] rfl rfl rfl (fun H locs hP hD hS => ?_)
    refine lv_if_le (tgt := 37) hx hb dX4_takes_30 (by decide) (fun c_3 => ?_) (fun c_3 => ?_)
    · skip
      refine lv_iload_n hx hb dX4_takes_37 rfl (lv_at hl 0 rfl) ?_
      exact k_iret hx hb hr hlocks hS hP dX4_takes_38 (by (replace ev2_1 := ev2_1.symm; subst ev2_1; simp only [takM, if_pos c_2, if_pos c_3, ↓reduceIte]))
    · skip
      refine lv_iconst (v := 1) hx hb dX4_takes_33 (by decide) ?_
      refine lv_goto (tgt := 38) hx hb dX4_takes_34 (by decide) ?_
      exact k_iret hx hb hr hlocks hS hP dX4_takes_38 (by (replace ev2_1 := ev2_1.symm; subst ev2_1; simp only [takM, if_pos c_2, if_neg c_3, ↓reduceIte]))
