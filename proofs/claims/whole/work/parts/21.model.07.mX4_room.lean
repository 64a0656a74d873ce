set_option maxHeartbeats 4000000 in
set_option maxRecDepth 100000 in
theorem mX4_room (l : Launch) (D : va_G) (cI cQ cJ : ClassId) (a : Nat → Nat) (r : rB) (h : Int64) (x : Int32) (i : Nat) (hxi : x = nI i) (hi : i < 6) : Mi l D (tY cI cQ cJ) yX4_room wsX4_room ({ frames := 1, cells := 0, slots := 0, locals := 22 } : Room) [.ref (a 0), .int x] (cM cI a r h) (cM cI a r h) (roomM r i) := by
  refine M_of (cc := cX4_room) (maxL := 2) (ret := some .int) (Qc := fun A => va_Qi (fun (x : Int32) (_ : Unit) => x = roomM r i) (fun _ t => Wd D (cM cI a r h) t) A) (by decide) rfl (Nat.le_of_ble_eq_true rfl) ?_
  intro p e s m below meth c A ls hB hE hP hK hD hA hl
  obtain ⟨hx, hb, hr, hml, hts, hown, hlocks⟩ := hB
  have hS : va_S A s.heap s.heap [] := va_S.rf
  have hl : lv_has ls 2 [(0, .ref (a 0)), (1, .int x)] := hl
  subst hxi
  refine lv_aload_n hx hb dX4_room_0 rfl (lv_at hl 0 rfl) ?_
  refine lv_iload_n hx hb dX4_room_1 rfl (lv_at hl 1 rfl) ?_
  refine lv_iconst (v := 0) hx hb dX4_room_2 (by decide) ?_
  refine k_calli (wc := cM cI a r h) (w' := cM cI a r h) (wn := cM cI a r h) (va_runV (As := [.int (nI i), .int 0]) (rest := []) ⟨hx, hb, hml, hown, hts⟩ (mX4_of l D cI cQ cJ a r h (nI i) i 0 rfl (by omega) (by omega) _) (cwV 2 hts gX4_room_X4_of rfl rfl rfl (by decide +kernel) ⟨Nat.le_of_ble_eq_true rfl, Nat.le_of_ble_eq_true rfl⟩) (k_preV (wc := cM cI a r h) hE hK hP hD [0, 1, 2, 3, 4, 5] (by decide) rfl (ci := 4) (q0 := 0) rfl rfl [.int (nI i), .int 0]) rfl rfl hl.1 rfl (lv_room (Nat.le_of_ble_eq_true rfl)) dX4_room_3 ⟨Nat.zero_le _, Nat.zero_le _⟩) hP hD hS hA [0, 1, 2, 3, 4, 5] rfl rfl rfl (fun H locs hP hD hS => ?_)
  refine lv_bipush (v := 100) hx hb dX4_room_6 (by decide) ?_
  refine lv_aload_n hx hb dX4_room_8 rfl (lv_at hl 0 rfl) ?_
  refine lv_iload_n hx hb dX4_room_9 rfl (lv_at hl 1 rfl) ?_
  refine lv_iconst (v := 2) hx hb dX4_room_10 (by decide) ?_
  refine k_calli (wc := cM cI a r h) (w' := cM cI a r h) (wn := cM cI a r h) (va_runV (As := [.int (nI i), .int 2]) (rest := [.int 100, .int (r 0 (33 + 7 * i + 0))]) ⟨hx, hb, hml, hown, hts⟩ (mX4_of l D cI cQ cJ a r h (nI i) i 2 rfl (by omega) (by omega) _) (cwV 2 hts gX4_room_X4_of rfl rfl rfl (by decide +kernel) ⟨Nat.le_of_ble_eq_true rfl, Nat.le_of_ble_eq_true rfl⟩) (k_preV (wc := cM cI a r h) hE hK hP hD [0, 1, 2, 3, 4, 5] (by decide) rfl (ci := 4) (q0 := 0) rfl rfl [.int (nI i), .int 2]) rfl rfl hl.1 rfl (lv_room (Nat.le_of_ble_eq_true rfl)) dX4_room_11 ⟨Nat.zero_le _, Nat.zero_le _⟩) hP hD hS hA [0, 1, 2, 3, 4, 5] rfl rfl rfl (fun H locs hP hD hS => ?_)
  refine lv_isub hx hb dX4_room_14 ?_
  refine lv_imul hx hb dX4_room_15 ?_
  refine lv_bipush (v := 100) hx hb dX4_room_16 (by decide) ?_
  refine lv_idiv hx hb dX4_room_18 (by decide) ?_
  exact k_iret hx hb hr hlocks hS hP dX4_room_19 (by (simp only [roomM, ↓reduceIte]))
