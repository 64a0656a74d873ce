set_option maxHeartbeats 4000000 in
set_option maxRecDepth 100000 in
theorem mX0_cleanOn (l : Launch) (D : va_G) (cI cQ cJ : ClassId) (a : Nat → Nat) (r : rB) (q : Int32) : Mv l D (tY cI cQ cJ) yX0_cleanOn wsX0_cleanOn ({ frames := 1, cells := 0, slots := 0, locals := 22 } : Room) [.ref (a 0), .int q] (cR cI a r) (cR cI a (clnC r q)) := by
  refine M_of (cc := cX0_cleanOn) (maxL := 2) (ret := none) (Qc := fun A => va_Qv (fun (_ : Unit) => True) (fun _ t => Wd D (cR cI a (clnC r q)) t) A) (by decide) rfl (Nat.le_of_ble_eq_true rfl) ?_
  intro p e s m below meth c A ls hB hE hP hK hD hA hl
  obtain ⟨hx, hb, hr, hml, hts, hown, hlocks⟩ := hB
  have hS : va_S A s.heap s.heap [] := va_S.rf
  have hl : lv_has ls 2 [(0, .ref (a 0)), (1, .int q)] := hl
  refine lv_iload_n hx hb dX0_cleanOn_0 rfl (lv_at hl 1 rfl) ?_
  refine k_calli (wc := ([] : va_W)) (w' := ([] : va_W)) (wn := cR cI a r) (va_runSN (As := [.int q]) (rest := []) ⟨hx, hb, hml, hown, hts⟩ (mX3_isGutter l D cI cQ cJ q _) ⟨va_cnB 1 hts gX0_cleanOn_X3_isGutter_n58 rfl rfl rfl hE.2.2 (hts (.initialized RX3) (by decide +kernel)) (by decide +kernel) ⟨Nat.le_of_ble_eq_true rfl, Nat.le_of_ble_eq_true rfl⟩, hts (.static yX3_isGutter) (by decide +kernel), trivial⟩ (k_preS (wc := ([] : va_W)) hE hK hP hD [] (by decide) rfl [.int q]) rfl rfl hl.1 rfl (lv_room (Nat.le_of_ble_eq_true rfl)) dX0_cleanOn_1 ⟨Nat.zero_le _, Nat.zero_le _⟩) hP hD hS hA [] rfl rfl rfl (fun H locs hP hD hS => ?_)
  refine lv_if_eq (tgt := 13) hx hb dX0_cleanOn_4 (by decide) (fun c_1 => ?_) (fun c_1 => ?_)
  · skip
    have e9 : (r : rB) = clnC r q := by (simp only [clnC, if_pos c_1, ↓reduceIte])
    rw [e9] at hP
    exact k_vret hx hb hr hlocks hS hP dX0_cleanOn_13
  · skip
    refine lv_aload_n hx hb dX0_cleanOn_7 rfl (lv_at hl 0 rfl) ?_
    refine lv_iload_n hx hb dX0_cleanOn_8 rfl (lv_at hl 1 rfl) ?_
    obtain ⟨r_2, er_2⟩ : ∃ z : rB, z = bp r 6 q.toNatClampNeg 0 := ⟨_, rfl⟩
    have hm_3 := mX1_takeLeaves l D cI cQ cJ a r q q.toNatClampNeg (zL_in (n := 6) rfl rfl c_1) rfl
    rw [← er_2] at hm_3
    refine k_calli (wc := cR cI a r) (w' := cR cI a r_2) (wn := cR cI a r_2) (va_runV (As := [.int q]) (rest := []) ⟨hx, hb, hml, hown, hts⟩ (hm_3 _) (cwV 1 hts gX0_cleanOn_X1_takeLeaves rfl rfl rfl (by decide +kernel) ⟨Nat.le_of_ble_eq_true rfl, Nat.le_of_ble_eq_true rfl⟩) (k_preV (wc := cR cI a r) hE hK hP hD [0, 1, 2, 3, 4, 5, 6, 7, 8, 9, 10, 11, 12] (by decide) rfl (ci := 1) (q0 := 0) rfl rfl [.int q]) rfl rfl hl.1 rfl (lv_room (Nat.le_of_ble_eq_true rfl)) dX0_cleanOn_9 ⟨Nat.zero_le _, Nat.zero_le _⟩) hP hD hS hA [0, 1, 2, 3, 4, 5, 6, 7, 8, 9, 10, 11, 12] rfl rfl rfl (fun H locs hP hD hS => ?_)
    refine lv_pop hx hb dX0_cleanOn_12 rfl ?_
    have e9 : (r_2 : rB) = clnC r q := by (replace er_2 := er_2.symm; subst er_2; simp only [clnC, if_neg c_1, ↓reduceIte])
    rw [e9] at hP
    exact k_vret hx hb hr hlocks hS hP dX0_cleanOn_13
