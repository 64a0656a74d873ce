set_option maxHeartbeats 4000000 in
set_option maxRecDepth 100000 in
theorem mX4_drainedShare (l : Launch) (D : va_G) (cI cQ cJ : ClassId) (a : Nat → Nat) (r : rB) (h : Int64) (hF : FPok)  : Md l D (tY cI cQ cJ) yX4_drainedShare wsX4_drainedShare ({ frames := 1, cells := 0, slots := 0, locals := 20 } : Room) [.ref (a 0)] (cM cI a r h) (cM cI a (bp r 5 0 0) h) (shM (bp r 5 0 0)) := by
  refine M_of (cc := cX4_drainedShare) (maxL := 1) (ret := some .double) (Qc := fun A => va_Qd (fun (x : UInt64) (_ : Unit) => x = shM (bp r 5 0 0)) (fun _ t => Wd D (cM cI a (bp r 5 0 0) h) t) A) (by decide) rfl (Nat.le_of_ble_eq_true rfl) ?_
  intro p e s m below meth c A ls hB hE hP hK hD hA hl
  obtain ⟨hx, hb, hr, hml, hts, hown, hlocks⟩ := hB
  have hS : va_S A s.heap s.heap [] := va_S.rf
  have hl : lv_has ls 1 [(0, .ref (a 0))] := hl
  have hinX4 : ∀ w ∈ u_ws RX4 TX4 12, w ∈ wsX4_drainedShare := by decide +kernel
  have fl25 := hts (.fieldLink RX4 25 "RoofDrainsModel" "thrown" "I") (by decide +kernel)
  refine lv_aload_n hx hb dX4_drainedShare_0 rfl (lv_at hl 0 rfl) ?_
  refine lv_iconst (v := 0) hx hb dX4_drainedShare_1 (by decide) ?_
  refine k_put (D := D) (ci := 4) (v := .int 0) (ty := .int) (C := RX4) (T := TX4) (N := 12) hx hb hts hinX4 tyX4 tyX4_ok nmX4 hown hK hP hD hS 0 rfl rfl 0 (by decide) fl25 (fun _ h9 => h9) rfl (by decide +kernel) rfl rfl (Nat.le_of_ble_eq_true rfl) (ws' := cM cI a (bp r 5 0 0) h) rfl dX4_drainedShare_2 (fun H locs hP hD hS => ?_)
  refine lv_aload_n hx hb dX4_drainedShare_5 rfl (lv_at hl 0 rfl) ?_
  refine k_calld (wc := cM cI a (bp r 5 0 0) h) (w' := cM cI a (bp r 5 0 0) h) (wn := cM cI a (bp r 5 0 0) h) (va_runV (As := []) (rest := []) ⟨hx, hb, hml, hown, hts⟩ (mX4_share l D cI cQ cJ a (bp r 5 0 0) h hF _) (cwV 0 hts gX4_drainedShare_X4_share rfl rfl rfl (by decide +kernel) ⟨Nat.le_of_ble_eq_true rfl, Nat.le_of_ble_eq_true rfl⟩) (k_preV (wc := cM cI a (bp r 5 0 0) h) hE hK hP hD [0, 1, 2, 3, 4, 5] (by decide) rfl (ci := 4) (q0 := 0) rfl rfl []) rfl rfl hl.1 rfl (lv_room (Nat.le_of_ble_eq_true rfl)) dX4_drainedShare_6 ⟨Nat.zero_le _, Nat.zero_le _⟩) hP hD hS hA [0, 1, 2, 3, 4, 5] rfl rfl rfl (fun H locs hP hD hS => ?_)
  exact k_dret hx hb hr hlocks hS hP dX4_drainedShare_9 (by (first | with_reducible rfl | simp only [↓reduceIte]))
