set_option maxHeartbeats 4000000 in
set_option maxRecDepth 100000 in
theorem mX4_hashes (l : Launch) (D : va_G) (cI cQ cJ : ClassId) (a : Nat → Nat) (r : rB) (h : Int64) (v : Int64)  : Mv l D (tY cI cQ cJ) yX4_hashes wsX4_hashes ({ frames := 0, cells := 0, slots := 0, locals := 0 } : Room) [.ref (a 0), .long v] (cM cI a r h) (cM cI a r (hsh h v)) := by
  refine M_of (cc := cX4_hashes) (maxL := 3) (ret := none) (Qc := fun A => va_Qv (fun (_ : Unit) => True) (fun _ t => Wd D (cM cI a r (hsh h v)) t) A) (by decide) rfl (Nat.le_of_ble_eq_true rfl) ?_
  intro p e s m below meth c A ls hB hE hP hK hD hA hl
  obtain ⟨hx, hb, hr, hml, hts, hown, hlocks⟩ := hB
  have hS : va_S A s.heap s.heap [] := va_S.rf
  have hl : lv_has ls 3 [(0, .ref (a 0)), (1, .long v)] := hl
  have hinX4 : ∀ w ∈ u_ws RX4 TX4 12, w ∈ wsX4_hashes := by decide +kernel
  have fl157 := hts (.fieldLink RX4 157 "RoofDrainsModel" "hash" "J") (by decide +kernel)
  refine lv_aload_n hx hb dX4_hashes_0 rfl (lv_at hl 0 rfl) ?_
  refine lv_ldc2 (v := 31) hx hb hown (hts (.constantLong RX4 155 31) (by decide +kernel)) dX4_hashes_1 ?_
  refine lv_aload_n hx hb dX4_hashes_4 rfl (lv_at hl 0 rfl) ?_
  refine va_get (D := D) (ci := 4) (v := .long h) (C := RX4) (T := TX4) (N := 12) hx hb hts hinX4 hown hK hP 0 rfl rfl 11 (by decide) fl157 (fun _ h9 => h9) rfl dX4_hashes_5 ?_
  refine lv_lmul hx hb dX4_hashes_8 ?_
  refine lv_lload_n hx hb dX4_hashes_9 rfl (lv_at hl 1 rfl) ?_
  refine lv_ladd hx hb dX4_hashes_10 ?_
  refine k_put (D := D) (ci := 4) (v := .long ((31 * h) + v)) (ty := .long) (C := RX4) (T := TX4) (N := 12) hx hb hts hinX4 tyX4 tyX4_ok nmX4 hown hK hP hD hS 0 rfl rfl 11 (by decide) fl157 (fun _ h9 => h9) rfl (by decide +kernel) rfl rfl (Nat.le_of_ble_eq_true rfl) (ws' := cM cI a r ((31 * h) + v)) rfl dX4_hashes_11 (fun H locs hP hD hS => ?_)
  exact k_vret hx hb hr hlocks hS hP dX4_hashes_14
