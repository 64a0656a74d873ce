set_option maxHeartbeats 4000000 in
set_option maxRecDepth 100000 in
theorem mX0_add (l : Launch) (D : va_G) (cI cQ cJ : ClassId) (a : Nat → Nat) (r : rB) (L : Nat) (hL : r 1 0 = nI L) (hb60 : L < 60) (x : Int32) : Mv l D (tY cI cQ cJ) yX0_add wsX0_add ({ frames := 0, cells := 0, slots := 0, locals := 0 } : Room) [.ref (a 0), .int x] (cT cI a r) (cT cI a (bp (bp r 0 L x) 1 0 (nI (L + 1)))) := by
  refine M_of (cc := cX0_add) (maxL := 2) (ret := none) (Qc := fun A => va_Qv (fun (_ : Unit) => True) (fun _ t => Wd D (cT cI a (bp (bp r 0 L x) 1 0 (nI (L + 1)))) t) A) (by decide) rfl (Nat.le_of_ble_eq_true rfl) ?_
  intro p e s m below meth c A ls hB hE hP hK hD hA hl
  obtain ⟨hx, hb, hr, hml, hts, hown, hlocks⟩ := hB
  have hS : va_S A s.heap s.heap [] := va_S.rf
  have hl : lv_has ls 2 [(0, .ref (a 0)), (1, .int x)] := hl
  have hinX0 : ∀ w ∈ u_ws RX0 TX0 2, w ∈ wsX0_add := by decide +kernel
  have fl9 := hts (.fieldLink RX0 9 "RoofDrains$RainText" "codes" "[I") (by decide +kernel)
  have fl13 := hts (.fieldLink RX0 13 "RoofDrains$RainText" "length" "I") (by decide +kernel)
  refine lv_aload_n hx hb dX0_add_0 rfl (lv_at hl 0 rfl) ?_
  refine va_get (D := D) (ci := 0) (v := .ref (a 1)) (C := RX0) (T := TX0) (N := 2) hx hb hts hinX0 hown hK hP 0 rfl rfl 0 (by decide) fl9 (fun _ h9 => h9) rfl dX0_add_1 ?_
  refine lv_aload_n hx hb dX0_add_4 rfl (lv_at hl 0 rfl) ?_
  refine va_get (D := D) (ci := 0) (v := .int (nI L)) (C := RX0) (T := TX0) (N := 2) hx hb hts hinX0 hown hK hP 0 rfl rfl 1 (by decide) fl13 (fun _ h9 => h9) (by first | rfl | simp [bp, upd, *]) dX0_add_5 ?_
  refine lv_iload_n hx hb dX0_add_8 rfl (lv_at hl 1 rfl) ?_
  refine k_iast (k := L) (ws' := cT cI a (bp r 0 L x)) hx hb hK hP hD hS 1 0 rfl rfl (vp_in_nI (n := L) (by omega) (by omega)) (nI_clamp (n := L) (by omega)) rfl dX0_add_9 (fun H locs hP hD hS => ?_)
  refine lv_aload_n hx hb dX0_add_10 rfl (lv_at hl 0 rfl) ?_
  refine lv_dup hx hb dX0_add_11 rfl ?_
  refine va_get (D := D) (ci := 0) (v := .int (nI L)) (C := RX0) (T := TX0) (N := 2) hx hb hts hinX0 hown hK hP 0 rfl rfl 1 (by decide) fl13 (fun _ h9 => h9) (by first | rfl | simp [bp, upd, *]) dX0_add_12 ?_
  refine lv_iconst (v := 1) hx hb dX0_add_15 (by decide) ?_
  refine lv_iadd hx hb dX0_add_16 ?_
  refine lv_eqi (y := nI (L + 1)) (nI_add L 1) ?_
  refine k_put (D := D) (ci := 0) (v := .int (nI (L + 1))) (ty := .int) (C := RX0) (T := TX0) (N := 2) hx hb hts hinX0 tyX0 tyX0_ok nmX0 hown hK hP hD hS 0 rfl rfl 1 (by decide) fl13 (fun _ h9 => h9) rfl (by decide +kernel) rfl rfl (Nat.le_of_ble_eq_true rfl) (ws' := cT cI a (bp (bp r 0 L x) 1 0 (nI (L + 1)))) rfl dX0_add_17 (fun H locs hP hD hS => ?_)
  exact k_vret hx hb hr hlocks hS hP dX0_add_20
