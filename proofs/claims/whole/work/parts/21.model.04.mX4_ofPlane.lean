set_option maxHeartbeats 4000000 in
set_option maxRecDepth 100000 in
theorem mX4_ofPlane (l : Launch) (D : va_G) (cI cQ cJ : ClassId) (a : Nat → Nat) (r : rB) (h : Int64) (x : Int32) (i w : Nat) (hxi : x = nI i) (hi : i < 6) (hw : w < 4) : Mi l D (tY cI cQ cJ) yX4_ofPlane wsX4_ofPlane ({ frames := 0, cells := 0, slots := 0, locals := 0 } : Room) [.ref (a 0), .int x, .int (nI w)] (cM cI a r h) (cM cI a r h) (r 0 (9 + 4 * i + w)) := by
  refine M_of (cc := cX4_ofPlane) (maxL := 3) (ret := some .int) (Qc := fun A => va_Qi (fun (x : Int32) (_ : Unit) => x = r 0 (9 + 4 * i + w)) (fun _ t => Wd D (cM cI a r h) t) A) (by decide) rfl (Nat.le_of_ble_eq_true rfl) ?_
  intro p e s m below meth c A ls hB hE hP hK hD hA hl
  obtain ⟨hx, hb, hr, hml, hts, hown, hlocks⟩ := hB
  have hS : va_S A s.heap s.heap [] := va_S.rf
  have hl : lv_has ls 3 [(0, .ref (a 0)), (1, .int x), (2, .int (nI w))] := hl
  subst hxi
  have hinX4 : ∀ w ∈ u_ws RX4 TX4 12, w ∈ wsX4_ofPlane := by decide +kernel
  have fl7 := hts (.fieldLink RX4 7 "RoofDrainsModel" "s" "[I") (by decide +kernel)
  refine lv_aload_n hx hb dX4_ofPlane_0 rfl (lv_at hl 0 rfl) ?_
  refine va_get (D := D) (ci := 4) (v := .ref (a 1)) (C := RX4) (T := TX4) (N := 12) hx hb hts hinX4 hown hK hP 0 rfl rfl 1 (by decide) fl7 (fun _ h9 => h9) rfl dX4_ofPlane_1 ?_
  refine lv_bipush (v := 9) hx hb dX4_ofPlane_4 (by decide) ?_
  refine lv_iconst (v := 4) hx hb dX4_ofPlane_6 (by decide) ?_
  refine lv_iload_n hx hb dX4_ofPlane_7 rfl (lv_at hl 1 rfl) ?_
  refine lv_imul hx hb dX4_ofPlane_8 ?_
  refine lv_eqi (y := nI (4 * i)) (pk_mul 4 i) ?_
  refine lv_iadd hx hb dX4_ofPlane_9 ?_
  refine lv_eqi (y := nI (9 + (4 * i))) (nI_add 9 (4 * i)) ?_
  refine lv_iload_n hx hb dX4_ofPlane_10 rfl (lv_at hl 2 rfl) ?_
  refine lv_iadd hx hb dX4_ofPlane_11 ?_
  refine lv_eqi (y := nI ((9 + 4 * i) + w)) (nI_add (9 + 4 * i) w) ?_
  refine k_iald (k := 9 + 4 * i + w) (v := r 0 (9 + 4 * i + w)) hx hb hK hP 1 0 rfl rfl (vp_in_nI (n := 9 + 4 * i + w) (by omega) (by omega)) (nI_clamp (n := 9 + 4 * i + w) (by omega)) (rfl) dX4_ofPlane_12 ?_
  exact k_iret hx hb hr hlocks hS hP dX4_ofPlane_13 (by (simp only [↓reduceIte]))
