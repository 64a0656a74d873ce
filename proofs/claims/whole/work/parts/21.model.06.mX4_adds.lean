set_option maxHeartbeats 4000000 in
set_option maxRecDepth 100000 in
theorem mX4_adds (l : Launch) (D : va_G) (cI cQ cJ : ClassId) (a : Nat → Nat) (r : rB) (h : Int64) (x : Int32) (i w : Nat) (hxi : x = nI i) (hi : i < 6) (hw : w < 7) (y : Int32) : Mv l D (tY cI cQ cJ) yX4_adds wsX4_adds ({ frames := 0, cells := 0, slots := 0, locals := 0 } : Room) [.ref (a 0), .int x, .int (nI w), .int y] (cM cI a r h) (cM cI a (addM r i w y) h) := by
  refine M_of (cc := cX4_adds) (maxL := 4) (ret := none) (Qc := fun A => va_Qv (fun (_ : Unit) => True) (fun _ t => Wd D (cM cI a (addM r i w y) h) t) A) (by decide) rfl (Nat.le_of_ble_eq_true rfl) ?_
  intro p e s m below meth c A ls hB hE hP hK hD hA hl
  obtain ⟨hx, hb, hr, hml, hts, hown, hlocks⟩ := hB
  have hS : va_S A s.heap s.heap [] := va_S.rf
  have hl : lv_has ls 4 [(0, .ref (a 0)), (1, .int x), (2, .int (nI w)), (3, .int y)] := hl
  subst hxi
  have hinX4 : ∀ w ∈ u_ws RX4 TX4 12, w ∈ wsX4_adds := by decide +kernel
  have fl7 := hts (.fieldLink RX4 7 "RoofDrainsModel" "s" "[I") (by decide +kernel)
  refine lv_aload_n hx hb dX4_adds_0 rfl (lv_at hl 0 rfl) ?_
  refine va_get (D := D) (ci := 4) (v := .ref (a 1)) (C := RX4) (T := TX4) (N := 12) hx hb hts hinX4 hown hK hP 0 rfl rfl 1 (by decide) fl7 (fun _ h9 => h9) rfl dX4_adds_1 ?_
  refine lv_bipush (v := 33) hx hb dX4_adds_4 (by decide) ?_
  refine lv_bipush (v := 7) hx hb dX4_adds_6 (by decide) ?_
  refine lv_iload_n hx hb dX4_adds_8 rfl (lv_at hl 1 rfl) ?_
  refine lv_imul hx hb dX4_adds_9 ?_
  refine lv_eqi (y := nI (7 * i)) (pk_mul 7 i) ?_
  refine lv_iadd hx hb dX4_adds_10 ?_
  refine lv_eqi (y := nI (33 + (7 * i))) (nI_add 33 (7 * i)) ?_
  refine lv_iload_n hx hb dX4_adds_11 rfl (lv_at hl 2 rfl) ?_
  refine lv_iadd hx hb dX4_adds_12 ?_
  refine lv_eqi (y := nI ((33 + 7 * i) + w)) (nI_add (33 + 7 * i) w) ?_
  refine lv_dup2_11 hx hb dX4_adds_13 rfl rfl ?_
  refine k_iald (k := 33 + 7 * i + w) (v := r 0 (33 + 7 * i + w)) hx hb hK hP 1 0 rfl rfl (vp_in_nI (n := 33 + 7 * i + w) (by omega) (by omega)) (nI_clamp (n := 33 + 7 * i + w) (by omega)) (rfl) dX4_adds_14 ?_
  refine lv_iload_n hx hb dX4_adds_15 rfl (lv_at hl 3 rfl) ?_
  refine lv_iadd hx hb dX4_adds_16 ?_
  refine lv_topi (fun a_1 ea_1 => ?_)
  refine k_iast (k := 33 + 7 * i + w) (ws' := cM cI a (bp r 0 (33 + 7 * i + w) a_1) h) hx hb hK hP hD hS 1 0 rfl rfl (vp_in_nI (n := 33 + 7 * i + w) (by omega) (by omega)) (nI_clamp (n := 33 + 7 * i + w) (by omega)) rfl dX4_adds_17 (fun H locs hP hD hS => ?_)
  have e9 : (bp r 0 (33 + 7 * i + w) a_1 : rB) = addM r i w y := by (replace ea_1 := ea_1.symm; subst ea_1; simp only [addM, ↓reduceIte])
  rw [e9] at hP
  exact k_vret hx hb hr hlocks hS hP dX4_adds_18
