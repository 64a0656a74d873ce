set_option maxHeartbeats 4000000 in
set_option maxRecDepth 100000 in
theorem mX0_codeAt (l : Launch) (D : va_G) (cI cQ cJ : ClassId) (a : Nat → Nat) (r : rB) (q : Int32) (i : Nat) (hq : vp_in q 60) (hi : q.toNatClampNeg = i) : Mi l D (tY cI cQ cJ) yX0_codeAt wsX0_codeAt ({ frames := 0, cells := 0, slots := 0, locals := 0 } : Room) [.ref (a 0), .int q] (cT cI a r) (cT cI a r) (r 0 i) := by
  refine M_of (cc := cX0_codeAt) (maxL := 2) (ret := some .int) (Qc := fun A => va_Qi (fun (x : Int32) (_ : Unit) => x = r 0 i) (fun _ t => Wd D (cT cI a r) t) A) (by decide) rfl (Nat.le_of_ble_eq_true rfl) ?_
  intro p e s m below meth c A ls hB hE hP hK hD hA hl
  obtain ⟨hx, hb, hr, hml, hts, hown, hlocks⟩ := hB
  have hS : va_S A s.heap s.heap [] := va_S.rf
  have hl : lv_has ls 2 [(0, .ref (a 0)), (1, .int q)] := hl
  have hinX0 : ∀ w ∈ u_ws RX0 TX0 2, w ∈ wsX0_codeAt := by decide +kernel
  have fl9 := hts (.fieldLink RX0 9 "RoofDrains$RainText" "codes" "[I") (by decide +kernel)
  refine lv_aload_n hx hb dX0_codeAt_0 rfl (lv_at hl 0 rfl) ?_
  refine va_get (D := D) (ci := 0) (v := .ref (a 1)) (C := RX0) (T := TX0) (N := 2) hx hb hts hinX0 hown hK hP 0 rfl rfl 0 (by decide) fl9 (fun _ h9 => h9) rfl dX0_codeAt_1 ?_
  refine lv_iload_n hx hb dX0_codeAt_4 rfl (lv_at hl 1 rfl) ?_
  refine k_iald (k := i) (v := r 0 i) hx hb hK hP 1 0 rfl rfl hq hi (rfl) dX0_codeAt_5 ?_
  exact k_iret hx hb hr hlocks hS hP dX0_codeAt_6 (by (simp only [↓reduceIte]))
