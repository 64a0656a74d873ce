set_option maxHeartbeats 4000000 in
set_option maxRecDepth 100000 in
theorem mJ_isNaN (l : Launch) (D : va_G) (cI cQ cJ : ClassId) (x0 : UInt64) (hx0 : Op.cmpValue (FP.dcmp x0 x0) .l = 0) : Mi l D (tY cI cQ cJ) yJxe99ae_isNaN_b9ae7 wsJxe99ae_isNaN_b9ae7 ({ frames := 0, cells := 0, slots := 0, locals := 0 } : Room) [.double x0] (([] : va_W)) (([] : va_W)) 0 := by
  refine M_of (cc := cJxe99ae_isNaN_b9ae7) (maxL := 2) (ret := some .boolean) (Qc := fun A => va_Qi (fun (x : Int32) (_ : Unit) => x = 0) (fun _ t => Wd D (([] : va_W)) t) A) (by decide) rfl (Nat.le_of_ble_eq_true rfl) ?_
  intro p e s m below meth c A ls hB hE hP hK hD hA hl
  obtain ⟨hx, hb, hr, hml, hts, hown, hlocks⟩ := hB
  have hS : va_S A s.heap s.heap [] := va_S.rf
  have hl : lv_has ls 2 [(0, .double x0)] := hl
  refine lv_dload_n hx hb dJxe99ae_isNaN_b9ae7_0 rfl (lv_at hl 0 rfl) ?_
  refine lv_dload_n hx hb dJxe99ae_isNaN_b9ae7_1 rfl (lv_at hl 0 rfl) ?_
  refine lv_dcmp hx hb dJxe99ae_isNaN_b9ae7_2 ?_
  refine lv_if_eq (tgt := 10) hx hb dJxe99ae_isNaN_b9ae7_3 (by decide) (fun _ => ?_) (fun h9 => absurd hx0 h9)
  refine lv_iconst (v := 0) hx hb dJxe99ae_isNaN_b9ae7_10 (by decide) ?_
  exact k_zret hx hb hr hlocks hS hP dJxe99ae_isNaN_b9ae7_11 (by first | rfl | decide | exact rfl) (by (first | with_reducible rfl | simp only [↓reduceIte]))
