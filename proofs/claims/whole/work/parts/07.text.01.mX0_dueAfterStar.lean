set_option maxHeartbeats 4000000 in
set_option maxRecDepth 100000 in
theorem mX0_dueAfterStar (l : Launch) (D : va_G) (cI cQ cJ : ClassId) (ch : Int32) : Mi l D (tY cI cQ cJ) yX0_dueAfterStar wsX0_dueAfterStar ({ frames := 0, cells := 0, slots := 0, locals := 0 } : Room) [.int ch] (([] : va_W)) (([] : va_W)) (nI (d2 ch)) := by
  refine M_of (cc := cX0_dueAfterStar) (maxL := 1) (ret := some .int) (Qc := fun A => va_Qi (fun (x : Int32) (_ : Unit) => x = nI (d2 ch)) (fun _ t => Wd D (([] : va_W)) t) A) (by decide) rfl (Nat.le_of_ble_eq_true rfl) ?_
  intro p e s m below meth c A ls hB hE hP hK hD hA hl
  obtain ⟨hx, hb, hr, hml, hts, hown, hlocks⟩ := hB
  have hS : va_S A s.heap s.heap [] := va_S.rf
  have hl : lv_has ls 1 [(0, .int ch)] := hl
  refine lv_iload_n hx hb dX0_dueAfterStar_0 rfl (lv_at hl 0 rfl) ?_
  refine lv_bipush (v := 42) hx hb dX0_dueAfterStar_1 (by decide) ?_
  refine lv_icmp_ne (tgt := 10) hx hb dX0_dueAfterStar_3 (by decide) (fun c_1 => ?_) (fun c_1 => ?_)
  · skip
    refine lv_iconst (v := 0) hx hb dX0_dueAfterStar_10 (by decide) ?_
    exact k_iret hx hb hr hlocks hS hP dX0_dueAfterStar_11 (by (simp only [d2, if_neg c_1, ↓reduceIte] <;> rfl))
  · skip
    refine lv_iconst (v := 4) hx hb dX0_dueAfterStar_6 (by decide) ?_
    refine lv_goto (tgt := 11) hx hb dX0_dueAfterStar_7 (by decide) ?_
    exact k_iret hx hb hr hlocks hS hP dX0_dueAfterStar_11 (by (simp only [d2, if_pos c_1, ↓reduceIte] <;> rfl))
