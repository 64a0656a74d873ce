set_option maxHeartbeats 4000000 in
set_option maxRecDepth 100000 in
theorem mX0_mayEnd (l : Launch) (D : va_G) (cI cQ cJ : ClassId) (ch : Int32) : Mi l D (tY cI cQ cJ) yX0_mayEnd wsX0_mayEnd ({ frames := 0, cells := 0, slots := 0, locals := 0 } : Room) [.int ch] (([] : va_W)) (([] : va_W)) (zM ch) := by
  refine M_of (cc := cX0_mayEnd) (maxL := 1) (ret := some .boolean) (Qc := fun A => va_Qi (fun (x : Int32) (_ : Unit) => x = zM ch) (fun _ t => Wd D (([] : va_W)) t) A) (by decide) rfl (Nat.le_of_ble_eq_true rfl) ?_
  intro p e s m below meth c A ls hB hE hP hK hD hA hl
  obtain ⟨hx, hb, hr, hml, hts, hown, hlocks⟩ := hB
  have hS : va_S A s.heap s.heap [] := va_S.rf
  have hl : lv_has ls 1 [(0, .int ch)] := hl
  refine lv_iload_n hx hb dX0_mayEnd_0 rfl (lv_at hl 0 rfl) ?_
  refine lv_iconst (v := 5) hx hb dX0_mayEnd_1 (by decide) ?_
  refine lv_icmp_eq (tgt := 17) hx hb dX0_mayEnd_2 (by decide) (fun c_1 => ?_) (fun c_1 => ?_)
  · skip
    refine lv_iconst (v := 1) hx hb dX0_mayEnd_17 (by decide) ?_
    refine lv_goto (tgt := 22) hx hb dX0_mayEnd_18 (by decide) ?_
    exact k_zret hx hb hr hlocks hS hP dX0_mayEnd_22 (by first | rfl | decide | exact rfl) (by (simp only [zM, if_pos c_1, ↓reduceIte]))
  · skip
    refine lv_iload_n hx hb dX0_mayEnd_5 rfl (lv_at hl 0 rfl) ?_
    refine lv_bipush (v := 6) hx hb dX0_mayEnd_6 (by decide) ?_
    refine lv_icmp_eq (tgt := 17) hx hb dX0_mayEnd_8 (by decide) (fun c_2 => ?_) (fun c_2 => ?_)
    · skip
      refine lv_iconst (v := 1) hx hb dX0_mayEnd_17 (by decide) ?_
      refine lv_goto (tgt := 22) hx hb dX0_mayEnd_18 (by decide) ?_
      exact k_zret hx hb hr hlocks hS hP dX0_mayEnd_22 (by first | rfl | decide | exact rfl) (by (simp only [zM, if_neg c_1, if_pos c_2, ↓reduceIte]))
    · skip
      refine lv_iload_n hx hb dX0_mayEnd_11 rfl (lv_at hl 0 rfl) ?_
      refine lv_bipush (v := 7) hx hb dX0_mayEnd_12 (by decide) ?_
      refine lv_icmp_ne (tgt := 21) hx hb dX0_mayEnd_14 (by decide) (fun c_3 => ?_) (fun c_3 => ?_)
      · skip
        refine lv_iconst (v := 0) hx hb dX0_mayEnd_21 (by decide) ?_
        exact k_zret hx hb hr hlocks hS hP dX0_mayEnd_22 (by first | rfl | decide | exact rfl) (by (simp only [zM, if_neg c_1, if_neg c_2, if_neg c_3, ↓reduceIte]))
      · skip
        refine lv_iconst (v := 1) hx hb dX0_mayEnd_17 (by decide) ?_
        refine lv_goto (tgt := 22) hx hb dX0_mayEnd_18 (by decide) ?_
        exact k_zret hx hb hr hlocks hS hP dX0_mayEnd_22 (by first | rfl | decide | exact rfl) (by (simp only [zM, if_neg c_1, if_neg c_2, if_pos c_3, ↓reduceIte]))
