set_option maxHeartbeats 4000000 in
set_option maxRecDepth 100000 in
theorem mX4_in (l : Launch) (D : va_G) (cI cQ cJ : ClassId) (v lo hi : Int32) : Mi l D (tY cI cQ cJ) yX4_in wsX4_in ({ frames := 0, cells := 0, slots := 0, locals := 0 } : Room) [.int v, .int lo, .int hi] (([] : va_W)) (([] : va_W)) (zW v lo hi) := by
  refine M_of (cc := cX4_in) (maxL := 3) (ret := some .boolean) (Qc := fun A => va_Qi (fun (x : Int32) (_ : Unit) => x = zW v lo hi) (fun _ t => Wd D (([] : va_W)) t) A) (by decide) rfl (Nat.le_of_ble_eq_true rfl) ?_
  intro p e s m below meth c A ls hB hE hP hK hD hA hl
  obtain ⟨hx, hb, hr, hml, hts, hown, hlocks⟩ := hB
  have hS : va_S A s.heap s.heap [] := va_S.rf
  have hl : lv_has ls 3 [(0, .int v), (1, .int lo), (2, .int hi)] := hl
  refine lv_iload_n hx hb dX4_in_0 rfl (lv_at hl 0 rfl) ?_
  refine lv_iload_n hx hb dX4_in_1 rfl (lv_at hl 1 rfl) ?_
  refine lv_icmp_lt (tgt := 14) hx hb dX4_in_2 (by decide) (fun c_1 => ?_) (fun c_1 => ?_)
  · skip
    refine lv_iconst (v := 0) hx hb dX4_in_14 (by decide) ?_
    exact k_zret hx hb hr hlocks hS hP dX4_in_15 (by first | rfl | decide | exact rfl) (by (simp only [zW, if_pos c_1, ↓reduceIte]))
  · skip
    refine lv_iload_n hx hb dX4_in_5 rfl (lv_at hl 0 rfl) ?_
    refine lv_iload_n hx hb dX4_in_6 rfl (lv_at hl 2 rfl) ?_
    refine lv_icmp_gt (tgt := 14) hx hb dX4_in_7 (by decide) (fun c_2 => ?_) (fun c_2 => ?_)
    · skip
      refine lv_iconst (v := 0) hx hb dX4_in_14 (by decide) ?_
      exact k_zret hx hb hr hlocks hS hP dX4_in_15 (by first | rfl | decide | exact rfl) (by (simp only [zW, if_neg c_1, if_pos c_2, ↓reduceIte]))
    · skip
      refine lv_iconst (v := 1) hx hb dX4_in_10 (by decide) ?_
      refine lv_goto (tgt := 15) hx hb dX4_in_11 (by decide) ?_
      exact k_zret hx hb hr hlocks hS hP dX4_in_15 (by first | rfl | decide | exact rfl) (by (simp only [zW, if_neg c_1, if_neg c_2, ↓reduceIte]))
