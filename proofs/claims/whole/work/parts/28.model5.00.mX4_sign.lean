set_option maxHeartbeats 4000000 in
set_option maxRecDepth 100000 in
theorem mX4_sign (l : Launch) (D : va_G) (cI cQ cJ : ClassId) (a : Nat → Nat) (r : rB) (h : Int64) (ka L : Nat) (hka : r 5 3 = nI ka) (hL : r 5 2 = nI L) (hL60 : L ≤ 60) (hA9 : ka ≤ 1000) : Mi l D (tY cI cQ cJ) yX4_sign wsX4_sign ({ frames := 0, cells := 0, slots := 0, locals := 0 } : Room) [.ref (a 0)] (cM cI a r h) (cM cI a r h) (sgn r ka L) := by
  refine M_of (cc := cX4_sign) (maxL := 1) (ret := some .int) (Qc := fun A => va_Qi (fun (x : Int32) (_ : Unit) => x = sgn r ka L) (fun _ t => Wd D (cM cI a r h) t) A) (by decide) rfl (Nat.le_of_ble_eq_true rfl) ?_
  intro p e s m below meth c A ls hB hE hP hK hD hA hl
  obtain ⟨hx, hb, hr, hml, hts, hown, hlocks⟩ := hB
  have hS : va_S A s.heap s.heap [] := va_S.rf
  have hl : lv_has ls 1 [(0, .ref (a 0))] := hl
  have hinX4 : ∀ w ∈ u_ws RX4 TX4 12, w ∈ wsX4_sign := by decide +kernel
  have fl96 := hts (.fieldLink RX4 96 "RoofDrainsModel" "at" "I") (by decide +kernel)
  have fl93 := hts (.fieldLink RX4 93 "RoofDrainsModel" "length" "I") (by decide +kernel)
  have fl19 := hts (.fieldLink RX4 19 "RoofDrainsModel" "buffer" "[I") (by decide +kernel)
  by_cases hAL : ka < L
  · skip
    refine lv_aload_n hx hb dX4_sign_0 rfl (lv_at hl 0 rfl) ?_
    refine va_get (D := D) (ci := 4) (v := .int (nI ka)) (C := RX4) (T := TX4) (N := 12) hx hb hts hinX4 hown hK hP 0 rfl rfl 7 (by decide) fl96 (fun _ h9 => h9) (congrArg (fun z => some (Value.int z)) (((rfl)).trans (hka))) dX4_sign_1 ?_
    refine lv_aload_n hx hb dX4_sign_4 rfl (lv_at hl 0 rfl) ?_
    refine va_get (D := D) (ci := 4) (v := .int (nI L)) (C := RX4) (T := TX4) (N := 12) hx hb hts hinX4 hown hK hP 0 rfl rfl 6 (by decide) fl93 (fun _ h9 => h9) (congrArg (fun z => some (Value.int z)) (((rfl)).trans (hL))) dX4_sign_5 ?_
    refine lv_icmp_ge (tgt := 23) hx hb dX4_sign_8 (by decide) (fun h9 => absurd h9 (nI_ge (a := ka) (b := L) (by omega) (by omega))) (fun _ => ?_)
    refine lv_aload_n hx hb dX4_sign_11 rfl (lv_at hl 0 rfl) ?_
    refine va_get (D := D) (ci := 4) (v := .ref (a 4)) (C := RX4) (T := TX4) (N := 12) hx hb hts hinX4 hown hK hP 0 rfl rfl 5 (by decide) fl19 (fun _ h9 => h9) rfl dX4_sign_12 ?_
    refine lv_aload_n hx hb dX4_sign_15 rfl (lv_at hl 0 rfl) ?_
    refine va_get (D := D) (ci := 4) (v := .int (nI ka)) (C := RX4) (T := TX4) (N := 12) hx hb hts hinX4 hown hK hP 0 rfl rfl 7 (by decide) fl96 (fun _ h9 => h9) (congrArg (fun z => some (Value.int z)) (((rfl)).trans (hka))) dX4_sign_16 ?_
    refine k_iald (k := ka) (v := r 3 ka) hx hb hK hP 4 0 rfl rfl (vp_in_nI (n := ka) (by omega) (by omega)) (nI_clamp (n := ka) (by omega)) (rfl) dX4_sign_19 ?_
    refine lv_goto (tgt := 24) hx hb dX4_sign_20 (by decide) ?_
    exact k_iret hx hb hr hlocks hS hP dX4_sign_24 (by (simp only [sgn, if_pos hAL, ↓reduceIte]))
  · skip
    refine lv_aload_n hx hb dX4_sign_0 rfl (lv_at hl 0 rfl) ?_
    refine va_get (D := D) (ci := 4) (v := .int (nI ka)) (C := RX4) (T := TX4) (N := 12) hx hb hts hinX4 hown hK hP 0 rfl rfl 7 (by decide) fl96 (fun _ h9 => h9) (congrArg (fun z => some (Value.int z)) (((rfl)).trans (hka))) dX4_sign_1 ?_
    refine lv_aload_n hx hb dX4_sign_4 rfl (lv_at hl 0 rfl) ?_
    refine va_get (D := D) (ci := 4) (v := .int (nI L)) (C := RX4) (T := TX4) (N := 12) hx hb hts hinX4 hown hK hP 0 rfl rfl 6 (by decide) fl93 (fun _ h9 => h9) (congrArg (fun z => some (Value.int z)) (((rfl)).trans (hL))) dX4_sign_5 ?_
    refine lv_icmp_ge (tgt := 23) hx hb dX4_sign_8 (by decide) (fun _ => ?_) (fun h9 => absurd (nI_le (a := L) (b := ka) (by omega) (by omega)) h9)
    refine lv_iconst (v := 0) hx hb dX4_sign_23 (by decide) ?_
    exact k_iret hx hb hr hlocks hS hP dX4_sign_24 (by (simp only [sgn, if_neg hAL, ↓reduceIte]))
