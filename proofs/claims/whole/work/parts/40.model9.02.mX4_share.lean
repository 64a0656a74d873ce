set_option maxHeartbeats 4000000 in
set_option maxRecDepth 100000 in
theorem mX4_share (l : Launch) (D : va_G) (cI cQ cJ : ClassId) (a : Nat → Nat) (r : rB) (h : Int64) (hF : FPok)  : Md l D (tY cI cQ cJ) yX4_share wsX4_share ({ frames := 0, cells := 0, slots := 0, locals := 0 } : Room) [.ref (a 0)] (cM cI a r h) (cM cI a r h) (shM r) := by
  refine M_of (cc := cX4_share) (maxL := 1) (ret := some .double) (Qc := fun A => va_Qd (fun (x : UInt64) (_ : Unit) => x = shM r) (fun _ t => Wd D (cM cI a r h) t) A) (by decide) rfl (Nat.le_of_ble_eq_true rfl) ?_
  intro p e s m below meth c A ls hB hE hP hK hD hA hl
  obtain ⟨hx, hb, hr, hml, hts, hown, hlocks⟩ := hB
  have hS : va_S A s.heap s.heap [] := va_S.rf
  have hl : lv_has ls 1 [(0, .ref (a 0))] := hl
  have hinX4 : ∀ w ∈ u_ws RX4 TX4 12, w ∈ wsX4_share := by decide +kernel
  have fl7 := hts (.fieldLink RX4 7 "RoofDrainsModel" "s" "[I") (by decide +kernel)
  refine lv_aload_n hx hb dX4_share_0 rfl (lv_at hl 0 rfl) ?_
  refine va_get (D := D) (ci := 4) (v := .ref (a 1)) (C := RX4) (T := TX4) (N := 12) hx hb hts hinX4 hown hK hP 0 rfl rfl 1 (by decide) fl7 (fun _ h9 => h9) rfl dX4_share_1 ?_
  refine lv_iconst (v := 5) hx hb dX4_share_4 (by decide) ?_
  refine k_iald (k := 5) (v := r 0 5) hx hb hK hP 1 0 rfl rfl (vp_in_nI (n := 5) (by omega) (by omega)) (nI_clamp (n := 5) (by omega)) (rfl) dX4_share_5 ?_
  refine lv_if_ne (tgt := 13) hx hb dX4_share_6 (by decide) (fun c_1 => ?_) (fun c_1 => ?_)
  · skip
    refine lv_aload_n hx hb dX4_share_13 rfl (lv_at hl 0 rfl) ?_
    refine va_get (D := D) (ci := 4) (v := .ref (a 1)) (C := RX4) (T := TX4) (N := 12) hx hb hts hinX4 hown hK hP 0 rfl rfl 1 (by decide) fl7 (fun _ h9 => h9) rfl dX4_share_14 ?_
    refine lv_bipush (v := 6) hx hb dX4_share_17 (by decide) ?_
    refine k_iald (k := 6) (v := r 0 6) hx hb hK hP 1 0 rfl rfl (vp_in_nI (n := 6) (by omega) (by omega)) (nI_clamp (n := 6) (by omega)) (rfl) dX4_share_19 ?_
    refine lv_i2d hx hb dX4_share_20 ?_
    refine lv_aload_n hx hb dX4_share_21 rfl (lv_at hl 0 rfl) ?_
    refine va_get (D := D) (ci := 4) (v := .ref (a 1)) (C := RX4) (T := TX4) (N := 12) hx hb hts hinX4 hown hK hP 0 rfl rfl 1 (by decide) fl7 (fun _ h9 => h9) rfl dX4_share_22 ?_
    refine lv_iconst (v := 5) hx hb dX4_share_25 (by decide) ?_
    refine k_iald (k := 5) (v := r 0 5) hx hb hK hP 1 0 rfl rfl (vp_in_nI (n := 5) (by omega) (by omega)) (nI_clamp (n := 5) (by omega)) (rfl) dX4_share_26 ?_
    refine lv_i2d hx hb dX4_share_27 ?_
    refine lv_ddiv hx hb dX4_share_28 (hF.1 _ _ c_1) ?_
    exact k_dret hx hb hr hlocks hS hP dX4_share_29 (by (first | with_reducible rfl | simp only [shM, if_neg c_1, ↓reduceIte]))
  · skip
    refine lv_dconst1 hx hb dX4_share_9 ?_
    refine lv_goto (tgt := 29) hx hb dX4_share_10 (by decide) ?_
    exact k_dret hx hb hr hlocks hS hP dX4_share_29 (by (first | with_reducible rfl | simp only [shM, if_pos c_1, ↓reduceIte]))
