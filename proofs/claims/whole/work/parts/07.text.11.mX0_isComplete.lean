set_option maxHeartbeats 4000000 in
set_option maxRecDepth 100000 in
theorem mX0_isComplete (l : Launch) (D : va_G) (cI cQ cJ : ClassId) (a : Nat → Nat) (r : rB) (L : Nat) (hL : r 1 0 = nI L) (hb60 : L ≤ 60) : Mi l D (tY cI cQ cJ) yX0_isComplete wsX0_isComplete ({ frames := 3, cells := 0, slots := 0, locals := 63 } : Room) [.ref (a 0)] (cT cI a r) (cT cI a r) (zM (nI (icL r L 0 1))) := by
  refine M_of (cc := cX0_isComplete) (maxL := 3) (ret := some .boolean) (Qc := fun A => va_Qi (fun (x : Int32) (_ : Unit) => x = zM (nI (icL r L 0 1))) (fun _ t => Wd D (cT cI a r) t) A) (by decide) rfl (Nat.le_of_ble_eq_true rfl) ?_
  intro p e s m below meth c A ls hB hE hP hK hD hA hl
  obtain ⟨hx, hb, hr, hml, hts, hown, hlocks⟩ := hB
  have hS : va_S A s.heap s.heap [] := va_S.rf
  have hl : lv_has ls 3 [(0, .ref (a 0))] := hl
  have hinX0 : ∀ w ∈ u_ws RX0 TX0 2, w ∈ wsX0_isComplete := by decide +kernel
  have fl13 := hts (.fieldLink RX0 13 "RoofDrains$RainText" "length" "I") (by decide +kernel)
  have fl9 := hts (.fieldLink RX0 9 "RoofDrains$RainText" "codes" "[I") (by decide +kernel)
  refine lv_iconst (v := 1) hx hb dX0_isComplete_0 (by decide) ?_
  refine lv_istore_n (lv' := [(1, .int 1), (0, .ref (a 0))]) hx hb dX0_isComplete_1 rfl hl (by decide) rfl (fun ls hl => ?_)
  refine lv_iconst (v := 0) hx hb dX0_isComplete_2 (by decide) ?_
  refine lv_istore_n (lv' := [(2, .int 0), (1, .int 1), (0, .ref (a 0))]) hx hb dX0_isComplete_3 rfl hl (by decide) rfl (fun ls hl => ?_)
  have Lp4 : ∀ (n i : Nat) (d : Nat), i + n = L → d ≤ 8 → icL r n i d = icL r L 0 1 → ∀ (H : Heap) (locs : List Loc), va_P D vwCl (cT cI a r) H → va_D A (cT cI a r) → va_S A s.heap H locs → ∀ (ls : Array Slot), lv_has ls 3 [(2, .int (nI i)), (1, .int (nI d)), (0, .ref (a 0))] → W p l e ({ frames := 3, cells := 0, slots := 0, locals := 63 } : Room) s m ([.ref (a 0)] : List Value).toArray below meth c H locs 0 0 (MQ below (va_Qi (fun (x : Int32) (_ : Unit) => x = zM (nI (icL r L 0 1))) (fun _ t => Wd D (cT cI a r) t) A) ([.ref (a 0)] : List Value).toArray s 0 0 A) (F0 m 4 ls []) := by
    intro n
    induction n with
    | zero =>
      intro i d hin hd hres H locs hP hD hS ls hl
      have h9d : d = icL r L 0 1 := hres
      refine lv_iload_n hx hb dX0_isComplete_4 rfl (lv_at hl 0 rfl) ?_
      refine lv_aload_n hx hb dX0_isComplete_5 rfl (lv_at hl 2 rfl) ?_
      refine va_get (D := D) (ci := 0) (v := .int (nI L)) (C := RX0) (T := TX0) (N := 2) hx hb hts hinX0 hown hK hP 0 rfl rfl 1 (by decide) fl13 (fun _ h9 => h9) (by first | rfl | simp [bp, upd, *]) dX0_isComplete_6 ?_
      refine lv_icmp_ge (tgt := 29) hx hb dX0_isComplete_9 (by decide) (fun _ => ?_) (fun h9 => absurd (nI_le (a := L) (b := i) (by omega) (by omega)) h9)
      refine lv_iload_n hx hb dX0_isComplete_29 rfl (lv_at hl 1 rfl) ?_
      refine k_calli (wc := ([] : va_W)) (w' := ([] : va_W)) (wn := cT cI a r) (va_runS (As := [.int (nI d)]) (rest := []) ⟨hx, hb, hml, hown, hts⟩ (mX0_mayEnd l D cI cQ cJ (nI d) _) (va_cwS 1 hts gX0_isComplete_X0_mayEnd rfl rfl rfl (by decide +kernel) ⟨Nat.le_of_ble_eq_true rfl, Nat.le_of_ble_eq_true rfl⟩) (k_preS (wc := ([] : va_W)) hE hK hP hD [] (by decide) rfl [.int (nI d)]) rfl rfl hl.1 rfl (lv_room (Nat.le_of_ble_eq_true rfl)) dX0_isComplete_30 ⟨Nat.zero_le _, Nat.zero_le _⟩) hP hD hS hA [] rfl rfl rfl (fun H locs hP hD hS => ?_)
      exact k_zret hx hb hr hlocks hS hP dX0_isComplete_33 (by first | rfl | decide | exact zM_nar _) (by (replace h9d := h9d.symm; subst h9d; simp only [↓reduceIte]))
    | succ n ih =>
      intro i d hin hd hres H locs hP hD hS ls hl
      refine lv_iload_n hx hb dX0_isComplete_4 rfl (lv_at hl 0 rfl) ?_
      refine lv_aload_n hx hb dX0_isComplete_5 rfl (lv_at hl 2 rfl) ?_
      refine va_get (D := D) (ci := 0) (v := .int (nI L)) (C := RX0) (T := TX0) (N := 2) hx hb hts hinX0 hown hK hP 0 rfl rfl 1 (by decide) fl13 (fun _ h9 => h9) (by first | rfl | simp [bp, upd, *]) dX0_isComplete_6 ?_
      refine lv_icmp_ge (tgt := 29) hx hb dX0_isComplete_9 (by decide) (fun h9 => absurd h9 (nI_ge (a := i) (b := L) (by omega) (by omega))) (fun _ => ?_)
      refine lv_iload_n hx hb dX0_isComplete_12 rfl (lv_at hl 1 rfl) ?_
      refine lv_aload_n hx hb dX0_isComplete_13 rfl (lv_at hl 2 rfl) ?_
      refine va_get (D := D) (ci := 0) (v := .ref (a 1)) (C := RX0) (T := TX0) (N := 2) hx hb hts hinX0 hown hK hP 0 rfl rfl 0 (by decide) fl9 (fun _ h9 => h9) rfl dX0_isComplete_14 ?_
      refine lv_iload_n hx hb dX0_isComplete_17 rfl (lv_at hl 0 rfl) ?_
      refine k_iald (k := i) (v := r 0 i) hx hb hK hP 1 0 rfl rfl (vp_in_nI (n := i) (by omega) (by omega)) (nI_clamp (n := i) (by omega)) (rfl) dX0_isComplete_18 ?_
      refine k_calli (wc := ([] : va_W)) (w' := ([] : va_W)) (wn := cT cI a r) (va_runS (As := [.int (nI d), .int (r 0 i)]) (rest := []) ⟨hx, hb, hml, hown, hts⟩ (mX0_dueAfter l D cI cQ cJ d hd (r 0 i) _) (va_cwS 2 hts gX0_isComplete_X0_dueAfter rfl rfl rfl (by decide +kernel) ⟨Nat.le_of_ble_eq_true rfl, Nat.le_of_ble_eq_true rfl⟩) (k_preS (wc := ([] : va_W)) hE hK hP hD [] (by decide) rfl [.int (nI d), .int (r 0 i)]) rfl rfl hl.1 rfl (lv_room (Nat.le_of_ble_eq_true rfl)) dX0_isComplete_19 ⟨Nat.zero_le _, Nat.zero_le _⟩) hP hD hS hA [] rfl rfl rfl (fun H locs hP hD hS => ?_)
      refine lv_istore_n (lv' := [(1, .int (nI (dA d (r 0 i)))), (2, .int (nI i)), (0, .ref (a 0))]) hx hb dX0_isComplete_22 rfl hl (by decide) rfl (fun ls hl => ?_)
      refine lv_iinc (v := nI (i + 1)) (lv' := [(2, .int (nI (i + 1))), (1, .int (nI (dA d (r 0 i)))), (0, .ref (a 0))]) hx hb dX0_isComplete_23 hl (k := 1) rfl (nI_1 i) (by decide) rfl (fun ls hl => ?_)
      refine lv_goto (tgt := 4) hx hb dX0_isComplete_26 (by decide) ?_
      exact ih (i + 1) (dA d (r 0 i)) (by omega) (dA_le _ _) (by exact hres) H locs hP hD hS ls (lv_sub hl [0, 1, 2] rfl)
  exact Lp4 L 0 1 (by omega) (by decide) rfl _ _ hP hD hS ls (lv_sub hl [0, 1, 2] rfl)
