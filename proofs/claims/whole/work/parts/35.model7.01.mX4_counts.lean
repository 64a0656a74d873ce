set_option maxHeartbeats 4000000 in
set_option maxRecDepth 100000 in
theorem mX4_counts (l : Launch) (D : va_G) (cI cQ cJ : ClassId) (a : Nat → Nat) (r : rB) (h : Int64) (w : Nat) (hw : w < 9) : Mi l D (tY cI cQ cJ) yX4_counts wsX4_counts ({ frames := 2, cells := 0, slots := 0, locals := 44 } : Room) [.ref (a 0), .int (nI w)] (cM cI a r h) (cM cI a r h) (cnM r w) := by
  refine M_of (cc := cX4_counts) (maxL := 2) (ret := some .int) (Qc := fun A => va_Qi (fun (x : Int32) (_ : Unit) => x = cnM r w) (fun _ t => Wd D (cM cI a r h) t) A) (by decide) rfl (Nat.le_of_ble_eq_true rfl) ?_
  intro p e s m below meth c A ls hB hE hP hK hD hA hl
  obtain ⟨hx, hb, hr, hml, hts, hown, hlocks⟩ := hB
  have hS : va_S A s.heap s.heap [] := va_S.rf
  have hl : lv_has ls 2 [(0, .ref (a 0)), (1, .int (nI w))] := hl
  have hinX4 : ∀ w ∈ u_ws RX4 TX4 12, w ∈ wsX4_counts := by decide +kernel
  have fl7 := hts (.fieldLink RX4 7 "RoofDrainsModel" "s" "[I") (by decide +kernel)
  have fl33 := hts (.fieldLink RX4 33 "RoofDrainsModel" "savedMany" "I") (by decide +kernel)
  refine lv_iload_n hx hb dX4_counts_0 rfl (lv_at hl 1 rfl) ?_
  have hsw : w = 0 ∨ w = 1 ∨ w = 2 ∨ w = 3 ∨ w = 4 ∨ w = 5 ∨ w = 6 ∨ w = 7 ∨ w = 8 := by omega
  rcases hsw with rfl | rfl | rfl | rfl | rfl | rfl | rfl | rfl | rfl
  · skip
    refine lv_lookup (off := 50) (tgt := 51) hx hb dX4_counts_1 (by decide +kernel) (by decide +kernel) (by decide) ?_
    refine lv_iload_n hx hb dX4_counts_51 rfl (lv_at hl 1 rfl) ?_
    refine lv_iconst (v := 3) hx hb dX4_counts_52 (by decide) ?_
    refine lv_icmp_ge (tgt := 67) hx hb dX4_counts_53 (by decide) (fun h9 => absurd h9 (by decide)) (fun _ => ?_)
    refine lv_aload_n hx hb dX4_counts_56 rfl (lv_at hl 0 rfl) ?_
    refine va_get (D := D) (ci := 4) (v := .ref (a 1)) (C := RX4) (T := TX4) (N := 12) hx hb hts hinX4 hown hK hP 0 rfl rfl 1 (by decide) fl7 (fun _ h9 => h9) rfl dX4_counts_57 ?_
    refine lv_iconst (v := 3) hx hb dX4_counts_60 (by decide) ?_
    refine lv_iload_n hx hb dX4_counts_61 rfl (lv_at hl 1 rfl) ?_
    refine lv_iadd hx hb dX4_counts_62 ?_
    refine lv_eqi (y := nI (3 + 0)) (nI_add 3 0) ?_
    refine k_iald (k := 3 + 0) (v := r 0 (3 + 0)) hx hb hK hP 1 0 rfl rfl (vp_in_nI (n := 3 + 0) (by omega) (by omega)) (nI_clamp (n := 3 + 0) (by omega)) (rfl) dX4_counts_63 ?_
    refine lv_goto (tgt := 78) hx hb dX4_counts_64 (by decide) ?_
    exact k_iret hx hb hr hlocks hS hP dX4_counts_78 (by (first | with_reducible rfl | simp only [cnM, ↓reduceIte]))
  · skip
    refine lv_lookup (off := 50) (tgt := 51) hx hb dX4_counts_1 (by decide +kernel) (by decide +kernel) (by decide) ?_
    refine lv_iload_n hx hb dX4_counts_51 rfl (lv_at hl 1 rfl) ?_
    refine lv_iconst (v := 3) hx hb dX4_counts_52 (by decide) ?_
    refine lv_icmp_ge (tgt := 67) hx hb dX4_counts_53 (by decide) (fun h9 => absurd h9 (by decide)) (fun _ => ?_)
    refine lv_aload_n hx hb dX4_counts_56 rfl (lv_at hl 0 rfl) ?_
    refine va_get (D := D) (ci := 4) (v := .ref (a 1)) (C := RX4) (T := TX4) (N := 12) hx hb hts hinX4 hown hK hP 0 rfl rfl 1 (by decide) fl7 (fun _ h9 => h9) rfl dX4_counts_57 ?_
    refine lv_iconst (v := 3) hx hb dX4_counts_60 (by decide) ?_
    refine lv_iload_n hx hb dX4_counts_61 rfl (lv_at hl 1 rfl) ?_
    refine lv_iadd hx hb dX4_counts_62 ?_
    refine lv_eqi (y := nI (3 + 1)) (nI_add 3 1) ?_
    refine k_iald (k := 3 + 1) (v := r 0 (3 + 1)) hx hb hK hP 1 0 rfl rfl (vp_in_nI (n := 3 + 1) (by omega) (by omega)) (nI_clamp (n := 3 + 1) (by omega)) (rfl) dX4_counts_63 ?_
    refine lv_goto (tgt := 78) hx hb dX4_counts_64 (by decide) ?_
    exact k_iret hx hb hr hlocks hS hP dX4_counts_78 (by (first | with_reducible rfl | simp only [cnM, ↓reduceIte]))
  · skip
    refine lv_lookup (off := 50) (tgt := 51) hx hb dX4_counts_1 (by decide +kernel) (by decide +kernel) (by decide) ?_
    refine lv_iload_n hx hb dX4_counts_51 rfl (lv_at hl 1 rfl) ?_
    refine lv_iconst (v := 3) hx hb dX4_counts_52 (by decide) ?_
    refine lv_icmp_ge (tgt := 67) hx hb dX4_counts_53 (by decide) (fun h9 => absurd h9 (by decide)) (fun _ => ?_)
    refine lv_aload_n hx hb dX4_counts_56 rfl (lv_at hl 0 rfl) ?_
    refine va_get (D := D) (ci := 4) (v := .ref (a 1)) (C := RX4) (T := TX4) (N := 12) hx hb hts hinX4 hown hK hP 0 rfl rfl 1 (by decide) fl7 (fun _ h9 => h9) rfl dX4_counts_57 ?_
    refine lv_iconst (v := 3) hx hb dX4_counts_60 (by decide) ?_
    refine lv_iload_n hx hb dX4_counts_61 rfl (lv_at hl 1 rfl) ?_
    refine lv_iadd hx hb dX4_counts_62 ?_
    refine lv_eqi (y := nI (3 + 2)) (nI_add 3 2) ?_
    refine k_iald (k := 3 + 2) (v := r 0 (3 + 2)) hx hb hK hP 1 0 rfl rfl (vp_in_nI (n := 3 + 2) (by omega) (by omega)) (nI_clamp (n := 3 + 2) (by omega)) (rfl) dX4_counts_63 ?_
    refine lv_goto (tgt := 78) hx hb dX4_counts_64 (by decide) ?_
    exact k_iret hx hb hr hlocks hS hP dX4_counts_78 (by (first | with_reducible rfl | simp only [cnM, ↓reduceIte]))
  · skip
    refine lv_lookup (off := 35) (tgt := 36) hx hb dX4_counts_1 (by decide +kernel) (by decide +kernel) (by decide) ?_
    refine lv_aload_n hx hb dX4_counts_36 rfl (lv_at hl 0 rfl) ?_
    refine k_calli (wc := cM cI a r h) (w' := cM cI a r h) (wn := cM cI a r h) (va_runV (As := []) (rest := []) ⟨hx, hb, hml, hown, hts⟩ (mX4_stands l D cI cQ cJ a r h _) (cwV 0 hts gX4_counts_X4_stands rfl rfl rfl (by decide +kernel) ⟨Nat.le_of_ble_eq_true rfl, Nat.le_of_ble_eq_true rfl⟩) (k_preV (wc := cM cI a r h) hE hK hP hD [0, 1, 2, 3, 4, 5] (by decide) rfl (ci := 4) (q0 := 0) rfl rfl []) rfl rfl hl.1 rfl (lv_room (Nat.le_of_ble_eq_true rfl)) dX4_counts_37 ⟨Nat.zero_le _, Nat.zero_le _⟩) hP hD hS hA [0, 1, 2, 3, 4, 5] rfl rfl rfl (fun H locs hP hD hS => ?_)
    exact k_iret hx hb hr hlocks hS hP dX4_counts_40 (by (first | with_reducible rfl | simp only [cnM, ↓reduceIte]))
  · skip
    refine lv_lookup (off := 50) (tgt := 51) hx hb dX4_counts_1 (by decide +kernel) (by decide +kernel) (by decide) ?_
    refine lv_iload_n hx hb dX4_counts_51 rfl (lv_at hl 1 rfl) ?_
    refine lv_iconst (v := 3) hx hb dX4_counts_52 (by decide) ?_
    refine lv_icmp_ge (tgt := 67) hx hb dX4_counts_53 (by decide) (fun _ => ?_) (fun h9 => absurd (by decide) h9)
    refine lv_aload_n hx hb dX4_counts_67 rfl (lv_at hl 0 rfl) ?_
    refine va_get (D := D) (ci := 4) (v := .ref (a 1)) (C := RX4) (T := TX4) (N := 12) hx hb hts hinX4 hown hK hP 0 rfl rfl 1 (by decide) fl7 (fun _ h9 => h9) rfl dX4_counts_68 ?_
    refine lv_bipush (v := 6) hx hb dX4_counts_71 (by decide) ?_
    refine lv_iload_n hx hb dX4_counts_73 rfl (lv_at hl 1 rfl) ?_
    refine lv_iadd hx hb dX4_counts_74 ?_
    refine lv_eqi (y := nI (6 + 4)) (nI_add 6 4) ?_
    refine lv_iconst (v := 4) hx hb dX4_counts_75 (by decide) ?_
    refine lv_isub hx hb dX4_counts_76 ?_
    refine lv_eqi (y := nI ((6 + 4) - 4)) (pk_sub (a := 6 + 4) (b := 4) (by omega)) ?_
    refine k_iald (k := 6 + 4 - 4) (v := r 0 (6 + 4 - 4)) hx hb hK hP 1 0 rfl rfl (vp_in_nI (n := 6 + 4 - 4) (by omega) (by omega)) (nI_clamp (n := 6 + 4 - 4) (by omega)) (rfl) dX4_counts_77 ?_
    exact k_iret hx hb hr hlocks hS hP dX4_counts_78 (by (first | with_reducible rfl | simp only [cnM, ↓reduceIte]))
  · skip
    refine lv_lookup (off := 50) (tgt := 51) hx hb dX4_counts_1 (by decide +kernel) (by decide +kernel) (by decide) ?_
    refine lv_iload_n hx hb dX4_counts_51 rfl (lv_at hl 1 rfl) ?_
    refine lv_iconst (v := 3) hx hb dX4_counts_52 (by decide) ?_
    refine lv_icmp_ge (tgt := 67) hx hb dX4_counts_53 (by decide) (fun _ => ?_) (fun h9 => absurd (by decide) h9)
    refine lv_aload_n hx hb dX4_counts_67 rfl (lv_at hl 0 rfl) ?_
    refine va_get (D := D) (ci := 4) (v := .ref (a 1)) (C := RX4) (T := TX4) (N := 12) hx hb hts hinX4 hown hK hP 0 rfl rfl 1 (by decide) fl7 (fun _ h9 => h9) rfl dX4_counts_68 ?_
    refine lv_bipush (v := 6) hx hb dX4_counts_71 (by decide) ?_
    refine lv_iload_n hx hb dX4_counts_73 rfl (lv_at hl 1 rfl) ?_
    refine lv_iadd hx hb dX4_counts_74 ?_
    refine lv_eqi (y := nI (6 + 5)) (nI_add 6 5) ?_
    refine lv_iconst (v := 4) hx hb dX4_counts_75 (by decide) ?_
    refine lv_isub hx hb dX4_counts_76 ?_
    refine lv_eqi (y := nI ((6 + 5) - 4)) (pk_sub (a := 6 + 5) (b := 4) (by omega)) ?_
    refine k_iald (k := 6 + 5 - 4) (v := r 0 (6 + 5 - 4)) hx hb hK hP 1 0 rfl rfl (vp_in_nI (n := 6 + 5 - 4) (by omega) (by omega)) (nI_clamp (n := 6 + 5 - 4) (by omega)) (rfl) dX4_counts_77 ?_
    exact k_iret hx hb hr hlocks hS hP dX4_counts_78 (by (first | with_reducible rfl | simp only [cnM, ↓reduceIte]))
  · skip
    refine lv_lookup (off := 50) (tgt := 51) hx hb dX4_counts_1 (by decide +kernel) (by decide +kernel) (by decide) ?_
    refine lv_iload_n hx hb dX4_counts_51 rfl (lv_at hl 1 rfl) ?_
    refine lv_iconst (v := 3) hx hb dX4_counts_52 (by decide) ?_
    refine lv_icmp_ge (tgt := 67) hx hb dX4_counts_53 (by decide) (fun _ => ?_) (fun h9 => absurd (by decide) h9)
    refine lv_aload_n hx hb dX4_counts_67 rfl (lv_at hl 0 rfl) ?_
    refine va_get (D := D) (ci := 4) (v := .ref (a 1)) (C := RX4) (T := TX4) (N := 12) hx hb hts hinX4 hown hK hP 0 rfl rfl 1 (by decide) fl7 (fun _ h9 => h9) rfl dX4_counts_68 ?_
    refine lv_bipush (v := 6) hx hb dX4_counts_71 (by decide) ?_
    refine lv_iload_n hx hb dX4_counts_73 rfl (lv_at hl 1 rfl) ?_
    refine lv_iadd hx hb dX4_counts_74 ?_
    refine lv_eqi (y := nI (6 + 6)) (nI_add 6 6) ?_
    refine lv_iconst (v := 4) hx hb dX4_counts_75 (by decide) ?_
    refine lv_isub hx hb dX4_counts_76 ?_
    refine lv_eqi (y := nI ((6 + 6) - 4)) (pk_sub (a := 6 + 6) (b := 4) (by omega)) ?_
    refine k_iald (k := 6 + 6 - 4) (v := r 0 (6 + 6 - 4)) hx hb hK hP 1 0 rfl rfl (vp_in_nI (n := 6 + 6 - 4) (by omega) (by omega)) (nI_clamp (n := 6 + 6 - 4) (by omega)) (rfl) dX4_counts_77 ?_
    exact k_iret hx hb hr hlocks hS hP dX4_counts_78 (by (first | with_reducible rfl | simp only [cnM, ↓reduceIte]))
  · skip
    refine lv_lookup (off := 40) (tgt := 41) hx hb dX4_counts_1 (by decide +kernel) (by decide +kernel) (by decide) ?_
    refine lv_aload_n hx hb dX4_counts_41 rfl (lv_at hl 0 rfl) ?_
    refine k_calli (wc := cM cI a r h) (w' := cM cI a r h) (wn := cM cI a r h) (va_runV (As := []) (rest := []) ⟨hx, hb, hml, hown, hts⟩ (mX4_leaves l D cI cQ cJ a r h _) (cwV 0 hts gX4_counts_X4_leaves rfl rfl rfl (by decide +kernel) ⟨Nat.le_of_ble_eq_true rfl, Nat.le_of_ble_eq_true rfl⟩) (k_preV (wc := cM cI a r h) hE hK hP hD [0, 1, 2, 3, 4, 5] (by decide) rfl (ci := 4) (q0 := 0) rfl rfl []) rfl rfl hl.1 rfl (lv_room (Nat.le_of_ble_eq_true rfl)) dX4_counts_42 ⟨Nat.zero_le _, Nat.zero_le _⟩) hP hD hS hA [0, 1, 2, 3, 4, 5] rfl rfl rfl (fun H locs hP hD hS => ?_)
    exact k_iret hx hb hr hlocks hS hP dX4_counts_45 (by (first | with_reducible rfl | simp only [cnM, ↓reduceIte]))
  · skip
    refine lv_lookup (off := 45) (tgt := 46) hx hb dX4_counts_1 (by decide +kernel) (by decide +kernel) (by decide) ?_
    refine lv_aload_n hx hb dX4_counts_46 rfl (lv_at hl 0 rfl) ?_
    refine va_get (D := D) (ci := 4) (v := .int (r 5 1)) (C := RX4) (T := TX4) (N := 12) hx hb hts hinX4 hown hK hP 0 rfl rfl 4 (by decide) fl33 (fun _ h9 => h9) (congrArg (fun z => some (Value.int z)) (rfl)) dX4_counts_47 ?_
    exact k_iret hx hb hr hlocks hS hP dX4_counts_50 (by (first | with_reducible rfl | simp only [cnM, ↓reduceIte]))
