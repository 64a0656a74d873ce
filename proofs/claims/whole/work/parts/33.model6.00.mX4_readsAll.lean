set_option maxHeartbeats 4000000 in
set_option maxRecDepth 100000 in
theorem mX4_readsAll (l : Launch) (D : va_G) (cI cQ cJ : ClassId) (a : Nat → Nat) (r : rB) (h : Int64) (L : Nat) (hL : r 5 2 = nI L) (hL60 : L ≤ 60)  : Mv l D (tY cI cQ cJ) yX4_readsAll wsX4_readsAll ({ frames := 4, cells := 0, slots := 0, locals := 90 } : Room) [.ref (a 0)] (cM cI a r h) (cM cI a (raB r L) h) := by
  refine M_of (cc := cX4_readsAll) (maxL := 1) (ret := none) (Qc := fun A => va_Qv (fun (_ : Unit) => True) (fun _ t => Wd D (cM cI a (raB r L) h) t) A) (by decide) rfl (Nat.le_of_ble_eq_true rfl) ?_
  intro p e s m below meth c A ls hB hE hP hK hD hA hl
  obtain ⟨hx, hb, hr, hml, hts, hown, hlocks⟩ := hB
  have hS : va_S A s.heap s.heap [] := va_S.rf
  have hl : lv_has ls 1 [(0, .ref (a 0))] := hl
  have hinX4 : ∀ w ∈ u_ws RX4 TX4 12, w ∈ wsX4_readsAll := by decide +kernel
  have fl96 := hts (.fieldLink RX4 96 "RoofDrainsModel" "at" "I") (by decide +kernel)
  have fl99 := hts (.fieldLink RX4 99 "RoofDrainsModel" "isWell" "Z") (by decide +kernel)
  have fl109 := hts (.fieldLink RX4 109 "RoofDrainsModel" "partMany" "I") (by decide +kernel)
  have fl93 := hts (.fieldLink RX4 93 "RoofDrainsModel" "length" "I") (by decide +kernel)
  refine lv_aload_n hx hb dX4_readsAll_0 rfl (lv_at hl 0 rfl) ?_
  refine lv_iconst (v := 0) hx hb dX4_readsAll_1 (by decide) ?_
  refine k_put (D := D) (ci := 4) (v := .int 0) (ty := .int) (C := RX4) (T := TX4) (N := 12) hx hb hts hinX4 tyX4 tyX4_ok nmX4 hown hK hP hD hS 0 rfl rfl 7 (by decide) fl96 (fun _ h9 => h9) rfl (by decide +kernel) rfl rfl (Nat.le_of_ble_eq_true rfl) (ws' := cM cI a (bp r 5 3 0) h) rfl dX4_readsAll_2 (fun H locs hP hD hS => ?_)
  refine lv_aload_n hx hb dX4_readsAll_5 rfl (lv_at hl 0 rfl) ?_
  refine lv_iconst (v := 1) hx hb dX4_readsAll_6 (by decide) ?_
  refine k_put (D := D) (ci := 4) (v := .int 1) (ty := .boolean) (C := RX4) (T := TX4) (N := 12) hx hb hts hinX4 tyX4 tyX4_ok nmX4 hown hK hP hD hS 0 rfl rfl 8 (by decide) fl99 (fun _ h9 => h9) rfl (by decide +kernel) (by first | rfl | decide) (by first | rfl | decide) (Nat.le_of_ble_eq_true rfl) (ws' := cM cI a (bp (bp r 5 3 0) 5 4 1) h) rfl dX4_readsAll_7 (fun H locs hP hD hS => ?_)
  refine lv_aload_n hx hb dX4_readsAll_10 rfl (lv_at hl 0 rfl) ?_
  refine lv_iconst (v := 0) hx hb dX4_readsAll_11 (by decide) ?_
  refine k_put (D := D) (ci := 4) (v := .int 0) (ty := .int) (C := RX4) (T := TX4) (N := 12) hx hb hts hinX4 tyX4 tyX4_ok nmX4 hown hK hP hD hS 0 rfl rfl 10 (by decide) fl109 (fun _ h9 => h9) rfl (by decide +kernel) rfl rfl (Nat.le_of_ble_eq_true rfl) (ws' := cM cI a (bp (bp (bp r 5 3 0) 5 4 1) 5 5 0) h) rfl dX4_readsAll_12 (fun H locs hP hD hS => ?_)
  refine lv_aload_n hx hb dX4_readsAll_15 rfl (lv_at hl 0 rfl) ?_
  obtain ⟨r_1, er_1⟩ : ∃ z : rB, z = rpB (bp (bp (bp r 5 3 0) 5 4 1) 5 5 0) 0 L 0 := ⟨_, rfl⟩
  have hm_2 := mX4_readsPart l D cI cQ cJ a (bp (bp (bp r 5 3 0) 5 4 1) 5 5 0) h 0 L (((bp_ne (by omega)).trans ((bp_ne (by omega)).trans (bp_eq))).trans rfl) (((bp_ne (by omega)).trans ((bp_ne (by omega)).trans ((bp_ne (by omega)).trans (rfl)))).trans hL) hL60 (by omega) 0 ((bp_eq).trans rfl) (by omega)
  rw [← er_1] at hm_2
  refine k_callv (wc := cM cI a (bp (bp (bp r 5 3 0) 5 4 1) 5 5 0) h) (w' := cM cI a r_1 h) (wn := cM cI a r_1 h) (va_runV (As := []) (rest := []) ⟨hx, hb, hml, hown, hts⟩ (hm_2 _) (cwV 0 hts gX4_readsAll_X4_readsPart rfl rfl rfl (by decide +kernel) ⟨Nat.le_of_ble_eq_true rfl, Nat.le_of_ble_eq_true rfl⟩) (k_preV (wc := cM cI a (bp (bp (bp r 5 3 0) 5 4 1) 5 5 0) h) hE hK hP hD [0, 1, 2, 3, 4, 5] (by decide) rfl (ci := 4) (q0 := 0) rfl rfl []) rfl rfl hl.1 rfl (lv_room (Nat.le_of_ble_eq_true rfl)) dX4_readsAll_16 ⟨Nat.zero_le _, Nat.zero_le _⟩) hP hD hS hA [0, 1, 2, 3, 4, 5] rfl rfl rfl (fun H locs hP hD hS => ?_)
  have Ld : ∀ (n : Nat) (r1 : rB) (k1 P1 : Nat), L ≤ k1 + n → k1 ≤ 80 → 2 * P1 ≤ k1 + 1 → r1 5 3 = nI k1 → r1 5 2 = nI L → r1 5 5 = nI P1 → raF n r1 k1 L P1 = raB r L → ∀ (H : Heap) (locs : List Loc), va_P D vwCl (cM cI a r1 h) H → va_D A (cM cI a r1 h) → va_S A s.heap H locs → ∀ (ls : Array Slot), lv_has ls 1 [(0, .ref (a 0))] → W p l e ({ frames := 4, cells := 0, slots := 0, locals := 90 } : Room) s m ([.ref (a 0)] : List Value).toArray below meth c H locs 0 0 (MQ below (va_Qv (fun (_ : Unit) => True) (fun _ t => Wd D (cM cI a (raB r L) h) t) A) ([.ref (a 0)] : List Value).toArray s 0 0 A) (F0 m 19 ls []) := by
    intro n
    induction n with
    | zero =>
      intro r1 k1 P1 hn hk8 h2P hA1 hL1 hP1 hres H locs hP hD hS ls hl
      have hAL : ¬ k1 < L := by omega
      refine lv_aload_n hx hb dX4_readsAll_19 rfl (lv_at hl 0 rfl) ?_
      refine va_get (D := D) (ci := 4) (v := .int (r1 5 4)) (C := RX4) (T := TX4) (N := 12) hx hb hts hinX4 hown hK hP 0 rfl rfl 8 (by decide) fl99 (fun _ h9 => h9) (congrArg (fun z => some (Value.int z)) (rfl)) dX4_readsAll_20 ?_
      refine lv_if_eq (tgt := 90) hx hb dX4_readsAll_23 (by decide) (fun c_3 => ?_) (fun c_3 => ?_)
      · skip
        have e9 : (r1 : rB) = raB r L := ((raF_bad c_3).symm.trans hres)
        rw [e9] at hP
        exact k_vret hx hb hr hlocks hS hP dX4_readsAll_90
      · skip
        refine lv_aload_n hx hb dX4_readsAll_26 rfl (lv_at hl 0 rfl) ?_
        refine va_get (D := D) (ci := 4) (v := .int (nI k1)) (C := RX4) (T := TX4) (N := 12) hx hb hts hinX4 hown hK hP 0 rfl rfl 7 (by decide) fl96 (fun _ h9 => h9) (congrArg (fun z => some (Value.int z)) (((rfl)).trans (hA1))) dX4_readsAll_27 ?_
        refine lv_aload_n hx hb dX4_readsAll_30 rfl (lv_at hl 0 rfl) ?_
        refine va_get (D := D) (ci := 4) (v := .int (nI L)) (C := RX4) (T := TX4) (N := 12) hx hb hts hinX4 hown hK hP 0 rfl rfl 6 (by decide) fl93 (fun _ h9 => h9) (congrArg (fun z => some (Value.int z)) (((rfl)).trans (hL1))) dX4_readsAll_31 ?_
        refine lv_icmp_ge (tgt := 90) hx hb dX4_readsAll_34 (by decide) (fun _ => ?_) (fun h9 => absurd (nI_le (a := L) (b := k1) (by omega) (by omega)) h9)
        have e9 : (r1 : rB) = raB r L := ((raF_end hAL).symm.trans hres)
        rw [e9] at hP
        exact k_vret hx hb hr hlocks hS hP dX4_readsAll_90
    | succ n ih =>
      intro r1 k1 P1 hn hk8 h2P hA1 hL1 hP1 hres H locs hP hD hS ls hl
      by_cases hAL : k1 < L
      · skip
        refine lv_aload_n hx hb dX4_readsAll_19 rfl (lv_at hl 0 rfl) ?_
        refine va_get (D := D) (ci := 4) (v := .int (r1 5 4)) (C := RX4) (T := TX4) (N := 12) hx hb hts hinX4 hown hK hP 0 rfl rfl 8 (by decide) fl99 (fun _ h9 => h9) (congrArg (fun z => some (Value.int z)) (rfl)) dX4_readsAll_20 ?_
        refine lv_if_eq (tgt := 90) hx hb dX4_readsAll_23 (by decide) (fun c_4 => ?_) (fun c_4 => ?_)
        · skip
          have e9 : (r1 : rB) = raB r L := ((raF_bad c_4).symm.trans hres)
          rw [e9] at hP
          exact k_vret hx hb hr hlocks hS hP dX4_readsAll_90
        · skip
          refine lv_aload_n hx hb dX4_readsAll_26 rfl (lv_at hl 0 rfl) ?_
          refine va_get (D := D) (ci := 4) (v := .int (nI k1)) (C := RX4) (T := TX4) (N := 12) hx hb hts hinX4 hown hK hP 0 rfl rfl 7 (by decide) fl96 (fun _ h9 => h9) (congrArg (fun z => some (Value.int z)) (((rfl)).trans (hA1))) dX4_readsAll_27 ?_
          refine lv_aload_n hx hb dX4_readsAll_30 rfl (lv_at hl 0 rfl) ?_
          refine va_get (D := D) (ci := 4) (v := .int (nI L)) (C := RX4) (T := TX4) (N := 12) hx hb hts hinX4 hown hK hP 0 rfl rfl 6 (by decide) fl93 (fun _ h9 => h9) (congrArg (fun z => some (Value.int z)) (((rfl)).trans (hL1))) dX4_readsAll_31 ?_
          refine lv_icmp_ge (tgt := 90) hx hb dX4_readsAll_34 (by decide) (fun h9 => absurd h9 (nI_ge (a := k1) (b := L) (by omega) (by omega))) (fun _ => ?_)
          refine lv_aload_n hx hb dX4_readsAll_37 rfl (lv_at hl 0 rfl) ?_
          refine lv_aload_n hx hb dX4_readsAll_38 rfl (lv_at hl 0 rfl) ?_
          refine k_calli (wc := cM cI a r1 h) (w' := cM cI a r1 h) (wn := cM cI a r1 h) (va_runV (As := []) (rest := [.ref (a 0)]) ⟨hx, hb, hml, hown, hts⟩ (mX4_sign l D cI cQ cJ a r1 h k1 L ((rfl).trans hA1) ((rfl).trans hL1) hL60 (by omega) _) (cwV 0 hts gX4_readsAll_X4_sign rfl rfl rfl (by decide +kernel) ⟨Nat.le_of_ble_eq_true rfl, Nat.le_of_ble_eq_true rfl⟩) (k_preV (wc := cM cI a r1 h) hE hK hP hD [0, 1, 2, 3, 4, 5] (by decide) rfl (ci := 4) (q0 := 0) rfl rfl []) rfl rfl hl.1 rfl (lv_room (Nat.le_of_ble_eq_true rfl)) dX4_readsAll_39 ⟨Nat.zero_le _, Nat.zero_le _⟩) hP hD hS hA [0, 1, 2, 3, 4, 5] rfl rfl rfl (fun H locs hP hD hS => ?_)
          refine lv_bipush (v := 59) hx hb dX4_readsAll_42 (by decide) ?_
          refine lv_icmp_ne (tgt := 51) hx hb dX4_readsAll_44 (by decide) (fun c_5 => ?_) (fun c_5 => ?_)
          · skip
            refine lv_iconst (v := 0) hx hb dX4_readsAll_51 (by decide) ?_
            refine k_put (D := D) (ci := 4) (v := .int 0) (ty := .boolean) (C := RX4) (T := TX4) (N := 12) hx hb hts hinX4 tyX4 tyX4_ok nmX4 hown hK hP hD hS 0 rfl rfl 8 (by decide) fl99 (fun _ h9 => h9) rfl (by decide +kernel) (by first | rfl | decide) (by first | rfl | decide) (Nat.le_of_ble_eq_true rfl) (ws' := cM cI a (bp r1 5 4 0) h) rfl dX4_readsAll_52 (fun H locs hP hD hS => ?_)
            refine lv_aload_n hx hb dX4_readsAll_55 rfl (lv_at hl 0 rfl) ?_
            refine lv_dup hx hb dX4_readsAll_56 rfl ?_
            refine va_get (D := D) (ci := 4) (v := .int (nI k1)) (C := RX4) (T := TX4) (N := 12) hx hb hts hinX4 hown hK hP 0 rfl rfl 7 (by decide) fl96 (fun _ h9 => h9) (congrArg (fun z => some (Value.int z)) ((((bp_ne (by omega)).trans (rfl))).trans (hA1))) dX4_readsAll_57 ?_
            refine lv_aload_n hx hb dX4_readsAll_60 rfl (lv_at hl 0 rfl) ?_
            refine va_get (D := D) (ci := 4) (v := .int 0) (C := RX4) (T := TX4) (N := 12) hx hb hts hinX4 hown hK hP 0 rfl rfl 8 (by decide) fl99 (fun _ h9 => h9) (congrArg (fun z => some (Value.int z)) (bp_eq)) dX4_readsAll_61 ?_
            refine lv_if_eq (tgt := 71) hx hb dX4_readsAll_64 (by decide) (fun _ => ?_) (fun h9 => absurd (by decide) h9)
            refine lv_iconst (v := 0) hx hb dX4_readsAll_71 (by decide) ?_
            refine lv_iadd hx hb dX4_readsAll_72 ?_
            refine lv_eqi (y := nI (k1 + 0)) (nI_add k1 0) ?_
            refine k_put (D := D) (ci := 4) (v := .int (nI (k1 + 0))) (ty := .int) (C := RX4) (T := TX4) (N := 12) hx hb hts hinX4 tyX4 tyX4_ok nmX4 hown hK hP hD hS 0 rfl rfl 7 (by decide) fl96 (fun _ h9 => h9) rfl (by decide +kernel) rfl rfl (Nat.le_of_ble_eq_true rfl) (ws' := cM cI a (bp (bp r1 5 4 0) 5 3 (nI (k1 + 0))) h) rfl dX4_readsAll_73 (fun H locs hP hD hS => ?_)
            refine lv_aload_n hx hb dX4_readsAll_76 rfl (lv_at hl 0 rfl) ?_
            refine va_get (D := D) (ci := 4) (v := .int 0) (C := RX4) (T := TX4) (N := 12) hx hb hts hinX4 hown hK hP 0 rfl rfl 8 (by decide) fl99 (fun _ h9 => h9) (congrArg (fun z => some (Value.int z)) ((bp_ne (by omega)).trans (bp_eq))) dX4_readsAll_77 ?_
            refine lv_if_eq (tgt := 19) hx hb dX4_readsAll_80 (by decide) (fun _ => ?_) (fun h9 => absurd (by decide) h9)
            refine lv_aload_n hx hb dX4_readsAll_19 rfl (lv_at hl 0 rfl) ?_
            refine va_get (D := D) (ci := 4) (v := .int 0) (C := RX4) (T := TX4) (N := 12) hx hb hts hinX4 hown hK hP 0 rfl rfl 8 (by decide) fl99 (fun _ h9 => h9) (congrArg (fun z => some (Value.int z)) ((bp_ne (by omega)).trans (bp_eq))) dX4_readsAll_20 ?_
            refine lv_if_eq (tgt := 90) hx hb dX4_readsAll_23 (by decide) (fun _ => ?_) (fun h9 => absurd (by decide) h9)
            have e9 : (bp (bp r1 5 4 0) 5 3 (nI (k1 + 0)) : rB) = raB r L := ((raF_no c_4 hAL c_5).symm.trans hres)
            rw [e9] at hP
            exact k_vret hx hb hr hlocks hS hP dX4_readsAll_90
          · skip
            refine lv_iconst (v := 1) hx hb dX4_readsAll_47 (by decide) ?_
            refine lv_goto (tgt := 52) hx hb dX4_readsAll_48 (by decide) ?_
            refine k_put (D := D) (ci := 4) (v := .int 1) (ty := .boolean) (C := RX4) (T := TX4) (N := 12) hx hb hts hinX4 tyX4 tyX4_ok nmX4 hown hK hP hD hS 0 rfl rfl 8 (by decide) fl99 (fun _ h9 => h9) rfl (by decide +kernel) (by first | rfl | decide) (by first | rfl | decide) (Nat.le_of_ble_eq_true rfl) (ws' := cM cI a (bp r1 5 4 1) h) rfl dX4_readsAll_52 (fun H locs hP hD hS => ?_)
            refine lv_aload_n hx hb dX4_readsAll_55 rfl (lv_at hl 0 rfl) ?_
            refine lv_dup hx hb dX4_readsAll_56 rfl ?_
            refine va_get (D := D) (ci := 4) (v := .int (nI k1)) (C := RX4) (T := TX4) (N := 12) hx hb hts hinX4 hown hK hP 0 rfl rfl 7 (by decide) fl96 (fun _ h9 => h9) (congrArg (fun z => some (Value.int z)) ((((bp_ne (by omega)).trans (rfl))).trans (hA1))) dX4_readsAll_57 ?_
            refine lv_aload_n hx hb dX4_readsAll_60 rfl (lv_at hl 0 rfl) ?_
            refine va_get (D := D) (ci := 4) (v := .int 1) (C := RX4) (T := TX4) (N := 12) hx hb hts hinX4 hown hK hP 0 rfl rfl 8 (by decide) fl99 (fun _ h9 => h9) (congrArg (fun z => some (Value.int z)) (bp_eq)) dX4_readsAll_61 ?_
            refine lv_if_eq (tgt := 71) hx hb dX4_readsAll_64 (by decide) (fun h9 => absurd h9 (by decide)) (fun _ => ?_)
            refine lv_iconst (v := 1) hx hb dX4_readsAll_67 (by decide) ?_
            refine lv_goto (tgt := 72) hx hb dX4_readsAll_68 (by decide) ?_
            refine lv_iadd hx hb dX4_readsAll_72 ?_
            refine lv_eqi (y := nI (k1 + 1)) (nI_add k1 1) ?_
            refine k_put (D := D) (ci := 4) (v := .int (nI (k1 + 1))) (ty := .int) (C := RX4) (T := TX4) (N := 12) hx hb hts hinX4 tyX4 tyX4_ok nmX4 hown hK hP hD hS 0 rfl rfl 7 (by decide) fl96 (fun _ h9 => h9) rfl (by decide +kernel) rfl rfl (Nat.le_of_ble_eq_true rfl) (ws' := cM cI a (bp (bp r1 5 4 1) 5 3 (nI (k1 + 1))) h) rfl dX4_readsAll_73 (fun H locs hP hD hS => ?_)
            refine lv_aload_n hx hb dX4_readsAll_76 rfl (lv_at hl 0 rfl) ?_
            refine va_get (D := D) (ci := 4) (v := .int 1) (C := RX4) (T := TX4) (N := 12) hx hb hts hinX4 hown hK hP 0 rfl rfl 8 (by decide) fl99 (fun _ h9 => h9) (congrArg (fun z => some (Value.int z)) ((bp_ne (by omega)).trans (bp_eq))) dX4_readsAll_77 ?_
            refine lv_if_eq (tgt := 19) hx hb dX4_readsAll_80 (by decide) (fun h9 => absurd h9 (by decide)) (fun _ => ?_)
            refine lv_aload_n hx hb dX4_readsAll_83 rfl (lv_at hl 0 rfl) ?_
            obtain ⟨r_6, er_6⟩ : ∃ z : rB, z = rpB (bp (bp r1 5 4 1) 5 3 (nI (k1 + 1))) (k1 + 1) L P1 := ⟨_, rfl⟩
            have hm_7 := mX4_readsPart l D cI cQ cJ a (bp (bp r1 5 4 1) 5 3 (nI (k1 + 1))) h (k1 + 1) L (bp_eq) (((bp_ne (by omega)).trans ((bp_ne (by omega)).trans (rfl))).trans hL1) hL60 (by omega) P1 (((bp_ne (by omega)).trans ((bp_ne (by omega)).trans (rfl))).trans hP1) (by omega)
            rw [← er_6] at hm_7
            refine k_callv (wc := cM cI a (bp (bp r1 5 4 1) 5 3 (nI (k1 + 1))) h) (w' := cM cI a r_6 h) (wn := cM cI a r_6 h) (va_runV (As := []) (rest := []) ⟨hx, hb, hml, hown, hts⟩ (hm_7 _) (cwV 0 hts gX4_readsAll_X4_readsPart rfl rfl rfl (by decide +kernel) ⟨Nat.le_of_ble_eq_true rfl, Nat.le_of_ble_eq_true rfl⟩) (k_preV (wc := cM cI a (bp (bp r1 5 4 1) 5 3 (nI (k1 + 1))) h) hE hK hP hD [0, 1, 2, 3, 4, 5] (by decide) rfl (ci := 4) (q0 := 0) rfl rfl []) rfl rfl hl.1 rfl (lv_room (Nat.le_of_ble_eq_true rfl)) dX4_readsAll_84 ⟨Nat.zero_le _, Nat.zero_le _⟩) hP hD hS hA [0, 1, 2, 3, 4, 5] rfl rfl rfl (fun H locs hP hD hS => ?_)
            refine lv_goto (tgt := 19) hx hb dX4_readsAll_87 (by decide) ?_
            have hge : k1 + 1 ≤ rpA (rsS r1 k1) (k1 + 1) L P1 := rpA_ge
            have hle : rpA (rsS r1 k1) (k1 + 1) L P1 ≤ k1 + 1 + 5 := rpA_le
            exact ih r_6 (rpA (rsS r1 k1) (k1 + 1) L P1) (rpP (rsS r1 k1) (k1 + 1) L P1) (by omega) (by omega) (rpP_le (by omega)) (by rw [er_6]; exact rpB_at) (by rw [er_6]; exact rpB_len ((bp_ne (by decide)).trans ((bp_ne (by decide)).trans hL1))) (by rw [er_6]; exact rpB_manyP) (by rw [er_6, ← hres]; exact (raF_go c_4 hAL c_5).symm) H locs hP hD hS ls (lv_sub hl [0] rfl)
      · skip
        refine lv_aload_n hx hb dX4_readsAll_19 rfl (lv_at hl 0 rfl) ?_
        refine va_get (D := D) (ci := 4) (v := .int (r1 5 4)) (C := RX4) (T := TX4) (N := 12) hx hb hts hinX4 hown hK hP 0 rfl rfl 8 (by decide) fl99 (fun _ h9 => h9) (congrArg (fun z => some (Value.int z)) (rfl)) dX4_readsAll_20 ?_
        refine lv_if_eq (tgt := 90) hx hb dX4_readsAll_23 (by decide) (fun c_8 => ?_) (fun c_8 => ?_)
        · skip
          have e9 : (r1 : rB) = raB r L := ((raF_bad c_8).symm.trans hres)
          rw [e9] at hP
          exact k_vret hx hb hr hlocks hS hP dX4_readsAll_90
        · skip
          refine lv_aload_n hx hb dX4_readsAll_26 rfl (lv_at hl 0 rfl) ?_
          refine va_get (D := D) (ci := 4) (v := .int (nI k1)) (C := RX4) (T := TX4) (N := 12) hx hb hts hinX4 hown hK hP 0 rfl rfl 7 (by decide) fl96 (fun _ h9 => h9) (congrArg (fun z => some (Value.int z)) (((rfl)).trans (hA1))) dX4_readsAll_27 ?_
          refine lv_aload_n hx hb dX4_readsAll_30 rfl (lv_at hl 0 rfl) ?_
          refine va_get (D := D) (ci := 4) (v := .int (nI L)) (C := RX4) (T := TX4) (N := 12) hx hb hts hinX4 hown hK hP 0 rfl rfl 6 (by decide) fl93 (fun _ h9 => h9) (congrArg (fun z => some (Value.int z)) (((rfl)).trans (hL1))) dX4_readsAll_31 ?_
          refine lv_icmp_ge (tgt := 90) hx hb dX4_readsAll_34 (by decide) (fun _ => ?_) (fun h9 => absurd (nI_le (a := L) (b := k1) (by omega) (by omega)) h9)
          have e9 : (r1 : rB) = raB r L := ((raF_end hAL).symm.trans hres)
          rw [e9] at hP
          exact k_vret hx hb hr hlocks hS hP dX4_readsAll_90
  have h0le : rpA (ra0 r) 0 L 0 ≤ 0 + 5 := rpA_le
  exact Ld 60 r_1 (rpA (ra0 r) 0 L 0) (rpP (ra0 r) 0 L 0) (by omega) (by omega) (rpP_le (by omega)) (by rw [er_1]; exact rpB_at) (by rw [er_1]; exact rpB_len ((bp_ne (by decide)).trans ((bp_ne (by decide)).trans ((bp_ne (by decide)).trans hL)))) (by rw [er_1]; exact rpB_manyP) (by rw [er_1]; rfl) _ _ hP hD hS ls (lv_sub hl [0] rfl)
