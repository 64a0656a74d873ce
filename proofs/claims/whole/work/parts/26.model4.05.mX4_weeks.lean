set_option maxHeartbeats 4000000 in
set_option maxRecDepth 100000 in
theorem mX4_weeks (l : Launch) (D : va_G) (cI cQ cJ : ClassId) (a : Nat → Nat) (r : rB) (h : Int64) (N : Nat) (hN : r 5 1 = nI N) (hN6 : N ≤ 6) (ix : Int32) : Mi l D (tY cI cQ cJ) yX4_weeks wsX4_weeks ({ frames := 2, cells := 0, slots := 0, locals := 44 } : Room) [.ref (a 0), .int ix] (cM cI a r h) (cM cI a (wksB r N ix) h) (wksV r N ix) := by
  refine M_of (cc := cX4_weeks) (maxL := 3) (ret := some .int) (Qc := fun A => va_Qi (fun (x : Int32) (_ : Unit) => x = wksV r N ix) (fun _ t => Wd D (cM cI a (wksB r N ix) h) t) A) (by decide) rfl (Nat.le_of_ble_eq_true rfl) ?_
  intro p e s m below meth c A ls hB hE hP hK hD hA hl
  obtain ⟨hx, hb, hr, hml, hts, hown, hlocks⟩ := hB
  have hS : va_S A s.heap s.heap [] := va_S.rf
  have hl : lv_has ls 3 [(0, .ref (a 0)), (1, .int ix)] := hl
  have hinX4 : ∀ w ∈ u_ws RX4 TX4 12, w ∈ wsX4_weeks := by decide +kernel
  have fl25 := hts (.fieldLink RX4 25 "RoofDrainsModel" "thrown" "I") (by decide +kernel)
  refine lv_aload_n hx hb dX4_weeks_0 rfl (lv_at hl 0 rfl) ?_
  refine lv_iconst (v := 0) hx hb dX4_weeks_1 (by decide) ?_
  refine k_put (D := D) (ci := 4) (v := .int 0) (ty := .int) (C := RX4) (T := TX4) (N := 12) hx hb hts hinX4 tyX4 tyX4_ok nmX4 hown hK hP hD hS 0 rfl rfl 0 (by decide) fl25 (fun _ h9 => h9) rfl (by decide +kernel) rfl rfl (Nat.le_of_ble_eq_true rfl) (ws' := cM cI a (bp r 5 0 0) h) rfl dX4_weeks_2 (fun H locs hP hD hS => ?_)
  refine lv_iload_n hx hb dX4_weeks_5 rfl (lv_at hl 1 rfl) ?_
  refine lv_iconst (v := 1) hx hb dX4_weeks_6 (by decide) ?_
  refine lv_bipush (v := 52) hx hb dX4_weeks_7 (by decide) ?_
  refine k_calli (wc := ([] : va_W)) (w' := ([] : va_W)) (wn := cM cI a (bp r 5 0 0) h) (va_runS (As := [.int ix, .int 1, .int 52]) (rest := []) ⟨hx, hb, hml, hown, hts⟩ (mX4_in l D cI cQ cJ ix 1 52 _) (va_cwS 3 hts gX4_weeks_X4_in rfl rfl rfl (by decide +kernel) ⟨Nat.le_of_ble_eq_true rfl, Nat.le_of_ble_eq_true rfl⟩) (k_preS (wc := ([] : va_W)) hE hK hP hD [] (by decide) rfl [.int ix, .int 1, .int 52]) rfl rfl hl.1 rfl (lv_room (Nat.le_of_ble_eq_true rfl)) dX4_weeks_9 ⟨Nat.zero_le _, Nat.zero_le _⟩) hP hD hS hA [] rfl rfl rfl (fun H locs hP hD hS => ?_)
  refine lv_if_ne (tgt := 21) hx hb dX4_weeks_12 (by decide) (fun c_1 => ?_) (fun c_1 => ?_)
  · skip
    refine lv_aload_n hx hb dX4_weeks_21 rfl (lv_at hl 0 rfl) ?_
    obtain ⟨r_2, er_2⟩ : ∃ z : rB, z = svB (bp r 5 0 0) N := ⟨_, rfl⟩
    have hm_3 := mX4_saves l D cI cQ cJ a (bp r 5 0 0) h N (by first | exact hN | exact (bp_ne (by decide)).trans hN) hN6
    rw [← er_2] at hm_3
    refine k_callv (wc := cM cI a (bp r 5 0 0) h) (w' := cM cI a r_2 h) (wn := cM cI a r_2 h) (va_runV (As := []) (rest := []) ⟨hx, hb, hml, hown, hts⟩ (hm_3 _) (cwV 0 hts gX4_weeks_X4_saves rfl rfl rfl (by decide +kernel) ⟨Nat.le_of_ble_eq_true rfl, Nat.le_of_ble_eq_true rfl⟩) (k_preV (wc := cM cI a (bp r 5 0 0) h) hE hK hP hD [0, 1, 2, 3, 4, 5] (by decide) rfl (ci := 4) (q0 := 0) rfl rfl []) rfl rfl hl.1 rfl (lv_room (Nat.le_of_ble_eq_true rfl)) dX4_weeks_22 ⟨Nat.zero_le _, Nat.zero_le _⟩) hP hD hS hA [0, 1, 2, 3, 4, 5] rfl rfl rfl (fun H locs hP hD hS => ?_)
    refine lv_iconst (v := 0) hx hb dX4_weeks_25 (by decide) ?_
    refine lv_istore_n (lv' := [(2, .int 0), (0, .ref (a 0)), (1, .int ix)]) hx hb dX4_weeks_26 rfl hl (by decide) rfl (fun ls hl => ?_)
    have Lp27 : ∀ (n i : Nat) (r1 : rB), i + n = ix.toNatClampNeg → i ≤ ix.toNatClampNeg → wksM n r1 = wksM ix.toNatClampNeg r_2 → ∀ (H : Heap) (locs : List Loc), va_P D vwCl (cM cI a r1 h) H → va_D A (cM cI a r1 h) → va_S A s.heap H locs → ∀ (ls : Array Slot), lv_has ls 3 [(2, .int (nI i)), (0, .ref (a 0)), (1, .int ix)] → W p l e ({ frames := 2, cells := 0, slots := 0, locals := 44 } : Room) s m ([.ref (a 0), .int ix] : List Value).toArray below meth c H locs 0 0 (MQ below (va_Qi (fun (x : Int32) (_ : Unit) => x = wksV r N ix) (fun _ t => Wd D (cM cI a (wksB r N ix) h) t) A) ([.ref (a 0), .int ix] : List Value).toArray s 0 0 A) (F0 m 27 ls []) := by
      intro n
      induction n with
      | zero =>
        intro i r1 hin h8 hres H locs hP hD hS ls hl
        have h9r1 : r1 = wksM ix.toNatClampNeg r_2 := hres
        refine lv_iload_n hx hb dX4_weeks_27 rfl (lv_at hl 0 rfl) ?_
        refine lv_iload_n hx hb dX4_weeks_28 rfl (lv_at hl 2 rfl) ?_
        refine lv_icmp_ge (tgt := 42) hx hb dX4_weeks_29 (by decide) (fun _ => ?_) (fun h9 => absurd (cl_le (i := i) (by omega)) h9)
        refine lv_aload_n hx hb dX4_weeks_42 rfl (lv_at hl 1 rfl) ?_
        refine k_calli (wc := cM cI a r1 h) (w' := cM cI a r1 h) (wn := cM cI a r1 h) (va_runV (As := []) (rest := []) ⟨hx, hb, hml, hown, hts⟩ (mX4_leaves l D cI cQ cJ a r1 h _) (cwV 0 hts gX4_weeks_X4_leaves rfl rfl rfl (by decide +kernel) ⟨Nat.le_of_ble_eq_true rfl, Nat.le_of_ble_eq_true rfl⟩) (k_preV (wc := cM cI a r1 h) hE hK hP hD [0, 1, 2, 3, 4, 5] (by decide) rfl (ci := 4) (q0 := 0) rfl rfl []) rfl rfl hl.1 rfl (lv_room (Nat.le_of_ble_eq_true rfl)) dX4_weeks_43 ⟨Nat.zero_le _, Nat.zero_le _⟩) hP hD hS hA [0, 1, 2, 3, 4, 5] rfl rfl rfl (fun H locs hP hD hS => ?_)
        have e9 : (r1 : rB) = wksB r N ix := by (replace h9r1 := h9r1.symm; subst h9r1; replace er_2 := er_2.symm; subst er_2; simp only [wksV, wksB, if_neg c_1, ↓reduceIte])
        rw [e9] at hP
        exact k_iret hx hb hr hlocks hS hP dX4_weeks_46 (by (replace h9r1 := h9r1.symm; subst h9r1; replace er_2 := er_2.symm; subst er_2; simp only [wksV, wksB, if_neg c_1, ↓reduceIte]))
      | succ n ih =>
        intro i r1 hin h8 hres H locs hP hD hS ls hl
        refine lv_iload_n hx hb dX4_weeks_27 rfl (lv_at hl 0 rfl) ?_
        refine lv_iload_n hx hb dX4_weeks_28 rfl (lv_at hl 2 rfl) ?_
        refine lv_icmp_ge (tgt := 42) hx hb dX4_weeks_29 (by decide) (fun h9 => absurd h9 (cl_nle (i := i) (by omega))) (fun _ => ?_)
        refine lv_aload_n hx hb dX4_weeks_32 rfl (lv_at hl 1 rfl) ?_
        obtain ⟨r_4, er_4⟩ : ∃ z : rB, z = weekM r1 := ⟨_, rfl⟩
        have hm_5 := mX4_week l D cI cQ cJ a r1 h
        rw [← er_4] at hm_5
        refine k_callv (wc := cM cI a r1 h) (w' := cM cI a r_4 h) (wn := cM cI a r_4 h) (va_runV (As := []) (rest := []) ⟨hx, hb, hml, hown, hts⟩ (hm_5 _) (cwV 0 hts gX4_weeks_X4_week rfl rfl rfl (by decide +kernel) ⟨Nat.le_of_ble_eq_true rfl, Nat.le_of_ble_eq_true rfl⟩) (k_preV (wc := cM cI a r1 h) hE hK hP hD [0, 1, 2, 3, 4, 5] (by decide) rfl (ci := 4) (q0 := 0) rfl rfl []) rfl rfl hl.1 rfl (lv_room (Nat.le_of_ble_eq_true rfl)) dX4_weeks_33 ⟨Nat.zero_le _, Nat.zero_le _⟩) hP hD hS hA [0, 1, 2, 3, 4, 5] rfl rfl rfl (fun H locs hP hD hS => ?_)
        refine lv_iinc (v := nI (i + 1)) (lv' := [(2, .int (nI (i + 1))), (0, .ref (a 0)), (1, .int ix)]) hx hb dX4_weeks_36 hl (k := 0) rfl (nI_1 i) (by decide) rfl (fun ls hl => ?_)
        refine lv_goto (tgt := 27) hx hb dX4_weeks_39 (by decide) ?_
        exact ih (i + 1) r_4 (by omega) (by omega) (by replace er_4 := er_4.symm; subst er_4; replace er_2 := er_2.symm; subst er_2; exact hres) H locs hP hD hS ls (lv_sub hl [0, 1, 2] rfl)
    exact Lp27 ix.toNatClampNeg 0 r_2 (by omega) (by omega) rfl _ _ hP hD hS ls (lv_sub hl [0, 1, 2] rfl)
  · skip
    refine lv_aload_n hx hb dX4_weeks_15 rfl (lv_at hl 0 rfl) ?_
    refine lv_iconst (v := 1) hx hb dX4_weeks_16 (by decide) ?_
    obtain ⟨r_6, er_6⟩ : ∃ z : rB, z = bp (bp r 5 0 0) 5 0 1 := ⟨_, rfl⟩
    have hm_7 := mX4_fails l D cI cQ cJ a (bp r 5 0 0) h 1
    rw [← er_6] at hm_7
    refine k_calli (wc := cM cI a (bp r 5 0 0) h) (w' := cM cI a r_6 h) (wn := cM cI a r_6 h) (va_runV (As := [.int 1]) (rest := []) ⟨hx, hb, hml, hown, hts⟩ (hm_7 _) (cwV 1 hts gX4_weeks_X4_fails rfl rfl rfl (by decide +kernel) ⟨Nat.le_of_ble_eq_true rfl, Nat.le_of_ble_eq_true rfl⟩) (k_preV (wc := cM cI a (bp r 5 0 0) h) hE hK hP hD [0, 1, 2, 3, 4, 5] (by decide) rfl (ci := 4) (q0 := 0) rfl rfl [.int 1]) rfl rfl hl.1 rfl (lv_room (Nat.le_of_ble_eq_true rfl)) dX4_weeks_17 ⟨Nat.zero_le _, Nat.zero_le _⟩) hP hD hS hA [0, 1, 2, 3, 4, 5] rfl rfl rfl (fun H locs hP hD hS => ?_)
    have e9 : (r_6 : rB) = wksB r N ix := by (replace er_6 := er_6.symm; subst er_6; simp only [wksV, wksB, if_pos c_1, ↓reduceIte])
    rw [e9] at hP
    exact k_iret hx hb hr hlocks hS hP dX4_weeks_20 (by (replace er_6 := er_6.symm; subst er_6; simp only [wksV, wksB, if_pos c_1, ↓reduceIte]))
