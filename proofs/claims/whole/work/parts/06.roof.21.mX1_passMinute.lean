set_option maxHeartbeats 4000000 in
set_option maxRecDepth 100000 in
theorem mX1_passMinute (l : Launch) (D : va_G) (cI cQ cJ : ClassId) (a : Nat → Nat) (r : rB) (x : Int32) : Mv l D (tY cI cQ cJ) yX1_passMinute wsX1_passMinute ({ frames := 2, cells := 0, slots := 0, locals := 47 } : Room) [.ref (a 0), .int x] (cR cI a r) (cR cI a (minuteC r x)) := by
  refine M_of (cc := cX1_passMinute) (maxL := 3) (ret := none) (Qc := fun A => va_Qv (fun (_ : Unit) => True) (fun _ t => Wd D (cR cI a (minuteC r x)) t) A) (by decide) rfl (Nat.le_of_ble_eq_true rfl) ?_
  intro p e s m below meth c A ls hB hE hP hK hD hA hl
  obtain ⟨hx, hb, hr, hml, hts, hown, hlocks⟩ := hB
  have hS : va_S A s.heap s.heap [] := va_S.rf
  have hl : lv_has ls 3 [(0, .ref (a 0)), (1, .int x)] := hl
  have hinX1 : ∀ w ∈ u_ws RX1 TX1 16, w ∈ wsX1_passMinute := by decide +kernel
  have fl54 := hts (.fieldLink RX1 54 "RoofDrains$Roof" "minutesGone" "I") (by decide +kernel)
  refine lv_iconst (v := 0) hx hb dX1_passMinute_0 (by decide) ?_
  refine lv_istore_n (lv' := [(2, .int 0), (0, .ref (a 0)), (1, .int x)]) hx hb dX1_passMinute_1 rfl hl (by decide) rfl (fun ls hl => ?_)
  have Lp2 : ∀ (n i : Nat) (r1 : rB), i + n = 6 → wetAll n i r1 x = wetAll 6 0 r x → ∀ (H : Heap) (locs : List Loc), va_P D vwCl (cR cI a r1) H → va_D A (cR cI a r1) → va_S A s.heap H locs → ∀ (ls : Array Slot), lv_has ls 3 [(2, .int (nI i)), (0, .ref (a 0)), (1, .int x)] → W p l e ({ frames := 2, cells := 0, slots := 0, locals := 47 } : Room) s m ([.ref (a 0), .int x] : List Value).toArray below meth c H locs 0 0 (MQ below (va_Qv (fun (_ : Unit) => True) (fun _ t => Wd D (cR cI a (minuteC r x)) t) A) ([.ref (a 0), .int x] : List Value).toArray s 0 0 A) (F0 m 2 ls []) := by
    intro n
    induction n with
    | zero =>
      intro i r1 hin hres H locs hP hD hS ls hl
      have h9r1 : r1 = wetAll 6 0 r x := hres
      refine lv_iload_n hx hb dX1_passMinute_2 rfl (lv_at hl 0 rfl) ?_
      refine lv_bipush (v := 6) hx hb dX1_passMinute_3 (by decide) ?_
      refine lv_icmp_ge (tgt := 20) hx hb dX1_passMinute_5 (by decide) (fun _ => ?_) (fun h9 => absurd (nI_le (a := 6) (b := i) (by omega) (by omega)) h9)
      refine lv_aload_n hx hb dX1_passMinute_20 rfl (lv_at hl 1 rfl) ?_
      obtain ⟨r_1, er_1⟩ : ∃ z : rB, z = emptyD r1 := ⟨_, rfl⟩
      have hm_2 := mX1_emptyIntoDrain l D cI cQ cJ a r1
      rw [← er_1] at hm_2
      refine k_callv (wc := cR cI a r1) (w' := cR cI a r_1) (wn := cR cI a r_1) (va_runV (As := []) (rest := []) ⟨hx, hb, hml, hown, hts⟩ (hm_2 _) (cwV 0 hts gX1_passMinute_X1_emptyIntoDrain rfl rfl rfl (by decide +kernel) ⟨Nat.le_of_ble_eq_true rfl, Nat.le_of_ble_eq_true rfl⟩) (k_preV (wc := cR cI a r1) hE hK hP hD [0, 1, 2, 3, 4, 5, 6, 7, 8, 9, 10, 11, 12] (by decide) rfl (ci := 1) (q0 := 0) rfl rfl []) rfl rfl hl.1 rfl (lv_room (Nat.le_of_ble_eq_true rfl)) dX1_passMinute_21 ⟨Nat.zero_le _, Nat.zero_le _⟩) hP hD hS hA [0, 1, 2, 3, 4, 5, 6, 7, 8, 9, 10, 11, 12] rfl rfl rfl (fun H locs hP hD hS => ?_)
      refine lv_iconst (v := 0) hx hb dX1_passMinute_24 (by decide) ?_
      refine lv_istore_n (lv' := [(2, .int 0), (0, .ref (a 0)), (1, .int x)]) hx hb dX1_passMinute_25 rfl hl (by decide) rfl (fun ls hl => ?_)
      have Lp26 : ∀ (n i : Nat) (r2 : rB), i + n = 6 → ovfAll n i r2 = ovfAll 6 0 r_1 → ∀ (H : Heap) (locs : List Loc), va_P D vwCl (cR cI a r2) H → va_D A (cR cI a r2) → va_S A s.heap H locs → ∀ (ls : Array Slot), lv_has ls 3 [(2, .int (nI i)), (0, .ref (a 0)), (1, .int x)] → W p l e ({ frames := 2, cells := 0, slots := 0, locals := 47 } : Room) s m ([.ref (a 0), .int x] : List Value).toArray below meth c H locs 0 0 (MQ below (va_Qv (fun (_ : Unit) => True) (fun _ t => Wd D (cR cI a (minuteC r x)) t) A) ([.ref (a 0), .int x] : List Value).toArray s 0 0 A) (F0 m 26 ls []) := by
        intro n
        induction n with
        | zero =>
          intro i r2 hin hres H locs hP hD hS ls hl
          have h9r2 : r2 = ovfAll 6 0 r_1 := hres
          refine lv_iload_n hx hb dX1_passMinute_26 rfl (lv_at hl 0 rfl) ?_
          refine lv_bipush (v := 6) hx hb dX1_passMinute_27 (by decide) ?_
          refine lv_icmp_ge (tgt := 43) hx hb dX1_passMinute_29 (by decide) (fun _ => ?_) (fun h9 => absurd (nI_le (a := 6) (b := i) (by omega) (by omega)) h9)
          refine lv_aload_n hx hb dX1_passMinute_43 rfl (lv_at hl 1 rfl) ?_
          refine lv_dup hx hb dX1_passMinute_44 rfl ?_
          refine va_get (D := D) (ci := 1) (v := .int (r2 12 0)) (C := RX1) (T := TX1) (N := 16) hx hb hts hinX1 hown hK hP 0 rfl rfl 12 (by decide) fl54 (fun _ h9 => h9) (congrArg (fun z => some (Value.int z)) (rfl)) dX1_passMinute_45 ?_
          refine lv_iconst (v := 1) hx hb dX1_passMinute_48 (by decide) ?_
          refine lv_iadd hx hb dX1_passMinute_49 ?_
          refine lv_topi (fun f_3 ef_3 => ?_)
          refine k_put (D := D) (ci := 1) (v := .int f_3) (ty := .int) (C := RX1) (T := TX1) (N := 16) hx hb hts hinX1 tyX1 tyX1_ok nmX1 hown hK hP hD hS 0 rfl rfl 12 (by decide) fl54 (fun _ h9 => h9) rfl (by decide +kernel) rfl rfl (Nat.le_of_ble_eq_true rfl) (ws' := cR cI a (bp r2 12 0 f_3)) rfl dX1_passMinute_50 (fun H locs hP hD hS => ?_)
          have e9 : (bp r2 12 0 f_3 : rB) = minuteC r x := by (replace ef_3 := ef_3.symm; subst ef_3; replace h9r2 := h9r2.symm; subst h9r2; replace er_1 := er_1.symm; subst er_1; replace h9r1 := h9r1.symm; subst h9r1; simp only [minuteC, ↓reduceIte])
          rw [e9] at hP
          exact k_vret hx hb hr hlocks hS hP dX1_passMinute_53
        | succ n ih =>
          intro i r2 hin hres H locs hP hD hS ls hl
          refine lv_iload_n hx hb dX1_passMinute_26 rfl (lv_at hl 0 rfl) ?_
          refine lv_bipush (v := 6) hx hb dX1_passMinute_27 (by decide) ?_
          refine lv_icmp_ge (tgt := 43) hx hb dX1_passMinute_29 (by decide) (fun h9 => absurd h9 (nI_ge (a := i) (b := 6) (by omega) (by omega))) (fun _ => ?_)
          refine lv_aload_n hx hb dX1_passMinute_32 rfl (lv_at hl 1 rfl) ?_
          refine lv_iload_n hx hb dX1_passMinute_33 rfl (lv_at hl 0 rfl) ?_
          obtain ⟨r_4, er_4⟩ : ∃ z : rB, z = ovf r2 i := ⟨_, rfl⟩
          have hm_5 := mX1_overflow l D cI cQ cJ a r2 (nI i) i (vp_in_nI (n := i) (by omega) (by omega)) (nI_clamp (n := i) (by omega))
          rw [← er_4] at hm_5
          refine k_callv (wc := cR cI a r2) (w' := cR cI a r_4) (wn := cR cI a r_4) (va_runV (As := [.int (nI i)]) (rest := []) ⟨hx, hb, hml, hown, hts⟩ (hm_5 _) (cwV 1 hts gX1_passMinute_X1_overflow rfl rfl rfl (by decide +kernel) ⟨Nat.le_of_ble_eq_true rfl, Nat.le_of_ble_eq_true rfl⟩) (k_preV (wc := cR cI a r2) hE hK hP hD [0, 1, 2, 3, 4, 5, 6, 7, 8, 9, 10, 11, 12] (by decide) rfl (ci := 1) (q0 := 0) rfl rfl [.int (nI i)]) rfl rfl hl.1 rfl (lv_room (Nat.le_of_ble_eq_true rfl)) dX1_passMinute_34 ⟨Nat.zero_le _, Nat.zero_le _⟩) hP hD hS hA [0, 1, 2, 3, 4, 5, 6, 7, 8, 9, 10, 11, 12] rfl rfl rfl (fun H locs hP hD hS => ?_)
          refine lv_iinc (v := nI (i + 1)) (lv' := [(2, .int (nI (i + 1))), (0, .ref (a 0)), (1, .int x)]) hx hb dX1_passMinute_37 hl (k := 0) rfl (nI_1 i) (by decide) rfl (fun ls hl => ?_)
          refine lv_goto (tgt := 26) hx hb dX1_passMinute_40 (by decide) ?_
          exact ih (i + 1) r_4 (by omega) (by replace er_4 := er_4.symm; subst er_4; replace er_1 := er_1.symm; subst er_1; replace h9r1 := h9r1.symm; subst h9r1; exact hres) H locs hP hD hS ls (lv_sub hl [0, 1, 2] rfl)
      exact Lp26 6 0 r_1 (by omega) rfl _ _ hP hD hS ls (lv_sub hl [0, 1, 2] rfl)
    | succ n ih =>
      intro i r1 hin hres H locs hP hD hS ls hl
      refine lv_iload_n hx hb dX1_passMinute_2 rfl (lv_at hl 0 rfl) ?_
      refine lv_bipush (v := 6) hx hb dX1_passMinute_3 (by decide) ?_
      refine lv_icmp_ge (tgt := 20) hx hb dX1_passMinute_5 (by decide) (fun h9 => absurd h9 (nI_ge (a := i) (b := 6) (by omega) (by omega))) (fun _ => ?_)
      refine lv_aload_n hx hb dX1_passMinute_8 rfl (lv_at hl 1 rfl) ?_
      refine lv_iload_n hx hb dX1_passMinute_9 rfl (lv_at hl 0 rfl) ?_
      refine lv_iload_n hx hb dX1_passMinute_10 rfl (lv_at hl 2 rfl) ?_
      obtain ⟨r_6, er_6⟩ : ∃ z : rB, z = wet r1 i x := ⟨_, rfl⟩
      have hm_7 := mX1_wetPlane l D cI cQ cJ a r1 (nI i) i (vp_in_nI (n := i) (by omega) (by omega)) (nI_clamp (n := i) (by omega)) x
      rw [← er_6] at hm_7
      refine k_callv (wc := cR cI a r1) (w' := cR cI a r_6) (wn := cR cI a r_6) (va_runV (As := [.int (nI i), .int x]) (rest := []) ⟨hx, hb, hml, hown, hts⟩ (hm_7 _) (cwV 2 hts gX1_passMinute_X1_wetPlane rfl rfl rfl (by decide +kernel) ⟨Nat.le_of_ble_eq_true rfl, Nat.le_of_ble_eq_true rfl⟩) (k_preV (wc := cR cI a r1) hE hK hP hD [0, 1, 2, 3, 4, 5, 6, 7, 8, 9, 10, 11, 12] (by decide) rfl (ci := 1) (q0 := 0) rfl rfl [.int (nI i), .int x]) rfl rfl hl.1 rfl (lv_room (Nat.le_of_ble_eq_true rfl)) dX1_passMinute_11 ⟨Nat.zero_le _, Nat.zero_le _⟩) hP hD hS hA [0, 1, 2, 3, 4, 5, 6, 7, 8, 9, 10, 11, 12] rfl rfl rfl (fun H locs hP hD hS => ?_)
      refine lv_iinc (v := nI (i + 1)) (lv' := [(2, .int (nI (i + 1))), (0, .ref (a 0)), (1, .int x)]) hx hb dX1_passMinute_14 hl (k := 0) rfl (nI_1 i) (by decide) rfl (fun ls hl => ?_)
      refine lv_goto (tgt := 2) hx hb dX1_passMinute_17 (by decide) ?_
      exact ih (i + 1) r_6 (by omega) (by replace er_6 := er_6.symm; subst er_6; exact hres) H locs hP hD hS ls (lv_sub hl [0, 1, 2] rfl)
  exact Lp2 6 0 r (by omega) rfl _ _ hP hD hS ls (lv_sub hl [0, 1, 2] rfl)
