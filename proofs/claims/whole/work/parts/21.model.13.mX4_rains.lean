set_option maxHeartbeats 4000000 in
set_option maxRecDepth 100000 in
theorem mX4_rains (l : Launch) (D : va_G) (cI cQ cJ : ClassId) (a : Nat → Nat) (r : rB) (h : Int64) (y mi : Int32) (k : Nat) (hk : mi.toNatClampNeg = k) (hok : okS (r 0)) : Mi l D (tY cI cQ cJ) yX4_rains wsX4_rains ({ frames := 4, cells := 0, slots := 0, locals := 91 } : Room) [.ref (a 0), .int y, .int mi] (cM cI a r h) (cM cI a (minsM k r y) h) (minsM k r y 0 7 - r 0 7) := by
  refine M_of (cc := cX4_rains) (maxL := 5) (ret := some .int) (Qc := fun A => va_Qi (fun (x : Int32) (_ : Unit) => x = minsM k r y 0 7 - r 0 7) (fun _ t => Wd D (cM cI a (minsM k r y) h) t) A) (by decide) rfl (Nat.le_of_ble_eq_true rfl) ?_
  intro p e s m below meth c A ls hB hE hP hK hD hA hl
  obtain ⟨hx, hb, hr, hml, hts, hown, hlocks⟩ := hB
  have hS : va_S A s.heap s.heap [] := va_S.rf
  have hl : lv_has ls 5 [(0, .ref (a 0)), (1, .int y), (2, .int mi)] := hl
  have hinX4 : ∀ w ∈ u_ws RX4 TX4 12, w ∈ wsX4_rains := by decide +kernel
  have fl7 := hts (.fieldLink RX4 7 "RoofDrainsModel" "s" "[I") (by decide +kernel)
  refine lv_aload_n hx hb dX4_rains_0 rfl (lv_at hl 0 rfl) ?_
  refine va_get (D := D) (ci := 4) (v := .ref (a 1)) (C := RX4) (T := TX4) (N := 12) hx hb hts hinX4 hown hK hP 0 rfl rfl 1 (by decide) fl7 (fun _ h9 => h9) rfl dX4_rains_1 ?_
  refine lv_bipush (v := 7) hx hb dX4_rains_4 (by decide) ?_
  refine k_iald (k := 7) (v := r 0 7) hx hb hK hP 1 0 rfl rfl (vp_in_nI (n := 7) (by omega) (by omega)) (nI_clamp (n := 7) (by omega)) (rfl) dX4_rains_6 ?_
  refine lv_topi (fun v3_1 ev3_1 => ?_)
  refine lv_istore_n (lv' := [(3, .int v3_1), (0, .ref (a 0)), (1, .int y), (2, .int mi)]) hx hb dX4_rains_7 rfl hl (by decide) rfl (fun ls hl => ?_)
  refine lv_iconst (v := 0) hx hb dX4_rains_8 (by decide) ?_
  refine lv_istore (lv' := [(4, .int 0), (3, .int v3_1), (0, .ref (a 0)), (1, .int y), (2, .int mi)]) hx hb dX4_rains_9 hl (by decide) rfl (fun ls hl => ?_)
  have Lp11 : ∀ (n i : Nat) (r1 : rB), i + n = k → i ≤ k → okS (r1 0) → minsM n r1 y = minsM k r y → ∀ (H : Heap) (locs : List Loc), va_P D vwCl (cM cI a r1 h) H → va_D A (cM cI a r1 h) → va_S A s.heap H locs → ∀ (ls : Array Slot), lv_has ls 5 [(4, .int (nI i)), (3, .int v3_1), (0, .ref (a 0)), (1, .int y), (2, .int mi)] → W p l e ({ frames := 4, cells := 0, slots := 0, locals := 91 } : Room) s m ([.ref (a 0), .int y, .int mi] : List Value).toArray below meth c H locs 0 0 (MQ below (va_Qi (fun (x : Int32) (_ : Unit) => x = minsM k r y 0 7 - r 0 7) (fun _ t => Wd D (cM cI a (minsM k r y) h) t) A) ([.ref (a 0), .int y, .int mi] : List Value).toArray s 0 0 A) (F0 m 11 ls []) := by
    intro n
    induction n with
    | zero =>
      intro i r1 hin h8 hok1 hres H locs hP hD hS ls hl
      have h9r1 : r1 = minsM k r y := hres
      refine lv_iload hx hb dX4_rains_11 (lv_at hl 0 rfl) ?_
      refine lv_iload_n hx hb dX4_rains_13 rfl (lv_at hl 4 rfl) ?_
      refine lv_icmp_ge (tgt := 28) hx hb dX4_rains_14 (by decide) (fun _ => ?_) (fun h9 => absurd (cl_le (i := i) (by omega)) h9)
      refine lv_aload_n hx hb dX4_rains_28 rfl (lv_at hl 2 rfl) ?_
      refine va_get (D := D) (ci := 4) (v := .ref (a 1)) (C := RX4) (T := TX4) (N := 12) hx hb hts hinX4 hown hK hP 0 rfl rfl 1 (by decide) fl7 (fun _ h9 => h9) rfl dX4_rains_29 ?_
      refine lv_bipush (v := 7) hx hb dX4_rains_32 (by decide) ?_
      refine k_iald (k := 7) (v := r1 0 7) hx hb hK hP 1 0 rfl rfl (vp_in_nI (n := 7) (by omega) (by omega)) (nI_clamp (n := 7) (by omega)) (rfl) dX4_rains_34 ?_
      refine lv_iload_n hx hb dX4_rains_35 rfl (lv_at hl 1 rfl) ?_
      refine lv_isub hx hb dX4_rains_36 ?_
      have e9 : (r1 : rB) = minsM k r y := by (replace h9r1 := h9r1.symm; subst h9r1; replace ev3_1 := ev3_1.symm; subst ev3_1; simp only [↓reduceIte])
      rw [e9] at hP
      exact k_iret hx hb hr hlocks hS hP dX4_rains_37 (by (replace h9r1 := h9r1.symm; subst h9r1; replace ev3_1 := ev3_1.symm; subst ev3_1; simp only [↓reduceIte]))
    | succ n ih =>
      intro i r1 hin h8 hok1 hres H locs hP hD hS ls hl
      refine lv_iload hx hb dX4_rains_11 (lv_at hl 0 rfl) ?_
      refine lv_iload_n hx hb dX4_rains_13 rfl (lv_at hl 4 rfl) ?_
      refine lv_icmp_ge (tgt := 28) hx hb dX4_rains_14 (by decide) (fun h9 => absurd h9 (cl_nle (i := i) (by omega))) (fun _ => ?_)
      refine lv_aload_n hx hb dX4_rains_17 rfl (lv_at hl 2 rfl) ?_
      refine lv_iload_n hx hb dX4_rains_18 rfl (lv_at hl 3 rfl) ?_
      obtain ⟨r_2, er_2⟩ : ∃ z : rB, z = minM r1 y := ⟨_, rfl⟩
      have hm_3 := mX4_minute l D cI cQ cJ a r1 h y hok1
      rw [← er_2] at hm_3
      refine k_callv (wc := cM cI a r1 h) (w' := cM cI a r_2 h) (wn := cM cI a r_2 h) (va_runV (As := [.int y]) (rest := []) ⟨hx, hb, hml, hown, hts⟩ (hm_3 _) (cwV 1 hts gX4_rains_X4_minute rfl rfl rfl (by decide +kernel) ⟨Nat.le_of_ble_eq_true rfl, Nat.le_of_ble_eq_true rfl⟩) (k_preV (wc := cM cI a r1 h) hE hK hP hD [0, 1, 2, 3, 4, 5] (by decide) rfl (ci := 4) (q0 := 0) rfl rfl [.int y]) rfl rfl hl.1 rfl (lv_room (Nat.le_of_ble_eq_true rfl)) dX4_rains_19 ⟨Nat.zero_le _, Nat.zero_le _⟩) hP hD hS hA [0, 1, 2, 3, 4, 5] rfl rfl rfl (fun H locs hP hD hS => ?_)
      refine lv_iinc (v := nI (i + 1)) (lv' := [(4, .int (nI (i + 1))), (3, .int v3_1), (0, .ref (a 0)), (1, .int y), (2, .int mi)]) hx hb dX4_rains_22 hl (k := 0) rfl (nI_1 i) (by decide) rfl (fun ls hl => ?_)
      refine lv_goto (tgt := 11) hx hb dX4_rains_25 (by decide) ?_
      exact ih (i + 1) r_2 (by omega) (by omega) (by rw [er_2]; exact (minM_ok hok1)) (by replace er_2 := er_2.symm; subst er_2; replace ev3_1 := ev3_1.symm; subst ev3_1; exact hres) H locs hP hD hS ls (lv_sub hl [0, 1, 2, 3, 4] rfl)
  exact Lp11 k 0 r (by omega) (by omega) hok rfl _ _ hP hD hS ls (lv_sub hl [0, 1, 2, 3, 4] rfl)
