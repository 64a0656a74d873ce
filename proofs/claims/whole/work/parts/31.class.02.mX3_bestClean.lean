set_option maxHeartbeats 4000000 in
set_option maxRecDepth 100000 in
theorem mX3_bestClean (l : Launch) (D : va_G) (cI cQ cJ : ClassId) (o s0 x0 : Nat) (a a2 : Nat → Nat) (r q : rB)  : Mi l D (tY cI cQ cJ) yX3_bestClean wsX3_bestClean ({ frames := 5, cells := 0, slots := 0, locals := 113 } : Room) [.ref o] ((cO o [.ref (a 0), .ref (a2 0), .ref s0, .ref x0]) ++ (cR cI a r) ++ (cR cI a2 q)) ((cO o [.ref (a 0), .ref (a2 0), .ref s0, .ref x0]) ++ (cR cI a r) ++ (cR cI a2 ((bcC r 6 0 q (-1) 0).1))) ((bcC r 6 0 q (-1) 0).2) := by
  refine M_of (cc := cX3_bestClean) (maxL := 5) (ret := some .int) (Qc := fun A => va_Qi (fun (x : Int32) (_ : Unit) => x = (bcC r 6 0 q (-1) 0).2) (fun _ t => Wd D ((cO o [.ref (a 0), .ref (a2 0), .ref s0, .ref x0]) ++ (cR cI a r) ++ (cR cI a2 ((bcC r 6 0 q (-1) 0).1))) t) A) (by decide) rfl (Nat.le_of_ble_eq_true rfl) ?_
  intro p e s m below meth c A ls hB hE hP hK hD hA hl
  obtain ⟨hx, hb, hr, hml, hts, hown, hlocks⟩ := hB
  have hS : va_S A s.heap s.heap [] := va_S.rf
  have hl : lv_has ls 5 [(0, .ref o)] := hl
  have hinX3 : ∀ w ∈ u_ws RX3 TX3 4, w ∈ wsX3_bestClean := by decide +kernel
  have fl10 := hts (.fieldLink RX3 10 "RoofDrains" "roof" "LRoofDrains$Roof;") (by decide +kernel)
  refine lv_iconst (v := (-1)) hx hb dX3_bestClean_0 (by decide) ?_
  refine lv_topi (fun v1_1 ev1_1 => ?_)
  refine lv_istore_n (lv' := [(1, .int v1_1), (0, .ref o)]) hx hb dX3_bestClean_1 rfl hl (by decide) rfl (fun ls hl => ?_)
  refine lv_iconst (v := 0) hx hb dX3_bestClean_2 (by decide) ?_
  refine lv_istore_n (lv' := [(2, .int 0), (1, .int v1_1), (0, .ref o)]) hx hb dX3_bestClean_3 rfl hl (by decide) rfl (fun ls hl => ?_)
  refine lv_iconst (v := 0) hx hb dX3_bestClean_4 (by decide) ?_
  refine lv_istore_n (lv' := [(3, .int 0), (2, .int 0), (1, .int v1_1), (0, .ref o)]) hx hb dX3_bestClean_5 rfl hl (by decide) rfl (fun ls hl => ?_)
  have Lp6 : ∀ (n i : Nat) (q1 : rB) (be : Int32) (le : Int32), i + n = 6 → bcC r n i q1 be le = bcC r 6 0 q v1_1 0 → ∀ (H : Heap) (locs : List Loc), va_P D vwCl ((cO o [.ref (a 0), .ref (a2 0), .ref s0, .ref x0]) ++ (cR cI a r) ++ (cR cI a2 q1)) H → va_D A ((cO o [.ref (a 0), .ref (a2 0), .ref s0, .ref x0]) ++ (cR cI a r) ++ (cR cI a2 q1)) → va_S A s.heap H locs → ∀ (ls : Array Slot), lv_has ls 5 [(3, .int (nI i)), (2, .int le), (1, .int be), (0, .ref o)] → W p l e ({ frames := 5, cells := 0, slots := 0, locals := 113 } : Room) s m ([.ref o] : List Value).toArray below meth c H locs 0 0 (MQ below (va_Qi (fun (x : Int32) (_ : Unit) => x = (bcC r 6 0 q (-1) 0).2) (fun _ t => Wd D ((cO o [.ref (a 0), .ref (a2 0), .ref s0, .ref x0]) ++ (cR cI a r) ++ (cR cI a2 ((bcC r 6 0 q (-1) 0).1))) t) A) ([.ref o] : List Value).toArray s 0 0 A) (F0 m 6 ls []) := by
    intro n
    induction n with
    | zero =>
      intro i q1 be le hin hres H locs hP hD hS ls hl
      refine lv_iload_n hx hb dX3_bestClean_6 rfl (lv_at hl 0 rfl) ?_
      refine lv_bipush (v := 6) hx hb dX3_bestClean_7 (by decide) ?_
      refine lv_icmp_ge (tgt := 52) hx hb dX3_bestClean_9 (by decide) (fun _ => ?_) (fun h9 => absurd (nI_le (a := 6) (b := i) (by omega) (by omega)) h9)
      refine lv_iload_n hx hb dX3_bestClean_52 rfl (lv_at hl 2 rfl) ?_
      have e9 : (q1 : rB) = (bcC r 6 0 q (-1) 0).1 := by (replace ev1_1 := ev1_1.symm; subst ev1_1; rw [← hres]; simp only [bcC, ↓reduceIte])
      rw [e9] at hP
      exact k_iret hx hb hr hlocks hS hP dX3_bestClean_53 (by (replace ev1_1 := ev1_1.symm; subst ev1_1; rw [← hres]; simp only [bcC, ↓reduceIte]))
    | succ n ih =>
      intro i q1 be le hin hres H locs hP hD hS ls hl
      refine lv_iload_n hx hb dX3_bestClean_6 rfl (lv_at hl 0 rfl) ?_
      refine lv_bipush (v := 6) hx hb dX3_bestClean_7 (by decide) ?_
      refine lv_icmp_ge (tgt := 52) hx hb dX3_bestClean_9 (by decide) (fun h9 => absurd h9 (nI_ge (a := i) (b := 6) (by omega) (by omega))) (fun _ => ?_)
      refine lv_aload_n hx hb dX3_bestClean_12 rfl (lv_at hl 3 rfl) ?_
      refine va_get (D := D) (ci := 3) (v := .ref (a 0)) (C := RX3) (T := TX3) (N := 4) hx hb hts hinX3 hown hK hP 0 rfl rfl 0 (by decide) fl10 (fun _ h9 => h9) rfl dX3_bestClean_13 ?_
      refine lv_iload_n hx hb dX3_bestClean_16 rfl (lv_at hl 0 rfl) ?_
      refine k_calli (wc := cR cI a r) (w' := cR cI a r) (wn := (cO o [.ref (a 0), .ref (a2 0), .ref s0, .ref x0]) ++ (cR cI a r) ++ (cR cI a2 q1)) (va_runV (As := [.int (nI i)]) (rest := []) ⟨hx, hb, hml, hown, hts⟩ (mX1_hasLeaves l D cI cQ cJ a r (nI i) i (vp_in_nI (n := i) (by omega) (by omega)) (nI_clamp (n := i) (by omega)) _) (cwV 1 hts gX3_bestClean_X1_hasLeaves rfl rfl rfl (by decide +kernel) ⟨Nat.le_of_ble_eq_true rfl, Nat.le_of_ble_eq_true rfl⟩) (k_preV (wc := cR cI a r) hE hK hP hD [1, 2, 3, 4, 5, 6, 7, 8, 9, 10, 11, 12, 13] (by decide) rfl (ci := 1) (q0 := 1) rfl rfl [.int (nI i)]) rfl rfl hl.1 rfl (lv_room (Nat.le_of_ble_eq_true rfl)) dX3_bestClean_17 ⟨Nat.zero_le _, Nat.zero_le _⟩) hP hD hS hA [1, 2, 3, 4, 5, 6, 7, 8, 9, 10, 11, 12, 13] rfl rfl (by rw [show [1, 2, 3, 4, 5, 6, 7, 8, 9, 10, 11, 12, 13] = List.range' 1 13 from rfl, putAt_l _ _ _ _ 14, putAt_0 13 _ _ _ 1] <;> first | rfl | decide) (fun H locs hP hD hS => ?_)
      refine lv_if_eq (tgt := 46) hx hb dX3_bestClean_20 (by decide) (fun c_2 => ?_) (fun c_2 => ?_)
      · skip
        refine lv_iinc (v := nI (i + 1)) (lv' := [(3, .int (nI (i + 1))), (2, .int le), (1, .int be), (0, .ref o)]) hx hb dX3_bestClean_46 hl (k := 0) rfl (nI_1 i) (by decide) rfl (fun ls hl => ?_)
        refine lv_goto (tgt := 6) hx hb dX3_bestClean_49 (by decide) ?_
        exact ih (i + 1) q1 be le (by omega) (by replace ev1_1 := ev1_1.symm; subst ev1_1; rw [← hres]; simp only [bcC, bcT, i10, i00, if_pos c_2, ↓reduceIte]) H locs hP hD hS ls (lv_sub hl [0, 1, 2, 3] rfl)
      · skip
        refine lv_aload_n hx hb dX3_bestClean_23 rfl (lv_at hl 3 rfl) ?_
        refine lv_iload_n hx hb dX3_bestClean_24 rfl (lv_at hl 0 rfl) ?_
        obtain ⟨r_3, er_3⟩ : ∃ z : rB, z = sicB r i := ⟨_, rfl⟩
        have hm_4 := mX3_spiltIfCleaned l D cI cQ cJ o s0 x0 a a2 r q1 (nI i) i (vp_in_nI (n := i) (by omega) (by omega)) (nI_clamp (n := i) (by omega))
        rw [← er_3] at hm_4
        refine k_calli (wc := (cO o [.ref (a 0), .ref (a2 0), .ref s0, .ref x0]) ++ (cR cI a r) ++ (cR cI a2 q1)) (w' := (cO o [.ref (a 0), .ref (a2 0), .ref s0, .ref x0]) ++ (cR cI a r) ++ (cR cI a2 r_3)) (wn := (cO o [.ref (a 0), .ref (a2 0), .ref s0, .ref x0]) ++ (cR cI a r) ++ (cR cI a2 r_3)) (va_runV (As := [.int (nI i)]) (rest := []) ⟨hx, hb, hml, hown, hts⟩ (hm_4 _) (cwV 1 hts gX3_bestClean_X3_spiltIfCleaned rfl rfl rfl (by decide +kernel) ⟨Nat.le_of_ble_eq_true rfl, Nat.le_of_ble_eq_true rfl⟩) (k_preV (wc := (cO o [.ref (a 0), .ref (a2 0), .ref s0, .ref x0]) ++ (cR cI a r) ++ (cR cI a2 q1)) hE hK hP hD [0, 1, 2, 3, 4, 5, 6, 7, 8, 9, 10, 11, 12, 13, 14, 15, 16, 17, 18, 19, 20, 21, 22, 23, 24, 25, 26] (by decide) rfl (ci := 3) (q0 := 0) rfl rfl [.int (nI i)]) rfl rfl hl.1 rfl (lv_room (Nat.le_of_ble_eq_true rfl)) dX3_bestClean_25 ⟨Nat.zero_le _, Nat.zero_le _⟩) hP hD hS hA [0, 1, 2, 3, 4, 5, 6, 7, 8, 9, 10, 11, 12, 13, 14, 15, 16, 17, 18, 19, 20, 21, 22, 23, 24, 25, 26] rfl rfl (by rw [show [0, 1, 2, 3, 4, 5, 6, 7, 8, 9, 10, 11, 12, 13, 14, 15, 16, 17, 18, 19, 20, 21, 22, 23, 24, 25, 26] = List.range' 0 27 from rfl, putAt_f 27] <;> rfl) (fun H locs hP hD hS => ?_)
        refine lv_topi (fun v4_5 ev4_5 => ?_)
        refine lv_istore (lv' := [(4, .int v4_5), (3, .int (nI i)), (2, .int le), (1, .int be), (0, .ref o)]) hx hb dX3_bestClean_28 hl (by decide) rfl (fun ls hl => ?_)
        refine lv_iload_n hx hb dX3_bestClean_30 rfl (lv_at hl 3 rfl) ?_
        refine lv_iconst (v := (-1)) hx hb dX3_bestClean_31 (by decide) ?_
        refine lv_icmp_eq (tgt := 41) hx hb dX3_bestClean_32 (by decide) (fun c_6 => ?_) (fun c_6 => ?_)
        · skip
          refine lv_iload_n hx hb dX3_bestClean_41 rfl (lv_at hl 1 rfl) ?_
          refine lv_istore_n (lv' := [(1, .int (nI i)), (4, .int v4_5), (3, .int (nI i)), (2, .int le), (0, .ref o)]) hx hb dX3_bestClean_42 rfl hl (by decide) rfl (fun ls hl => ?_)
          refine lv_iload hx hb dX3_bestClean_43 (lv_at hl 1 rfl) ?_
          refine lv_istore_n (lv' := [(2, .int v4_5), (1, .int (nI i)), (4, .int v4_5), (3, .int (nI i)), (0, .ref o)]) hx hb dX3_bestClean_45 rfl hl (by decide) rfl (fun ls hl => ?_)
          refine lv_iinc (v := nI (i + 1)) (lv' := [(3, .int (nI (i + 1))), (2, .int v4_5), (1, .int (nI i)), (4, .int v4_5), (0, .ref o)]) hx hb dX3_bestClean_46 hl (k := 3) rfl (nI_1 i) (by decide) rfl (fun ls hl => ?_)
          refine lv_goto (tgt := 6) hx hb dX3_bestClean_49 (by decide) ?_
          exact ih (i + 1) r_3 (nI i) v4_5 (by omega) (by replace ev4_5 := ev4_5.symm; subst ev4_5; replace er_3 := er_3.symm; subst er_3; replace ev1_1 := ev1_1.symm; subst ev1_1; rw [← hres]; simp only [bcC, bcT, i10, i00, if_neg c_2, if_pos c_6, ↓reduceIte]) H locs hP hD hS ls (lv_sub hl [0, 1, 2, 4] rfl)
        · skip
          refine lv_iload hx hb dX3_bestClean_35 (lv_at hl 0 rfl) ?_
          refine lv_iload_n hx hb dX3_bestClean_37 rfl (lv_at hl 2 rfl) ?_
          refine lv_icmp_ge (tgt := 46) hx hb dX3_bestClean_38 (by decide) (fun c_7 => ?_) (fun c_7 => ?_)
          · skip
            refine lv_iinc (v := nI (i + 1)) (lv' := [(3, .int (nI (i + 1))), (4, .int v4_5), (2, .int le), (1, .int be), (0, .ref o)]) hx hb dX3_bestClean_46 hl (k := 1) rfl (nI_1 i) (by decide) rfl (fun ls hl => ?_)
            refine lv_goto (tgt := 6) hx hb dX3_bestClean_49 (by decide) ?_
            exact ih (i + 1) r_3 be le (by omega) (by replace ev4_5 := ev4_5.symm; subst ev4_5; replace er_3 := er_3.symm; subst er_3; replace ev1_1 := ev1_1.symm; subst ev1_1; rw [← hres]; simp only [bcC, bcT, i10, i00, if_neg c_2, if_neg c_6, if_pos c_7, ↓reduceIte]) H locs hP hD hS ls (lv_sub hl [0, 2, 3, 4] rfl)
          · skip
            refine lv_iload_n hx hb dX3_bestClean_41 rfl (lv_at hl 1 rfl) ?_
            refine lv_istore_n (lv' := [(1, .int (nI i)), (4, .int v4_5), (3, .int (nI i)), (2, .int le), (0, .ref o)]) hx hb dX3_bestClean_42 rfl hl (by decide) rfl (fun ls hl => ?_)
            refine lv_iload hx hb dX3_bestClean_43 (lv_at hl 1 rfl) ?_
            refine lv_istore_n (lv' := [(2, .int v4_5), (1, .int (nI i)), (4, .int v4_5), (3, .int (nI i)), (0, .ref o)]) hx hb dX3_bestClean_45 rfl hl (by decide) rfl (fun ls hl => ?_)
            refine lv_iinc (v := nI (i + 1)) (lv' := [(3, .int (nI (i + 1))), (2, .int v4_5), (1, .int (nI i)), (4, .int v4_5), (0, .ref o)]) hx hb dX3_bestClean_46 hl (k := 3) rfl (nI_1 i) (by decide) rfl (fun ls hl => ?_)
            refine lv_goto (tgt := 6) hx hb dX3_bestClean_49 (by decide) ?_
            exact ih (i + 1) r_3 (nI i) v4_5 (by omega) (by replace ev4_5 := ev4_5.symm; subst ev4_5; replace er_3 := er_3.symm; subst er_3; replace ev1_1 := ev1_1.symm; subst ev1_1; rw [← hres]; simp only [bcC, bcT, i10, i00, if_neg c_2, if_neg c_6, if_neg c_7, ↓reduceIte]) H locs hP hD hS ls (lv_sub hl [0, 1, 2, 4] rfl)
  exact Lp6 6 0 q v1_1 0 (by omega) rfl _ _ hP hD hS ls (lv_sub hl [0, 1, 2, 3] rfl)
