set_option maxHeartbeats 4000000 in
set_option maxRecDepth 100000 in
theorem mX0_playOn (l : Launch) (D : va_G) (cI cQ cJ : ClassId) (a : Nat → Nat) (r : rB) (a2 : Nat → Nat) (r2 : rB) (L : Nat) (hL : r 1 0 = nI L) (hb60 : L ≤ 60) : Mv l D (tY cI cQ cJ) yX0_playOn wsX0_playOn ({ frames := 5, cells := 0, slots := 0, locals := 115 } : Room) [.ref (a 0), .ref (a2 0)] ((cT cI a r) ++ (cR cI a2 r2)) ((cT cI a r) ++ (cR cI a2 (playL r L 0 r2 42 0 0))) := by
  refine M_of (cc := cX0_playOn) (maxL := 7) (ret := none) (Qc := fun A => va_Qv (fun (_ : Unit) => True) (fun _ t => Wd D ((cT cI a r) ++ (cR cI a2 (playL r L 0 r2 42 0 0))) t) A) (by decide) rfl (Nat.le_of_ble_eq_true rfl) ?_
  intro p e s m below meth c A ls hB hE hP hK hD hA hl
  obtain ⟨hx, hb, hr, hml, hts, hown, hlocks⟩ := hB
  have hS : va_S A s.heap s.heap [] := va_S.rf
  have hl : lv_has ls 7 [(0, .ref (a 0)), (1, .ref (a2 0))] := hl
  have hinX0 : ∀ w ∈ u_ws RX0 TX0 2, w ∈ wsX0_playOn := by decide +kernel
  have fl13 := hts (.fieldLink RX0 13 "RoofDrains$RainText" "length" "I") (by decide +kernel)
  have fl9 := hts (.fieldLink RX0 9 "RoofDrains$RainText" "codes" "[I") (by decide +kernel)
  refine lv_bipush (v := 42) hx hb dX0_playOn_0 (by decide) ?_
  refine lv_istore_n (lv' := [(2, .int 42), (0, .ref (a 0)), (1, .ref (a2 0))]) hx hb dX0_playOn_2 rfl hl (by decide) rfl (fun ls hl => ?_)
  refine lv_iconst (v := 0) hx hb dX0_playOn_3 (by decide) ?_
  refine lv_istore_n (lv' := [(3, .int 0), (2, .int 42), (0, .ref (a 0)), (1, .ref (a2 0))]) hx hb dX0_playOn_4 rfl hl (by decide) rfl (fun ls hl => ?_)
  refine lv_iconst (v := 0) hx hb dX0_playOn_5 (by decide) ?_
  refine lv_istore (lv' := [(4, .int 0), (3, .int 0), (2, .int 42), (0, .ref (a 0)), (1, .ref (a2 0))]) hx hb dX0_playOn_6 hl (by decide) rfl (fun ls hl => ?_)
  refine lv_iconst (v := 0) hx hb dX0_playOn_8 (by decide) ?_
  refine lv_istore (lv' := [(5, .int 0), (4, .int 0), (3, .int 0), (2, .int 42), (0, .ref (a 0)), (1, .ref (a2 0))]) hx hb dX0_playOn_9 hl (by decide) rfl (fun ls hl => ?_)
  have Lp11 : ∀ (n i : Nat) (r1 : rB) (k : Int32) (ra : Int32) (nu : Int32), i + n = L → playL r n i r1 k ra nu = playL r L 0 r2 42 0 0 → ∀ (H : Heap) (locs : List Loc), va_P D vwCl ((cT cI a r) ++ (cR cI a2 r1)) H → va_D A ((cT cI a r) ++ (cR cI a2 r1)) → va_S A s.heap H locs → ∀ (ls : Array Slot), lv_has ls 7 [(5, .int (nI i)), (4, .int nu), (3, .int ra), (2, .int k), (0, .ref (a 0)), (1, .ref (a2 0))] → W p l e ({ frames := 5, cells := 0, slots := 0, locals := 115 } : Room) s m ([.ref (a 0), .ref (a2 0)] : List Value).toArray below meth c H locs 0 0 (MQ below (va_Qv (fun (_ : Unit) => True) (fun _ t => Wd D ((cT cI a r) ++ (cR cI a2 (playL r L 0 r2 42 0 0))) t) A) ([.ref (a 0), .ref (a2 0)] : List Value).toArray s 0 0 A) (F0 m 11 ls []) := by
    intro n
    induction n with
    | zero =>
      intro i r1 k ra nu hin hres H locs hP hD hS ls hl
      refine lv_iload hx hb dX0_playOn_11 (lv_at hl 0 rfl) ?_
      refine lv_aload_n hx hb dX0_playOn_13 rfl (lv_at hl 4 rfl) ?_
      refine va_get (D := D) (ci := 0) (v := .int (nI L)) (C := RX0) (T := TX0) (N := 2) hx hb hts hinX0 hown hK hP 0 rfl rfl 1 (by decide) fl13 (fun _ h9 => h9) (by first | rfl | simp [bp, upd, *]) dX0_playOn_14 ?_
      refine lv_icmp_ge (tgt := 93) hx hb dX0_playOn_17 (by decide) (fun _ => ?_) (fun h9 => absurd (nI_le (a := L) (b := i) (by omega) (by omega)) h9)
      refine lv_aload_n hx hb dX0_playOn_93 rfl (lv_at hl 5 rfl) ?_
      refine lv_iload_n hx hb dX0_playOn_94 rfl (lv_at hl 3 rfl) ?_
      refine lv_iload_n hx hb dX0_playOn_95 rfl (lv_at hl 2 rfl) ?_
      refine lv_iload hx hb dX0_playOn_96 (lv_at hl 1 rfl) ?_
      obtain ⟨r_1, er_1⟩ : ∃ z : rB, z = playP r1 k ra nu := ⟨_, rfl⟩
      have hm_2 := mX0_playPart l D cI cQ cJ a2 r1 k ra nu
      rw [← er_1] at hm_2
      refine k_callv (wc := cR cI a2 r1) (w' := cR cI a2 r_1) (wn := (cT cI a r) ++ (cR cI a2 r_1)) (va_runS (As := [.ref (a2 0), .int k, .int ra, .int nu]) (rest := []) ⟨hx, hb, hml, hown, hts⟩ (hm_2 _) (va_cwS 4 hts gX0_playOn_X0_playPart rfl rfl rfl (by decide +kernel) ⟨Nat.le_of_ble_eq_true rfl, Nat.le_of_ble_eq_true rfl⟩) (k_preS (wc := cR cI a2 r1) hE hK hP hD [2, 3, 4, 5, 6, 7, 8, 9, 10, 11, 12, 13, 14] (by decide) rfl [.ref (a2 0), .int k, .int ra, .int nu]) rfl rfl hl.1 rfl (lv_room (Nat.le_of_ble_eq_true rfl)) dX0_playOn_98 ⟨Nat.zero_le _, Nat.zero_le _⟩) hP hD hS hA [2, 3, 4, 5, 6, 7, 8, 9, 10, 11, 12, 13, 14] rfl rfl rfl (fun H locs hP hD hS => ?_)
      have e9 : (r_1 : rB) = playL r L 0 r2 42 0 0 := by (replace er_1 := er_1.symm; subst er_1; rw [← hres]; rfl)
      rw [e9] at hP
      exact k_vret hx hb hr hlocks hS hP dX0_playOn_101
    | succ n ih =>
      intro i r1 k ra nu hin hres H locs hP hD hS ls hl
      refine lv_iload hx hb dX0_playOn_11 (lv_at hl 0 rfl) ?_
      refine lv_aload_n hx hb dX0_playOn_13 rfl (lv_at hl 4 rfl) ?_
      refine va_get (D := D) (ci := 0) (v := .int (nI L)) (C := RX0) (T := TX0) (N := 2) hx hb hts hinX0 hown hK hP 0 rfl rfl 1 (by decide) fl13 (fun _ h9 => h9) (by first | rfl | simp [bp, upd, *]) dX0_playOn_14 ?_
      refine lv_icmp_ge (tgt := 93) hx hb dX0_playOn_17 (by decide) (fun h9 => absurd h9 (nI_ge (a := i) (b := L) (by omega) (by omega))) (fun _ => ?_)
      refine lv_aload_n hx hb dX0_playOn_20 rfl (lv_at hl 4 rfl) ?_
      refine va_get (D := D) (ci := 0) (v := .ref (a 1)) (C := RX0) (T := TX0) (N := 2) hx hb hts hinX0 hown hK hP 0 rfl rfl 0 (by decide) fl9 (fun _ h9 => h9) rfl dX0_playOn_21 ?_
      refine lv_iload hx hb dX0_playOn_24 (lv_at hl 0 rfl) ?_
      refine k_iald (k := i) (v := r 0 i) hx hb hK hP 1 0 rfl rfl (vp_in_nI (n := i) (by omega) (by omega)) (nI_clamp (n := i) (by omega)) (rfl) dX0_playOn_26 ?_
      refine lv_topi (fun v6_3 ev6_3 => ?_)
      refine lv_istore (lv' := [(6, .int v6_3), (5, .int (nI i)), (4, .int nu), (3, .int ra), (2, .int k), (0, .ref (a 0)), (1, .ref (a2 0))]) hx hb dX0_playOn_27 hl (by decide) rfl (fun ls hl => ?_)
      refine lv_iload hx hb dX0_playOn_29 (lv_at hl 0 rfl) ?_
      refine lv_bipush (v := 59) hx hb dX0_playOn_31 (by decide) ?_
      refine lv_icmp_ne (tgt := 50) hx hb dX0_playOn_33 (by decide) (fun c_4 => ?_) (fun c_4 => ?_)
      · skip
        refine lv_iload hx hb dX0_playOn_50 (lv_at hl 0 rfl) ?_
        refine lv_bipush (v := 48) hx hb dX0_playOn_52 (by decide) ?_
        refine lv_bipush (v := 57) hx hb dX0_playOn_54 (by decide) ?_
        refine k_calli (wc := ([] : va_W)) (w' := ([] : va_W)) (wn := (cT cI a r) ++ (cR cI a2 r1)) (va_runSN (As := [.int v6_3, .int 48, .int 57]) (rest := []) ⟨hx, hb, hml, hown, hts⟩ (mX3_isWithin l D cI cQ cJ v6_3 48 57 _) ⟨va_cnB 3 hts gX0_playOn_X3_isWithin_n29 rfl rfl rfl hE.2.1 (hts (.initialized RX3) (by decide +kernel)) (by decide +kernel) ⟨Nat.le_of_ble_eq_true rfl, Nat.le_of_ble_eq_true rfl⟩, hts (.static yX3_isWithin) (by decide +kernel), trivial⟩ (k_preS (wc := ([] : va_W)) hE hK hP hD [] (by decide) rfl [.int v6_3, .int 48, .int 57]) rfl rfl hl.1 rfl (lv_room (Nat.le_of_ble_eq_true rfl)) dX0_playOn_56 ⟨Nat.zero_le _, Nat.zero_le _⟩) hP hD hS hA [] rfl rfl rfl (fun H locs hP hD hS => ?_)
        refine lv_if_eq (tgt := 78) hx hb dX0_playOn_59 (by decide) (fun c_5 => ?_) (fun c_5 => ?_)
        · skip
          refine lv_iload hx hb dX0_playOn_78 (lv_at hl 0 rfl) ?_
          refine lv_istore_n (lv' := [(2, .int v6_3), (6, .int v6_3), (5, .int (nI i)), (4, .int nu), (3, .int ra), (0, .ref (a 0)), (1, .ref (a2 0))]) hx hb dX0_playOn_80 rfl hl (by decide) rfl (fun ls hl => ?_)
          refine lv_iload hx hb dX0_playOn_81 (lv_at hl 3 rfl) ?_
          refine lv_istore_n (lv' := [(3, .int nu), (2, .int v6_3), (6, .int v6_3), (5, .int (nI i)), (4, .int nu), (0, .ref (a 0)), (1, .ref (a2 0))]) hx hb dX0_playOn_83 rfl hl (by decide) rfl (fun ls hl => ?_)
          refine lv_iconst (v := 0) hx hb dX0_playOn_84 (by decide) ?_
          refine lv_istore (lv' := [(4, .int 0), (3, .int nu), (2, .int v6_3), (6, .int v6_3), (5, .int (nI i)), (0, .ref (a 0)), (1, .ref (a2 0))]) hx hb dX0_playOn_85 hl (by decide) rfl (fun ls hl => ?_)
          refine lv_iinc (v := nI (i + 1)) (lv' := [(5, .int (nI (i + 1))), (4, .int 0), (3, .int nu), (2, .int v6_3), (6, .int v6_3), (0, .ref (a 0)), (1, .ref (a2 0))]) hx hb dX0_playOn_87 hl (k := 4) rfl (nI_1 i) (by decide) rfl (fun ls hl => ?_)
          refine lv_goto (tgt := 11) hx hb dX0_playOn_90 (by decide) ?_
          exact ih (i + 1) r1 v6_3 nu 0 (by omega) (by replace ev6_3 := ev6_3.symm; subst ev6_3; rw [← hres]; simp only [playL, if_neg c_4, if_pos c_5, ↓reduceIte]) H locs hP hD hS ls (lv_sub hl [0, 1, 2, 3, 5, 6] rfl)
        · skip
          refine lv_iload hx hb dX0_playOn_62 (lv_at hl 2 rfl) ?_
          refine lv_bipush (v := 10) hx hb dX0_playOn_64 (by decide) ?_
          refine lv_imul hx hb dX0_playOn_66 ?_
          refine lv_iload hx hb dX0_playOn_67 (lv_at hl 0 rfl) ?_
          refine lv_iadd hx hb dX0_playOn_69 ?_
          refine lv_bipush (v := 48) hx hb dX0_playOn_70 (by decide) ?_
          refine lv_isub hx hb dX0_playOn_72 ?_
          refine lv_topi (fun v4_6 ev4_6 => ?_)
          refine lv_istore (lv' := [(4, .int v4_6), (6, .int v6_3), (5, .int (nI i)), (3, .int ra), (2, .int k), (0, .ref (a 0)), (1, .ref (a2 0))]) hx hb dX0_playOn_73 hl (by decide) rfl (fun ls hl => ?_)
          refine lv_goto (tgt := 87) hx hb dX0_playOn_75 (by decide) ?_
          refine lv_iinc (v := nI (i + 1)) (lv' := [(5, .int (nI (i + 1))), (4, .int v4_6), (6, .int v6_3), (3, .int ra), (2, .int k), (0, .ref (a 0)), (1, .ref (a2 0))]) hx hb dX0_playOn_87 hl (k := 2) rfl (nI_1 i) (by decide) rfl (fun ls hl => ?_)
          refine lv_goto (tgt := 11) hx hb dX0_playOn_90 (by decide) ?_
          exact ih (i + 1) r1 k ra v4_6 (by omega) (by replace ev4_6 := ev4_6.symm; subst ev4_6; replace ev6_3 := ev6_3.symm; subst ev6_3; rw [← hres]; simp only [playL, if_neg c_4, if_neg c_5, ↓reduceIte]) H locs hP hD hS ls (lv_sub hl [0, 1, 3, 4, 5, 6] rfl)
      · skip
        refine lv_aload_n hx hb dX0_playOn_36 rfl (lv_at hl 6 rfl) ?_
        refine lv_iload_n hx hb dX0_playOn_37 rfl (lv_at hl 4 rfl) ?_
        refine lv_iload_n hx hb dX0_playOn_38 rfl (lv_at hl 3 rfl) ?_
        refine lv_iload hx hb dX0_playOn_39 (lv_at hl 2 rfl) ?_
        obtain ⟨r_7, er_7⟩ : ∃ z : rB, z = playP r1 k ra nu := ⟨_, rfl⟩
        have hm_8 := mX0_playPart l D cI cQ cJ a2 r1 k ra nu
        rw [← er_7] at hm_8
        refine k_callv (wc := cR cI a2 r1) (w' := cR cI a2 r_7) (wn := (cT cI a r) ++ (cR cI a2 r_7)) (va_runS (As := [.ref (a2 0), .int k, .int ra, .int nu]) (rest := []) ⟨hx, hb, hml, hown, hts⟩ (hm_8 _) (va_cwS 4 hts gX0_playOn_X0_playPart rfl rfl rfl (by decide +kernel) ⟨Nat.le_of_ble_eq_true rfl, Nat.le_of_ble_eq_true rfl⟩) (k_preS (wc := cR cI a2 r1) hE hK hP hD [2, 3, 4, 5, 6, 7, 8, 9, 10, 11, 12, 13, 14] (by decide) rfl [.ref (a2 0), .int k, .int ra, .int nu]) rfl rfl hl.1 rfl (lv_room (Nat.le_of_ble_eq_true rfl)) dX0_playOn_41 ⟨Nat.zero_le _, Nat.zero_le _⟩) hP hD hS hA [2, 3, 4, 5, 6, 7, 8, 9, 10, 11, 12, 13, 14] rfl rfl rfl (fun H locs hP hD hS => ?_)
        refine lv_iconst (v := 0) hx hb dX0_playOn_44 (by decide) ?_
        refine lv_istore (lv' := [(4, .int 0), (6, .int v6_3), (5, .int (nI i)), (3, .int ra), (2, .int k), (0, .ref (a 0)), (1, .ref (a2 0))]) hx hb dX0_playOn_45 hl (by decide) rfl (fun ls hl => ?_)
        refine lv_goto (tgt := 87) hx hb dX0_playOn_47 (by decide) ?_
        refine lv_iinc (v := nI (i + 1)) (lv' := [(5, .int (nI (i + 1))), (4, .int 0), (6, .int v6_3), (3, .int ra), (2, .int k), (0, .ref (a 0)), (1, .ref (a2 0))]) hx hb dX0_playOn_87 hl (k := 2) rfl (nI_1 i) (by decide) rfl (fun ls hl => ?_)
        refine lv_goto (tgt := 11) hx hb dX0_playOn_90 (by decide) ?_
        exact ih (i + 1) r_7 k ra 0 (by omega) (by replace er_7 := er_7.symm; subst er_7; replace ev6_3 := ev6_3.symm; subst ev6_3; rw [← hres]; simp only [playL, if_pos c_4, ↓reduceIte]) H locs hP hD hS ls (lv_sub hl [0, 1, 3, 4, 5, 6] rfl)
  exact Lp11 L 0 r2 42 0 0 (by omega) rfl _ _ hP hD hS ls (lv_sub hl [0, 1, 2, 3, 4, 5] rfl)
