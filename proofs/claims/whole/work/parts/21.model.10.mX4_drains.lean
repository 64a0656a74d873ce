set_option maxHeartbeats 4000000 in
set_option maxRecDepth 100000 in
theorem mX4_drains (l : Launch) (D : va_G) (cI cQ cJ : ClassId) (a : Nat → Nat) (r : rB) (h : Int64)  : Mi l D (tY cI cQ cJ) yX4_drains wsX4_drains ({ frames := 2, cells := 0, slots := 0, locals := 44 } : Room) [.ref (a 0)] (cM cI a r h) (cM cI a ((drnL 6 0 r (r 0 0) 0).1) h) ((drnL 6 0 r (r 0 0) 0).2) := by
  refine M_of (cc := cX4_drains) (maxL := 6) (ret := some .boolean) (Qc := fun A => va_Qi (fun (x : Int32) (_ : Unit) => x = (drnL 6 0 r (r 0 0) 0).2) (fun _ t => Wd D (cM cI a ((drnL 6 0 r (r 0 0) 0).1) h) t) A) (by decide) rfl (Nat.le_of_ble_eq_true rfl) ?_
  intro p e s m below meth c A ls hB hE hP hK hD hA hl
  obtain ⟨hx, hb, hr, hml, hts, hown, hlocks⟩ := hB
  have hS : va_S A s.heap s.heap [] := va_S.rf
  have hl : lv_has ls 6 [(0, .ref (a 0))] := hl
  have hinX4 : ∀ w ∈ u_ws RX4 TX4 12, w ∈ wsX4_drains := by decide +kernel
  have fl7 := hts (.fieldLink RX4 7 "RoofDrainsModel" "s" "[I") (by decide +kernel)
  refine lv_aload_n hx hb dX4_drains_0 rfl (lv_at hl 0 rfl) ?_
  refine va_get (D := D) (ci := 4) (v := .ref (a 1)) (C := RX4) (T := TX4) (N := 12) hx hb hts hinX4 hown hK hP 0 rfl rfl 1 (by decide) fl7 (fun _ h9 => h9) rfl dX4_drains_1 ?_
  refine lv_iconst (v := 0) hx hb dX4_drains_4 (by decide) ?_
  refine k_iald (k := 0) (v := r 0 0) hx hb hK hP 1 0 rfl rfl (vp_in_nI (n := 0) (by omega) (by omega)) (nI_clamp (n := 0) (by omega)) (rfl) dX4_drains_5 ?_
  refine lv_topi (fun v1_1 ev1_1 => ?_)
  refine lv_istore_n (lv' := [(1, .int v1_1), (0, .ref (a 0))]) hx hb dX4_drains_6 rfl hl (by decide) rfl (fun ls hl => ?_)
  refine lv_iconst (v := 0) hx hb dX4_drains_7 (by decide) ?_
  refine lv_istore_n (lv' := [(2, .int 0), (1, .int v1_1), (0, .ref (a 0))]) hx hb dX4_drains_8 rfl hl (by decide) rfl (fun ls hl => ?_)
  refine lv_iconst (v := 0) hx hb dX4_drains_9 (by decide) ?_
  refine lv_istore_n (lv' := [(3, .int 0), (2, .int 0), (1, .int v1_1), (0, .ref (a 0))]) hx hb dX4_drains_10 rfl hl (by decide) rfl (fun ls hl => ?_)
  have Lp11 : ∀ (n i : Nat) (r1 : rB) (lf : Int32) (b : Int32), i + n = 6 → (b = 0 ∨ b = 1) → drnL n i r1 lf b = drnL 6 0 r v1_1 0 → ∀ (H : Heap) (locs : List Loc), va_P D vwCl (cM cI a r1 h) H → va_D A (cM cI a r1 h) → va_S A s.heap H locs → ∀ (ls : Array Slot), lv_has ls 6 [(3, .int (nI i)), (2, .int b), (1, .int lf), (0, .ref (a 0))] → W p l e ({ frames := 2, cells := 0, slots := 0, locals := 44 } : Room) s m ([.ref (a 0)] : List Value).toArray below meth c H locs 0 0 (MQ below (va_Qi (fun (x : Int32) (_ : Unit) => x = (drnL 6 0 r (r 0 0) 0).2) (fun _ t => Wd D (cM cI a ((drnL 6 0 r (r 0 0) 0).1) h) t) A) ([.ref (a 0)] : List Value).toArray s 0 0 A) (F0 m 11 ls []) := by
    intro n
    induction n with
    | zero =>
      intro i r1 lf b hin hb01 hres H locs hP hD hS ls hl
      have h9r1 : r1 = (drnL 6 0 r v1_1 0).1 := congrArg Prod.fst hres
      have h9b : b = (drnL 6 0 r v1_1 0).2 := congrArg Prod.snd hres
      refine lv_iload_n hx hb dX4_drains_11 rfl (lv_at hl 0 rfl) ?_
      refine lv_bipush (v := 6) hx hb dX4_drains_12 (by decide) ?_
      refine lv_icmp_ge (tgt := 119) hx hb dX4_drains_14 (by decide) (fun _ => ?_) (fun h9 => absurd (nI_le (a := 6) (b := i) (by omega) (by omega)) h9)
      refine lv_iload_n hx hb dX4_drains_119 rfl (lv_at hl 1 rfl) ?_
      have e9 : (r1 : rB) = (drnL 6 0 r (r 0 0) 0).1 := by (replace h9b := h9b.symm; subst h9b; replace h9r1 := h9r1.symm; subst h9r1; replace ev1_1 := ev1_1.symm; subst ev1_1; simp only [↓reduceIte])
      rw [e9] at hP
      exact k_zret hx hb hr hlocks hS hP dX4_drains_120 (by first | rfl | decide | exact (by rcases hb01 with h9 | h9 <;> rw [h9] <;> rfl)) (by (replace h9b := h9b.symm; subst h9b; replace h9r1 := h9r1.symm; subst h9r1; replace ev1_1 := ev1_1.symm; subst ev1_1; simp only [↓reduceIte]))
    | succ n ih =>
      intro i r1 lf b hin hb01 hres H locs hP hD hS ls hl
      refine lv_iload_n hx hb dX4_drains_11 rfl (lv_at hl 0 rfl) ?_
      refine lv_bipush (v := 6) hx hb dX4_drains_12 (by decide) ?_
      refine lv_icmp_ge (tgt := 119) hx hb dX4_drains_14 (by decide) (fun h9 => absurd h9 (nI_ge (a := i) (b := 6) (by omega) (by omega))) (fun _ => ?_)
      refine lv_aload_n hx hb dX4_drains_17 rfl (lv_at hl 3 rfl) ?_
      refine lv_iload_n hx hb dX4_drains_18 rfl (lv_at hl 0 rfl) ?_
      refine k_calli (wc := cM cI a r1 h) (w' := cM cI a r1 h) (wn := cM cI a r1 h) (va_runV (As := [.int (nI i)]) (rest := []) ⟨hx, hb, hml, hown, hts⟩ (mX4_takes l D cI cQ cJ a r1 h (nI i) i rfl (by omega) _) (cwV 1 hts gX4_drains_X4_takes rfl rfl rfl (by decide +kernel) ⟨Nat.le_of_ble_eq_true rfl, Nat.le_of_ble_eq_true rfl⟩) (k_preV (wc := cM cI a r1 h) hE hK hP hD [0, 1, 2, 3, 4, 5] (by decide) rfl (ci := 4) (q0 := 0) rfl rfl [.int (nI i)]) rfl rfl hl.1 rfl (lv_room (Nat.le_of_ble_eq_true rfl)) dX4_drains_19 ⟨Nat.zero_le _, Nat.zero_le _⟩) hP hD hS hA [0, 1, 2, 3, 4, 5] rfl rfl rfl (fun H locs hP hD hS => ?_)
      refine lv_aload_n hx hb dX4_drains_22 rfl (lv_at hl 3 rfl) ?_
      refine lv_iload_n hx hb dX4_drains_23 rfl (lv_at hl 0 rfl) ?_
      refine lv_iconst (v := 4) hx hb dX4_drains_24 (by decide) ?_
      refine k_calli (wc := cM cI a r1 h) (w' := cM cI a r1 h) (wn := cM cI a r1 h) (va_runV (As := [.int (nI i), .int 4]) (rest := [.int (takM r1 i)]) ⟨hx, hb, hml, hown, hts⟩ (mX4_of l D cI cQ cJ a r1 h (nI i) i 4 rfl (by omega) (by omega) _) (cwV 2 hts gX4_drains_X4_of rfl rfl rfl (by decide +kernel) ⟨Nat.le_of_ble_eq_true rfl, Nat.le_of_ble_eq_true rfl⟩) (k_preV (wc := cM cI a r1 h) hE hK hP hD [0, 1, 2, 3, 4, 5] (by decide) rfl (ci := 4) (q0 := 0) rfl rfl [.int (nI i), .int 4]) rfl rfl hl.1 rfl (lv_room (Nat.le_of_ble_eq_true rfl)) dX4_drains_25 ⟨Nat.zero_le _, Nat.zero_le _⟩) hP hD hS hA [0, 1, 2, 3, 4, 5] rfl rfl rfl (fun H locs hP hD hS => ?_)
      refine lv_icmp_ge (tgt := 39) hx hb dX4_drains_28 (by decide) (fun c_2 => ?_) (fun c_2 => ?_)
      · skip
        refine lv_aload_n hx hb dX4_drains_39 rfl (lv_at hl 3 rfl) ?_
        refine lv_iload_n hx hb dX4_drains_40 rfl (lv_at hl 0 rfl) ?_
        refine lv_iconst (v := 4) hx hb dX4_drains_41 (by decide) ?_
        refine k_calli (wc := cM cI a r1 h) (w' := cM cI a r1 h) (wn := cM cI a r1 h) (va_runV (As := [.int (nI i), .int 4]) (rest := []) ⟨hx, hb, hml, hown, hts⟩ (mX4_of l D cI cQ cJ a r1 h (nI i) i 4 rfl (by omega) (by omega) _) (cwV 2 hts gX4_drains_X4_of rfl rfl rfl (by decide +kernel) ⟨Nat.le_of_ble_eq_true rfl, Nat.le_of_ble_eq_true rfl⟩) (k_preV (wc := cM cI a r1 h) hE hK hP hD [0, 1, 2, 3, 4, 5] (by decide) rfl (ci := 4) (q0 := 0) rfl rfl [.int (nI i), .int 4]) rfl rfl hl.1 rfl (lv_room (Nat.le_of_ble_eq_true rfl)) dX4_drains_42 ⟨Nat.zero_le _, Nat.zero_le _⟩) hP hD hS hA [0, 1, 2, 3, 4, 5] rfl rfl rfl (fun H locs hP hD hS => ?_)
        refine lv_topi (fun v4_3 ev4_3 => ?_)
        refine lv_istore (lv' := [(4, .int v4_3), (3, .int (nI i)), (2, .int b), (1, .int lf), (0, .ref (a 0))]) hx hb dX4_drains_45 hl (by decide) rfl (fun ls hl => ?_)
        refine lv_iload hx hb dX4_drains_47 (lv_at hl 0 rfl) ?_
        refine lv_iload_n hx hb dX4_drains_49 rfl (lv_at hl 3 rfl) ?_
        refine lv_icmp_ge (tgt := 58) hx hb dX4_drains_50 (by decide) (fun c_4 => ?_) (fun c_4 => ?_)
        · skip
          refine lv_iload_n hx hb dX4_drains_58 rfl (lv_at hl 3 rfl) ?_
          refine lv_istore (lv' := [(5, .int lf), (4, .int v4_3), (3, .int (nI i)), (2, .int b), (1, .int lf), (0, .ref (a 0))]) hx hb dX4_drains_59 hl (by decide) rfl (fun ls hl => ?_)
          refine lv_iload_n hx hb dX4_drains_61 rfl (lv_at hl 3 rfl) ?_
          refine lv_if_ne (tgt := 72) hx hb dX4_drains_62 (by decide) (fun c_5 => ?_) (fun c_5 => ?_)
          · skip
            refine lv_iconst (v := 1) hx hb dX4_drains_72 (by decide) ?_
            refine lv_goto (tgt := 77) hx hb dX4_drains_73 (by decide) ?_
            refine lv_istore_n (lv' := [(2, .int 1), (5, .int lf), (4, .int v4_3), (3, .int (nI i)), (1, .int lf), (0, .ref (a 0))]) hx hb dX4_drains_77 rfl hl (by decide) rfl (fun ls hl => ?_)
            refine lv_iload_n hx hb dX4_drains_78 rfl (lv_at hl 4 rfl) ?_
            refine lv_iload hx hb dX4_drains_79 (lv_at hl 1 rfl) ?_
            refine lv_isub hx hb dX4_drains_81 ?_
            refine lv_topi (fun v1_6 ev1_6 => ?_)
            refine lv_istore_n (lv' := [(1, .int v1_6), (2, .int 1), (5, .int lf), (4, .int v4_3), (3, .int (nI i)), (0, .ref (a 0))]) hx hb dX4_drains_82 rfl hl (by decide) rfl (fun ls hl => ?_)
            refine lv_aload_n hx hb dX4_drains_83 rfl (lv_at hl 5 rfl) ?_
            refine lv_iload_n hx hb dX4_drains_84 rfl (lv_at hl 4 rfl) ?_
            refine lv_iconst (v := 4) hx hb dX4_drains_85 (by decide) ?_
            refine lv_iload hx hb dX4_drains_86 (lv_at hl 2 rfl) ?_
            refine lv_ineg hx hb dX4_drains_88 ?_
            obtain ⟨r_7, er_7⟩ : ∃ z : rB, z = addM r1 i 4 (-lf) := ⟨_, rfl⟩
            have hm_8 := mX4_adds l D cI cQ cJ a r1 h (nI i) i 4 rfl (by omega) (by omega) (-lf)
            rw [← er_7] at hm_8
            refine k_callv (wc := cM cI a r1 h) (w' := cM cI a r_7 h) (wn := cM cI a r_7 h) (va_runV (As := [.int (nI i), .int 4, .int (-lf)]) (rest := []) ⟨hx, hb, hml, hown, hts⟩ (hm_8 _) (cwV 3 hts gX4_drains_X4_adds rfl rfl rfl (by decide +kernel) ⟨Nat.le_of_ble_eq_true rfl, Nat.le_of_ble_eq_true rfl⟩) (k_preV (wc := cM cI a r1 h) hE hK hP hD [0, 1, 2, 3, 4, 5] (by decide) rfl (ci := 4) (q0 := 0) rfl rfl [.int (nI i), .int 4, .int (-lf)]) rfl rfl hl.1 rfl (lv_room (Nat.le_of_ble_eq_true rfl)) dX4_drains_89 ⟨Nat.zero_le _, Nat.zero_le _⟩) hP hD hS hA [0, 1, 2, 3, 4, 5] rfl rfl rfl (fun H locs hP hD hS => ?_)
            refine lv_aload_n hx hb dX4_drains_92 rfl (lv_at hl 5 rfl) ?_
            refine lv_iload_n hx hb dX4_drains_93 rfl (lv_at hl 4 rfl) ?_
            refine lv_bipush (v := 6) hx hb dX4_drains_94 (by decide) ?_
            refine lv_iload hx hb dX4_drains_96 (lv_at hl 2 rfl) ?_
            obtain ⟨r_9, er_9⟩ : ∃ z : rB, z = addM r_7 i 6 lf := ⟨_, rfl⟩
            have hm_10 := mX4_adds l D cI cQ cJ a r_7 h (nI i) i 6 rfl (by omega) (by omega) lf
            rw [← er_9] at hm_10
            refine k_callv (wc := cM cI a r_7 h) (w' := cM cI a r_9 h) (wn := cM cI a r_9 h) (va_runV (As := [.int (nI i), .int 6, .int lf]) (rest := []) ⟨hx, hb, hml, hown, hts⟩ (hm_10 _) (cwV 3 hts gX4_drains_X4_adds rfl rfl rfl (by decide +kernel) ⟨Nat.le_of_ble_eq_true rfl, Nat.le_of_ble_eq_true rfl⟩) (k_preV (wc := cM cI a r_7 h) hE hK hP hD [0, 1, 2, 3, 4, 5] (by decide) rfl (ci := 4) (q0 := 0) rfl rfl [.int (nI i), .int 6, .int lf]) rfl rfl hl.1 rfl (lv_room (Nat.le_of_ble_eq_true rfl)) dX4_drains_98 ⟨Nat.zero_le _, Nat.zero_le _⟩) hP hD hS hA [0, 1, 2, 3, 4, 5] rfl rfl rfl (fun H locs hP hD hS => ?_)
            refine lv_aload_n hx hb dX4_drains_101 rfl (lv_at hl 5 rfl) ?_
            refine va_get (D := D) (ci := 4) (v := .ref (a 1)) (C := RX4) (T := TX4) (N := 12) hx hb hts hinX4 hown hK hP 0 rfl rfl 1 (by decide) fl7 (fun _ h9 => h9) rfl dX4_drains_102 ?_
            refine lv_bipush (v := 6) hx hb dX4_drains_105 (by decide) ?_
            refine lv_dup2_11 hx hb dX4_drains_107 rfl rfl ?_
            refine k_iald (k := 6) (v := r_9 0 6) hx hb hK hP 1 0 rfl rfl (vp_in_nI (n := 6) (by omega) (by omega)) (nI_clamp (n := 6) (by omega)) (rfl) dX4_drains_108 ?_
            refine lv_iload hx hb dX4_drains_109 (lv_at hl 2 rfl) ?_
            refine lv_iadd hx hb dX4_drains_111 ?_
            refine lv_topi (fun a_11 ea_11 => ?_)
            refine k_iast (k := 6) (ws' := cM cI a (bp r_9 0 6 a_11) h) hx hb hK hP hD hS 1 0 rfl rfl (vp_in_nI (n := 6) (by omega) (by omega)) (nI_clamp (n := 6) (by omega)) rfl dX4_drains_112 (fun H locs hP hD hS => ?_)
            refine lv_iinc (v := nI (i + 1)) (lv' := [(3, .int (nI (i + 1))), (1, .int v1_6), (2, .int 1), (5, .int lf), (4, .int v4_3), (0, .ref (a 0))]) hx hb dX4_drains_113 hl (k := 4) rfl (nI_1 i) (by decide) rfl (fun ls hl => ?_)
            refine lv_goto (tgt := 11) hx hb dX4_drains_116 (by decide) ?_
            exact ih (i + 1) (bp r_9 0 6 a_11) v1_6 1 (by omega) (by first | exact Or.inl rfl | exact Or.inr rfl) (by replace ea_11 := ea_11.symm; subst ea_11; replace er_9 := er_9.symm; subst er_9; replace er_7 := er_7.symm; subst er_7; replace ev1_6 := ev1_6.symm; subst ev1_6; replace ev4_3 := ev4_3.symm; subst ev4_3; replace ev1_1 := ev1_1.symm; subst ev1_1; rw [← hres]; simp only [drnL, drnStep, drnF, drnW, mn2, if_pos c_2, if_pos c_4, if_neg c_5, ↓reduceIte]) H locs hP hD hS ls (lv_sub hl [0, 2, 1, 5] rfl)
          · skip
            refine lv_iload hx hb dX4_drains_65 (lv_at hl 0 rfl) ?_
            refine lv_iload hx hb dX4_drains_67 (lv_at hl 1 rfl) ?_
            refine lv_icmp_ge (tgt := 76) hx hb dX4_drains_69 (by decide) (fun c_12 => ?_) (fun c_12 => ?_)
            · skip
              refine lv_iconst (v := 0) hx hb dX4_drains_76 (by decide) ?_
              refine lv_istore_n (lv' := [(2, .int 0), (5, .int lf), (4, .int v4_3), (3, .int (nI i)), (1, .int lf), (0, .ref (a 0))]) hx hb dX4_drains_77 rfl hl (by decide) rfl (fun ls hl => ?_)
              refine lv_iload_n hx hb dX4_drains_78 rfl (lv_at hl 4 rfl) ?_
              refine lv_iload hx hb dX4_drains_79 (lv_at hl 1 rfl) ?_
              refine lv_isub hx hb dX4_drains_81 ?_
              refine lv_topi (fun v1_13 ev1_13 => ?_)
              refine lv_istore_n (lv' := [(1, .int v1_13), (2, .int 0), (5, .int lf), (4, .int v4_3), (3, .int (nI i)), (0, .ref (a 0))]) hx hb dX4_drains_82 rfl hl (by decide) rfl (fun ls hl => ?_)
              refine lv_aload_n hx hb dX4_drains_83 rfl (lv_at hl 5 rfl) ?_
              refine lv_iload_n hx hb dX4_drains_84 rfl (lv_at hl 4 rfl) ?_
              refine lv_iconst (v := 4) hx hb dX4_drains_85 (by decide) ?_
              refine lv_iload hx hb dX4_drains_86 (lv_at hl 2 rfl) ?_
              refine lv_ineg hx hb dX4_drains_88 ?_
              obtain ⟨r_14, er_14⟩ : ∃ z : rB, z = addM r1 i 4 (-lf) := ⟨_, rfl⟩
              have hm_15 := mX4_adds l D cI cQ cJ a r1 h (nI i) i 4 rfl (by omega) (by omega) (-lf)
              rw [← er_14] at hm_15
              refine k_callv (wc := cM cI a r1 h) (w' := cM cI a r_14 h) (wn := cM cI a r_14 h) (va_runV (As := [.int (nI i), .int 4, .int (-lf)]) (rest := []) ⟨hx, hb, hml, hown, hts⟩ (hm_15 _) (cwV 3 hts gX4_drains_X4_adds rfl rfl rfl (by decide +kernel) ⟨Nat.le_of_ble_eq_true rfl, Nat.le_of_ble_eq_true rfl⟩) (k_preV (wc := cM cI a r1 h) hE hK hP hD [0, 1, 2, 3, 4, 5] (by decide) rfl (ci := 4) (q0 := 0) rfl rfl [.int (nI i), .int 4, .int (-lf)]) rfl rfl hl.1 rfl (lv_room (Nat.le_of_ble_eq_true rfl)) dX4_drains_89 ⟨Nat.zero_le _, Nat.zero_le _⟩) hP hD hS hA [0, 1, 2, 3, 4, 5] rfl rfl rfl (fun H locs hP hD hS => ?_)
              refine lv_aload_n hx hb dX4_drains_92 rfl (lv_at hl 5 rfl) ?_
              refine lv_iload_n hx hb dX4_drains_93 rfl (lv_at hl 4 rfl) ?_
              refine lv_bipush (v := 6) hx hb dX4_drains_94 (by decide) ?_
              refine lv_iload hx hb dX4_drains_96 (lv_at hl 2 rfl) ?_
              obtain ⟨r_16, er_16⟩ : ∃ z : rB, z = addM r_14 i 6 lf := ⟨_, rfl⟩
              have hm_17 := mX4_adds l D cI cQ cJ a r_14 h (nI i) i 6 rfl (by omega) (by omega) lf
              rw [← er_16] at hm_17
              refine k_callv (wc := cM cI a r_14 h) (w' := cM cI a r_16 h) (wn := cM cI a r_16 h) (va_runV (As := [.int (nI i), .int 6, .int lf]) (rest := []) ⟨hx, hb, hml, hown, hts⟩ (hm_17 _) (cwV 3 hts gX4_drains_X4_adds rfl rfl rfl (by decide +kernel) ⟨Nat.le_of_ble_eq_true rfl, Nat.le_of_ble_eq_true rfl⟩) (k_preV (wc := cM cI a r_14 h) hE hK hP hD [0, 1, 2, 3, 4, 5] (by decide) rfl (ci := 4) (q0 := 0) rfl rfl [.int (nI i), .int 6, .int lf]) rfl rfl hl.1 rfl (lv_room (Nat.le_of_ble_eq_true rfl)) dX4_drains_98 ⟨Nat.zero_le _, Nat.zero_le _⟩) hP hD hS hA [0, 1, 2, 3, 4, 5] rfl rfl rfl (fun H locs hP hD hS => ?_)
              refine lv_aload_n hx hb dX4_drains_101 rfl (lv_at hl 5 rfl) ?_
              refine va_get (D := D) (ci := 4) (v := .ref (a 1)) (C := RX4) (T := TX4) (N := 12) hx hb hts hinX4 hown hK hP 0 rfl rfl 1 (by decide) fl7 (fun _ h9 => h9) rfl dX4_drains_102 ?_
              refine lv_bipush (v := 6) hx hb dX4_drains_105 (by decide) ?_
              refine lv_dup2_11 hx hb dX4_drains_107 rfl rfl ?_
              refine k_iald (k := 6) (v := r_16 0 6) hx hb hK hP 1 0 rfl rfl (vp_in_nI (n := 6) (by omega) (by omega)) (nI_clamp (n := 6) (by omega)) (rfl) dX4_drains_108 ?_
              refine lv_iload hx hb dX4_drains_109 (lv_at hl 2 rfl) ?_
              refine lv_iadd hx hb dX4_drains_111 ?_
              refine lv_topi (fun a_18 ea_18 => ?_)
              refine k_iast (k := 6) (ws' := cM cI a (bp r_16 0 6 a_18) h) hx hb hK hP hD hS 1 0 rfl rfl (vp_in_nI (n := 6) (by omega) (by omega)) (nI_clamp (n := 6) (by omega)) rfl dX4_drains_112 (fun H locs hP hD hS => ?_)
              refine lv_iinc (v := nI (i + 1)) (lv' := [(3, .int (nI (i + 1))), (1, .int v1_13), (2, .int 0), (5, .int lf), (4, .int v4_3), (0, .ref (a 0))]) hx hb dX4_drains_113 hl (k := 4) rfl (nI_1 i) (by decide) rfl (fun ls hl => ?_)
              refine lv_goto (tgt := 11) hx hb dX4_drains_116 (by decide) ?_
              exact ih (i + 1) (bp r_16 0 6 a_18) v1_13 0 (by omega) (by first | exact Or.inl rfl | exact Or.inr rfl) (by replace ea_18 := ea_18.symm; subst ea_18; replace er_16 := er_16.symm; subst er_16; replace er_14 := er_14.symm; subst er_14; replace ev1_13 := ev1_13.symm; subst ev1_13; replace ev4_3 := ev4_3.symm; subst ev4_3; replace ev1_1 := ev1_1.symm; subst ev1_1; rw [← hres]; simp only [drnL, drnStep, drnF, drnW, mn2, if_pos c_2, if_pos c_4, if_pos c_5, if_pos c_12, ↓reduceIte]) H locs hP hD hS ls (lv_sub hl [0, 2, 1, 5] rfl)
            · skip
              refine lv_iconst (v := 1) hx hb dX4_drains_72 (by decide) ?_
              refine lv_goto (tgt := 77) hx hb dX4_drains_73 (by decide) ?_
              refine lv_istore_n (lv' := [(2, .int 1), (5, .int lf), (4, .int v4_3), (3, .int (nI i)), (1, .int lf), (0, .ref (a 0))]) hx hb dX4_drains_77 rfl hl (by decide) rfl (fun ls hl => ?_)
              refine lv_iload_n hx hb dX4_drains_78 rfl (lv_at hl 4 rfl) ?_
              refine lv_iload hx hb dX4_drains_79 (lv_at hl 1 rfl) ?_
              refine lv_isub hx hb dX4_drains_81 ?_
              refine lv_topi (fun v1_19 ev1_19 => ?_)
              refine lv_istore_n (lv' := [(1, .int v1_19), (2, .int 1), (5, .int lf), (4, .int v4_3), (3, .int (nI i)), (0, .ref (a 0))]) hx hb dX4_drains_82 rfl hl (by decide) rfl (fun ls hl => ?_)
              refine lv_aload_n hx hb dX4_drains_83 rfl (lv_at hl 5 rfl) ?_
              refine lv_iload_n hx hb dX4_drains_84 rfl (lv_at hl 4 rfl) ?_
              refine lv_iconst (v := 4) hx hb dX4_drains_85 (by decide) ?_
              refine lv_iload hx hb dX4_drains_86 (lv_at hl 2 rfl) ?_
              refine lv_ineg hx hb dX4_drains_88 ?_
              obtain ⟨r_20, er_20⟩ : ∃ z : rB, z = addM r1 i 4 (-lf) := ⟨_, rfl⟩
              have hm_21 := mX4_adds l D cI cQ cJ a r1 h (nI i) i 4 rfl (by omega) (by omega) (-lf)
              rw [← er_20] at hm_21
              refine k_callv (wc := cM cI a r1 h) (w' := cM cI a r_20 h) (wn := cM cI a r_20 h) (va_runV (As := [.int (nI i), .int 4, .int (-lf)]) (rest := []) ⟨hx, hb, hml, hown, hts⟩ (hm_21 _) (cwV 3 hts gX4_drains_X4_adds rfl rfl rfl (by decide +kernel) ⟨Nat.le_of_ble_eq_true rfl, Nat.le_of_ble_eq_true rfl⟩) (k_preV (wc := cM cI a r1 h) hE hK hP hD [0, 1, 2, 3, 4, 5] (by decide) rfl (ci := 4) (q0 := 0) rfl rfl [.int (nI i), .int 4, .int (-lf)]) rfl rfl hl.1 rfl (lv_room (Nat.le_of_ble_eq_true rfl)) dX4_drains_89 ⟨Nat.zero_le _, Nat.zero_le _⟩) hP hD hS hA [0, 1, 2, 3, 4, 5] rfl rfl rfl (fun H locs hP hD hS => ?_)
              refine lv_aload_n hx hb dX4_drains_92 rfl (lv_at hl 5 rfl) ?_
              refine lv_iload_n hx hb dX4_drains_93 rfl (lv_at hl 4 rfl) ?_
              refine lv_bipush (v := 6) hx hb dX4_drains_94 (by decide) ?_
              refine lv_iload hx hb dX4_drains_96 (lv_at hl 2 rfl) ?_
              obtain ⟨r_22, er_22⟩ : ∃ z : rB, z = addM r_20 i 6 lf := ⟨_, rfl⟩
              have hm_23 := mX4_adds l D cI cQ cJ a r_20 h (nI i) i 6 rfl (by omega) (by omega) lf
              rw [← er_22] at hm_23
              refine k_callv (wc := cM cI a r_20 h) (w' := cM cI a r_22 h) (wn := cM cI a r_22 h) (va_runV (As := [.int (nI i), .int 6, .int lf]) (rest := []) ⟨hx, hb, hml, hown, hts⟩ (hm_23 _) (cwV 3 hts gX4_drains_X4_adds rfl rfl rfl (by decide +kernel) ⟨Nat.le_of_ble_eq_true rfl, Nat.le_of_ble_eq_true rfl⟩) (k_preV (wc := cM cI a r_20 h) hE hK hP hD [0, 1, 2, 3, 4, 5] (by decide) rfl (ci := 4) (q0 := 0) rfl rfl [.int (nI i), .int 6, .int lf]) rfl rfl hl.1 rfl (lv_room (Nat.le_of_ble_eq_true rfl)) dX4_drains_98 ⟨Nat.zero_le _, Nat.zero_le _⟩) hP hD hS hA [0, 1, 2, 3, 4, 5] rfl rfl rfl (fun H locs hP hD hS => ?_)
              refine lv_aload_n hx hb dX4_drains_101 rfl (lv_at hl 5 rfl) ?_
              refine va_get (D := D) (ci := 4) (v := .ref (a 1)) (C := RX4) (T := TX4) (N := 12) hx hb hts hinX4 hown hK hP 0 rfl rfl 1 (by decide) fl7 (fun _ h9 => h9) rfl dX4_drains_102 ?_
              refine lv_bipush (v := 6) hx hb dX4_drains_105 (by decide) ?_
              refine lv_dup2_11 hx hb dX4_drains_107 rfl rfl ?_
              refine k_iald (k := 6) (v := r_22 0 6) hx hb hK hP 1 0 rfl rfl (vp_in_nI (n := 6) (by omega) (by omega)) (nI_clamp (n := 6) (by omega)) (rfl) dX4_drains_108 ?_
              refine lv_iload hx hb dX4_drains_109 (lv_at hl 2 rfl) ?_
              refine lv_iadd hx hb dX4_drains_111 ?_
              refine lv_topi (fun a_24 ea_24 => ?_)
              refine k_iast (k := 6) (ws' := cM cI a (bp r_22 0 6 a_24) h) hx hb hK hP hD hS 1 0 rfl rfl (vp_in_nI (n := 6) (by omega) (by omega)) (nI_clamp (n := 6) (by omega)) rfl dX4_drains_112 (fun H locs hP hD hS => ?_)
              refine lv_iinc (v := nI (i + 1)) (lv' := [(3, .int (nI (i + 1))), (1, .int v1_19), (2, .int 1), (5, .int lf), (4, .int v4_3), (0, .ref (a 0))]) hx hb dX4_drains_113 hl (k := 4) rfl (nI_1 i) (by decide) rfl (fun ls hl => ?_)
              refine lv_goto (tgt := 11) hx hb dX4_drains_116 (by decide) ?_
              exact ih (i + 1) (bp r_22 0 6 a_24) v1_19 1 (by omega) (by first | exact Or.inl rfl | exact Or.inr rfl) (by replace ea_24 := ea_24.symm; subst ea_24; replace er_22 := er_22.symm; subst er_22; replace er_20 := er_20.symm; subst er_20; replace ev1_19 := ev1_19.symm; subst ev1_19; replace ev4_3 := ev4_3.symm; subst ev4_3; replace ev1_1 := ev1_1.symm; subst ev1_1; rw [← hres]; simp only [drnL, drnStep, drnF, drnW, mn2, if_pos c_2, if_pos c_4, if_pos c_5, if_neg c_12, ↓reduceIte]) H locs hP hD hS ls (lv_sub hl [0, 2, 1, 5] rfl)
        · skip
          refine lv_iload hx hb dX4_drains_53 (lv_at hl 0 rfl) ?_
          refine lv_goto (tgt := 59) hx hb dX4_drains_55 (by decide) ?_
          refine lv_istore (lv' := [(5, .int v4_3), (4, .int v4_3), (3, .int (nI i)), (2, .int b), (1, .int lf), (0, .ref (a 0))]) hx hb dX4_drains_59 hl (by decide) rfl (fun ls hl => ?_)
          refine lv_iload_n hx hb dX4_drains_61 rfl (lv_at hl 3 rfl) ?_
          refine lv_if_ne (tgt := 72) hx hb dX4_drains_62 (by decide) (fun c_25 => ?_) (fun c_25 => ?_)
          · skip
            refine lv_iconst (v := 1) hx hb dX4_drains_72 (by decide) ?_
            refine lv_goto (tgt := 77) hx hb dX4_drains_73 (by decide) ?_
            refine lv_istore_n (lv' := [(2, .int 1), (5, .int v4_3), (4, .int v4_3), (3, .int (nI i)), (1, .int lf), (0, .ref (a 0))]) hx hb dX4_drains_77 rfl hl (by decide) rfl (fun ls hl => ?_)
            refine lv_iload_n hx hb dX4_drains_78 rfl (lv_at hl 4 rfl) ?_
            refine lv_iload hx hb dX4_drains_79 (lv_at hl 1 rfl) ?_
            refine lv_isub hx hb dX4_drains_81 ?_
            refine lv_topi (fun v1_26 ev1_26 => ?_)
            refine lv_istore_n (lv' := [(1, .int v1_26), (2, .int 1), (5, .int v4_3), (4, .int v4_3), (3, .int (nI i)), (0, .ref (a 0))]) hx hb dX4_drains_82 rfl hl (by decide) rfl (fun ls hl => ?_)
            refine lv_aload_n hx hb dX4_drains_83 rfl (lv_at hl 5 rfl) ?_
            refine lv_iload_n hx hb dX4_drains_84 rfl (lv_at hl 4 rfl) ?_
            refine lv_iconst (v := 4) hx hb dX4_drains_85 (by decide) ?_
            refine lv_iload hx hb dX4_drains_86 (lv_at hl 2 rfl) ?_
            refine lv_ineg hx hb dX4_drains_88 ?_
            obtain ⟨r_27, er_27⟩ : ∃ z : rB, z = addM r1 i 4 (-v4_3) := ⟨_, rfl⟩
            have hm_28 := mX4_adds l D cI cQ cJ a r1 h (nI i) i 4 rfl (by omega) (by omega) (-v4_3)
            rw [← er_27] at hm_28
            refine k_callv (wc := cM cI a r1 h) (w' := cM cI a r_27 h) (wn := cM cI a r_27 h) (va_runV (As := [.int (nI i), .int 4, .int (-v4_3)]) (rest := []) ⟨hx, hb, hml, hown, hts⟩ (hm_28 _) (cwV 3 hts gX4_drains_X4_adds rfl rfl rfl (by decide +kernel) ⟨Nat.le_of_ble_eq_true rfl, Nat.le_of_ble_eq_true rfl⟩) (k_preV (wc := cM cI a r1 h) hE hK hP hD [0, 1, 2, 3, 4, 5] (by decide) rfl (ci := 4) (q0 := 0) rfl rfl [.int (nI i), .int 4, .int (-v4_3)]) rfl rfl hl.1 rfl (lv_room (Nat.le_of_ble_eq_true rfl)) dX4_drains_89 ⟨Nat.zero_le _, Nat.zero_le _⟩) hP hD hS hA [0, 1, 2, 3, 4, 5] rfl rfl rfl (fun H locs hP hD hS => ?_)
            refine lv_aload_n hx hb dX4_drains_92 rfl (lv_at hl 5 rfl) ?_
            refine lv_iload_n hx hb dX4_drains_93 rfl (lv_at hl 4 rfl) ?_
            refine lv_bipush (v := 6) hx hb dX4_drains_94 (by decide) ?_
            refine lv_iload hx hb dX4_drains_96 (lv_at hl 2 rfl) ?_
            obtain ⟨r_29, er_29⟩ : ∃ z : rB, z = addM r_27 i 6 v4_3 := ⟨_, rfl⟩
            have hm_30 := mX4_adds l D cI cQ cJ a r_27 h (nI i) i 6 rfl (by omega) (by omega) v4_3
            rw [← er_29] at hm_30
            refine k_callv (wc := cM cI a r_27 h) (w' := cM cI a r_29 h) (wn := cM cI a r_29 h) (va_runV (As := [.int (nI i), .int 6, .int v4_3]) (rest := []) ⟨hx, hb, hml, hown, hts⟩ (hm_30 _) (cwV 3 hts gX4_drains_X4_adds rfl rfl rfl (by decide +kernel) ⟨Nat.le_of_ble_eq_true rfl, Nat.le_of_ble_eq_true rfl⟩) (k_preV (wc := cM cI a r_27 h) hE hK hP hD [0, 1, 2, 3, 4, 5] (by decide) rfl (ci := 4) (q0 := 0) rfl rfl [.int (nI i), .int 6, .int v4_3]) rfl rfl hl.1 rfl (lv_room (Nat.le_of_ble_eq_true rfl)) dX4_drains_98 ⟨Nat.zero_le _, Nat.zero_le _⟩) hP hD hS hA [0, 1, 2, 3, 4, 5] rfl rfl rfl (fun H locs hP hD hS => ?_)
            refine lv_aload_n hx hb dX4_drains_101 rfl (lv_at hl 5 rfl) ?_
            refine va_get (D := D) (ci := 4) (v := .ref (a 1)) (C := RX4) (T := TX4) (N := 12) hx hb hts hinX4 hown hK hP 0 rfl rfl 1 (by decide) fl7 (fun _ h9 => h9) rfl dX4_drains_102 ?_
            refine lv_bipush (v := 6) hx hb dX4_drains_105 (by decide) ?_
            refine lv_dup2_11 hx hb dX4_drains_107 rfl rfl ?_
            refine k_iald (k := 6) (v := r_29 0 6) hx hb hK hP 1 0 rfl rfl (vp_in_nI (n := 6) (by omega) (by omega)) (nI_clamp (n := 6) (by omega)) (rfl) dX4_drains_108 ?_
            refine lv_iload hx hb dX4_drains_109 (lv_at hl 2 rfl) ?_
            refine lv_iadd hx hb dX4_drains_111 ?_
            refine lv_topi (fun a_31 ea_31 => ?_)
            refine k_iast (k := 6) (ws' := cM cI a (bp r_29 0 6 a_31) h) hx hb hK hP hD hS 1 0 rfl rfl (vp_in_nI (n := 6) (by omega) (by omega)) (nI_clamp (n := 6) (by omega)) rfl dX4_drains_112 (fun H locs hP hD hS => ?_)
            refine lv_iinc (v := nI (i + 1)) (lv' := [(3, .int (nI (i + 1))), (1, .int v1_26), (2, .int 1), (5, .int v4_3), (4, .int v4_3), (0, .ref (a 0))]) hx hb dX4_drains_113 hl (k := 4) rfl (nI_1 i) (by decide) rfl (fun ls hl => ?_)
            refine lv_goto (tgt := 11) hx hb dX4_drains_116 (by decide) ?_
            exact ih (i + 1) (bp r_29 0 6 a_31) v1_26 1 (by omega) (by first | exact Or.inl rfl | exact Or.inr rfl) (by replace ea_31 := ea_31.symm; subst ea_31; replace er_29 := er_29.symm; subst er_29; replace er_27 := er_27.symm; subst er_27; replace ev1_26 := ev1_26.symm; subst ev1_26; replace ev4_3 := ev4_3.symm; subst ev4_3; replace ev1_1 := ev1_1.symm; subst ev1_1; rw [← hres]; simp only [drnL, drnStep, drnF, drnW, mn2, if_pos c_2, if_neg c_4, if_neg c_25, ↓reduceIte]) H locs hP hD hS ls (lv_sub hl [0, 2, 1, 5] rfl)
          · skip
            refine lv_iload hx hb dX4_drains_65 (lv_at hl 0 rfl) ?_
            refine lv_iload hx hb dX4_drains_67 (lv_at hl 1 rfl) ?_
            refine lv_icmp_ge (tgt := 76) hx hb dX4_drains_69 (by decide) (fun c_32 => ?_) (fun c_32 => ?_)
            · skip
              refine lv_iconst (v := 0) hx hb dX4_drains_76 (by decide) ?_
              refine lv_istore_n (lv' := [(2, .int 0), (5, .int v4_3), (4, .int v4_3), (3, .int (nI i)), (1, .int lf), (0, .ref (a 0))]) hx hb dX4_drains_77 rfl hl (by decide) rfl (fun ls hl => ?_)
              refine lv_iload_n hx hb dX4_drains_78 rfl (lv_at hl 4 rfl) ?_
              refine lv_iload hx hb dX4_drains_79 (lv_at hl 1 rfl) ?_
              refine lv_isub hx hb dX4_drains_81 ?_
              refine lv_topi (fun v1_33 ev1_33 => ?_)
              refine lv_istore_n (lv' := [(1, .int v1_33), (2, .int 0), (5, .int v4_3), (4, .int v4_3), (3, .int (nI i)), (0, .ref (a 0))]) hx hb dX4_drains_82 rfl hl (by decide) rfl (fun ls hl => ?_)
              refine lv_aload_n hx hb dX4_drains_83 rfl (lv_at hl 5 rfl) ?_
              refine lv_iload_n hx hb dX4_drains_84 rfl (lv_at hl 4 rfl) ?_
              refine lv_iconst (v := 4) hx hb dX4_drains_85 (by decide) ?_
              refine lv_iload hx hb dX4_drains_86 (lv_at hl 2 rfl) ?_
              refine lv_ineg hx hb dX4_drains_88 ?_
              obtain ⟨r_34, er_34⟩ : ∃ z : rB, z = addM r1 i 4 (-v4_3) := ⟨_, rfl⟩
              have hm_35 := mX4_adds l D cI cQ cJ a r1 h (nI i) i 4 rfl (by omega) (by omega) (-v4_3)
              rw [← er_34] at hm_35
              refine k_callv (wc := cM cI a r1 h) (w' := cM cI a r_34 h) (wn := cM cI a r_34 h) (va_runV (As := [.int (nI i), .int 4, .int (-v4_3)]) (rest := []) ⟨hx, hb, hml, hown, hts⟩ (hm_35 _) (cwV 3 hts gX4_drains_X4_adds rfl rfl rfl (by decide +kernel) ⟨Nat.le_of_ble_eq_true rfl, Nat.le_of_ble_eq_true rfl⟩) (k_preV (wc := cM cI a r1 h) hE hK hP hD [0, 1, 2, 3, 4, 5] (by decide) rfl (ci := 4) (q0 := 0) rfl rfl [.int (nI i), .int 4, .int (-v4_3)]) rfl rfl hl.1 rfl (lv_room (Nat.le_of_ble_eq_true rfl)) dX4_drains_89 ⟨Nat.zero_le _, Nat.zero_le _⟩) hP hD hS hA [0, 1, 2, 3, 4, 5] rfl rfl rfl (fun H locs hP hD hS => ?_)
              refine lv_aload_n hx hb dX4_drains_92 rfl (lv_at hl 5 rfl) ?_
              refine lv_iload_n hx hb dX4_drains_93 rfl (lv_at hl 4 rfl) ?_
              refine lv_bipush (v := 6) hx hb dX4_drains_94 (by decide) ?_
              refine lv_iload hx hb dX4_drains_96 (lv_at hl 2 rfl) ?_
              obtain ⟨r_36, er_36⟩ : ∃ z : rB, z = addM r_34 i 6 v4_3 := ⟨_, rfl⟩
              have hm_37 := mX4_adds l D cI cQ cJ a r_34 h (nI i) i 6 rfl (by omega) (by omega) v4_3
              rw [← er_36] at hm_37
              refine k_callv (wc := cM cI a r_34 h) (w' := cM cI a r_36 h) (wn := cM cI a r_36 h) (va_runV (As := [.int (nI i), .int 6, .int v4_3]) (rest := []) ⟨hx, hb, hml, hown, hts⟩ (hm_37 _) (cwV 3 hts gX4_drains_X4_adds rfl rfl rfl (by decide +kernel) ⟨Nat.le_of_ble_eq_true rfl, Nat.le_of_ble_eq_true rfl⟩) (k_preV (wc := cM cI a r_34 h) hE hK hP hD [0, 1, 2, 3, 4, 5] (by decide) rfl (ci := 4) (q0 := 0) rfl rfl [.int (nI i), .int 6, .int v4_3]) rfl rfl hl.1 rfl (lv_room (Nat.le_of_ble_eq_true rfl)) dX4_drains_98 ⟨Nat.zero_le _, Nat.zero_le _⟩) hP hD hS hA [0, 1, 2, 3, 4, 5] rfl rfl rfl (fun H locs hP hD hS => ?_)
              refine lv_aload_n hx hb dX4_drains_101 rfl (lv_at hl 5 rfl) ?_
              refine va_get (D := D) (ci := 4) (v := .ref (a 1)) (C := RX4) (T := TX4) (N := 12) hx hb hts hinX4 hown hK hP 0 rfl rfl 1 (by decide) fl7 (fun _ h9 => h9) rfl dX4_drains_102 ?_
              refine lv_bipush (v := 6) hx hb dX4_drains_105 (by decide) ?_
              refine lv_dup2_11 hx hb dX4_drains_107 rfl rfl ?_
              refine k_iald (k := 6) (v := r_36 0 6) hx hb hK hP 1 0 rfl rfl (vp_in_nI (n := 6) (by omega) (by omega)) (nI_clamp (n := 6) (by omega)) (rfl) dX4_drains_108 ?_
              refine lv_iload hx hb dX4_drains_109 (lv_at hl 2 rfl) ?_
              refine lv_iadd hx hb dX4_drains_111 ?_
              refine lv_topi (fun a_38 ea_38 => ?_)
              refine k_iast (k := 6) (ws' := cM cI a (bp r_36 0 6 a_38) h) hx hb hK hP hD hS 1 0 rfl rfl (vp_in_nI (n := 6) (by omega) (by omega)) (nI_clamp (n := 6) (by omega)) rfl dX4_drains_112 (fun H locs hP hD hS => ?_)
              refine lv_iinc (v := nI (i + 1)) (lv' := [(3, .int (nI (i + 1))), (1, .int v1_33), (2, .int 0), (5, .int v4_3), (4, .int v4_3), (0, .ref (a 0))]) hx hb dX4_drains_113 hl (k := 4) rfl (nI_1 i) (by decide) rfl (fun ls hl => ?_)
              refine lv_goto (tgt := 11) hx hb dX4_drains_116 (by decide) ?_
              exact ih (i + 1) (bp r_36 0 6 a_38) v1_33 0 (by omega) (by first | exact Or.inl rfl | exact Or.inr rfl) (by replace ea_38 := ea_38.symm; subst ea_38; replace er_36 := er_36.symm; subst er_36; replace er_34 := er_34.symm; subst er_34; replace ev1_33 := ev1_33.symm; subst ev1_33; replace ev4_3 := ev4_3.symm; subst ev4_3; replace ev1_1 := ev1_1.symm; subst ev1_1; rw [← hres]; simp only [drnL, drnStep, drnF, drnW, mn2, if_pos c_2, if_neg c_4, if_pos c_25, if_pos c_32, ↓reduceIte]) H locs hP hD hS ls (lv_sub hl [0, 2, 1, 5] rfl)
            · skip
              refine lv_iconst (v := 1) hx hb dX4_drains_72 (by decide) ?_
              refine lv_goto (tgt := 77) hx hb dX4_drains_73 (by decide) ?_
              refine lv_istore_n (lv' := [(2, .int 1), (5, .int v4_3), (4, .int v4_3), (3, .int (nI i)), (1, .int lf), (0, .ref (a 0))]) hx hb dX4_drains_77 rfl hl (by decide) rfl (fun ls hl => ?_)
              refine lv_iload_n hx hb dX4_drains_78 rfl (lv_at hl 4 rfl) ?_
              refine lv_iload hx hb dX4_drains_79 (lv_at hl 1 rfl) ?_
              refine lv_isub hx hb dX4_drains_81 ?_
              refine lv_topi (fun v1_39 ev1_39 => ?_)
              refine lv_istore_n (lv' := [(1, .int v1_39), (2, .int 1), (5, .int v4_3), (4, .int v4_3), (3, .int (nI i)), (0, .ref (a 0))]) hx hb dX4_drains_82 rfl hl (by decide) rfl (fun ls hl => ?_)
              refine lv_aload_n hx hb dX4_drains_83 rfl (lv_at hl 5 rfl) ?_
              refine lv_iload_n hx hb dX4_drains_84 rfl (lv_at hl 4 rfl) ?_
              refine lv_iconst (v := 4) hx hb dX4_drains_85 (by decide) ?_
              refine lv_iload hx hb dX4_drains_86 (lv_at hl 2 rfl) ?_
              refine lv_ineg hx hb dX4_drains_88 ?_
              obtain ⟨r_40, er_40⟩ : ∃ z : rB, z = addM r1 i 4 (-v4_3) := ⟨_, rfl⟩
              have hm_41 := mX4_adds l D cI cQ cJ a r1 h (nI i) i 4 rfl (by omega) (by omega) (-v4_3)
              rw [← er_40] at hm_41
              refine k_callv (wc := cM cI a r1 h) (w' := cM cI a r_40 h) (wn := cM cI a r_40 h) (va_runV (As := [.int (nI i), .int 4, .int (-v4_3)]) (rest := []) ⟨hx, hb, hml, hown, hts⟩ (hm_41 _) (cwV 3 hts gX4_drains_X4_adds rfl rfl rfl (by decide +kernel) ⟨Nat.le_of_ble_eq_true rfl, Nat.le_of_ble_eq_true rfl⟩) (k_preV (wc := cM cI a r1 h) hE hK hP hD [0, 1, 2, 3, 4, 5] (by decide) rfl (ci := 4) (q0 := 0) rfl rfl [.int (nI i), .int 4, .int (-v4_3)]) rfl rfl hl.1 rfl (lv_room (Nat.le_of_ble_eq_true rfl)) dX4_drains_89 ⟨Nat.zero_le _, Nat.zero_le _⟩) hP hD hS hA [0, 1, 2, 3, 4, 5] rfl rfl rfl (fun H locs hP hD hS => ?_)
              refine lv_aload_n hx hb dX4_drains_92 rfl (lv_at hl 5 rfl) ?_
              refine lv_iload_n hx hb dX4_drains_93 rfl (lv_at hl 4 rfl) ?_
              refine lv_bipush (v := 6) hx hb dX4_drains_94 (by decide) ?_
              refine lv_iload hx hb dX4_drains_96 (lv_at hl 2 rfl) ?_
              obtain ⟨r_42, er_42⟩ : ∃ z : rB, z = addM r_40 i 6 v4_3 := ⟨_, rfl⟩
              have hm_43 := mX4_adds l D cI cQ cJ a r_40 h (nI i) i 6 rfl (by omega) (by omega) v4_3
              rw [← er_42] at hm_43
              refine k_callv (wc := cM cI a r_40 h) (w' := cM cI a r_42 h) (wn := cM cI a r_42 h) (va_runV (As := [.int (nI i), .int 6, .int v4_3]) (rest := []) ⟨hx, hb, hml, hown, hts⟩ (hm_43 _) (cwV 3 hts gX4_drains_X4_adds rfl rfl rfl (by decide +kernel) ⟨Nat.le_of_ble_eq_true rfl, Nat.le_of_ble_eq_true rfl⟩) (k_preV (wc := cM cI a r_40 h) hE hK hP hD [0, 1, 2, 3, 4, 5] (by decide) rfl (ci := 4) (q0 := 0) rfl rfl [.int (nI i), .int 6, .int v4_3]) rfl rfl hl.1 rfl (lv_room (Nat.le_of_ble_eq_true rfl)) dX4_drains_98 ⟨Nat.zero_le _, Nat.zero_le _⟩) hP hD hS hA [0, 1, 2, 3, 4, 5] rfl rfl rfl (fun H locs hP hD hS => ?_)
              refine lv_aload_n hx hb dX4_drains_101 rfl (lv_at hl 5 rfl) ?_
              refine va_get (D := D) (ci := 4) (v := .ref (a 1)) (C := RX4) (T := TX4) (N := 12) hx hb hts hinX4 hown hK hP 0 rfl rfl 1 (by decide) fl7 (fun _ h9 => h9) rfl dX4_drains_102 ?_
              refine lv_bipush (v := 6) hx hb dX4_drains_105 (by decide) ?_
              refine lv_dup2_11 hx hb dX4_drains_107 rfl rfl ?_
              refine k_iald (k := 6) (v := r_42 0 6) hx hb hK hP 1 0 rfl rfl (vp_in_nI (n := 6) (by omega) (by omega)) (nI_clamp (n := 6) (by omega)) (rfl) dX4_drains_108 ?_
              refine lv_iload hx hb dX4_drains_109 (lv_at hl 2 rfl) ?_
              refine lv_iadd hx hb dX4_drains_111 ?_
              refine lv_topi (fun a_44 ea_44 => ?_)
              refine k_iast (k := 6) (ws' := cM cI a (bp r_42 0 6 a_44) h) hx hb hK hP hD hS 1 0 rfl rfl (vp_in_nI (n := 6) (by omega) (by omega)) (nI_clamp (n := 6) (by omega)) rfl dX4_drains_112 (fun H locs hP hD hS => ?_)
              refine lv_iinc (v := nI (i + 1)) (lv' := [(3, .int (nI (i + 1))), (1, .int v1_39), (2, .int 1), (5, .int v4_3), (4, .int v4_3), (0, .ref (a 0))]) hx hb dX4_drains_113 hl (k := 4) rfl (nI_1 i) (by decide) rfl (fun ls hl => ?_)
              refine lv_goto (tgt := 11) hx hb dX4_drains_116 (by decide) ?_
              exact ih (i + 1) (bp r_42 0 6 a_44) v1_39 1 (by omega) (by first | exact Or.inl rfl | exact Or.inr rfl) (by replace ea_44 := ea_44.symm; subst ea_44; replace er_42 := er_42.symm; subst er_42; replace er_40 := er_40.symm; subst er_40; replace ev1_39 := ev1_39.symm; subst ev1_39; replace ev4_3 := ev4_3.symm; subst ev4_3; replace ev1_1 := ev1_1.symm; subst ev1_1; rw [← hres]; simp only [drnL, drnStep, drnF, drnW, mn2, if_pos c_2, if_neg c_4, if_pos c_25, if_neg c_32, ↓reduceIte]) H locs hP hD hS ls (lv_sub hl [0, 2, 1, 5] rfl)
      · skip
        refine lv_aload_n hx hb dX4_drains_31 rfl (lv_at hl 3 rfl) ?_
        refine lv_iload_n hx hb dX4_drains_32 rfl (lv_at hl 0 rfl) ?_
        refine k_calli (wc := cM cI a r1 h) (w' := cM cI a r1 h) (wn := cM cI a r1 h) (va_runV (As := [.int (nI i)]) (rest := []) ⟨hx, hb, hml, hown, hts⟩ (mX4_takes l D cI cQ cJ a r1 h (nI i) i rfl (by omega) _) (cwV 1 hts gX4_drains_X4_takes rfl rfl rfl (by decide +kernel) ⟨Nat.le_of_ble_eq_true rfl, Nat.le_of_ble_eq_true rfl⟩) (k_preV (wc := cM cI a r1 h) hE hK hP hD [0, 1, 2, 3, 4, 5] (by decide) rfl (ci := 4) (q0 := 0) rfl rfl [.int (nI i)]) rfl rfl hl.1 rfl (lv_room (Nat.le_of_ble_eq_true rfl)) dX4_drains_33 ⟨Nat.zero_le _, Nat.zero_le _⟩) hP hD hS hA [0, 1, 2, 3, 4, 5] rfl rfl rfl (fun H locs hP hD hS => ?_)
        refine lv_goto (tgt := 45) hx hb dX4_drains_36 (by decide) ?_
        refine lv_topi (fun v4_45 ev4_45 => ?_)
        refine lv_istore (lv' := [(4, .int v4_45), (3, .int (nI i)), (2, .int b), (1, .int lf), (0, .ref (a 0))]) hx hb dX4_drains_45 hl (by decide) rfl (fun ls hl => ?_)
        refine lv_iload hx hb dX4_drains_47 (lv_at hl 0 rfl) ?_
        refine lv_iload_n hx hb dX4_drains_49 rfl (lv_at hl 3 rfl) ?_
        refine lv_icmp_ge (tgt := 58) hx hb dX4_drains_50 (by decide) (fun c_46 => ?_) (fun c_46 => ?_)
        · skip
          refine lv_iload_n hx hb dX4_drains_58 rfl (lv_at hl 3 rfl) ?_
          refine lv_istore (lv' := [(5, .int lf), (4, .int v4_45), (3, .int (nI i)), (2, .int b), (1, .int lf), (0, .ref (a 0))]) hx hb dX4_drains_59 hl (by decide) rfl (fun ls hl => ?_)
          refine lv_iload_n hx hb dX4_drains_61 rfl (lv_at hl 3 rfl) ?_
          refine lv_if_ne (tgt := 72) hx hb dX4_drains_62 (by decide) (fun c_47 => ?_) (fun c_47 => ?_)
          · skip
            refine lv_iconst (v := 1) hx hb dX4_drains_72 (by decide) ?_
            refine lv_goto (tgt := 77) hx hb dX4_drains_73 (by decide) ?_
            refine lv_istore_n (lv' := [(2, .int 1), (5, .int lf), (4, .int v4_45), (3, .int (nI i)), (1, .int lf), (0, .ref (a 0))]) hx hb dX4_drains_77 rfl hl (by decide) rfl (fun ls hl => ?_)
            refine lv_iload_n hx hb dX4_drains_78 rfl (lv_at hl 4 rfl) ?_
            refine lv_iload hx hb dX4_drains_79 (lv_at hl 1 rfl) ?_
            refine lv_isub hx hb dX4_drains_81 ?_
            refine lv_topi (fun v1_48 ev1_48 => ?_)
            refine lv_istore_n (lv' := [(1, .int v1_48), (2, .int 1), (5, .int lf), (4, .int v4_45), (3, .int (nI i)), (0, .ref (a 0))]) hx hb dX4_drains_82 rfl hl (by decide) rfl (fun ls hl => ?_)
            refine lv_aload_n hx hb dX4_drains_83 rfl (lv_at hl 5 rfl) ?_
            refine lv_iload_n hx hb dX4_drains_84 rfl (lv_at hl 4 rfl) ?_
            refine lv_iconst (v := 4) hx hb dX4_drains_85 (by decide) ?_
            refine lv_iload hx hb dX4_drains_86 (lv_at hl 2 rfl) ?_
            refine lv_ineg hx hb dX4_drains_88 ?_
            obtain ⟨r_49, er_49⟩ : ∃ z : rB, z = addM r1 i 4 (-lf) := ⟨_, rfl⟩
            have hm_50 := mX4_adds l D cI cQ cJ a r1 h (nI i) i 4 rfl (by omega) (by omega) (-lf)
            rw [← er_49] at hm_50
            refine k_callv (wc := cM cI a r1 h) (w' := cM cI a r_49 h) (wn := cM cI a r_49 h) (va_runV (As := [.int (nI i), .int 4, .int (-lf)]) (rest := []) ⟨hx, hb, hml, hown, hts⟩ (hm_50 _) (cwV 3 hts gX4_drains_X4_adds rfl rfl rfl (by decide +kernel) ⟨Nat.le_of_ble_eq_true rfl, Nat.le_of_ble_eq_true rfl⟩) (k_preV (wc := cM cI a r1 h) hE hK hP hD [0, 1, 2, 3, 4, 5] (by decide) rfl (ci := 4) (q0 := 0) rfl rfl [.int (nI i), .int 4, .int (-lf)]) rfl rfl hl.1 rfl (lv_room (Nat.le_of_ble_eq_true rfl)) dX4_drains_89 ⟨Nat.zero_le _, Nat.zero_le _⟩) hP hD hS hA [0, 1, 2, 3, 4, 5] rfl rfl rfl (fun H locs hP hD hS => ?_)
            refine lv_aload_n hx hb dX4_drains_92 rfl (lv_at hl 5 rfl) ?_
            refine lv_iload_n hx hb dX4_drains_93 rfl (lv_at hl 4 rfl) ?_
            refine lv_bipush (v := 6) hx hb dX4_drains_94 (by decide) ?_
            refine lv_iload hx hb dX4_drains_96 (lv_at hl 2 rfl) ?_
            obtain ⟨r_51, er_51⟩ : ∃ z : rB, z = addM r_49 i 6 lf := ⟨_, rfl⟩
            have hm_52 := mX4_adds l D cI cQ cJ a r_49 h (nI i) i 6 rfl (by omega) (by omega) lf
            rw [← er_51] at hm_52
            refine k_callv (wc := cM cI a r_49 h) (w' := cM cI a r_51 h) (wn := cM cI a r_51 h) (va_runV (As := [.int (nI i), .int 6, .int lf]) (rest := []) ⟨hx, hb, hml, hown, hts⟩ (hm_52 _) (cwV 3 hts gX4_drains_X4_adds rfl rfl rfl (by decide +kernel) ⟨Nat.le_of_ble_eq_true rfl, Nat.le_of_ble_eq_true rfl⟩) (k_preV (wc := cM cI a r_49 h) hE hK hP hD [0, 1, 2, 3, 4, 5] (by decide) rfl (ci := 4) (q0 := 0) rfl rfl [.int (nI i), .int 6, .int lf]) rfl rfl hl.1 rfl (lv_room (Nat.le_of_ble_eq_true rfl)) dX4_drains_98 ⟨Nat.zero_le _, Nat.zero_le _⟩) hP hD hS hA [0, 1, 2, 3, 4, 5] rfl rfl rfl (fun H locs hP hD hS => ?_)
            refine lv_aload_n hx hb dX4_drains_101 rfl (lv_at hl 5 rfl) ?_
            refine va_get (D := D) (ci := 4) (v := .ref (a 1)) (C := RX4) (T := TX4) (N := 12) hx hb hts hinX4 hown hK hP 0 rfl rfl 1 (by decide) fl7 (fun _ h9 => h9) rfl dX4_drains_102 ?_
            refine lv_bipush (v := 6) hx hb dX4_drains_105 (by decide) ?_
            refine lv_dup2_11 hx hb dX4_drains_107 rfl rfl ?_
            refine k_iald (k := 6) (v := r_51 0 6) hx hb hK hP 1 0 rfl rfl (vp_in_nI (n := 6) (by omega) (by omega)) (nI_clamp (n := 6) (by omega)) (rfl) dX4_drains_108 ?_
            refine lv_iload hx hb dX4_drains_109 (lv_at hl 2 rfl) ?_
            refine lv_iadd hx hb dX4_drains_111 ?_
            refine lv_topi (fun a_53 ea_53 => ?_)
            refine k_iast (k := 6) (ws' := cM cI a (bp r_51 0 6 a_53) h) hx hb hK hP hD hS 1 0 rfl rfl (vp_in_nI (n := 6) (by omega) (by omega)) (nI_clamp (n := 6) (by omega)) rfl dX4_drains_112 (fun H locs hP hD hS => ?_)
            refine lv_iinc (v := nI (i + 1)) (lv' := [(3, .int (nI (i + 1))), (1, .int v1_48), (2, .int 1), (5, .int lf), (4, .int v4_45), (0, .ref (a 0))]) hx hb dX4_drains_113 hl (k := 4) rfl (nI_1 i) (by decide) rfl (fun ls hl => ?_)
            refine lv_goto (tgt := 11) hx hb dX4_drains_116 (by decide) ?_
            exact ih (i + 1) (bp r_51 0 6 a_53) v1_48 1 (by omega) (by first | exact Or.inl rfl | exact Or.inr rfl) (by replace ea_53 := ea_53.symm; subst ea_53; replace er_51 := er_51.symm; subst er_51; replace er_49 := er_49.symm; subst er_49; replace ev1_48 := ev1_48.symm; subst ev1_48; replace ev4_45 := ev4_45.symm; subst ev4_45; replace ev1_1 := ev1_1.symm; subst ev1_1; rw [← hres]; simp only [drnL, drnStep, drnF, drnW, mn2, if_neg c_2, if_pos c_46, if_neg c_47, ↓reduceIte]) H locs hP hD hS ls (lv_sub hl [0, 2, 1, 5] rfl)
          · skip
            refine lv_iload hx hb dX4_drains_65 (lv_at hl 0 rfl) ?_
            refine lv_iload hx hb dX4_drains_67 (lv_at hl 1 rfl) ?_
            refine lv_icmp_ge (tgt := 76) hx hb dX4_drains_69 (by decide) (fun c_54 => ?_) (fun c_54 => ?_)
            · skip
              refine lv_iconst (v := 0) hx hb dX4_drains_76 (by decide) ?_
              refine lv_istore_n (lv' := [(2, .int 0), (5, .int lf), (4, .int v4_45), (3, .int (nI i)), (1, .int lf), (0, .ref (a 0))]) hx hb dX4_drains_77 rfl hl (by decide) rfl (fun ls hl => ?_)
              refine lv_iload_n hx hb dX4_drains_78 rfl (lv_at hl 4 rfl) ?_
              refine lv_iload hx hb dX4_drains_79 (lv_at hl 1 rfl) ?_
              refine lv_isub hx hb dX4_drains_81 ?_
              refine lv_topi (fun v1_55 ev1_55 => ?_)
              refine lv_istore_n (lv' := [(1, .int v1_55), (2, .int 0), (5, .int lf), (4, .int v4_45), (3, .int (nI i)), (0, .ref (a 0))]) hx hb dX4_drains_82 rfl hl (by decide) rfl (fun ls hl => ?_)
              refine lv_aload_n hx hb dX4_drains_83 rfl (lv_at hl 5 rfl) ?_
              refine lv_iload_n hx hb dX4_drains_84 rfl (lv_at hl 4 rfl) ?_
              refine lv_iconst (v := 4) hx hb dX4_drains_85 (by decide) ?_
              refine lv_iload hx hb dX4_drains_86 (lv_at hl 2 rfl) ?_
              refine lv_ineg hx hb dX4_drains_88 ?_
              obtain ⟨r_56, er_56⟩ : ∃ z : rB, z = addM r1 i 4 (-lf) := ⟨_, rfl⟩
              have hm_57 := mX4_adds l D cI cQ cJ a r1 h (nI i) i 4 rfl (by omega) (by omega) (-lf)
              rw [← er_56] at hm_57
              refine k_callv (wc := cM cI a r1 h) (w' := cM cI a r_56 h) (wn := cM cI a r_56 h) (va_runV (As := [.int (nI i), .int 4, .int (-lf)]) (rest := []) ⟨hx, hb, hml, hown, hts⟩ (hm_57 _) (cwV 3 hts gX4_drains_X4_adds rfl rfl rfl (by decide +kernel) ⟨Nat.le_of_ble_eq_true rfl, Nat.le_of_ble_eq_true rfl⟩) (k_preV (wc := cM cI a r1 h) hE hK hP hD [0, 1, 2, 3, 4, 5] (by decide) rfl (ci := 4) (q0 := 0) rfl rfl [.int (nI i), .int 4, .int (-lf)]) rfl rfl hl.1 rfl (lv_room (Nat.le_of_ble_eq_true rfl)) dX4_drains_89 ⟨Nat.zero_le _, Nat.zero_le _⟩) hP hD hS hA [0, 1, 2, 3, 4, 5] rfl rfl rfl (fun H locs hP hD hS => ?_)
              refine lv_aload_n hx hb dX4_drains_92 rfl (lv_at hl 5 rfl) ?_
              refine lv_iload_n hx hb dX4_drains_93 rfl (lv_at hl 4 rfl) ?_
              refine lv_bipush (v := 6) hx hb dX4_drains_94 (by decide) ?_
              refine lv_iload hx hb dX4_drains_96 (lv_at hl 2 rfl) ?_
              obtain ⟨r_58, er_58⟩ : ∃ z : rB, z = addM r_56 i 6 lf := ⟨_, rfl⟩
              have hm_59 := mX4_adds l D cI cQ cJ a r_56 h (nI i) i 6 rfl (by omega) (by omega) lf
              rw [← er_58] at hm_59
              refine k_callv (wc := cM cI a r_56 h) (w' := cM cI a r_58 h) (wn := cM cI a r_58 h) (va_runV (As := [.int (nI i), .int 6, .int lf]) (rest := []) ⟨hx, hb, hml, hown, hts⟩ (hm_59 _) (cwV 3 hts gX4_drains_X4_adds rfl rfl rfl (by decide +kernel) ⟨Nat.le_of_ble_eq_true rfl, Nat.le_of_ble_eq_true rfl⟩) (k_preV (wc := cM cI a r_56 h) hE hK hP hD [0, 1, 2, 3, 4, 5] (by decide) rfl (ci := 4) (q0 := 0) rfl rfl [.int (nI i), .int 6, .int lf]) rfl rfl hl.1 rfl (lv_room (Nat.le_of_ble_eq_true rfl)) dX4_drains_98 ⟨Nat.zero_le _, Nat.zero_le _⟩) hP hD hS hA [0, 1, 2, 3, 4, 5] rfl rfl rfl (fun H locs hP hD hS => ?_)
              refine lv_aload_n hx hb dX4_drains_101 rfl (lv_at hl 5 rfl) ?_
              refine va_get (D := D) (ci := 4) (v := .ref (a 1)) (C := RX4) (T := TX4) (N := 12) hx hb hts hinX4 hown hK hP 0 rfl rfl 1 (by decide) fl7 (fun _ h9 => h9) rfl dX4_drains_102 ?_
              refine lv_bipush (v := 6) hx hb dX4_drains_105 (by decide) ?_
              refine lv_dup2_11 hx hb dX4_drains_107 rfl rfl ?_
              refine k_iald (k := 6) (v := r_58 0 6) hx hb hK hP 1 0 rfl rfl (vp_in_nI (n := 6) (by omega) (by omega)) (nI_clamp (n := 6) (by omega)) (rfl) dX4_drains_108 ?_
              refine lv_iload hx hb dX4_drains_109 (lv_at hl 2 rfl) ?_
              refine lv_iadd hx hb dX4_drains_111 ?_
              refine lv_topi (fun a_60 ea_60 => ?_)
              refine k_iast (k := 6) (ws' := cM cI a (bp r_58 0 6 a_60) h) hx hb hK hP hD hS 1 0 rfl rfl (vp_in_nI (n := 6) (by omega) (by omega)) (nI_clamp (n := 6) (by omega)) rfl dX4_drains_112 (fun H locs hP hD hS => ?_)
              refine lv_iinc (v := nI (i + 1)) (lv' := [(3, .int (nI (i + 1))), (1, .int v1_55), (2, .int 0), (5, .int lf), (4, .int v4_45), (0, .ref (a 0))]) hx hb dX4_drains_113 hl (k := 4) rfl (nI_1 i) (by decide) rfl (fun ls hl => ?_)
              refine lv_goto (tgt := 11) hx hb dX4_drains_116 (by decide) ?_
              exact ih (i + 1) (bp r_58 0 6 a_60) v1_55 0 (by omega) (by first | exact Or.inl rfl | exact Or.inr rfl) (by replace ea_60 := ea_60.symm; subst ea_60; replace er_58 := er_58.symm; subst er_58; replace er_56 := er_56.symm; subst er_56; replace ev1_55 := ev1_55.symm; subst ev1_55; replace ev4_45 := ev4_45.symm; subst ev4_45; replace ev1_1 := ev1_1.symm; subst ev1_1; rw [← hres]; simp only [drnL, drnStep, drnF, drnW, mn2, if_neg c_2, if_pos c_46, if_pos c_47, if_pos c_54, ↓reduceIte]) H locs hP hD hS ls (lv_sub hl [0, 2, 1, 5] rfl)
            · skip
              refine lv_iconst (v := 1) hx hb dX4_drains_72 (by decide) ?_
              refine lv_goto (tgt := 77) hx hb dX4_drains_73 (by decide) ?_
              refine lv_istore_n (lv' := [(2, .int 1), (5, .int lf), (4, .int v4_45), (3, .int (nI i)), (1, .int lf), (0, .ref (a 0))]) hx hb dX4_drains_77 rfl hl (by decide) rfl (fun ls hl => ?_)
              refine lv_iload_n hx hb dX4_drains_78 rfl (lv_at hl 4 rfl) ?_
              refine lv_iload hx hb dX4_drains_79 (lv_at hl 1 rfl) ?_
              refine lv_isub hx hb dX4_drains_81 ?_
              refine lv_topi (fun v1_61 ev1_61 => ?_)
              refine lv_istore_n (lv' := [(1, .int v1_61), (2, .int 1), (5, .int lf), (4, .int v4_45), (3, .int (nI i)), (0, .ref (a 0))]) hx hb dX4_drains_82 rfl hl (by decide) rfl (fun ls hl => ?_)
              refine lv_aload_n hx hb dX4_drains_83 rfl (lv_at hl 5 rfl) ?_
              refine lv_iload_n hx hb dX4_drains_84 rfl (lv_at hl 4 rfl) ?_
              refine lv_iconst (v := 4) hx hb dX4_drains_85 (by decide) ?_
              refine lv_iload hx hb dX4_drains_86 (lv_at hl 2 rfl) ?_
              refine lv_ineg hx hb dX4_drains_88 ?_
              obtain ⟨r_62, er_62⟩ : ∃ z : rB, z = addM r1 i 4 (-lf) := ⟨_, rfl⟩
              have hm_63 := mX4_adds l D cI cQ cJ a r1 h (nI i) i 4 rfl (by omega) (by omega) (-lf)
              rw [← er_62] at hm_63
              refine k_callv (wc := cM cI a r1 h) (w' := cM cI a r_62 h) (wn := cM cI a r_62 h) (va_runV (As := [.int (nI i), .int 4, .int (-lf)]) (rest := []) ⟨hx, hb, hml, hown, hts⟩ (hm_63 _) (cwV 3 hts gX4_drains_X4_adds rfl rfl rfl (by decide +kernel) ⟨Nat.le_of_ble_eq_true rfl, Nat.le_of_ble_eq_true rfl⟩) (k_preV (wc := cM cI a r1 h) hE hK hP hD [0, 1, 2, 3, 4, 5] (by decide) rfl (ci := 4) (q0 := 0) rfl rfl [.int (nI i), .int 4, .int (-lf)]) rfl rfl hl.1 rfl (lv_room (Nat.le_of_ble_eq_true rfl)) dX4_drains_89 ⟨Nat.zero_le _, Nat.zero_le _⟩) hP hD hS hA [0, 1, 2, 3, 4, 5] rfl rfl rfl (fun H locs hP hD hS => ?_)
              refine lv_aload_n hx hb dX4_drains_92 rfl (lv_at hl 5 rfl) ?_
              refine lv_iload_n hx hb dX4_drains_93 rfl (lv_at hl 4 rfl) ?_
              refine lv_bipush (v := 6) hx hb dX4_drains_94 (by decide) ?_
              refine lv_iload hx hb dX4_drains_96 (lv_at hl 2 rfl) ?_
              obtain ⟨r_64, er_64⟩ : ∃ z : rB, z = addM r_62 i 6 lf := ⟨_, rfl⟩
              have hm_65 := mX4_adds l D cI cQ cJ a r_62 h (nI i) i 6 rfl (by omega) (by omega) lf
              rw [← er_64] at hm_65
              refine k_callv (wc := cM cI a r_62 h) (w' := cM cI a r_64 h) (wn := cM cI a r_64 h) (va_runV (As := [.int (nI i), .int 6, .int lf]) (rest := []) ⟨hx, hb, hml, hown, hts⟩ (hm_65 _) (cwV 3 hts gX4_drains_X4_adds rfl rfl rfl (by decide +kernel) ⟨Nat.le_of_ble_eq_true rfl, Nat.le_of_ble_eq_true rfl⟩) (k_preV (wc := cM cI a r_62 h) hE hK hP hD [0, 1, 2, 3, 4, 5] (by decide) rfl (ci := 4) (q0 := 0) rfl rfl [.int (nI i), .int 6, .int lf]) rfl rfl hl.1 rfl (lv_room (Nat.le_of_ble_eq_true rfl)) dX4_drains_98 ⟨Nat.zero_le _, Nat.zero_le _⟩) hP hD hS hA [0, 1, 2, 3, 4, 5] rfl rfl rfl (fun H locs hP hD hS => ?_)
              refine lv_aload_n hx hb dX4_drains_101 rfl (lv_at hl 5 rfl) ?_
              refine va_get (D := D) (ci := 4) (v := .ref (a 1)) (C := RX4) (T := TX4) (N := 12) hx hb hts hinX4 hown hK hP 0 rfl rfl 1 (by decide) fl7 (fun _ h9 => h9) rfl dX4_drains_102 ?_
              refine lv_bipush (v := 6) hx hb dX4_drains_105 (by decide) ?_
              refine lv_dup2_11 hx hb dX4_drains_107 rfl rfl ?_
              refine k_iald (k := 6) (v := r_64 0 6) hx hb hK hP 1 0 rfl rfl (vp_in_nI (n := 6) (by omega) (by omega)) (nI_clamp (n := 6) (by omega)) (rfl) dX4_drains_108 ?_
              refine lv_iload hx hb dX4_drains_109 (lv_at hl 2 rfl) ?_
              refine lv_iadd hx hb dX4_drains_111 ?_
              refine lv_topi (fun a_66 ea_66 => ?_)
              refine k_iast (k := 6) (ws' := cM cI a (bp r_64 0 6 a_66) h) hx hb hK hP hD hS 1 0 rfl rfl (vp_in_nI (n := 6) (by omega) (by omega)) (nI_clamp (n := 6) (by omega)) rfl dX4_drains_112 (fun H locs hP hD hS => ?_)
              refine lv_iinc (v := nI (i + 1)) (lv' := [(3, .int (nI (i + 1))), (1, .int v1_61), (2, .int 1), (5, .int lf), (4, .int v4_45), (0, .ref (a 0))]) hx hb dX4_drains_113 hl (k := 4) rfl (nI_1 i) (by decide) rfl (fun ls hl => ?_)
              refine lv_goto (tgt := 11) hx hb dX4_drains_116 (by decide) ?_
              exact ih (i + 1) (bp r_64 0 6 a_66) v1_61 1 (by omega) (by first | exact Or.inl rfl | exact Or.inr rfl) (by replace ea_66 := ea_66.symm; subst ea_66; replace er_64 := er_64.symm; subst er_64; replace er_62 := er_62.symm; subst er_62; replace ev1_61 := ev1_61.symm; subst ev1_61; replace ev4_45 := ev4_45.symm; subst ev4_45; replace ev1_1 := ev1_1.symm; subst ev1_1; rw [← hres]; simp only [drnL, drnStep, drnF, drnW, mn2, if_neg c_2, if_pos c_46, if_pos c_47, if_neg c_54, ↓reduceIte]) H locs hP hD hS ls (lv_sub hl [0, 2, 1, 5] rfl)
        · skip
          refine lv_iload hx hb dX4_drains_53 (lv_at hl 0 rfl) ?_
          refine lv_goto (tgt := 59) hx hb dX4_drains_55 (by decide) ?_
          refine lv_istore (lv' := [(5, .int v4_45), (4, .int v4_45), (3, .int (nI i)), (2, .int b), (1, .int lf), (0, .ref (a 0))]) hx hb dX4_drains_59 hl (by decide) rfl (fun ls hl => ?_)
          refine lv_iload_n hx hb dX4_drains_61 rfl (lv_at hl 3 rfl) ?_
          refine lv_if_ne (tgt := 72) hx hb dX4_drains_62 (by decide) (fun c_67 => ?_) (fun c_67 => ?_)
          · skip
            refine lv_iconst (v := 1) hx hb dX4_drains_72 (by decide) ?_
            refine lv_goto (tgt := 77) hx hb dX4_drains_73 (by decide) ?_
            refine lv_istore_n (lv' := [(2, .int 1), (5, .int v4_45), (4, .int v4_45), (3, .int (nI i)), (1, .int lf), (0, .ref (a 0))]) hx hb dX4_drains_77 rfl hl (by decide) rfl (fun ls hl => ?_)
            refine lv_iload_n hx hb dX4_drains_78 rfl (lv_at hl 4 rfl) ?_
            refine lv_iload hx hb dX4_drains_79 (lv_at hl 1 rfl) ?_
            refine lv_isub hx hb dX4_drains_81 ?_
            refine lv_topi (fun v1_68 ev1_68 => ?_)
            refine lv_istore_n (lv' := [(1, .int v1_68), (2, .int 1), (5, .int v4_45), (4, .int v4_45), (3, .int (nI i)), (0, .ref (a 0))]) hx hb dX4_drains_82 rfl hl (by decide) rfl (fun ls hl => ?_)
            refine lv_aload_n hx hb dX4_drains_83 rfl (lv_at hl 5 rfl) ?_
            refine lv_iload_n hx hb dX4_drains_84 rfl (lv_at hl 4 rfl) ?_
            refine lv_iconst (v := 4) hx hb dX4_drains_85 (by decide) ?_
            refine lv_iload hx hb dX4_drains_86 (lv_at hl 2 rfl) ?_
            refine lv_ineg hx hb dX4_drains_88 ?_
            obtain ⟨r_69, er_69⟩ : ∃ z : rB, z = addM r1 i 4 (-v4_45) := ⟨_, rfl⟩
            have hm_70 := mX4_adds l D cI cQ cJ a r1 h (nI i) i 4 rfl (by omega) (by omega) (-v4_45)
            rw [← er_69] at hm_70
            refine k_callv (wc := cM cI a r1 h) (w' := cM cI a r_69 h) (wn := cM cI a r_69 h) (va_runV (As := [.int (nI i), .int 4, .int (-v4_45)]) (rest := []) ⟨hx, hb, hml, hown, hts⟩ (hm_70 _) (cwV 3 hts gX4_drains_X4_adds rfl rfl rfl (by decide +kernel) ⟨Nat.le_of_ble_eq_true rfl, Nat.le_of_ble_eq_true rfl⟩) (k_preV (wc := cM cI a r1 h) hE hK hP hD [0, 1, 2, 3, 4, 5] (by decide) rfl (ci := 4) (q0 := 0) rfl rfl [.int (nI i), .int 4, .int (-v4_45)]) rfl rfl hl.1 rfl (lv_room (Nat.le_of_ble_eq_true rfl)) dX4_drains_89 ⟨Nat.zero_le _, Nat.zero_le _⟩) hP hD hS hA [0, 1, 2, 3, 4, 5] rfl rfl rfl (fun H locs hP hD hS => ?_)
            refine lv_aload_n hx hb dX4_drains_92 rfl (lv_at hl 5 rfl) ?_
            refine lv_iload_n hx hb dX4_drains_93 rfl (lv_at hl 4 rfl) ?_
            refine lv_bipush (v := 6) hx hb dX4_drains_94 (by decide) ?_
            refine lv_iload hx hb dX4_drains_96 (lv_at hl 2 rfl) ?_
            obtain ⟨r_71, er_71⟩ : ∃ z : rB, z = addM r_69 i 6 v4_45 := ⟨_, rfl⟩
            have hm_72 := mX4_adds l D cI cQ cJ a r_69 h (nI i) i 6 rfl (by omega) (by omega) v4_45
            rw [← er_71] at hm_72
            refine k_callv (wc := cM cI a r_69 h) (w' := cM cI a r_71 h) (wn := cM cI a r_71 h) (va_runV (As := [.int (nI i), .int 6, .int v4_45]) (rest := []) ⟨hx, hb, hml, hown, hts⟩ (hm_72 _) (cwV 3 hts gX4_drains_X4_adds rfl rfl rfl (by decide +kernel) ⟨Nat.le_of_ble_eq_true rfl, Nat.le_of_ble_eq_true rfl⟩) (k_preV (wc := cM cI a r_69 h) hE hK hP hD [0, 1, 2, 3, 4, 5] (by decide) rfl (ci := 4) (q0 := 0) rfl rfl [.int (nI i), .int 6, .int v4_45]) rfl rfl hl.1 rfl (lv_room (Nat.le_of_ble_eq_true rfl)) dX4_drains_98 ⟨Nat.zero_le _, Nat.zero_le _⟩) hP hD hS hA [0, 1, 2, 3, 4, 5] rfl rfl rfl (fun H locs hP hD hS => ?_)
            refine lv_aload_n hx hb dX4_drains_101 rfl (lv_at hl 5 rfl) ?_
            refine va_get (D := D) (ci := 4) (v := .ref (a 1)) (C := RX4) (T := TX4) (N := 12) hx hb hts hinX4 hown hK hP 0 rfl rfl 1 (by decide) fl7 (fun _ h9 => h9) rfl dX4_drains_102 ?_
            refine lv_bipush (v := 6) hx hb dX4_drains_105 (by decide) ?_
            refine lv_dup2_11 hx hb dX4_drains_107 rfl rfl ?_
            refine k_iald (k := 6) (v := r_71 0 6) hx hb hK hP 1 0 rfl rfl (vp_in_nI (n := 6) (by omega) (by omega)) (nI_clamp (n := 6) (by omega)) (rfl) dX4_drains_108 ?_
            refine lv_iload hx hb dX4_drains_109 (lv_at hl 2 rfl) ?_
            refine lv_iadd hx hb dX4_drains_111 ?_
            refine lv_topi (fun a_73 ea_73 => ?_)
            refine k_iast (k := 6) (ws' := cM cI a (bp r_71 0 6 a_73) h) hx hb hK hP hD hS 1 0 rfl rfl (vp_in_nI (n := 6) (by omega) (by omega)) (nI_clamp (n := 6) (by omega)) rfl dX4_drains_112 (fun H locs hP hD hS => ?_)
            refine lv_iinc (v := nI (i + 1)) (lv' := [(3, .int (nI (i + 1))), (1, .int v1_68), (2, .int 1), (5, .int v4_45), (4, .int v4_45), (0, .ref (a 0))]) hx hb dX4_drains_113 hl (k := 4) rfl (nI_1 i) (by decide) rfl (fun ls hl => ?_)
            refine lv_goto (tgt := 11) hx hb dX4_drains_116 (by decide) ?_
            exact ih (i + 1) (bp r_71 0 6 a_73) v1_68 1 (by omega) (by first | exact Or.inl rfl | exact Or.inr rfl) (by replace ea_73 := ea_73.symm; subst ea_73; replace er_71 := er_71.symm; subst er_71; replace er_69 := er_69.symm; subst er_69; replace ev1_68 := ev1_68.symm; subst ev1_68; replace ev4_45 := ev4_45.symm; subst ev4_45; replace ev1_1 := ev1_1.symm; subst ev1_1; rw [← hres]; simp only [drnL, drnStep, drnF, drnW, mn2, if_neg c_2, if_neg c_46, if_neg c_67, ↓reduceIte]) H locs hP hD hS ls (lv_sub hl [0, 2, 1, 5] rfl)
          · skip
            refine lv_iload hx hb dX4_drains_65 (lv_at hl 0 rfl) ?_
            refine lv_iload hx hb dX4_drains_67 (lv_at hl 1 rfl) ?_
            refine lv_icmp_ge (tgt := 76) hx hb dX4_drains_69 (by decide) (fun c_74 => ?_) (fun c_74 => ?_)
            · skip
              refine lv_iconst (v := 0) hx hb dX4_drains_76 (by decide) ?_
              refine lv_istore_n (lv' := [(2, .int 0), (5, .int v4_45), (4, .int v4_45), (3, .int (nI i)), (1, .int lf), (0, .ref (a 0))]) hx hb dX4_drains_77 rfl hl (by decide) rfl (fun ls hl => ?_)
              refine lv_iload_n hx hb dX4_drains_78 rfl (lv_at hl 4 rfl) ?_
              refine lv_iload hx hb dX4_drains_79 (lv_at hl 1 rfl) ?_
              refine lv_isub hx hb dX4_drains_81 ?_
              refine lv_topi (fun v1_75 ev1_75 => ?_)
              refine lv_istore_n (lv' := [(1, .int v1_75), (2, .int 0), (5, .int v4_45), (4, .int v4_45), (3, .int (nI i)), (0, .ref (a 0))]) hx hb dX4_drains_82 rfl hl (by decide) rfl (fun ls hl => ?_)
              refine lv_aload_n hx hb dX4_drains_83 rfl (lv_at hl 5 rfl) ?_
              refine lv_iload_n hx hb dX4_drains_84 rfl (lv_at hl 4 rfl) ?_
              refine lv_iconst (v := 4) hx hb dX4_drains_85 (by decide) ?_
              refine lv_iload hx hb dX4_drains_86 (lv_at hl 2 rfl) ?_
              refine lv_ineg hx hb dX4_drains_88 ?_
              obtain ⟨r_76, er_76⟩ : ∃ z : rB, z = addM r1 i 4 (-v4_45) := ⟨_, rfl⟩
              have hm_77 := mX4_adds l D cI cQ cJ a r1 h (nI i) i 4 rfl (by omega) (by omega) (-v4_45)
              rw [← er_76] at hm_77
              refine k_callv (wc := cM cI a r1 h) (w' := cM cI a r_76 h) (wn := cM cI a r_76 h) (va_runV (As := [.int (nI i), .int 4, .int (-v4_45)]) (rest := []) ⟨hx, hb, hml, hown, hts⟩ (hm_77 _) (cwV 3 hts gX4_drains_X4_adds rfl rfl rfl (by decide +kernel) ⟨Nat.le_of_ble_eq_true rfl, Nat.le_of_ble_eq_true rfl⟩) (k_preV (wc := cM cI a r1 h) hE hK hP hD [0, 1, 2, 3, 4, 5] (by decide) rfl (ci := 4) (q0 := 0) rfl rfl [.int (nI i), .int 4, .int (-v4_45)]) rfl rfl hl.1 rfl (lv_room (Nat.le_of_ble_eq_true rfl)) dX4_drains_89 ⟨Nat.zero_le _, Nat.zero_le _⟩) hP hD hS hA [0, 1, 2, 3, 4, 5] rfl rfl rfl (fun H locs hP hD hS => ?_)
              refine lv_aload_n hx hb dX4_drains_92 rfl (lv_at hl 5 rfl) ?_
              refine lv_iload_n hx hb dX4_drains_93 rfl (lv_at hl 4 rfl) ?_
              refine lv_bipush (v := 6) hx hb dX4_drains_94 (by decide) ?_
              refine lv_iload hx hb dX4_drains_96 (lv_at hl 2 rfl) ?_
              obtain ⟨r_78, er_78⟩ : ∃ z : rB, z = addM r_76 i 6 v4_45 := ⟨_, rfl⟩
              have hm_79 := mX4_adds l D cI cQ cJ a r_76 h (nI i) i 6 rfl (by omega) (by omega) v4_45
              rw [← er_78] at hm_79
              refine k_callv (wc := cM cI a r_76 h) (w' := cM cI a r_78 h) (wn := cM cI a r_78 h) (va_runV (As := [.int (nI i), .int 6, .int v4_45]) (rest := []) ⟨hx, hb, hml, hown, hts⟩ (hm_79 _) (cwV 3 hts gX4_drains_X4_adds rfl rfl rfl (by decide +kernel) ⟨Nat.le_of_ble_eq_true rfl, Nat.le_of_ble_eq_true rfl⟩) (k_preV (wc := cM cI a r_76 h) hE hK hP hD [0, 1, 2, 3, 4, 5] (by decide) rfl (ci := 4) (q0 := 0) rfl rfl [.int (nI i), .int 6, .int v4_45]) rfl rfl hl.1 rfl (lv_room (Nat.le_of_ble_eq_true rfl)) dX4_drains_98 ⟨Nat.zero_le _, Nat.zero_le _⟩) hP hD hS hA [0, 1, 2, 3, 4, 5] rfl rfl rfl (fun H locs hP hD hS => ?_)
              refine lv_aload_n hx hb dX4_drains_101 rfl (lv_at hl 5 rfl) ?_
              refine va_get (D := D) (ci := 4) (v := .ref (a 1)) (C := RX4) (T := TX4) (N := 12) hx hb hts hinX4 hown hK hP 0 rfl rfl 1 (by decide) fl7 (fun _ h9 => h9) rfl dX4_drains_102 ?_
              refine lv_bipush (v := 6) hx hb dX4_drains_105 (by decide) ?_
              refine lv_dup2_11 hx hb dX4_drains_107 rfl rfl ?_
              refine k_iald (k := 6) (v := r_78 0 6) hx hb hK hP 1 0 rfl rfl (vp_in_nI (n := 6) (by omega) (by omega)) (nI_clamp (n := 6) (by omega)) (rfl) dX4_drains_108 ?_
              refine lv_iload hx hb dX4_drains_109 (lv_at hl 2 rfl) ?_
              refine lv_iadd hx hb dX4_drains_111 ?_
              refine lv_topi (fun a_80 ea_80 => ?_)
              refine k_iast (k := 6) (ws' := cM cI a (bp r_78 0 6 a_80) h) hx hb hK hP hD hS 1 0 rfl rfl (vp_in_nI (n := 6) (by omega) (by omega)) (nI_clamp (n := 6) (by omega)) rfl dX4_drains_112 (fun H locs hP hD hS => ?_)
              refine lv_iinc (v := nI (i + 1)) (lv' := [(3, .int (nI (i + 1))), (1, .int v1_75), (2, .int 0), (5, .int v4_45), (4, .int v4_45), (0, .ref (a 0))]) hx hb dX4_drains_113 hl (k := 4) rfl (nI_1 i) (by decide) rfl (fun ls hl => ?_)
              refine lv_goto (tgt := 11) hx hb dX4_drains_116 (by decide) ?_
              exact ih (i + 1) (bp r_78 0 6 a_80) v1_75 0 (by omega) (by first | exact Or.inl rfl | exact Or.inr rfl) (by replace ea_80 := ea_80.symm; subst ea_80; replace er_78 := er_78.symm; subst er_78; replace er_76 := er_76.symm; subst er_76; replace ev1_75 := ev1_75.symm; subst ev1_75; replace ev4_45 := ev4_45.symm; subst ev4_45; replace ev1_1 := ev1_1.symm; subst ev1_1; rw [← hres]; simp only [drnL, drnStep, drnF, drnW, mn2, if_neg c_2, if_neg c_46, if_pos c_67, if_pos c_74, ↓reduceIte]) H locs hP hD hS ls (lv_sub hl [0, 2, 1, 5] rfl)
            · skip
              refine lv_iconst (v := 1) hx hb dX4_drains_72 (by decide) ?_
              refine lv_goto (tgt := 77) hx hb dX4_drains_73 (by decide) ?_
              refine lv_istore_n (lv' := [(2, .int 1), (5, .int v4_45), (4, .int v4_45), (3, .int (nI i)), (1, .int lf), (0, .ref (a 0))]) hx hb dX4_drains_77 rfl hl (by decide) rfl (fun ls hl => ?_)
              refine lv_iload_n hx hb dX4_drains_78 rfl (lv_at hl 4 rfl) ?_
              refine lv_iload hx hb dX4_drains_79 (lv_at hl 1 rfl) ?_
              refine lv_isub hx hb dX4_drains_81 ?_
              refine lv_topi (fun v1_81 ev1_81 => ?_)
              refine lv_istore_n (lv' := [(1, .int v1_81), (2, .int 1), (5, .int v4_45), (4, .int v4_45), (3, .int (nI i)), (0, .ref (a 0))]) hx hb dX4_drains_82 rfl hl (by decide) rfl (fun ls hl => ?_)
              refine lv_aload_n hx hb dX4_drains_83 rfl (lv_at hl 5 rfl) ?_
              refine lv_iload_n hx hb dX4_drains_84 rfl (lv_at hl 4 rfl) ?_
              refine lv_iconst (v := 4) hx hb dX4_drains_85 (by decide) ?_
              refine lv_iload hx hb dX4_drains_86 (lv_at hl 2 rfl) ?_
              refine lv_ineg hx hb dX4_drains_88 ?_
              obtain ⟨r_82, er_82⟩ : ∃ z : rB, z = addM r1 i 4 (-v4_45) := ⟨_, rfl⟩
              have hm_83 := mX4_adds l D cI cQ cJ a r1 h (nI i) i 4 rfl (by omega) (by omega) (-v4_45)
              rw [← er_82] at hm_83
              refine k_callv (wc := cM cI a r1 h) (w' := cM cI a r_82 h) (wn := cM cI a r_82 h) (va_runV (As := [.int (nI i), .int 4, .int (-v4_45)]) (rest := []) ⟨hx, hb, hml, hown, hts⟩ (hm_83 _) (cwV 3 hts gX4_drains_X4_adds rfl rfl rfl (by decide +kernel) ⟨Nat.le_of_ble_eq_true rfl, Nat.le_of_ble_eq_true rfl⟩) (k_preV (wc := cM cI a r1 h) hE hK hP hD [0, 1, 2, 3, 4, 5] (by decide) rfl (ci := 4) (q0 := 0) rfl rfl [.int (nI i), .int 4, .int (-v4_45)]) rfl rfl hl.1 rfl (lv_room (Nat.le_of_ble_eq_true rfl)) dX4_drains_89 ⟨Nat.zero_le _, Nat.zero_le _⟩) hP hD hS hA [0, 1, 2, 3, 4, 5] rfl rfl rfl (fun H locs hP hD hS => ?_)
              refine lv_aload_n hx hb dX4_drains_92 rfl (lv_at hl 5 rfl) ?_
              refine lv_iload_n hx hb dX4_drains_93 rfl (lv_at hl 4 rfl) ?_
              refine lv_bipush (v := 6) hx hb dX4_drains_94 (by decide) ?_
              refine lv_iload hx hb dX4_drains_96 (lv_at hl 2 rfl) ?_
              obtain ⟨r_84, er_84⟩ : ∃ z : rB, z = addM r_82 i 6 v4_45 := ⟨_, rfl⟩
              have hm_85 := mX4_adds l D cI cQ cJ a r_82 h (nI i) i 6 rfl (by omega) (by omega) v4_45
              rw [← er_84] at hm_85
              refine k_callv (wc := cM cI a r_82 h) (w' := cM cI a r_84 h) (wn := cM cI a r_84 h) (va_runV (As := [.int (nI i), .int 6, .int v4_45]) (rest := []) ⟨hx, hb, hml, hown, hts⟩ (hm_85 _) (cwV 3 hts gX4_drains_X4_adds rfl rfl rfl (by decide +kernel) ⟨Nat.le_of_ble_eq_true rfl, Nat.le_of_ble_eq_true rfl⟩) (k_preV (wc := cM cI a r_82 h) hE hK hP hD [0, 1, 2, 3, 4, 5] (by decide) rfl (ci := 4) (q0 := 0) rfl rfl [.int (nI i), .int 6, .int v4_45]) rfl rfl hl.1 rfl (lv_room (Nat.le_of_ble_eq_true rfl)) dX4_drains_98 ⟨Nat.zero_le _, Nat.zero_le _⟩) hP hD hS hA [0, 1, 2, 3, 4, 5] rfl rfl rfl (fun H locs hP hD hS => ?_)
              refine lv_aload_n hx hb dX4_drains_101 rfl (lv_at hl 5 rfl) ?_
              refine va_get (D := D) (ci := 4) (v := .ref (a 1)) (C := RX4) (T := TX4) (N := 12) hx hb hts hinX4 hown hK hP 0 rfl rfl 1 (by decide) fl7 (fun _ h9 => h9) rfl dX4_drains_102 ?_
              refine lv_bipush (v := 6) hx hb dX4_drains_105 (by decide) ?_
              refine lv_dup2_11 hx hb dX4_drains_107 rfl rfl ?_
              refine k_iald (k := 6) (v := r_84 0 6) hx hb hK hP 1 0 rfl rfl (vp_in_nI (n := 6) (by omega) (by omega)) (nI_clamp (n := 6) (by omega)) (rfl) dX4_drains_108 ?_
              refine lv_iload hx hb dX4_drains_109 (lv_at hl 2 rfl) ?_
              refine lv_iadd hx hb dX4_drains_111 ?_
              refine lv_topi (fun a_86 ea_86 => ?_)
              refine k_iast (k := 6) (ws' := cM cI a (bp r_84 0 6 a_86) h) hx hb hK hP hD hS 1 0 rfl rfl (vp_in_nI (n := 6) (by omega) (by omega)) (nI_clamp (n := 6) (by omega)) rfl dX4_drains_112 (fun H locs hP hD hS => ?_)
              refine lv_iinc (v := nI (i + 1)) (lv' := [(3, .int (nI (i + 1))), (1, .int v1_81), (2, .int 1), (5, .int v4_45), (4, .int v4_45), (0, .ref (a 0))]) hx hb dX4_drains_113 hl (k := 4) rfl (nI_1 i) (by decide) rfl (fun ls hl => ?_)
              refine lv_goto (tgt := 11) hx hb dX4_drains_116 (by decide) ?_
              exact ih (i + 1) (bp r_84 0 6 a_86) v1_81 1 (by omega) (by first | exact Or.inl rfl | exact Or.inr rfl) (by replace ea_86 := ea_86.symm; subst ea_86; replace er_84 := er_84.symm; subst er_84; replace er_82 := er_82.symm; subst er_82; replace ev1_81 := ev1_81.symm; subst ev1_81; replace ev4_45 := ev4_45.symm; subst ev4_45; replace ev1_1 := ev1_1.symm; subst ev1_1; rw [← hres]; simp only [drnL, drnStep, drnF, drnW, mn2, if_neg c_2, if_neg c_46, if_pos c_67, if_neg c_74, ↓reduceIte]) H locs hP hD hS ls (lv_sub hl [0, 2, 1, 5] rfl)
  exact Lp11 6 0 r v1_1 0 (by omega) (by first | exact Or.inl rfl | exact Or.inr rfl) rfl _ _ hP hD hS ls (lv_sub hl [0, 1, 2, 3] rfl)
