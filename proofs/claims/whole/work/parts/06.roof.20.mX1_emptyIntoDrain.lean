set_option maxHeartbeats 4000000 in
set_option maxRecDepth 100000 in
theorem mX1_emptyIntoDrain (l : Launch) (D : va_G) (cI cQ cJ : ClassId) (a : Nat → Nat) (r : rB)  : Mv l D (tY cI cQ cJ) yX1_emptyIntoDrain wsX1_emptyIntoDrain ({ frames := 1, cells := 0, slots := 0, locals := 22 } : Room) [.ref (a 0)] (cR cI a r) (cR cI a (emptyD r)) := by
  refine M_of (cc := cX1_emptyIntoDrain) (maxL := 6) (ret := none) (Qc := fun A => va_Qv (fun (_ : Unit) => True) (fun _ t => Wd D (cR cI a (emptyD r)) t) A) (by decide) rfl (Nat.le_of_ble_eq_true rfl) ?_
  intro p e s m below meth c A ls hB hE hP hK hD hA hl
  obtain ⟨hx, hb, hr, hml, hts, hown, hlocks⟩ := hB
  have hS : va_S A s.heap s.heap [] := va_S.rf
  have hl : lv_has ls 6 [(0, .ref (a 0))] := hl
  have hinX1 : ∀ w ∈ u_ws RX1 TX1 16, w ∈ wsX1_emptyIntoDrain := by decide +kernel
  have fl45 := hts (.fieldLink RX1 45 "RoofDrains$Roof" "values" "[I") (by decide +kernel)
  have fl64 := hts (.fieldLink RX1 64 "RoofDrains$Roof" "backedUp" "I") (by decide +kernel)
  have fl36 := hts (.fieldLink RX1 36 "RoofDrains$Roof" "inGutter" "[I") (by decide +kernel)
  have mm1 := hts (.methodLink RX1 85 Lib.Math.min.name) (by decide +kernel)
  have mm2 := hts (.static Lib.Math.min.name) (by decide +kernel)
  have mm3 := hts (.initialized "java/lang/Math") (by decide +kernel)
  have mm4 := hts (.code Lib.Math.min.name Lib.Math.min.code 2 (some .int)) (by decide +kernel)
  have fl42 := hts (.fieldLink RX1 42 "RoofDrains$Roof" "drained" "[I") (by decide +kernel)
  refine lv_aload_n hx hb dX1_emptyIntoDrain_0 rfl (lv_at hl 0 rfl) ?_
  refine va_get (D := D) (ci := 1) (v := .ref (a 12)) (C := RX1) (T := TX1) (N := 16) hx hb hts hinX1 hown hK hP 0 rfl rfl 11 (by decide) fl45 (fun _ h9 => h9) rfl dX1_emptyIntoDrain_1 ?_
  refine lv_iconst (v := 0) hx hb dX1_emptyIntoDrain_4 (by decide) ?_
  refine k_iald (k := 0) (v := r 11 0) hx hb hK hP 12 0 rfl rfl (vp_in_nI (n := 0) (by omega) (by omega)) (nI_clamp (n := 0) (by omega)) (rfl) dX1_emptyIntoDrain_5 ?_
  refine lv_topi (fun v1_1 ev1_1 => ?_)
  refine lv_istore_n (lv' := [(1, .int v1_1), (0, .ref (a 0))]) hx hb dX1_emptyIntoDrain_6 rfl hl (by decide) rfl (fun ls hl => ?_)
  refine lv_iconst (v := 0) hx hb dX1_emptyIntoDrain_7 (by decide) ?_
  refine lv_istore_n (lv' := [(2, .int 0), (1, .int v1_1), (0, .ref (a 0))]) hx hb dX1_emptyIntoDrain_8 rfl hl (by decide) rfl (fun ls hl => ?_)
  refine lv_iconst (v := 0) hx hb dX1_emptyIntoDrain_9 (by decide) ?_
  refine lv_istore_n (lv' := [(3, .int 0), (2, .int 0), (1, .int v1_1), (0, .ref (a 0))]) hx hb dX1_emptyIntoDrain_10 rfl hl (by decide) rfl (fun ls hl => ?_)
  have Lp11 : ∀ (n i : Nat) (r1 : rB) (lf : Int32) (b : Int32), i + n = 6 → drL n i r1 lf b = drL 6 0 r v1_1 0 → ∀ (H : Heap) (locs : List Loc), va_P D vwCl (cR cI a r1) H → va_D A (cR cI a r1) → va_S A s.heap H locs → ∀ (ls : Array Slot), lv_has ls 6 [(3, .int (nI i)), (2, .int b), (1, .int lf), (0, .ref (a 0))] → W p l e ({ frames := 1, cells := 0, slots := 0, locals := 22 } : Room) s m ([.ref (a 0)] : List Value).toArray below meth c H locs 0 0 (MQ below (va_Qv (fun (_ : Unit) => True) (fun _ t => Wd D (cR cI a (emptyD r)) t) A) ([.ref (a 0)] : List Value).toArray s 0 0 A) (F0 m 11 ls []) := by
    intro n
    induction n with
    | zero =>
      intro i r1 lf b hin hres H locs hP hD hS ls hl
      have h9r1 : r1 = (drL 6 0 r v1_1 0).1 := congrArg Prod.fst hres
      have h9b : b = (drL 6 0 r v1_1 0).2 := congrArg Prod.snd hres
      refine lv_iload_n hx hb dX1_emptyIntoDrain_11 rfl (lv_at hl 0 rfl) ?_
      refine lv_bipush (v := 6) hx hb dX1_emptyIntoDrain_12 (by decide) ?_
      refine lv_icmp_ge (tgt := 91) hx hb dX1_emptyIntoDrain_14 (by decide) (fun _ => ?_) (fun h9 => absurd (nI_le (a := 6) (b := i) (by omega) (by omega)) h9)
      refine lv_iload_n hx hb dX1_emptyIntoDrain_91 rfl (lv_at hl 1 rfl) ?_
      refine lv_if_eq (tgt := 105) hx hb dX1_emptyIntoDrain_92 (by decide) (fun c_2 => ?_) (fun c_2 => ?_)
      · skip
        have e9 : (r1 : rB) = emptyD r := by (replace h9b := h9b.symm; subst h9b; replace h9r1 := h9r1.symm; subst h9r1; replace ev1_1 := ev1_1.symm; subst ev1_1; simp only [emptyD, c_2, ↓reduceIte])
        rw [e9] at hP
        exact k_vret hx hb hr hlocks hS hP dX1_emptyIntoDrain_105
      · skip
        refine lv_aload_n hx hb dX1_emptyIntoDrain_95 rfl (lv_at hl 3 rfl) ?_
        refine lv_dup hx hb dX1_emptyIntoDrain_96 rfl ?_
        refine va_get (D := D) (ci := 1) (v := .int (r1 12 3)) (C := RX1) (T := TX1) (N := 16) hx hb hts hinX1 hown hK hP 0 rfl rfl 15 (by decide) fl64 (fun _ h9 => h9) (congrArg (fun z => some (Value.int z)) (rfl)) dX1_emptyIntoDrain_97 ?_
        refine lv_iconst (v := 1) hx hb dX1_emptyIntoDrain_100 (by decide) ?_
        refine lv_iadd hx hb dX1_emptyIntoDrain_101 ?_
        refine lv_topi (fun f_3 ef_3 => ?_)
        refine k_put (D := D) (ci := 1) (v := .int f_3) (ty := .int) (C := RX1) (T := TX1) (N := 16) hx hb hts hinX1 tyX1 tyX1_ok nmX1 hown hK hP hD hS 0 rfl rfl 15 (by decide) fl64 (fun _ h9 => h9) rfl (by decide +kernel) rfl rfl (Nat.le_of_ble_eq_true rfl) (ws' := cR cI a (bp r1 12 3 f_3)) rfl dX1_emptyIntoDrain_102 (fun H locs hP hD hS => ?_)
        have e9 : (bp r1 12 3 f_3 : rB) = emptyD r := by (replace ef_3 := ef_3.symm; subst ef_3; replace h9b := h9b.symm; subst h9b; replace h9r1 := h9r1.symm; subst h9r1; replace ev1_1 := ev1_1.symm; subst ev1_1; simp only [emptyD, c_2, ↓reduceIte])
        rw [e9] at hP
        exact k_vret hx hb hr hlocks hS hP dX1_emptyIntoDrain_105
    | succ n ih =>
      intro i r1 lf b hin hres H locs hP hD hS ls hl
      refine lv_iload_n hx hb dX1_emptyIntoDrain_11 rfl (lv_at hl 0 rfl) ?_
      refine lv_bipush (v := 6) hx hb dX1_emptyIntoDrain_12 (by decide) ?_
      refine lv_icmp_ge (tgt := 91) hx hb dX1_emptyIntoDrain_14 (by decide) (fun h9 => absurd h9 (nI_ge (a := i) (b := 6) (by omega) (by omega))) (fun _ => ?_)
      refine lv_aload_n hx hb dX1_emptyIntoDrain_17 rfl (lv_at hl 3 rfl) ?_
      refine lv_iload_n hx hb dX1_emptyIntoDrain_18 rfl (lv_at hl 0 rfl) ?_
      refine k_calli (wc := cR cI a r1) (w' := cR cI a r1) (wn := cR cI a r1) (va_runV (As := [.int (nI i)]) (rest := []) ⟨hx, hb, hml, hown, hts⟩ (mX1_pipeTakes l D cI cQ cJ a r1 (nI i) i (vp_in_nI (n := i) (by omega) (by omega)) (nI_clamp (n := i) (by omega)) _) (cwV 1 hts gX1_emptyIntoDrain_X1_pipeTakes rfl rfl rfl (by decide +kernel) ⟨Nat.le_of_ble_eq_true rfl, Nat.le_of_ble_eq_true rfl⟩) (k_preV (wc := cR cI a r1) hE hK hP hD [0, 1, 2, 3, 4, 5, 6, 7, 8, 9, 10, 11, 12] (by decide) rfl (ci := 1) (q0 := 0) rfl rfl [.int (nI i)]) rfl rfl hl.1 rfl (lv_room (Nat.le_of_ble_eq_true rfl)) dX1_emptyIntoDrain_19 ⟨Nat.zero_le _, Nat.zero_le _⟩) hP hD hS hA [0, 1, 2, 3, 4, 5, 6, 7, 8, 9, 10, 11, 12] rfl rfl rfl (fun H locs hP hD hS => ?_)
      refine lv_aload_n hx hb dX1_emptyIntoDrain_22 rfl (lv_at hl 3 rfl) ?_
      refine va_get (D := D) (ci := 1) (v := .ref (a 9)) (C := RX1) (T := TX1) (N := 16) hx hb hts hinX1 hown hK hP 0 rfl rfl 8 (by decide) fl36 (fun _ h9 => h9) rfl dX1_emptyIntoDrain_23 ?_
      refine lv_iload_n hx hb dX1_emptyIntoDrain_26 rfl (lv_at hl 0 rfl) ?_
      refine k_iald (k := i) (v := r1 8 i) hx hb hK hP 9 0 rfl rfl (vp_in_nI (n := i) (by omega) (by omega)) (nI_clamp (n := i) (by omega)) (rfl) dX1_emptyIntoDrain_27 ?_
      refine va_mmin hx hb (hml.trans hl.1.symm) hown mm1 mm2 mm3 mm4 (Nat.le_of_ble_eq_true rfl) (Nat.le_of_ble_eq_true rfl) (Nat.zero_le _) (Nat.zero_le _) dX1_emptyIntoDrain_28 ?_
      refine lv_eqi (y := mn (pipeT r1 i) (r1 8 i)) rfl ?_
      refine lv_topi (fun mn_4 emn_4 => ?_)
      refine lv_istore (lv' := [(4, .int mn_4), (3, .int (nI i)), (2, .int b), (1, .int lf), (0, .ref (a 0))]) hx hb dX1_emptyIntoDrain_31 hl (by decide) rfl (fun ls hl => ?_)
      refine lv_iload hx hb dX1_emptyIntoDrain_33 (lv_at hl 0 rfl) ?_
      refine lv_iload_n hx hb dX1_emptyIntoDrain_35 rfl (lv_at hl 3 rfl) ?_
      refine va_mmin hx hb (hml.trans hl.1.symm) hown mm1 mm2 mm3 mm4 (Nat.le_of_ble_eq_true rfl) (Nat.le_of_ble_eq_true rfl) (Nat.zero_le _) (Nat.zero_le _) dX1_emptyIntoDrain_36 ?_
      refine lv_eqi (y := mn mn_4 lf) rfl ?_
      refine lv_topi (fun mn_5 emn_5 => ?_)
      refine lv_istore (lv' := [(5, .int mn_5), (4, .int mn_4), (3, .int (nI i)), (2, .int b), (1, .int lf), (0, .ref (a 0))]) hx hb dX1_emptyIntoDrain_39 hl (by decide) rfl (fun ls hl => ?_)
      refine lv_aload_n hx hb dX1_emptyIntoDrain_41 rfl (lv_at hl 5 rfl) ?_
      refine va_get (D := D) (ci := 1) (v := .ref (a 9)) (C := RX1) (T := TX1) (N := 16) hx hb hts hinX1 hown hK hP 0 rfl rfl 8 (by decide) fl36 (fun _ h9 => h9) rfl dX1_emptyIntoDrain_42 ?_
      refine lv_iload_n hx hb dX1_emptyIntoDrain_45 rfl (lv_at hl 2 rfl) ?_
      refine lv_dup2_11 hx hb dX1_emptyIntoDrain_46 rfl rfl ?_
      refine k_iald (k := i) (v := r1 8 i) hx hb hK hP 9 0 rfl rfl (vp_in_nI (n := i) (by omega) (by omega)) (nI_clamp (n := i) (by omega)) (rfl) dX1_emptyIntoDrain_47 ?_
      refine lv_iload hx hb dX1_emptyIntoDrain_48 (lv_at hl 0 rfl) ?_
      refine lv_isub hx hb dX1_emptyIntoDrain_50 ?_
      refine lv_topi (fun a_6 ea_6 => ?_)
      refine k_iast (k := i) (ws' := cR cI a (bp r1 8 i a_6)) hx hb hK hP hD hS 9 0 rfl rfl (vp_in_nI (n := i) (by omega) (by omega)) (nI_clamp (n := i) (by omega)) rfl dX1_emptyIntoDrain_51 (fun H locs hP hD hS => ?_)
      refine lv_aload_n hx hb dX1_emptyIntoDrain_52 rfl (lv_at hl 5 rfl) ?_
      refine va_get (D := D) (ci := 1) (v := .ref (a 11)) (C := RX1) (T := TX1) (N := 16) hx hb hts hinX1 hown hK hP 0 rfl rfl 10 (by decide) fl42 (fun _ h9 => h9) rfl dX1_emptyIntoDrain_53 ?_
      refine lv_iload_n hx hb dX1_emptyIntoDrain_56 rfl (lv_at hl 2 rfl) ?_
      refine lv_dup2_11 hx hb dX1_emptyIntoDrain_57 rfl rfl ?_
      refine k_iald (k := i) (v := r1 10 i) hx hb hK hP 11 0 rfl rfl (vp_in_nI (n := i) (by omega) (by omega)) (nI_clamp (n := i) (by omega)) ((bp_rw (by decide)).trans (rfl)) dX1_emptyIntoDrain_58 ?_
      refine lv_iload hx hb dX1_emptyIntoDrain_59 (lv_at hl 0 rfl) ?_
      refine lv_iadd hx hb dX1_emptyIntoDrain_61 ?_
      refine lv_topi (fun a_7 ea_7 => ?_)
      refine k_iast (k := i) (ws' := cR cI a (bp (bp r1 8 i a_6) 10 i a_7)) hx hb hK hP hD hS 11 0 rfl rfl (vp_in_nI (n := i) (by omega) (by omega)) (nI_clamp (n := i) (by omega)) rfl dX1_emptyIntoDrain_62 (fun H locs hP hD hS => ?_)
      refine lv_iload_n hx hb dX1_emptyIntoDrain_63 rfl (lv_at hl 4 rfl) ?_
      refine lv_iload hx hb dX1_emptyIntoDrain_64 (lv_at hl 0 rfl) ?_
      refine lv_isub hx hb dX1_emptyIntoDrain_66 ?_
      refine lv_topi (fun v1_8 ev1_8 => ?_)
      refine lv_istore_n (lv' := [(1, .int v1_8), (5, .int mn_5), (4, .int mn_4), (3, .int (nI i)), (2, .int b), (0, .ref (a 0))]) hx hb dX1_emptyIntoDrain_67 rfl hl (by decide) rfl (fun ls hl => ?_)
      refine lv_iload_n hx hb dX1_emptyIntoDrain_68 rfl (lv_at hl 4 rfl) ?_
      refine lv_if_ne (tgt := 79) hx hb dX1_emptyIntoDrain_69 (by decide) (fun c_9 => ?_) (fun c_9 => ?_)
      · skip
        refine lv_iconst (v := 1) hx hb dX1_emptyIntoDrain_79 (by decide) ?_
        refine lv_goto (tgt := 84) hx hb dX1_emptyIntoDrain_80 (by decide) ?_
        refine lv_istore_n (lv' := [(2, .int 1), (1, .int v1_8), (5, .int mn_5), (4, .int mn_4), (3, .int (nI i)), (0, .ref (a 0))]) hx hb dX1_emptyIntoDrain_84 rfl hl (by decide) rfl (fun ls hl => ?_)
        refine lv_iinc (v := nI (i + 1)) (lv' := [(3, .int (nI (i + 1))), (2, .int 1), (1, .int v1_8), (5, .int mn_5), (4, .int mn_4), (0, .ref (a 0))]) hx hb dX1_emptyIntoDrain_85 hl (k := 4) rfl (nI_1 i) (by decide) rfl (fun ls hl => ?_)
        refine lv_goto (tgt := 11) hx hb dX1_emptyIntoDrain_88 (by decide) ?_
        exact ih (i + 1) (bp (bp r1 8 i a_6) 10 i a_7) v1_8 1 (by omega) (by replace ev1_8 := ev1_8.symm; subst ev1_8; replace ea_7 := ea_7.symm; subst ea_7; replace ea_6 := ea_6.symm; subst ea_6; replace emn_5 := emn_5.symm; subst emn_5; replace emn_4 := emn_4.symm; subst emn_4; replace ev1_1 := ev1_1.symm; subst ev1_1; rw [← hres]; simp only [drL, drStep, drS, drW, c_9, ↓reduceIte]) H locs hP hD hS ls (lv_sub hl [0, 1, 2, 5] rfl)
      · skip
        refine lv_iload hx hb dX1_emptyIntoDrain_72 (lv_at hl 1 rfl) ?_
        refine lv_iload hx hb dX1_emptyIntoDrain_74 (lv_at hl 2 rfl) ?_
        refine lv_icmp_ge (tgt := 83) hx hb dX1_emptyIntoDrain_76 (by decide) (fun c_10 => ?_) (fun c_10 => ?_)
        · skip
          refine lv_iconst (v := 0) hx hb dX1_emptyIntoDrain_83 (by decide) ?_
          refine lv_istore_n (lv' := [(2, .int 0), (1, .int v1_8), (5, .int mn_5), (4, .int mn_4), (3, .int (nI i)), (0, .ref (a 0))]) hx hb dX1_emptyIntoDrain_84 rfl hl (by decide) rfl (fun ls hl => ?_)
          refine lv_iinc (v := nI (i + 1)) (lv' := [(3, .int (nI (i + 1))), (2, .int 0), (1, .int v1_8), (5, .int mn_5), (4, .int mn_4), (0, .ref (a 0))]) hx hb dX1_emptyIntoDrain_85 hl (k := 4) rfl (nI_1 i) (by decide) rfl (fun ls hl => ?_)
          refine lv_goto (tgt := 11) hx hb dX1_emptyIntoDrain_88 (by decide) ?_
          exact ih (i + 1) (bp (bp r1 8 i a_6) 10 i a_7) v1_8 0 (by omega) (by replace ev1_8 := ev1_8.symm; subst ev1_8; replace ea_7 := ea_7.symm; subst ea_7; replace ea_6 := ea_6.symm; subst ea_6; replace emn_5 := emn_5.symm; subst emn_5; replace emn_4 := emn_4.symm; subst emn_4; replace ev1_1 := ev1_1.symm; subst ev1_1; rw [← hres]; simp only [drL, drStep, drS, drW, c_9, c_10, ↓reduceIte]) H locs hP hD hS ls (lv_sub hl [0, 1, 2, 5] rfl)
        · skip
          refine lv_iconst (v := 1) hx hb dX1_emptyIntoDrain_79 (by decide) ?_
          refine lv_goto (tgt := 84) hx hb dX1_emptyIntoDrain_80 (by decide) ?_
          refine lv_istore_n (lv' := [(2, .int 1), (1, .int v1_8), (5, .int mn_5), (4, .int mn_4), (3, .int (nI i)), (0, .ref (a 0))]) hx hb dX1_emptyIntoDrain_84 rfl hl (by decide) rfl (fun ls hl => ?_)
          refine lv_iinc (v := nI (i + 1)) (lv' := [(3, .int (nI (i + 1))), (2, .int 1), (1, .int v1_8), (5, .int mn_5), (4, .int mn_4), (0, .ref (a 0))]) hx hb dX1_emptyIntoDrain_85 hl (k := 4) rfl (nI_1 i) (by decide) rfl (fun ls hl => ?_)
          refine lv_goto (tgt := 11) hx hb dX1_emptyIntoDrain_88 (by decide) ?_
          exact ih (i + 1) (bp (bp r1 8 i a_6) 10 i a_7) v1_8 1 (by omega) (by replace ev1_8 := ev1_8.symm; subst ev1_8; replace ea_7 := ea_7.symm; subst ea_7; replace ea_6 := ea_6.symm; subst ea_6; replace emn_5 := emn_5.symm; subst emn_5; replace emn_4 := emn_4.symm; subst emn_4; replace ev1_1 := ev1_1.symm; subst ev1_1; rw [← hres]; simp only [drL, drStep, drS, drW, c_9, c_10, ↓reduceIte]) H locs hP hD hS ls (lv_sub hl [0, 1, 2, 5] rfl)
  exact Lp11 6 0 r v1_1 0 (by omega) rfl _ _ hP hD hS ls (lv_sub hl [0, 1, 2, 3] rfl)
