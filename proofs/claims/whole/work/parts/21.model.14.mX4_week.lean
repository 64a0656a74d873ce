set_option maxHeartbeats 4000000 in
set_option maxRecDepth 100000 in
theorem mX4_week (l : Launch) (D : va_G) (cI cQ cJ : ClassId) (a : Nat → Nat) (r : rB) (h : Int64)  : Mv l D (tY cI cQ cJ) yX4_week wsX4_week ({ frames := 1, cells := 0, slots := 0, locals := 22 } : Room) [.ref (a 0)] (cM cI a r h) (cM cI a (weekM r) h) := by
  refine M_of (cc := cX4_week) (maxL := 3) (ret := none) (Qc := fun A => va_Qv (fun (_ : Unit) => True) (fun _ t => Wd D (cM cI a (weekM r) h) t) A) (by decide) rfl (Nat.le_of_ble_eq_true rfl) ?_
  intro p e s m below meth c A ls hB hE hP hK hD hA hl
  obtain ⟨hx, hb, hr, hml, hts, hown, hlocks⟩ := hB
  have hS : va_S A s.heap s.heap [] := va_S.rf
  have hl : lv_has ls 3 [(0, .ref (a 0))] := hl
  have hinX4 : ∀ w ∈ u_ws RX4 TX4 12, w ∈ wsX4_week := by decide +kernel
  have fl7 := hts (.fieldLink RX4 7 "RoofDrainsModel" "s" "[I") (by decide +kernel)
  refine lv_iconst (v := 0) hx hb dX4_week_0 (by decide) ?_
  refine lv_istore_n (lv' := [(1, .int 0), (0, .ref (a 0))]) hx hb dX4_week_1 rfl hl (by decide) rfl (fun ls hl => ?_)
  have Lp2 : ∀ (n i : Nat) (r1 : rB), i + n = 6 → wkL n i r1 = wkL 6 0 r → ∀ (H : Heap) (locs : List Loc), va_P D vwCl (cM cI a r1 h) H → va_D A (cM cI a r1 h) → va_S A s.heap H locs → ∀ (ls : Array Slot), lv_has ls 3 [(1, .int (nI i)), (0, .ref (a 0))] → W p l e ({ frames := 1, cells := 0, slots := 0, locals := 22 } : Room) s m ([.ref (a 0)] : List Value).toArray below meth c H locs 0 0 (MQ below (va_Qv (fun (_ : Unit) => True) (fun _ t => Wd D (cM cI a (weekM r) h) t) A) ([.ref (a 0)] : List Value).toArray s 0 0 A) (F0 m 2 ls []) := by
    intro n
    induction n with
    | zero =>
      intro i r1 hin hres H locs hP hD hS ls hl
      have h9r1 : r1 = wkL 6 0 r := hres
      refine lv_iload_n hx hb dX4_week_2 rfl (lv_at hl 0 rfl) ?_
      refine lv_bipush (v := 6) hx hb dX4_week_3 (by decide) ?_
      refine lv_icmp_ge (tgt := 54) hx hb dX4_week_5 (by decide) (fun _ => ?_) (fun h9 => absurd (nI_le (a := 6) (b := i) (by omega) (by omega)) h9)
      refine lv_aload_n hx hb dX4_week_54 rfl (lv_at hl 1 rfl) ?_
      refine va_get (D := D) (ci := 4) (v := .ref (a 1)) (C := RX4) (T := TX4) (N := 12) hx hb hts hinX4 hown hK hP 0 rfl rfl 1 (by decide) fl7 (fun _ h9 => h9) rfl dX4_week_55 ?_
      refine lv_iconst (v := 4) hx hb dX4_week_58 (by decide) ?_
      refine lv_dup2_11 hx hb dX4_week_59 rfl rfl ?_
      refine k_iald (k := 4) (v := r1 0 4) hx hb hK hP 1 0 rfl rfl (vp_in_nI (n := 4) (by omega) (by omega)) (nI_clamp (n := 4) (by omega)) (rfl) dX4_week_60 ?_
      refine lv_iconst (v := 1) hx hb dX4_week_61 (by decide) ?_
      refine lv_iadd hx hb dX4_week_62 ?_
      refine lv_topi (fun a_1 ea_1 => ?_)
      refine k_iast (k := 4) (ws' := cM cI a (bp r1 0 4 a_1) h) hx hb hK hP hD hS 1 0 rfl rfl (vp_in_nI (n := 4) (by omega) (by omega)) (nI_clamp (n := 4) (by omega)) rfl dX4_week_63 (fun H locs hP hD hS => ?_)
      have e9 : (bp r1 0 4 a_1 : rB) = weekM r := by (replace ea_1 := ea_1.symm; subst ea_1; replace h9r1 := h9r1.symm; subst h9r1; simp only [weekM, ↓reduceIte])
      rw [e9] at hP
      exact k_vret hx hb hr hlocks hS hP dX4_week_64
    | succ n ih =>
      intro i r1 hin hres H locs hP hD hS ls hl
      refine lv_iload_n hx hb dX4_week_2 rfl (lv_at hl 0 rfl) ?_
      refine lv_bipush (v := 6) hx hb dX4_week_3 (by decide) ?_
      refine lv_icmp_ge (tgt := 54) hx hb dX4_week_5 (by decide) (fun h9 => absurd h9 (nI_ge (a := i) (b := 6) (by omega) (by omega))) (fun _ => ?_)
      refine lv_aload_n hx hb dX4_week_8 rfl (lv_at hl 1 rfl) ?_
      refine lv_iload_n hx hb dX4_week_9 rfl (lv_at hl 0 rfl) ?_
      refine lv_iconst (v := 2) hx hb dX4_week_10 (by decide) ?_
      refine k_calli (wc := cM cI a r1 h) (w' := cM cI a r1 h) (wn := cM cI a r1 h) (va_runV (As := [.int (nI i), .int 2]) (rest := []) ⟨hx, hb, hml, hown, hts⟩ (mX4_of l D cI cQ cJ a r1 h (nI i) i 2 rfl (by omega) (by omega) _) (cwV 2 hts gX4_week_X4_of rfl rfl rfl (by decide +kernel) ⟨Nat.le_of_ble_eq_true rfl, Nat.le_of_ble_eq_true rfl⟩) (k_preV (wc := cM cI a r1 h) hE hK hP hD [0, 1, 2, 3, 4, 5] (by decide) rfl (ci := 4) (q0 := 0) rfl rfl [.int (nI i), .int 2]) rfl rfl hl.1 rfl (lv_room (Nat.le_of_ble_eq_true rfl)) dX4_week_11 ⟨Nat.zero_le _, Nat.zero_le _⟩) hP hD hS hA [0, 1, 2, 3, 4, 5] rfl rfl rfl (fun H locs hP hD hS => ?_)
      refine lv_aload_n hx hb dX4_week_14 rfl (lv_at hl 1 rfl) ?_
      refine va_get (D := D) (ci := 4) (v := .ref (a 1)) (C := RX4) (T := TX4) (N := 12) hx hb hts hinX4 hown hK hP 0 rfl rfl 1 (by decide) fl7 (fun _ h9 => h9) rfl dX4_week_15 ?_
      refine lv_iconst (v := 1) hx hb dX4_week_18 (by decide) ?_
      refine k_iald (k := 1) (v := r1 0 1) hx hb hK hP 1 0 rfl rfl (vp_in_nI (n := 1) (by omega) (by omega)) (nI_clamp (n := 1) (by omega)) (rfl) dX4_week_19 ?_
      refine lv_iadd hx hb dX4_week_20 ?_
      refine lv_topi (fun v2_2 ev2_2 => ?_)
      refine lv_istore_n (lv' := [(2, .int v2_2), (1, .int (nI i)), (0, .ref (a 0))]) hx hb dX4_week_21 rfl hl (by decide) rfl (fun ls hl => ?_)
      refine lv_aload_n hx hb dX4_week_22 rfl (lv_at hl 2 rfl) ?_
      refine va_get (D := D) (ci := 4) (v := .ref (a 1)) (C := RX4) (T := TX4) (N := 12) hx hb hts hinX4 hown hK hP 0 rfl rfl 1 (by decide) fl7 (fun _ h9 => h9) rfl dX4_week_23 ?_
      refine lv_bipush (v := 33) hx hb dX4_week_26 (by decide) ?_
      refine lv_bipush (v := 7) hx hb dX4_week_28 (by decide) ?_
      refine lv_iload_n hx hb dX4_week_30 rfl (lv_at hl 1 rfl) ?_
      refine lv_imul hx hb dX4_week_31 ?_
      refine lv_eqi (y := nI (7 * i)) (pk_mul 7 i) ?_
      refine lv_iadd hx hb dX4_week_32 ?_
      refine lv_eqi (y := nI (33 + (7 * i))) (nI_add 33 (7 * i)) ?_
      refine lv_iconst (v := 2) hx hb dX4_week_33 (by decide) ?_
      refine lv_iadd hx hb dX4_week_34 ?_
      refine lv_eqi (y := nI ((33 + 7 * i) + 2)) (nI_add (33 + 7 * i) 2) ?_
      refine lv_iload_n hx hb dX4_week_35 rfl (lv_at hl 0 rfl) ?_
      refine lv_bipush (v := 100) hx hb dX4_week_36 (by decide) ?_
      refine lv_icmp_le (tgt := 46) hx hb dX4_week_38 (by decide) (fun c_3 => ?_) (fun c_3 => ?_)
      · skip
        refine lv_iload_n hx hb dX4_week_46 rfl (lv_at hl 0 rfl) ?_
        refine k_iast (k := 33 + 7 * i + 2) (ws' := cM cI a (bp r1 0 (33 + 7 * i + 2) v2_2) h) hx hb hK hP hD hS 1 0 rfl rfl (vp_in_nI (n := 33 + 7 * i + 2) (by omega) (by omega)) (nI_clamp (n := 33 + 7 * i + 2) (by omega)) rfl dX4_week_47 (fun H locs hP hD hS => ?_)
        refine lv_iinc (v := nI (i + 1)) (lv' := [(1, .int (nI (i + 1))), (2, .int v2_2), (0, .ref (a 0))]) hx hb dX4_week_48 hl (k := 1) rfl (nI_1 i) (by decide) rfl (fun ls hl => ?_)
        refine lv_goto (tgt := 2) hx hb dX4_week_51 (by decide) ?_
        exact ih (i + 1) (bp r1 0 (33 + 7 * i + 2) v2_2) (by omega) (by replace ev2_2 := ev2_2.symm; subst ev2_2; rw [← hres]; simp only [wkL, if_pos c_3, ↓reduceIte]) H locs hP hD hS ls (lv_sub hl [0, 2] rfl)
      · skip
        refine lv_bipush (v := 100) hx hb dX4_week_41 (by decide) ?_
        refine lv_goto (tgt := 47) hx hb dX4_week_43 (by decide) ?_
        refine k_iast (k := 33 + 7 * i + 2) (ws' := cM cI a (bp r1 0 (33 + 7 * i + 2) 100) h) hx hb hK hP hD hS 1 0 rfl rfl (vp_in_nI (n := 33 + 7 * i + 2) (by omega) (by omega)) (nI_clamp (n := 33 + 7 * i + 2) (by omega)) rfl dX4_week_47 (fun H locs hP hD hS => ?_)
        refine lv_iinc (v := nI (i + 1)) (lv' := [(1, .int (nI (i + 1))), (2, .int v2_2), (0, .ref (a 0))]) hx hb dX4_week_48 hl (k := 1) rfl (nI_1 i) (by decide) rfl (fun ls hl => ?_)
        refine lv_goto (tgt := 2) hx hb dX4_week_51 (by decide) ?_
        exact ih (i + 1) (bp r1 0 (33 + 7 * i + 2) 100) (by omega) (by replace ev2_2 := ev2_2.symm; subst ev2_2; rw [← hres]; simp only [wkL, if_neg c_3, ↓reduceIte]) H locs hP hD hS ls (lv_sub hl [0, 2] rfl)
  exact Lp2 6 0 r (by omega) rfl _ _ hP hD hS ls (lv_sub hl [0, 1] rfl)
