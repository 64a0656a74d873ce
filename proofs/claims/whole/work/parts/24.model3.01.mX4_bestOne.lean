set_option maxHeartbeats 4000000 in
set_option maxRecDepth 100000 in
theorem mX4_bestOne (l : Launch) (D : va_G) (cI cQ cJ : ClassId) (a : Nat → Nat) (r : rB) (h : Int64) (hok : okS (r 0)) : Mi l D (tY cI cQ cJ) yX4_bestOne wsX4_bestOne ({ frames := 6, cells := 0, slots := 0, locals := 140 } : Room) [.ref (a 0)] (cM cI a r h) (cM cI a ((boL 6 0 r (-1) 0).1) h) ((boL 6 0 r (-1) 0).2) := by
  refine M_of (cc := cX4_bestOne) (maxL := 7) (ret := some .int) (Qc := fun A => va_Qi (fun (x : Int32) (_ : Unit) => x = (boL 6 0 r (-1) 0).2) (fun _ t => Wd D (cM cI a ((boL 6 0 r (-1) 0).1) h) t) A) (by decide) rfl (Nat.le_of_ble_eq_true rfl) ?_
  intro p e s m below meth c A ls hB hE hP hK hD hA hl
  obtain ⟨hx, hb, hr, hml, hts, hown, hlocks⟩ := hB
  have hS : va_S A s.heap s.heap [] := va_S.rf
  have hl : lv_has ls 7 [(0, .ref (a 0))] := hl
  have hinX4 : ∀ w ∈ u_ws RX4 TX4 12, w ∈ wsX4_bestOne := by decide +kernel
  have fl7 := hts (.fieldLink RX4 7 "RoofDrainsModel" "s" "[I") (by decide +kernel)
  refine lv_iconst (v := (-1)) hx hb dX4_bestOne_0 (by decide) ?_
  refine lv_topi (fun v1_1 ev1_1 => ?_)
  refine lv_istore_n (lv' := [(1, .int v1_1), (0, .ref (a 0))]) hx hb dX4_bestOne_1 rfl hl (by decide) rfl (fun ls hl => ?_)
  refine lv_iconst (v := 0) hx hb dX4_bestOne_2 (by decide) ?_
  refine lv_istore_n (lv' := [(2, .int 0), (1, .int v1_1), (0, .ref (a 0))]) hx hb dX4_bestOne_3 rfl hl (by decide) rfl (fun ls hl => ?_)
  refine lv_iconst (v := 0) hx hb dX4_bestOne_4 (by decide) ?_
  refine lv_istore_n (lv' := [(3, .int 0), (2, .int 0), (1, .int v1_1), (0, .ref (a 0))]) hx hb dX4_bestOne_5 rfl hl (by decide) rfl (fun ls hl => ?_)
  have Lp6 : ∀ (n i : Nat) (r1 : rB) (be : Int32) (le : Int32), i + n = 6 → okS (r1 0) → boL n i r1 be le = boL 6 0 r v1_1 0 → ∀ (H : Heap) (locs : List Loc), va_P D vwCl (cM cI a r1 h) H → va_D A (cM cI a r1 h) → va_S A s.heap H locs → ∀ (ls : Array Slot), lv_has ls 7 [(3, .int (nI i)), (2, .int le), (1, .int be), (0, .ref (a 0))] → W p l e ({ frames := 6, cells := 0, slots := 0, locals := 140 } : Room) s m ([.ref (a 0)] : List Value).toArray below meth c H locs 0 0 (MQ below (va_Qi (fun (x : Int32) (_ : Unit) => x = (boL 6 0 r (-1) 0).2) (fun _ t => Wd D (cM cI a ((boL 6 0 r (-1) 0).1) h) t) A) ([.ref (a 0)] : List Value).toArray s 0 0 A) (F0 m 6 ls []) := by
    intro n
    induction n with
    | zero =>
      intro i r1 be le hin hok1 hres H locs hP hD hS ls hl
      have h9r1 : r1 = (boL 6 0 r v1_1 0).1 := congrArg Prod.fst hres
      have h9be : be = (boL 6 0 r v1_1 0).2 := congrArg Prod.snd hres
      refine lv_iload_n hx hb dX4_bestOne_6 rfl (lv_at hl 0 rfl) ?_
      refine lv_bipush (v := 6) hx hb dX4_bestOne_7 (by decide) ?_
      refine lv_icmp_ge (tgt := 112) hx hb dX4_bestOne_9 (by decide) (fun _ => ?_) (fun h9 => absurd (nI_le (a := 6) (b := i) (by omega) (by omega)) h9)
      refine lv_iload_n hx hb dX4_bestOne_112 rfl (lv_at hl 2 rfl) ?_
      have e9 : (r1 : rB) = (boL 6 0 r (-1) 0).1 := by (replace h9be := h9be.symm; subst h9be; replace h9r1 := h9r1.symm; subst h9r1; replace ev1_1 := ev1_1.symm; subst ev1_1; simp only [↓reduceIte])
      rw [e9] at hP
      exact k_iret hx hb hr hlocks hS hP dX4_bestOne_113 (by (replace h9be := h9be.symm; subst h9be; replace h9r1 := h9r1.symm; subst h9r1; replace ev1_1 := ev1_1.symm; subst ev1_1; simp only [↓reduceIte]))
    | succ n ih =>
      intro i r1 be le hin hok1 hres H locs hP hD hS ls hl
      refine lv_iload_n hx hb dX4_bestOne_6 rfl (lv_at hl 0 rfl) ?_
      refine lv_bipush (v := 6) hx hb dX4_bestOne_7 (by decide) ?_
      refine lv_icmp_ge (tgt := 112) hx hb dX4_bestOne_9 (by decide) (fun h9 => absurd h9 (nI_ge (a := i) (b := 6) (by omega) (by omega))) (fun _ => ?_)
      refine lv_aload_n hx hb dX4_bestOne_12 rfl (lv_at hl 3 rfl) ?_
      refine lv_iload_n hx hb dX4_bestOne_13 rfl (lv_at hl 0 rfl) ?_
      refine lv_iconst (v := 2) hx hb dX4_bestOne_14 (by decide) ?_
      refine k_calli (wc := cM cI a r1 h) (w' := cM cI a r1 h) (wn := cM cI a r1 h) (va_runV (As := [.int (nI i), .int 2]) (rest := []) ⟨hx, hb, hml, hown, hts⟩ (mX4_of l D cI cQ cJ a r1 h (nI i) i 2 rfl (by omega) (by omega) _) (cwV 2 hts gX4_bestOne_X4_of rfl rfl rfl (by decide +kernel) ⟨Nat.le_of_ble_eq_true rfl, Nat.le_of_ble_eq_true rfl⟩) (k_preV (wc := cM cI a r1 h) hE hK hP hD [0, 1, 2, 3, 4, 5] (by decide) rfl (ci := 4) (q0 := 0) rfl rfl [.int (nI i), .int 2]) rfl rfl hl.1 rfl (lv_room (Nat.le_of_ble_eq_true rfl)) dX4_bestOne_15 ⟨Nat.zero_le _, Nat.zero_le _⟩) hP hD hS hA [0, 1, 2, 3, 4, 5] rfl rfl rfl (fun H locs hP hD hS => ?_)
      refine lv_topi (fun v4_2 ev4_2 => ?_)
      refine lv_istore (lv' := [(4, .int v4_2), (3, .int (nI i)), (2, .int le), (1, .int be), (0, .ref (a 0))]) hx hb dX4_bestOne_18 hl (by decide) rfl (fun ls hl => ?_)
      refine lv_aload_n hx hb dX4_bestOne_20 rfl (lv_at hl 4 rfl) ?_
      refine va_get (D := D) (ci := 4) (v := .ref (a 1)) (C := RX4) (T := TX4) (N := 12) hx hb hts hinX4 hown hK hP 0 rfl rfl 1 (by decide) fl7 (fun _ h9 => h9) rfl dX4_bestOne_21 ?_
      refine lv_bipush (v := 33) hx hb dX4_bestOne_24 (by decide) ?_
      refine lv_bipush (v := 7) hx hb dX4_bestOne_26 (by decide) ?_
      refine lv_iload_n hx hb dX4_bestOne_28 rfl (lv_at hl 1 rfl) ?_
      refine lv_imul hx hb dX4_bestOne_29 ?_
      refine lv_eqi (y := nI (7 * i)) (pk_mul 7 i) ?_
      refine lv_iadd hx hb dX4_bestOne_30 ?_
      refine lv_eqi (y := nI (33 + (7 * i))) (nI_add 33 (7 * i)) ?_
      refine lv_iconst (v := 2) hx hb dX4_bestOne_31 (by decide) ?_
      refine lv_iadd hx hb dX4_bestOne_32 ?_
      refine lv_eqi (y := nI ((33 + 7 * i) + 2)) (nI_add (33 + 7 * i) 2) ?_
      refine lv_iconst (v := 0) hx hb dX4_bestOne_33 (by decide) ?_
      refine k_iast (k := 33 + 7 * i + 2) (ws' := cM cI a (bp r1 0 (33 + 7 * i + 2) 0) h) hx hb hK hP hD hS 1 0 rfl rfl (vp_in_nI (n := 33 + 7 * i + 2) (by omega) (by omega)) (nI_clamp (n := 33 + 7 * i + 2) (by omega)) rfl dX4_bestOne_34 (fun H locs hP hD hS => ?_)
      refine lv_aload_n hx hb dX4_bestOne_35 rfl (lv_at hl 4 rfl) ?_
      refine lv_bipush (v := 30) hx hb dX4_bestOne_36 (by decide) ?_
      refine lv_iconst (v := 0) hx hb dX4_bestOne_38 (by decide) ?_
      obtain ⟨r_3, er_3⟩ : ∃ z : rB, z = asd (bp r1 0 (33 + 7 * i + 2) 0) := ⟨_, rfl⟩
      have hm_4 := mX4_would l D cI cQ cJ a (bp r1 0 (33 + 7 * i + 2) 0) h 30 30 (nI_clamp (n := 30) (by omega)) 0 (ok_bp hok1 (fun k hk => by constructor <;> omega))
      rw [← er_3] at hm_4
      refine k_calli (wc := cM cI a (bp r1 0 (33 + 7 * i + 2) 0) h) (w' := cM cI a r_3 h) (wn := cM cI a r_3 h) (va_runV (As := [.int 30, .int 0]) (rest := []) ⟨hx, hb, hml, hown, hts⟩ (hm_4 _) (cwV 2 hts gX4_bestOne_X4_would rfl rfl rfl (by decide +kernel) ⟨Nat.le_of_ble_eq_true rfl, Nat.le_of_ble_eq_true rfl⟩) (k_preV (wc := cM cI a (bp r1 0 (33 + 7 * i + 2) 0) h) hE hK hP hD [0, 1, 2, 3, 4, 5] (by decide) rfl (ci := 4) (q0 := 0) rfl rfl [.int 30, .int 0]) rfl rfl hl.1 rfl (lv_room (Nat.le_of_ble_eq_true rfl)) dX4_bestOne_39 ⟨Nat.zero_le _, Nat.zero_le _⟩) hP hD hS hA [0, 1, 2, 3, 4, 5] rfl rfl rfl (fun H locs hP hD hS => ?_)
      refine lv_topi (fun v5_5 ev5_5 => ?_)
      refine lv_istore (lv' := [(5, .int v5_5), (4, .int v4_2), (3, .int (nI i)), (2, .int le), (1, .int be), (0, .ref (a 0))]) hx hb dX4_bestOne_42 hl (by decide) rfl (fun ls hl => ?_)
      refine lv_aload_n hx hb dX4_bestOne_44 rfl (lv_at hl 5 rfl) ?_
      refine va_get (D := D) (ci := 4) (v := .ref (a 1)) (C := RX4) (T := TX4) (N := 12) hx hb hts hinX4 hown hK hP 0 rfl rfl 1 (by decide) fl7 (fun _ h9 => h9) rfl dX4_bestOne_45 ?_
      refine lv_bipush (v := 33) hx hb dX4_bestOne_48 (by decide) ?_
      refine lv_bipush (v := 7) hx hb dX4_bestOne_50 (by decide) ?_
      refine lv_iload_n hx hb dX4_bestOne_52 rfl (lv_at hl 2 rfl) ?_
      refine lv_imul hx hb dX4_bestOne_53 ?_
      refine lv_eqi (y := nI (7 * i)) (pk_mul 7 i) ?_
      refine lv_iadd hx hb dX4_bestOne_54 ?_
      refine lv_eqi (y := nI (33 + (7 * i))) (nI_add 33 (7 * i)) ?_
      refine lv_iconst (v := 2) hx hb dX4_bestOne_55 (by decide) ?_
      refine lv_iadd hx hb dX4_bestOne_56 ?_
      refine lv_eqi (y := nI ((33 + 7 * i) + 2)) (nI_add (33 + 7 * i) 2) ?_
      refine lv_iload hx hb dX4_bestOne_57 (lv_at hl 1 rfl) ?_
      refine k_iast (k := 33 + 7 * i + 2) (ws' := cM cI a (bp r_3 0 (33 + 7 * i + 2) v4_2) h) hx hb hK hP hD hS 1 0 rfl rfl (vp_in_nI (n := 33 + 7 * i + 2) (by omega) (by omega)) (nI_clamp (n := 33 + 7 * i + 2) (by omega)) rfl dX4_bestOne_59 (fun H locs hP hD hS => ?_)
      refine lv_iload hx hb dX4_bestOne_60 (lv_at hl 1 rfl) ?_
      refine lv_if_le (tgt := 80) hx hb dX4_bestOne_62 (by decide) (fun c_6 => ?_) (fun c_6 => ?_)
      · skip
        refine lv_iconst (v := 0) hx hb dX4_bestOne_80 (by decide) ?_
        refine lv_istore (lv' := [(6, .int 0), (5, .int v5_5), (4, .int v4_2), (3, .int (nI i)), (2, .int le), (1, .int be), (0, .ref (a 0))]) hx hb dX4_bestOne_81 hl (by decide) rfl (fun ls hl => ?_)
        refine lv_iload hx hb dX4_bestOne_83 (lv_at hl 0 rfl) ?_
        refine lv_if_eq (tgt := 92) hx hb dX4_bestOne_85 (by decide) (fun _ => ?_) (fun h9 => absurd (by decide) h9)
        refine lv_iload_n hx hb dX4_bestOne_92 rfl (lv_at hl 5 rfl) ?_
        refine lv_istore_n (lv' := [(1, .int be), (6, .int 0), (5, .int v5_5), (4, .int v4_2), (3, .int (nI i)), (2, .int le), (0, .ref (a 0))]) hx hb dX4_bestOne_93 rfl hl (by decide) rfl (fun ls hl => ?_)
        refine lv_iload hx hb dX4_bestOne_94 (lv_at hl 1 rfl) ?_
        refine lv_if_eq (tgt := 104) hx hb dX4_bestOne_96 (by decide) (fun _ => ?_) (fun h9 => absurd (by decide) h9)
        refine lv_iload_n hx hb dX4_bestOne_104 rfl (lv_at hl 5 rfl) ?_
        refine lv_istore_n (lv' := [(2, .int le), (1, .int be), (6, .int 0), (5, .int v5_5), (4, .int v4_2), (3, .int (nI i)), (0, .ref (a 0))]) hx hb dX4_bestOne_105 rfl hl (by decide) rfl (fun ls hl => ?_)
        refine lv_iinc (v := nI (i + 1)) (lv' := [(3, .int (nI (i + 1))), (2, .int le), (1, .int be), (6, .int 0), (5, .int v5_5), (4, .int v4_2), (0, .ref (a 0))]) hx hb dX4_bestOne_106 hl (k := 5) rfl (nI_1 i) (by decide) rfl (fun ls hl => ?_)
        refine lv_goto (tgt := 6) hx hb dX4_bestOne_109 (by decide) ?_
        exact ih (i + 1) (bp r_3 0 (33 + 7 * i + 2) v4_2) be le (by omega) (ok_bp (by rw [er_3]; exact (asd_ok (ok_bp hok1 (fun k hk => by constructor <;> omega)))) (fun k hk => by constructor <;> omega)) (by replace ev5_5 := ev5_5.symm; subst ev5_5; replace er_3 := er_3.symm; subst er_3; replace ev4_2 := ev4_2.symm; subst ev4_2; replace ev1_1 := ev1_1.symm; subst ev1_1; rw [← hres]; simp only [boL, boB, boZ, i10, i00, if_pos c_6, ↓reduceIte]) H locs hP hD hS ls (lv_sub hl [0, 1, 2, 6] rfl)
      · skip
        refine lv_iload_n hx hb dX4_bestOne_65 rfl (lv_at hl 4 rfl) ?_
        refine lv_iconst (v := (-1)) hx hb dX4_bestOne_66 (by decide) ?_
        refine lv_icmp_eq (tgt := 76) hx hb dX4_bestOne_67 (by decide) (fun c_7 => ?_) (fun c_7 => ?_)
        · skip
          refine lv_iconst (v := 1) hx hb dX4_bestOne_76 (by decide) ?_
          refine lv_goto (tgt := 81) hx hb dX4_bestOne_77 (by decide) ?_
          refine lv_istore (lv' := [(6, .int 1), (5, .int v5_5), (4, .int v4_2), (3, .int (nI i)), (2, .int le), (1, .int be), (0, .ref (a 0))]) hx hb dX4_bestOne_81 hl (by decide) rfl (fun ls hl => ?_)
          refine lv_iload hx hb dX4_bestOne_83 (lv_at hl 0 rfl) ?_
          refine lv_if_eq (tgt := 92) hx hb dX4_bestOne_85 (by decide) (fun h9 => absurd h9 (by decide)) (fun _ => ?_)
          refine lv_iload_n hx hb dX4_bestOne_88 rfl (lv_at hl 3 rfl) ?_
          refine lv_goto (tgt := 93) hx hb dX4_bestOne_89 (by decide) ?_
          refine lv_istore_n (lv' := [(1, .int (nI i)), (6, .int 1), (5, .int v5_5), (4, .int v4_2), (3, .int (nI i)), (2, .int le), (0, .ref (a 0))]) hx hb dX4_bestOne_93 rfl hl (by decide) rfl (fun ls hl => ?_)
          refine lv_iload hx hb dX4_bestOne_94 (lv_at hl 1 rfl) ?_
          refine lv_if_eq (tgt := 104) hx hb dX4_bestOne_96 (by decide) (fun h9 => absurd h9 (by decide)) (fun _ => ?_)
          refine lv_iload hx hb dX4_bestOne_99 (lv_at hl 2 rfl) ?_
          refine lv_goto (tgt := 105) hx hb dX4_bestOne_101 (by decide) ?_
          refine lv_istore_n (lv' := [(2, .int v5_5), (1, .int (nI i)), (6, .int 1), (5, .int v5_5), (4, .int v4_2), (3, .int (nI i)), (0, .ref (a 0))]) hx hb dX4_bestOne_105 rfl hl (by decide) rfl (fun ls hl => ?_)
          refine lv_iinc (v := nI (i + 1)) (lv' := [(3, .int (nI (i + 1))), (2, .int v5_5), (1, .int (nI i)), (6, .int 1), (5, .int v5_5), (4, .int v4_2), (0, .ref (a 0))]) hx hb dX4_bestOne_106 hl (k := 5) rfl (nI_1 i) (by decide) rfl (fun ls hl => ?_)
          refine lv_goto (tgt := 6) hx hb dX4_bestOne_109 (by decide) ?_
          exact ih (i + 1) (bp r_3 0 (33 + 7 * i + 2) v4_2) (nI i) v5_5 (by omega) (ok_bp (by rw [er_3]; exact (asd_ok (ok_bp hok1 (fun k hk => by constructor <;> omega)))) (fun k hk => by constructor <;> omega)) (by replace ev5_5 := ev5_5.symm; subst ev5_5; replace er_3 := er_3.symm; subst er_3; replace ev4_2 := ev4_2.symm; subst ev4_2; replace ev1_1 := ev1_1.symm; subst ev1_1; rw [← hres]; simp only [boL, boB, boZ, i10, i00, if_neg c_6, if_pos c_7, ↓reduceIte]) H locs hP hD hS ls (lv_sub hl [0, 1, 2, 6] rfl)
        · skip
          refine lv_iload hx hb dX4_bestOne_70 (lv_at hl 0 rfl) ?_
          refine lv_iload_n hx hb dX4_bestOne_72 rfl (lv_at hl 3 rfl) ?_
          refine lv_icmp_ge (tgt := 80) hx hb dX4_bestOne_73 (by decide) (fun c_8 => ?_) (fun c_8 => ?_)
          · skip
            refine lv_iconst (v := 0) hx hb dX4_bestOne_80 (by decide) ?_
            refine lv_istore (lv' := [(6, .int 0), (5, .int v5_5), (4, .int v4_2), (3, .int (nI i)), (2, .int le), (1, .int be), (0, .ref (a 0))]) hx hb dX4_bestOne_81 hl (by decide) rfl (fun ls hl => ?_)
            refine lv_iload hx hb dX4_bestOne_83 (lv_at hl 0 rfl) ?_
            refine lv_if_eq (tgt := 92) hx hb dX4_bestOne_85 (by decide) (fun _ => ?_) (fun h9 => absurd (by decide) h9)
            refine lv_iload_n hx hb dX4_bestOne_92 rfl (lv_at hl 5 rfl) ?_
            refine lv_istore_n (lv' := [(1, .int be), (6, .int 0), (5, .int v5_5), (4, .int v4_2), (3, .int (nI i)), (2, .int le), (0, .ref (a 0))]) hx hb dX4_bestOne_93 rfl hl (by decide) rfl (fun ls hl => ?_)
            refine lv_iload hx hb dX4_bestOne_94 (lv_at hl 1 rfl) ?_
            refine lv_if_eq (tgt := 104) hx hb dX4_bestOne_96 (by decide) (fun _ => ?_) (fun h9 => absurd (by decide) h9)
            refine lv_iload_n hx hb dX4_bestOne_104 rfl (lv_at hl 5 rfl) ?_
            refine lv_istore_n (lv' := [(2, .int le), (1, .int be), (6, .int 0), (5, .int v5_5), (4, .int v4_2), (3, .int (nI i)), (0, .ref (a 0))]) hx hb dX4_bestOne_105 rfl hl (by decide) rfl (fun ls hl => ?_)
            refine lv_iinc (v := nI (i + 1)) (lv' := [(3, .int (nI (i + 1))), (2, .int le), (1, .int be), (6, .int 0), (5, .int v5_5), (4, .int v4_2), (0, .ref (a 0))]) hx hb dX4_bestOne_106 hl (k := 5) rfl (nI_1 i) (by decide) rfl (fun ls hl => ?_)
            refine lv_goto (tgt := 6) hx hb dX4_bestOne_109 (by decide) ?_
            exact ih (i + 1) (bp r_3 0 (33 + 7 * i + 2) v4_2) be le (by omega) (ok_bp (by rw [er_3]; exact (asd_ok (ok_bp hok1 (fun k hk => by constructor <;> omega)))) (fun k hk => by constructor <;> omega)) (by replace ev5_5 := ev5_5.symm; subst ev5_5; replace er_3 := er_3.symm; subst er_3; replace ev4_2 := ev4_2.symm; subst ev4_2; replace ev1_1 := ev1_1.symm; subst ev1_1; rw [← hres]; simp only [boL, boB, boZ, i10, i00, if_neg c_6, if_neg c_7, if_pos c_8, ↓reduceIte]) H locs hP hD hS ls (lv_sub hl [0, 1, 2, 6] rfl)
          · skip
            refine lv_iconst (v := 1) hx hb dX4_bestOne_76 (by decide) ?_
            refine lv_goto (tgt := 81) hx hb dX4_bestOne_77 (by decide) ?_
            refine lv_istore (lv' := [(6, .int 1), (5, .int v5_5), (4, .int v4_2), (3, .int (nI i)), (2, .int le), (1, .int be), (0, .ref (a 0))]) hx hb dX4_bestOne_81 hl (by decide) rfl (fun ls hl => ?_)
            refine lv_iload hx hb dX4_bestOne_83 (lv_at hl 0 rfl) ?_
            refine lv_if_eq (tgt := 92) hx hb dX4_bestOne_85 (by decide) (fun h9 => absurd h9 (by decide)) (fun _ => ?_)
            refine lv_iload_n hx hb dX4_bestOne_88 rfl (lv_at hl 3 rfl) ?_
            refine lv_goto (tgt := 93) hx hb dX4_bestOne_89 (by decide) ?_
            refine lv_istore_n (lv' := [(1, .int (nI i)), (6, .int 1), (5, .int v5_5), (4, .int v4_2), (3, .int (nI i)), (2, .int le), (0, .ref (a 0))]) hx hb dX4_bestOne_93 rfl hl (by decide) rfl (fun ls hl => ?_)
            refine lv_iload hx hb dX4_bestOne_94 (lv_at hl 1 rfl) ?_
            refine lv_if_eq (tgt := 104) hx hb dX4_bestOne_96 (by decide) (fun h9 => absurd h9 (by decide)) (fun _ => ?_)
            refine lv_iload hx hb dX4_bestOne_99 (lv_at hl 2 rfl) ?_
            refine lv_goto (tgt := 105) hx hb dX4_bestOne_101 (by decide) ?_
            refine lv_istore_n (lv' := [(2, .int v5_5), (1, .int (nI i)), (6, .int 1), (5, .int v5_5), (4, .int v4_2), (3, .int (nI i)), (0, .ref (a 0))]) hx hb dX4_bestOne_105 rfl hl (by decide) rfl (fun ls hl => ?_)
            refine lv_iinc (v := nI (i + 1)) (lv' := [(3, .int (nI (i + 1))), (2, .int v5_5), (1, .int (nI i)), (6, .int 1), (5, .int v5_5), (4, .int v4_2), (0, .ref (a 0))]) hx hb dX4_bestOne_106 hl (k := 5) rfl (nI_1 i) (by decide) rfl (fun ls hl => ?_)
            refine lv_goto (tgt := 6) hx hb dX4_bestOne_109 (by decide) ?_
            exact ih (i + 1) (bp r_3 0 (33 + 7 * i + 2) v4_2) (nI i) v5_5 (by omega) (ok_bp (by rw [er_3]; exact (asd_ok (ok_bp hok1 (fun k hk => by constructor <;> omega)))) (fun k hk => by constructor <;> omega)) (by replace ev5_5 := ev5_5.symm; subst ev5_5; replace er_3 := er_3.symm; subst er_3; replace ev4_2 := ev4_2.symm; subst ev4_2; replace ev1_1 := ev1_1.symm; subst ev1_1; rw [← hres]; simp only [boL, boB, boZ, i10, i00, if_neg c_6, if_neg c_7, if_neg c_8, ↓reduceIte]) H locs hP hD hS ls (lv_sub hl [0, 1, 2, 6] rfl)
  exact Lp6 6 0 r v1_1 0 (by omega) hok rfl _ _ hP hD hS ls (lv_sub hl [0, 1, 2, 3] rfl)
