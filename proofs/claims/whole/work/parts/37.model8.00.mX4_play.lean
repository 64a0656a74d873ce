set_option maxHeartbeats 4000000 in
set_option maxRecDepth 100000 in
theorem mX4_play (l : Launch) (D : va_G) (cI cQ cJ : ClassId) (a : Nat → Nat) (r : rB) (h : Int64) (N : Nat) (hN : r 5 1 = nI N) (hN6 : N ≤ 6) (hok : okS (r 0)) (L : Nat) (hL : r 5 2 = nI L) (hL60 : L ≤ 60)  : Mi l D (tY cI cQ cJ) yX4_play wsX4_play ({ frames := 5, cells := 0, slots := 0, locals := 115 } : Room) [.ref (a 0)] (cM cI a r h) (cM cI a (plyB r N L) h) (plyV r N L) := by
  refine M_of (cc := cX4_play) (maxL := 3) (ret := some .int) (Qc := fun A => va_Qi (fun (x : Int32) (_ : Unit) => x = plyV r N L) (fun _ t => Wd D (cM cI a (plyB r N L) h) t) A) (by decide) rfl (Nat.le_of_ble_eq_true rfl) ?_
  intro p e s m below meth c A ls hB hE hP hK hD hA hl
  obtain ⟨hx, hb, hr, hml, hts, hown, hlocks⟩ := hB
  have hS : va_S A s.heap s.heap [] := va_S.rf
  have hl : lv_has ls 3 [(0, .ref (a 0))] := hl
  have hinX4 : ∀ w ∈ u_ws RX4 TX4 12, w ∈ wsX4_play := by decide +kernel
  have fl25 := hts (.fieldLink RX4 25 "RoofDrainsModel" "thrown" "I") (by decide +kernel)
  have fl99 := hts (.fieldLink RX4 99 "RoofDrainsModel" "isWell" "Z") (by decide +kernel)
  have fl93 := hts (.fieldLink RX4 93 "RoofDrainsModel" "length" "I") (by decide +kernel)
  have fl109 := hts (.fieldLink RX4 109 "RoofDrainsModel" "partMany" "I") (by decide +kernel)
  have fl22 := hts (.fieldLink RX4 22 "RoofDrainsModel" "parts" "[I") (by decide +kernel)
  have fl7 := hts (.fieldLink RX4 7 "RoofDrainsModel" "s" "[I") (by decide +kernel)
  refine lv_aload_n hx hb dX4_play_0 rfl (lv_at hl 0 rfl) ?_
  refine lv_iconst (v := 0) hx hb dX4_play_1 (by decide) ?_
  refine k_put (D := D) (ci := 4) (v := .int 0) (ty := .int) (C := RX4) (T := TX4) (N := 12) hx hb hts hinX4 tyX4 tyX4_ok nmX4 hown hK hP hD hS 0 rfl rfl 0 (by decide) fl25 (fun _ h9 => h9) rfl (by decide +kernel) rfl rfl (Nat.le_of_ble_eq_true rfl) (ws' := cM cI a (bp r 5 0 0) h) rfl dX4_play_2 (fun H locs hP hD hS => ?_)
  refine lv_aload_n hx hb dX4_play_5 rfl (lv_at hl 0 rfl) ?_
  obtain ⟨r_1, er_1⟩ : ∃ z : rB, z = raB (bp r 5 0 0) L := ⟨_, rfl⟩
  have hm_2 := mX4_readsAll l D cI cQ cJ a (bp r 5 0 0) h L (((bp_ne (by omega)).trans (rfl)).trans hL) hL60
  rw [← er_1] at hm_2
  refine k_callv (wc := cM cI a (bp r 5 0 0) h) (w' := cM cI a r_1 h) (wn := cM cI a r_1 h) (va_runV (As := []) (rest := []) ⟨hx, hb, hml, hown, hts⟩ (hm_2 _) (cwV 0 hts gX4_play_X4_readsAll rfl rfl rfl (by decide +kernel) ⟨Nat.le_of_ble_eq_true rfl, Nat.le_of_ble_eq_true rfl⟩) (k_preV (wc := cM cI a (bp r 5 0 0) h) hE hK hP hD [0, 1, 2, 3, 4, 5] (by decide) rfl (ci := 4) (q0 := 0) rfl rfl []) rfl rfl hl.1 rfl (lv_room (Nat.le_of_ble_eq_true rfl)) dX4_play_6 ⟨Nat.zero_le _, Nat.zero_le _⟩) hP hD hS hA [0, 1, 2, 3, 4, 5] rfl rfl rfl (fun H locs hP hD hS => ?_)
  obtain ⟨A1, P1, hA1L, h2P1, -, h5P1, hpk1, hRd1⟩ := raB_ex (r := bp r 5 0 0) (L := L) hL60
  have hN1 : r_1 5 1 = nI N := by rw [er_1]; exact hRd1.2.2.1.trans ((bp_ne (by decide)).trans hN)
  have hok1 : okS (r_1 0) := by rw [er_1, hRd1.1 0 (by decide) (by decide)]; exact hok
  refine lv_aload_n hx hb dX4_play_9 rfl (lv_at hl 0 rfl) ?_
  refine va_get (D := D) (ci := 4) (v := .int (r_1 5 4)) (C := RX4) (T := TX4) (N := 12) hx hb hts hinX4 hown hK hP 0 rfl rfl 8 (by decide) fl99 (fun _ h9 => h9) (congrArg (fun z => some (Value.int z)) (rfl)) dX4_play_10 ?_
  refine lv_if_ne (tgt := 22) hx hb dX4_play_13 (by decide) (fun c_3 => ?_) (fun c_3 => ?_)
  · skip
    have cW0 : ¬ (raB (bp r 5 0 0) L 5 4 = 0) := by rw [← er_1]; exact c_3
    refine lv_aload_n hx hb dX4_play_22 rfl (lv_at hl 0 rfl) ?_
    obtain ⟨r_4, er_4⟩ : ∃ z : rB, z = svB r_1 N := ⟨_, rfl⟩
    have hm_5 := mX4_saves l D cI cQ cJ a r_1 h N hN1 hN6
    rw [← er_4] at hm_5
    refine k_callv (wc := cM cI a r_1 h) (w' := cM cI a r_4 h) (wn := cM cI a r_4 h) (va_runV (As := []) (rest := []) ⟨hx, hb, hml, hown, hts⟩ (hm_5 _) (cwV 0 hts gX4_play_X4_saves rfl rfl rfl (by decide +kernel) ⟨Nat.le_of_ble_eq_true rfl, Nat.le_of_ble_eq_true rfl⟩) (k_preV (wc := cM cI a r_1 h) hE hK hP hD [0, 1, 2, 3, 4, 5] (by decide) rfl (ci := 4) (q0 := 0) rfl rfl []) rfl rfl hl.1 rfl (lv_room (Nat.le_of_ble_eq_true rfl)) dX4_play_23 ⟨Nat.zero_le _, Nat.zero_le _⟩) hP hD hS hA [0, 1, 2, 3, 4, 5] rfl rfl rfl (fun H locs hP hD hS => ?_)
    refine lv_aload_n hx hb dX4_play_26 rfl (lv_at hl 0 rfl) ?_
    refine lv_iconst (v := 0) hx hb dX4_play_27 (by decide) ?_
    refine k_put (D := D) (ci := 4) (v := .int 0) (ty := .int) (C := RX4) (T := TX4) (N := 12) hx hb hts hinX4 tyX4 tyX4_ok nmX4 hown hK hP hD hS 0 rfl rfl 6 (by decide) fl93 (fun _ h9 => h9) rfl (by decide +kernel) rfl rfl (Nat.le_of_ble_eq_true rfl) (ws' := cM cI a (bp r_4 5 2 0) h) rfl dX4_play_28 (fun H locs hP hD hS => ?_)
    refine lv_iconst (v := 0) hx hb dX4_play_31 (by decide) ?_
    refine lv_istore_n (lv' := [(1, .int 0), (0, .ref (a 0))]) hx hb dX4_play_32 rfl hl (by decide) rfl (fun ls hl => ?_)
    refine lv_iconst (v := 0) hx hb dX4_play_33 (by decide) ?_
    refine lv_istore_n (lv' := [(2, .int 0), (1, .int 0), (0, .ref (a 0))]) hx hb dX4_play_34 rfl hl (by decide) rfl (fun ls hl => ?_)
    have eS : (bp r_4 5 2 0 : rB) = plyS r N L := by rw [er_4, er_1]; rfl
    rw [eS] at hP hD
    obtain ⟨q, eq⟩ : ∃ z : rB, z = plyS r N L := ⟨_, rfl⟩
    rw [← eq] at hP hD
    have hq5 : q 5 5 = nI P1 := by rw [eq]; unfold plyS; rw [bp_ne (by decide), svB_5 (by decide)]; exact h5P1
    have hq4 : q 4 = raB (bp r 5 0 0) L 4 := by rw [eq]; unfold plyS; rw [bpr (by decide), svB_ne (by decide) (by decide)]
    have hpkq : pkP q P1 := by unfold pkP; rw [hq4]; exact hpk1
    have hokq : okS (q 0) := by rw [eq]; unfold plyS; rw [bpr (by decide), svB_ne (by decide) (by decide), hRd1.1 0 (by decide) (by decide)]; exact hok
    have hPq : plyP r L = P1 := by unfold plyP; rw [h5P1]; exact nI_clamp (by omega)
    have Lp35 : ∀ (n i : Nat) (r1 : rB) (sv : Int32), i + n = P1 → Sm r1 q → okS (r1 0) → plyL n i r1 sv = plyL P1 0 q 0 → ∀ (H : Heap) (locs : List Loc), va_P D vwCl (cM cI a r1 h) H → va_D A (cM cI a r1 h) → va_S A s.heap H locs → ∀ (ls : Array Slot), lv_has ls 3 [(2, .int (nI i)), (1, .int sv), (0, .ref (a 0))] → W p l e ({ frames := 5, cells := 0, slots := 0, locals := 115 } : Room) s m ([.ref (a 0)] : List Value).toArray below meth c H locs 0 0 (MQ below (va_Qi (fun (x : Int32) (_ : Unit) => x = plyV r N L) (fun _ t => Wd D (cM cI a (plyB r N L) h) t) A) ([.ref (a 0)] : List Value).toArray s 0 0 A) (F0 m 35 ls []) := by
      intro n
      induction n with
      | zero =>
        intro i r1 sv hin hSm1 hok1 hres H locs hP hD hS ls hl
        refine lv_iload_n hx hb dX4_play_35 rfl (lv_at hl 0 rfl) ?_
        refine lv_aload_n hx hb dX4_play_36 rfl (lv_at hl 2 rfl) ?_
        refine va_get (D := D) (ci := 4) (v := .int (nI P1)) (C := RX4) (T := TX4) (N := 12) hx hb hts hinX4 hown hK hP 0 rfl rfl 10 (by decide) fl109 (fun _ h9 => h9) (congrArg (fun z => some (Value.int z)) (((rfl)).trans (((congrFun (hSm1 5 (by decide)) 5).trans hq5)))) dX4_play_37 ?_
        refine lv_icmp_ge (tgt := 133) hx hb dX4_play_40 (by decide) (fun _ => ?_) (fun h9 => absurd (nI_le (a := P1) (b := i) (by omega) (by omega)) h9)
        refine lv_iload_n hx hb dX4_play_133 rfl (lv_at hl 1 rfl) ?_
        have e9 : (r1 : rB) = plyB r N L := by unfold plyB; rw [if_neg cW0, hPq, ← eq]; exact congrArg Prod.fst hres
        rw [e9] at hP
        exact k_iret hx hb hr hlocks hS hP dX4_play_134 (by unfold plyV; rw [if_neg cW0, hPq, ← eq]; exact congrArg Prod.snd hres)
      | succ n ih =>
        intro i r1 sv hin hSm1 hok1 hres H locs hP hD hS ls hl
        refine lv_iload_n hx hb dX4_play_35 rfl (lv_at hl 0 rfl) ?_
        refine lv_aload_n hx hb dX4_play_36 rfl (lv_at hl 2 rfl) ?_
        refine va_get (D := D) (ci := 4) (v := .int (nI P1)) (C := RX4) (T := TX4) (N := 12) hx hb hts hinX4 hown hK hP 0 rfl rfl 10 (by decide) fl109 (fun _ h9 => h9) (congrArg (fun z => some (Value.int z)) (((rfl)).trans (((congrFun (hSm1 5 (by decide)) 5).trans hq5)))) dX4_play_37 ?_
        refine lv_icmp_ge (tgt := 133) hx hb dX4_play_40 (by decide) (fun h9 => absurd h9 (nI_ge (a := i) (b := P1) (by omega) (by omega))) (fun _ => ?_)
        refine lv_aload_n hx hb dX4_play_43 rfl (lv_at hl 2 rfl) ?_
        refine va_get (D := D) (ci := 4) (v := .ref (a 5)) (C := RX4) (T := TX4) (N := 12) hx hb hts hinX4 hown hK hP 0 rfl rfl 9 (by decide) fl22 (fun _ h9 => h9) rfl dX4_play_44 ?_
        refine lv_iconst (v := 2) hx hb dX4_play_47 (by decide) ?_
        refine lv_iload_n hx hb dX4_play_48 rfl (lv_at hl 0 rfl) ?_
        refine lv_imul hx hb dX4_play_49 ?_
        refine lv_eqi (y := nI (2 * i)) (pk_mul 2 i) ?_
        refine k_iald (k := 2 * i) (v := r1 4 (2 * i)) hx hb hK hP 5 0 rfl rfl (vp_in_nI (n := 2 * i) (by omega) (by omega)) (nI_clamp (n := 2 * i) (by omega)) (rfl) dX4_play_50 ?_
        refine lv_iconst (v := (-1)) hx hb dX4_play_51 (by decide) ?_
        refine lv_icmp_ne (tgt := 62) hx hb dX4_play_52 (by decide) (fun c_6 => ?_) (fun c_6 => ?_)
        · skip
          refine lv_aload_n hx hb dX4_play_62 rfl (lv_at hl 2 rfl) ?_
          refine va_get (D := D) (ci := 4) (v := .ref (a 5)) (C := RX4) (T := TX4) (N := 12) hx hb hts hinX4 hown hK hP 0 rfl rfl 9 (by decide) fl22 (fun _ h9 => h9) rfl dX4_play_63 ?_
          refine lv_iconst (v := 2) hx hb dX4_play_66 (by decide) ?_
          refine lv_iload_n hx hb dX4_play_67 rfl (lv_at hl 0 rfl) ?_
          refine lv_imul hx hb dX4_play_68 ?_
          refine lv_eqi (y := nI (2 * i)) (pk_mul 2 i) ?_
          refine k_iald (k := 2 * i) (v := r1 4 (2 * i)) hx hb hK hP 5 0 rfl rfl (vp_in_nI (n := 2 * i) (by omega) (by omega)) (nI_clamp (n := 2 * i) (by omega)) (rfl) dX4_play_69 ?_
          refine lv_bipush (v := (-2)) hx hb dX4_play_70 (by decide) ?_
          refine lv_icmp_ne (tgt := 102) hx hb dX4_play_72 (by decide) (fun c_7 => ?_) (fun c_7 => ?_)
          · skip
            refine lv_iload_n hx hb dX4_play_102 rfl (lv_at hl 1 rfl) ?_
            refine lv_aload_n hx hb dX4_play_103 rfl (lv_at hl 2 rfl) ?_
            refine lv_aload_n hx hb dX4_play_104 rfl (lv_at hl 2 rfl) ?_
            refine va_get (D := D) (ci := 4) (v := .ref (a 5)) (C := RX4) (T := TX4) (N := 12) hx hb hts hinX4 hown hK hP 0 rfl rfl 9 (by decide) fl22 (fun _ h9 => h9) rfl dX4_play_105 ?_
            refine lv_iconst (v := 2) hx hb dX4_play_108 (by decide) ?_
            refine lv_iload_n hx hb dX4_play_109 rfl (lv_at hl 0 rfl) ?_
            refine lv_imul hx hb dX4_play_110 ?_
            refine lv_eqi (y := nI (2 * i)) (pk_mul 2 i) ?_
            refine k_iald (k := 2 * i) (v := r1 4 (2 * i)) hx hb hK hP 5 0 rfl rfl (vp_in_nI (n := 2 * i) (by omega) (by omega)) (nI_clamp (n := 2 * i) (by omega)) (rfl) dX4_play_111 ?_
            refine lv_aload_n hx hb dX4_play_112 rfl (lv_at hl 2 rfl) ?_
            refine va_get (D := D) (ci := 4) (v := .ref (a 5)) (C := RX4) (T := TX4) (N := 12) hx hb hts hinX4 hown hK hP 0 rfl rfl 9 (by decide) fl22 (fun _ h9 => h9) rfl dX4_play_113 ?_
            refine lv_iconst (v := 2) hx hb dX4_play_116 (by decide) ?_
            refine lv_iload_n hx hb dX4_play_117 rfl (lv_at hl 0 rfl) ?_
            refine lv_imul hx hb dX4_play_118 ?_
            refine lv_eqi (y := nI (2 * i)) (pk_mul 2 i) ?_
            refine lv_iconst (v := 1) hx hb dX4_play_119 (by decide) ?_
            refine lv_iadd hx hb dX4_play_120 ?_
            refine lv_eqi (y := nI ((2 * i) + 1)) (nI_add (2 * i) 1) ?_
            refine k_iald (k := 2 * i + 1) (v := r1 4 (2 * i + 1)) hx hb hK hP 5 0 rfl rfl (vp_in_nI (n := 2 * i + 1) (by omega) (by omega)) (nI_clamp (n := 2 * i + 1) (by omega)) (rfl) dX4_play_121 ?_
            obtain ⟨r_8, er_8⟩ : ∃ z : rB, z = minsM ((r1 4 (2 * i + 1)).toNatClampNeg) r1 (r1 4 (2 * i)) := ⟨_, rfl⟩
            have hm_9 := mX4_rains l D cI cQ cJ a r1 h (r1 4 (2 * i)) (r1 4 (2 * i + 1)) ((r1 4 (2 * i + 1)).toNatClampNeg) rfl hok1
            rw [← er_8] at hm_9
            refine k_calli (wc := cM cI a r1 h) (w' := cM cI a r_8 h) (wn := cM cI a r_8 h) (va_runV (As := [.int (r1 4 (2 * i)), .int (r1 4 (2 * i + 1))]) (rest := [.int sv]) ⟨hx, hb, hml, hown, hts⟩ (hm_9 _) (cwV 2 hts gX4_play_X4_rains rfl rfl rfl (by decide +kernel) ⟨Nat.le_of_ble_eq_true rfl, Nat.le_of_ble_eq_true rfl⟩) (k_preV (wc := cM cI a r1 h) hE hK hP hD [0, 1, 2, 3, 4, 5] (by decide) rfl (ci := 4) (q0 := 0) rfl rfl [.int (r1 4 (2 * i)), .int (r1 4 (2 * i + 1))]) rfl rfl hl.1 rfl (lv_room (Nat.le_of_ble_eq_true rfl)) dX4_play_122 ⟨Nat.zero_le _, Nat.zero_le _⟩) hP hD hS hA [0, 1, 2, 3, 4, 5] rfl rfl rfl (fun H locs hP hD hS => ?_)
            refine lv_iadd hx hb dX4_play_125 ?_
            refine lv_topi (fun v1_10 ev1_10 => ?_)
            refine lv_istore_n (lv' := [(1, .int v1_10), (2, .int (nI i)), (0, .ref (a 0))]) hx hb dX4_play_126 rfl hl (by decide) rfl (fun ls hl => ?_)
            refine lv_iinc (v := nI (i + 1)) (lv' := [(2, .int (nI (i + 1))), (1, .int v1_10), (0, .ref (a 0))]) hx hb dX4_play_127 hl (k := 1) rfl (nI_1 i) (by decide) rfl (fun ls hl => ?_)
            refine lv_goto (tgt := 35) hx hb dX4_play_130 (by decide) ?_
            exact ih (i + 1) r_8 v1_10 (by omega) (by rw [er_8]; exact (Sm_mins _ _ _).tr hSm1) (by rw [er_8]; exact (minsM_ok _ _ _ hok1)) (by replace ev1_10 := ev1_10.symm; subst ev1_10; replace er_8 := er_8.symm; subst er_8; rw [← hres]; simp only [plyL, if_neg cW0, if_neg c_6, if_neg c_7, ↓reduceIte]) H locs hP hD hS ls (lv_sub hl [0, 1, 2] rfl)
          · skip
            obtain ⟨j, hj, ej⟩ := hpkq i (by omega) ((congrFun (hSm1 4 (by decide)) (2 * i)).symm.trans c_7)
            have ej1 : r1 4 (2 * i + 1) = nI j := (congrFun (hSm1 4 (by decide)) (2 * i + 1)).trans ej
            have hcj : (r1 4 (2 * i + 1)).toNatClampNeg = j := by rw [ej1]; exact nI_clamp (by omega)
            refine lv_aload_n hx hb dX4_play_75 rfl (lv_at hl 2 rfl) ?_
            refine va_get (D := D) (ci := 4) (v := .ref (a 1)) (C := RX4) (T := TX4) (N := 12) hx hb hts hinX4 hown hK hP 0 rfl rfl 1 (by decide) fl7 (fun _ h9 => h9) rfl dX4_play_76 ?_
            refine lv_bipush (v := 33) hx hb dX4_play_79 (by decide) ?_
            refine lv_bipush (v := 7) hx hb dX4_play_81 (by decide) ?_
            refine lv_aload_n hx hb dX4_play_83 rfl (lv_at hl 2 rfl) ?_
            refine va_get (D := D) (ci := 4) (v := .ref (a 5)) (C := RX4) (T := TX4) (N := 12) hx hb hts hinX4 hown hK hP 0 rfl rfl 9 (by decide) fl22 (fun _ h9 => h9) rfl dX4_play_84 ?_
            refine lv_iconst (v := 2) hx hb dX4_play_87 (by decide) ?_
            refine lv_iload_n hx hb dX4_play_88 rfl (lv_at hl 0 rfl) ?_
            refine lv_imul hx hb dX4_play_89 ?_
            refine lv_eqi (y := nI (2 * i)) (pk_mul 2 i) ?_
            refine lv_iconst (v := 1) hx hb dX4_play_90 (by decide) ?_
            refine lv_iadd hx hb dX4_play_91 ?_
            refine lv_eqi (y := nI ((2 * i) + 1)) (nI_add (2 * i) 1) ?_
            refine k_iald (k := 2 * i + 1) (v := nI j) hx hb hK hP 5 0 rfl rfl (vp_in_nI (n := 2 * i + 1) (by omega) (by omega)) (nI_clamp (n := 2 * i + 1) (by omega)) (((rfl)).trans ej1) dX4_play_92 ?_
            refine lv_imul hx hb dX4_play_93 ?_
            refine lv_eqi (y := nI (7 * j)) (pk_mul 7 j) ?_
            refine lv_iadd hx hb dX4_play_94 ?_
            refine lv_eqi (y := nI (33 + (7 * j))) (nI_add 33 (7 * j)) ?_
            refine lv_iconst (v := 2) hx hb dX4_play_95 (by decide) ?_
            refine lv_iadd hx hb dX4_play_96 ?_
            refine lv_eqi (y := nI ((33 + 7 * j) + 2)) (nI_add (33 + 7 * j) 2) ?_
            refine lv_iconst (v := 0) hx hb dX4_play_97 (by decide) ?_
            refine k_iast (k := 33 + 7 * j + 2) (ws' := cM cI a (bp r1 0 (33 + 7 * j + 2) 0) h) hx hb hK hP hD hS 1 0 rfl rfl (vp_in_nI (n := 33 + 7 * j + 2) (by omega) (by omega)) (nI_clamp (n := 33 + 7 * j + 2) (by omega)) rfl dX4_play_98 (fun H locs hP hD hS => ?_)
            refine lv_goto (tgt := 127) hx hb dX4_play_99 (by decide) ?_
            refine lv_iinc (v := nI (i + 1)) (lv' := [(2, .int (nI (i + 1))), (1, .int sv), (0, .ref (a 0))]) hx hb dX4_play_127 hl (k := 0) rfl (nI_1 i) (by decide) rfl (fun ls hl => ?_)
            refine lv_goto (tgt := 35) hx hb dX4_play_130 (by decide) ?_
            exact ih (i + 1) (bp r1 0 (33 + 7 * j + 2) 0) sv (by omega) ((Sm_bp).tr hSm1) (ok_bp hok1 (fun k hk => by constructor <;> omega)) (by rw [← hres]; simp only [plyL, if_neg cW0, if_neg c_6, if_pos c_7, hcj, ↓reduceIte]) H locs hP hD hS ls (lv_sub hl [0, 1, 2] rfl)
        · skip
          refine lv_aload_n hx hb dX4_play_55 rfl (lv_at hl 2 rfl) ?_
          obtain ⟨r_11, er_11⟩ : ∃ z : rB, z = weekM r1 := ⟨_, rfl⟩
          have hm_12 := mX4_week l D cI cQ cJ a r1 h
          rw [← er_11] at hm_12
          refine k_callv (wc := cM cI a r1 h) (w' := cM cI a r_11 h) (wn := cM cI a r_11 h) (va_runV (As := []) (rest := []) ⟨hx, hb, hml, hown, hts⟩ (hm_12 _) (cwV 0 hts gX4_play_X4_week rfl rfl rfl (by decide +kernel) ⟨Nat.le_of_ble_eq_true rfl, Nat.le_of_ble_eq_true rfl⟩) (k_preV (wc := cM cI a r1 h) hE hK hP hD [0, 1, 2, 3, 4, 5] (by decide) rfl (ci := 4) (q0 := 0) rfl rfl []) rfl rfl hl.1 rfl (lv_room (Nat.le_of_ble_eq_true rfl)) dX4_play_56 ⟨Nat.zero_le _, Nat.zero_le _⟩) hP hD hS hA [0, 1, 2, 3, 4, 5] rfl rfl rfl (fun H locs hP hD hS => ?_)
          refine lv_goto (tgt := 127) hx hb dX4_play_59 (by decide) ?_
          refine lv_iinc (v := nI (i + 1)) (lv' := [(2, .int (nI (i + 1))), (1, .int sv), (0, .ref (a 0))]) hx hb dX4_play_127 hl (k := 0) rfl (nI_1 i) (by decide) rfl (fun ls hl => ?_)
          refine lv_goto (tgt := 35) hx hb dX4_play_130 (by decide) ?_
          exact ih (i + 1) r_11 sv (by omega) (by rw [er_11]; exact Sm_week.tr hSm1) (by rw [er_11]; exact (weekM_ok hok1)) (by replace er_11 := er_11.symm; subst er_11; rw [← hres]; simp only [plyL, if_neg cW0, if_pos c_6, ↓reduceIte]) H locs hP hD hS ls (lv_sub hl [0, 1, 2] rfl)
    exact Lp35 P1 0 q 0 (by omega) Sm.rf hokq rfl _ _ hP hD hS ls (lv_sub hl [0, 1, 2] rfl)
  · skip
    refine lv_aload_n hx hb dX4_play_16 rfl (lv_at hl 0 rfl) ?_
    refine lv_iconst (v := 1) hx hb dX4_play_17 (by decide) ?_
    obtain ⟨r_13, er_13⟩ : ∃ z : rB, z = bp r_1 5 0 1 := ⟨_, rfl⟩
    have hm_14 := mX4_fails l D cI cQ cJ a r_1 h 1
    rw [← er_13] at hm_14
    refine k_calli (wc := cM cI a r_1 h) (w' := cM cI a r_13 h) (wn := cM cI a r_13 h) (va_runV (As := [.int 1]) (rest := []) ⟨hx, hb, hml, hown, hts⟩ (hm_14 _) (cwV 1 hts gX4_play_X4_fails rfl rfl rfl (by decide +kernel) ⟨Nat.le_of_ble_eq_true rfl, Nat.le_of_ble_eq_true rfl⟩) (k_preV (wc := cM cI a r_1 h) hE hK hP hD [0, 1, 2, 3, 4, 5] (by decide) rfl (ci := 4) (q0 := 0) rfl rfl [.int 1]) rfl rfl hl.1 rfl (lv_room (Nat.le_of_ble_eq_true rfl)) dX4_play_18 ⟨Nat.zero_le _, Nat.zero_le _⟩) hP hD hS hA [0, 1, 2, 3, 4, 5] rfl rfl rfl (fun H locs hP hD hS => ?_)
    have e9 : (r_13 : rB) = plyB r N L := by (replace er_13 := er_13.symm; subst er_13; replace er_1 := er_1.symm; subst er_1; first | with_reducible rfl | simp only [plyV, plyB, if_pos c_3, ↓reduceIte])
    rw [e9] at hP
    exact k_iret hx hb hr hlocks hS hP dX4_play_21 (by (replace er_13 := er_13.symm; subst er_13; replace er_1 := er_1.symm; subst er_1; first | with_reducible rfl | simp only [plyV, plyB, if_pos c_3, ↓reduceIte]))
