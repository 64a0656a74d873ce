set_option maxHeartbeats 4000000 in
set_option maxRecDepth 100000 in
theorem mX4_readsPart (l : Launch) (D : va_G) (cI cQ cJ : ClassId) (a : Nat → Nat) (r : rB) (h : Int64) (ka L : Nat) (hka : r 5 3 = nI ka) (hL : r 5 2 = nI L) (hL60 : L ≤ 60) (hA9 : ka ≤ 900) (P : Nat) (hP5 : r 5 5 = nI P) (hP31 : P ≤ 31)  : Mv l D (tY cI cQ cJ) yX4_readsPart wsX4_readsPart ({ frames := 3, cells := 0, slots := 0, locals := 68 } : Room) [.ref (a 0)] (cM cI a r h) (cM cI a (rpB r ka L P) h) := by
  refine M_of (cc := cX4_readsPart) (maxL := 3) (ret := none) (Qc := fun A => va_Qv (fun (_ : Unit) => True) (fun _ t => Wd D (cM cI a (rpB r ka L P) h) t) A) (by decide) rfl (Nat.le_of_ble_eq_true rfl) ?_
  intro p e s m below meth c A ls hB hE hP hK hD hA hl
  obtain ⟨hx, hb, hr, hml, hts, hown, hlocks⟩ := hB
  have hS : va_S A s.heap s.heap [] := va_S.rf
  have hl : lv_has ls 3 [(0, .ref (a 0))] := hl
  have hinX4 : ∀ w ∈ u_ws RX4 TX4 12, w ∈ wsX4_readsPart := by decide +kernel
  have fl109 := hts (.fieldLink RX4 109 "RoofDrainsModel" "partMany" "I") (by decide +kernel)
  have fl22 := hts (.fieldLink RX4 22 "RoofDrainsModel" "parts" "[I") (by decide +kernel)
  have fl99 := hts (.fieldLink RX4 99 "RoofDrainsModel" "isWell" "Z") (by decide +kernel)
  have fl96 := hts (.fieldLink RX4 96 "RoofDrainsModel" "at" "I") (by decide +kernel)
  have hnA : numA r ka L 0 99 ≤ ka + 2 := numA_le
  refine lv_iconst (v := 2) hx hb dX4_readsPart_0 (by decide) ?_
  refine lv_aload_n hx hb dX4_readsPart_1 rfl (lv_at hl 0 rfl) ?_
  refine va_get (D := D) (ci := 4) (v := .int (nI P)) (C := RX4) (T := TX4) (N := 12) hx hb hts hinX4 hown hK hP 0 rfl rfl 10 (by decide) fl109 (fun _ h9 => h9) (congrArg (fun z => some (Value.int z)) (((rfl)).trans (hP5))) dX4_readsPart_2 ?_
  refine lv_imul hx hb dX4_readsPart_5 ?_
  refine lv_eqi (y := nI (2 * P)) (pk_mul 2 P) ?_
  refine lv_istore_n (lv' := [(1, .int (nI (2 * P))), (0, .ref (a 0))]) hx hb dX4_readsPart_6 rfl hl (by decide) rfl (fun ls hl => ?_)
  refine lv_aload_n hx hb dX4_readsPart_7 rfl (lv_at hl 1 rfl) ?_
  refine k_calli (wc := cM cI a r h) (w' := cM cI a r h) (wn := cM cI a r h) (va_runV (As := []) (rest := []) ⟨hx, hb, hml, hown, hts⟩ (mX4_sign l D cI cQ cJ a r h ka L ((rfl).trans hka) ((rfl).trans hL) hL60 (by omega) _) (cwV 0 hts gX4_readsPart_X4_sign rfl rfl rfl (by decide +kernel) ⟨Nat.le_of_ble_eq_true rfl, Nat.le_of_ble_eq_true rfl⟩) (k_preV (wc := cM cI a r h) hE hK hP hD [0, 1, 2, 3, 4, 5] (by decide) rfl (ci := 4) (q0 := 0) rfl rfl []) rfl rfl hl.1 rfl (lv_room (Nat.le_of_ble_eq_true rfl)) dX4_readsPart_8 ⟨Nat.zero_le _, Nat.zero_le _⟩) hP hD hS hA [0, 1, 2, 3, 4, 5] rfl rfl rfl (fun H locs hP hD hS => ?_)
  refine lv_topi (fun v2_1 ev2_1 => ?_)
  refine lv_istore_n (lv' := [(2, .int v2_1), (1, .int (nI (2 * P))), (0, .ref (a 0))]) hx hb dX4_readsPart_11 rfl hl (by decide) rfl (fun ls hl => ?_)
  refine lv_iload_n hx hb dX4_readsPart_12 rfl (lv_at hl 0 rfl) ?_
  refine lv_bipush (v := 119) hx hb dX4_readsPart_13 (by decide) ?_
  refine lv_icmp_ne (tgt := 38) hx hb dX4_readsPart_15 (by decide) (fun c_2 => ?_) (fun c_2 => ?_)
  · skip
    refine lv_iload_n hx hb dX4_readsPart_38 rfl (lv_at hl 0 rfl) ?_
    refine lv_bipush (v := 99) hx hb dX4_readsPart_39 (by decide) ?_
    refine lv_icmp_ne (tgt := 79) hx hb dX4_readsPart_41 (by decide) (fun c_3 => ?_) (fun c_3 => ?_)
    · skip
      refine lv_aload_n hx hb dX4_readsPart_79 rfl (lv_at hl 2 rfl) ?_
      refine va_get (D := D) (ci := 4) (v := .ref (a 5)) (C := RX4) (T := TX4) (N := 12) hx hb hts hinX4 hown hK hP 0 rfl rfl 9 (by decide) fl22 (fun _ h9 => h9) rfl dX4_readsPart_80 ?_
      refine lv_iload_n hx hb dX4_readsPart_83 rfl (lv_at hl 1 rfl) ?_
      refine lv_aload_n hx hb dX4_readsPart_84 rfl (lv_at hl 2 rfl) ?_
      refine lv_iconst (v := 0) hx hb dX4_readsPart_85 (by decide) ?_
      refine lv_bipush (v := 99) hx hb dX4_readsPart_86 (by decide) ?_
      obtain ⟨r_4, er_4⟩ : ∃ z : rB, z = numB r ka L 0 99 := ⟨_, rfl⟩
      have hm_5 := mX4_number l D cI cQ cJ a r h ka L ((rfl).trans hka) ((rfl).trans hL) hL60 (by omega) 0 99
      rw [← er_4] at hm_5
      refine k_calli (wc := cM cI a r h) (w' := cM cI a r_4 h) (wn := cM cI a r_4 h) (va_runV (As := [.int 0, .int 99]) (rest := [.int (nI (2 * P)), .ref (a 5)]) ⟨hx, hb, hml, hown, hts⟩ (hm_5 _) (cwV 2 hts gX4_readsPart_X4_number rfl rfl rfl (by decide +kernel) ⟨Nat.le_of_ble_eq_true rfl, Nat.le_of_ble_eq_true rfl⟩) (k_preV (wc := cM cI a r h) hE hK hP hD [0, 1, 2, 3, 4, 5] (by decide) rfl (ci := 4) (q0 := 0) rfl rfl [.int 0, .int 99]) rfl rfl hl.1 rfl (lv_room (Nat.le_of_ble_eq_true rfl)) dX4_readsPart_88 ⟨Nat.zero_le _, Nat.zero_le _⟩) hP hD hS hA [0, 1, 2, 3, 4, 5] rfl rfl rfl (fun H locs hP hD hS => ?_)
      refine lv_topi (fun a_6 ea_6 => ?_)
      refine k_iast (k := 2 * P) (ws' := cM cI a (bp r_4 4 (2 * P) a_6) h) hx hb hK hP hD hS 5 0 rfl rfl (vp_in_nI (n := 2 * P) (by omega) (by omega)) (nI_clamp (n := 2 * P) (by omega)) rfl dX4_readsPart_91 (fun H locs hP hD hS => ?_)
      refine lv_aload_n hx hb dX4_readsPart_92 rfl (lv_at hl 2 rfl) ?_
      refine lv_aload_n hx hb dX4_readsPart_93 rfl (lv_at hl 2 rfl) ?_
      refine va_get (D := D) (ci := 4) (v := .int (r_4 5 4)) (C := RX4) (T := TX4) (N := 12) hx hb hts hinX4 hown hK hP 0 rfl rfl 8 (by decide) fl99 (fun _ h9 => h9) (congrArg (fun z => some (Value.int z)) ((bp_rw (by decide)).trans (rfl))) dX4_readsPart_94 ?_
      refine lv_if_eq (tgt := 113) hx hb dX4_readsPart_97 (by decide) (fun c_7 => ?_) (fun c_7 => ?_)
      · skip
        refine lv_iconst (v := 0) hx hb dX4_readsPart_113 (by decide) ?_
        refine k_put (D := D) (ci := 4) (v := .int 0) (ty := .boolean) (C := RX4) (T := TX4) (N := 12) hx hb hts hinX4 tyX4 tyX4_ok nmX4 hown hK hP hD hS 0 rfl rfl 8 (by decide) fl99 (fun _ h9 => h9) rfl (by decide +kernel) (by first | rfl | decide) (by first | rfl | decide) (Nat.le_of_ble_eq_true rfl) (ws' := cM cI a (bp (bp r_4 4 (2 * P) a_6) 5 4 0) h) rfl dX4_readsPart_114 (fun H locs hP hD hS => ?_)
        refine lv_aload_n hx hb dX4_readsPart_117 rfl (lv_at hl 2 rfl) ?_
        refine lv_dup hx hb dX4_readsPart_118 rfl ?_
        refine va_get (D := D) (ci := 4) (v := .int (nI (numA r ka L 0 99))) (C := RX4) (T := TX4) (N := 12) hx hb hts hinX4 hown hK hP 0 rfl rfl 7 (by decide) fl96 (fun _ h9 => h9) (congrArg (fun z => some (Value.int z)) ((((bp_ne (by omega)).trans ((bp_rw (by decide)).trans (rfl)))).trans ((by rw [er_4]; exact numB_at)))) dX4_readsPart_119 ?_
        refine lv_aload_n hx hb dX4_readsPart_122 rfl (lv_at hl 2 rfl) ?_
        refine va_get (D := D) (ci := 4) (v := .int 0) (C := RX4) (T := TX4) (N := 12) hx hb hts hinX4 hown hK hP 0 rfl rfl 8 (by decide) fl99 (fun _ h9 => h9) (congrArg (fun z => some (Value.int z)) (bp_eq)) dX4_readsPart_123 ?_
        refine lv_if_eq (tgt := 133) hx hb dX4_readsPart_126 (by decide) (fun _ => ?_) (fun h9 => absurd (by decide) h9)
        refine lv_iconst (v := 0) hx hb dX4_readsPart_133 (by decide) ?_
        refine lv_iadd hx hb dX4_readsPart_134 ?_
        refine lv_eqi (y := nI ((numA r ka L 0 99) + 0)) (nI_add (numA r ka L 0 99) 0) ?_
        refine k_put (D := D) (ci := 4) (v := .int (nI ((numA r ka L 0 99) + 0))) (ty := .int) (C := RX4) (T := TX4) (N := 12) hx hb hts hinX4 tyX4 tyX4_ok nmX4 hown hK hP hD hS 0 rfl rfl 7 (by decide) fl96 (fun _ h9 => h9) rfl (by decide +kernel) rfl rfl (Nat.le_of_ble_eq_true rfl) (ws' := cM cI a (bp (bp (bp r_4 4 (2 * P) a_6) 5 4 0) 5 3 (nI ((numA r ka L 0 99) + 0))) h) rfl dX4_readsPart_135 (fun H locs hP hD hS => ?_)
        refine lv_aload_n hx hb dX4_readsPart_138 rfl (lv_at hl 2 rfl) ?_
        refine va_get (D := D) (ci := 4) (v := .ref (a 5)) (C := RX4) (T := TX4) (N := 12) hx hb hts hinX4 hown hK hP 0 rfl rfl 9 (by decide) fl22 (fun _ h9 => h9) rfl dX4_readsPart_139 ?_
        refine lv_iload_n hx hb dX4_readsPart_142 rfl (lv_at hl 1 rfl) ?_
        refine lv_iconst (v := 1) hx hb dX4_readsPart_143 (by decide) ?_
        refine lv_iadd hx hb dX4_readsPart_144 ?_
        refine lv_eqi (y := nI ((2 * P) + 1)) (nI_add (2 * P) 1) ?_
        refine lv_aload_n hx hb dX4_readsPart_145 rfl (lv_at hl 2 rfl) ?_
        refine lv_iconst (v := 1) hx hb dX4_readsPart_146 (by decide) ?_
        refine lv_bipush (v := 60) hx hb dX4_readsPart_147 (by decide) ?_
        obtain ⟨r_8, er_8⟩ : ∃ z : rB, z = numB (bp (bp (bp r_4 4 (2 * P) a_6) 5 4 0) 5 3 (nI ((numA r ka L 0 99) + 0))) ((numA r ka L 0 99) + 0) L 1 60 := ⟨_, rfl⟩
        have hm_9 := mX4_number l D cI cQ cJ a (bp (bp (bp r_4 4 (2 * P) a_6) 5 4 0) 5 3 (nI ((numA r ka L 0 99) + 0))) h ((numA r ka L 0 99) + 0) L (bp_eq) (((bp_ne (by omega)).trans ((bp_ne (by omega)).trans ((bp_rw (by decide)).trans (rfl)))).trans (by rw [er_4]; exact (numB_len hL))) hL60 (by omega) 1 60
        rw [← er_8] at hm_9
        refine k_calli (wc := cM cI a (bp (bp (bp r_4 4 (2 * P) a_6) 5 4 0) 5 3 (nI ((numA r ka L 0 99) + 0))) h) (w' := cM cI a r_8 h) (wn := cM cI a r_8 h) (va_runV (As := [.int 1, .int 60]) (rest := [.int (nI (2 * P + 1)), .ref (a 5)]) ⟨hx, hb, hml, hown, hts⟩ (hm_9 _) (cwV 2 hts gX4_readsPart_X4_number rfl rfl rfl (by decide +kernel) ⟨Nat.le_of_ble_eq_true rfl, Nat.le_of_ble_eq_true rfl⟩) (k_preV (wc := cM cI a (bp (bp (bp r_4 4 (2 * P) a_6) 5 4 0) 5 3 (nI ((numA r ka L 0 99) + 0))) h) hE hK hP hD [0, 1, 2, 3, 4, 5] (by decide) rfl (ci := 4) (q0 := 0) rfl rfl [.int 1, .int 60]) rfl rfl hl.1 rfl (lv_room (Nat.le_of_ble_eq_true rfl)) dX4_readsPart_149 ⟨Nat.zero_le _, Nat.zero_le _⟩) hP hD hS hA [0, 1, 2, 3, 4, 5] rfl rfl rfl (fun H locs hP hD hS => ?_)
        refine lv_topi (fun a_10 ea_10 => ?_)
        refine k_iast (k := 2 * P + 1) (ws' := cM cI a (bp r_8 4 (2 * P + 1) a_10) h) hx hb hK hP hD hS 5 0 rfl rfl (vp_in_nI (n := 2 * P + 1) (by omega) (by omega)) (nI_clamp (n := 2 * P + 1) (by omega)) rfl dX4_readsPart_152 (fun H locs hP hD hS => ?_)
        refine lv_aload_n hx hb dX4_readsPart_153 rfl (lv_at hl 2 rfl) ?_
        refine lv_dup hx hb dX4_readsPart_154 rfl ?_
        refine va_get (D := D) (ci := 4) (v := .int (nI P)) (C := RX4) (T := TX4) (N := 12) hx hb hts hinX4 hown hK hP 0 rfl rfl 10 (by decide) fl109 (fun _ h9 => h9) (congrArg (fun z => some (Value.int z)) ((((bp_rw (by decide)).trans (rfl))).trans ((by rw [er_8]; exact (numB_many ((bp_ne (by decide)).trans ((bp_ne (by decide)).trans ((bp_rw (by decide)).trans (by rw [er_4]; exact (numB_many hP5)))))))))) dX4_readsPart_155 ?_
        refine lv_aload_n hx hb dX4_readsPart_158 rfl (lv_at hl 2 rfl) ?_
        refine va_get (D := D) (ci := 4) (v := .int (r_8 5 4)) (C := RX4) (T := TX4) (N := 12) hx hb hts hinX4 hown hK hP 0 rfl rfl 8 (by decide) fl99 (fun _ h9 => h9) (congrArg (fun z => some (Value.int z)) ((bp_rw (by decide)).trans (rfl))) dX4_readsPart_159 ?_
        refine lv_if_eq (tgt := 169) hx hb dX4_readsPart_162 (by decide) (fun c_11 => ?_) (fun c_11 => ?_)
        · skip
          refine lv_iconst (v := 0) hx hb dX4_readsPart_169 (by decide) ?_
          refine lv_iadd hx hb dX4_readsPart_170 ?_
          refine lv_eqi (y := nI (P + 0)) (nI_add P 0) ?_
          refine k_put (D := D) (ci := 4) (v := .int (nI (P + 0))) (ty := .int) (C := RX4) (T := TX4) (N := 12) hx hb hts hinX4 tyX4 tyX4_ok nmX4 hown hK hP hD hS 0 rfl rfl 10 (by decide) fl109 (fun _ h9 => h9) rfl (by decide +kernel) rfl rfl (Nat.le_of_ble_eq_true rfl) (ws' := cM cI a (bp (bp r_8 4 (2 * P + 1) a_10) 5 5 (nI (P + 0))) h) rfl dX4_readsPart_171 (fun H locs hP hD hS => ?_)
          have e9 : (bp (bp r_8 4 (2 * P + 1) a_10) 5 5 (nI (P + 0)) : rB) = rpB r ka L P := by (replace ea_10 := ea_10.symm; subst ea_10; replace er_8 := er_8.symm; subst er_8; replace ea_6 := ea_6.symm; subst ea_6; replace er_4 := er_4.symm; subst er_4; replace ev2_1 := ev2_1.symm; subst ev2_1; simp only [rpB, rpF, rpW, rpC, rpC1, rpN, rpR2, rpR1, rpX, rpA2, i10, i00, if_neg c_2, if_neg c_3, if_pos c_7, if_pos c_11, eq_false c_2, eq_false c_3, eq_true c_7, eq_true c_11, ↓reduceIte])
          rw [e9] at hP
          exact k_vret hx hb hr hlocks hS hP dX4_readsPart_174
        · skip
          refine lv_iconst (v := 1) hx hb dX4_readsPart_165 (by decide) ?_
          refine lv_goto (tgt := 170) hx hb dX4_readsPart_166 (by decide) ?_
          refine lv_iadd hx hb dX4_readsPart_170 ?_
          refine lv_eqi (y := nI (P + 1)) (nI_add P 1) ?_
          refine k_put (D := D) (ci := 4) (v := .int (nI (P + 1))) (ty := .int) (C := RX4) (T := TX4) (N := 12) hx hb hts hinX4 tyX4 tyX4_ok nmX4 hown hK hP hD hS 0 rfl rfl 10 (by decide) fl109 (fun _ h9 => h9) rfl (by decide +kernel) rfl rfl (Nat.le_of_ble_eq_true rfl) (ws' := cM cI a (bp (bp r_8 4 (2 * P + 1) a_10) 5 5 (nI (P + 1))) h) rfl dX4_readsPart_171 (fun H locs hP hD hS => ?_)
          have e9 : (bp (bp r_8 4 (2 * P + 1) a_10) 5 5 (nI (P + 1)) : rB) = rpB r ka L P := by (replace ea_10 := ea_10.symm; subst ea_10; replace er_8 := er_8.symm; subst er_8; replace ea_6 := ea_6.symm; subst ea_6; replace er_4 := er_4.symm; subst er_4; replace ev2_1 := ev2_1.symm; subst ev2_1; simp only [rpB, rpF, rpW, rpC, rpC1, rpN, rpR2, rpR1, rpX, rpA2, i10, i00, if_neg c_2, if_neg c_3, if_pos c_7, if_neg c_11, eq_false c_2, eq_false c_3, eq_true c_7, eq_false c_11, ↓reduceIte])
          rw [e9] at hP
          exact k_vret hx hb hr hlocks hS hP dX4_readsPart_174
      · skip
        refine lv_aload_n hx hb dX4_readsPart_100 rfl (lv_at hl 2 rfl) ?_
        refine k_calli (wc := cM cI a (bp r_4 4 (2 * P) a_6) h) (w' := cM cI a (bp r_4 4 (2 * P) a_6) h) (wn := cM cI a (bp r_4 4 (2 * P) a_6) h) (va_runV (As := []) (rest := [.ref (a 0)]) ⟨hx, hb, hml, hown, hts⟩ (mX4_sign l D cI cQ cJ a (bp r_4 4 (2 * P) a_6) h (numA r ka L 0 99) L (((bp_rw (by decide)).trans (rfl)).trans (by rw [er_4]; exact numB_at)) (((bp_rw (by decide)).trans (rfl)).trans (by rw [er_4]; exact (numB_len hL))) hL60 (by omega) _) (cwV 0 hts gX4_readsPart_X4_sign rfl rfl rfl (by decide +kernel) ⟨Nat.le_of_ble_eq_true rfl, Nat.le_of_ble_eq_true rfl⟩) (k_preV (wc := cM cI a (bp r_4 4 (2 * P) a_6) h) hE hK hP hD [0, 1, 2, 3, 4, 5] (by decide) rfl (ci := 4) (q0 := 0) rfl rfl []) rfl rfl hl.1 rfl (lv_room (Nat.le_of_ble_eq_true rfl)) dX4_readsPart_101 ⟨Nat.zero_le _, Nat.zero_le _⟩) hP hD hS hA [0, 1, 2, 3, 4, 5] rfl rfl rfl (fun H locs hP hD hS => ?_)
        refine lv_bipush (v := 42) hx hb dX4_readsPart_104 (by decide) ?_
        refine lv_icmp_ne (tgt := 113) hx hb dX4_readsPart_106 (by decide) (fun c_12 => ?_) (fun c_12 => ?_)
        · skip
          refine lv_iconst (v := 0) hx hb dX4_readsPart_113 (by decide) ?_
          refine k_put (D := D) (ci := 4) (v := .int 0) (ty := .boolean) (C := RX4) (T := TX4) (N := 12) hx hb hts hinX4 tyX4 tyX4_ok nmX4 hown hK hP hD hS 0 rfl rfl 8 (by decide) fl99 (fun _ h9 => h9) rfl (by decide +kernel) (by first | rfl | decide) (by first | rfl | decide) (Nat.le_of_ble_eq_true rfl) (ws' := cM cI a (bp (bp r_4 4 (2 * P) a_6) 5 4 0) h) rfl dX4_readsPart_114 (fun H locs hP hD hS => ?_)
          refine lv_aload_n hx hb dX4_readsPart_117 rfl (lv_at hl 2 rfl) ?_
          refine lv_dup hx hb dX4_readsPart_118 rfl ?_
          refine va_get (D := D) (ci := 4) (v := .int (nI (numA r ka L 0 99))) (C := RX4) (T := TX4) (N := 12) hx hb hts hinX4 hown hK hP 0 rfl rfl 7 (by decide) fl96 (fun _ h9 => h9) (congrArg (fun z => some (Value.int z)) ((((bp_ne (by omega)).trans ((bp_rw (by decide)).trans (rfl)))).trans ((by rw [er_4]; exact numB_at)))) dX4_readsPart_119 ?_
          refine lv_aload_n hx hb dX4_readsPart_122 rfl (lv_at hl 2 rfl) ?_
          refine va_get (D := D) (ci := 4) (v := .int 0) (C := RX4) (T := TX4) (N := 12) hx hb hts hinX4 hown hK hP 0 rfl rfl 8 (by decide) fl99 (fun _ h9 => h9) (congrArg (fun z => some (Value.int z)) (bp_eq)) dX4_readsPart_123 ?_
          refine lv_if_eq (tgt := 133) hx hb dX4_readsPart_126 (by decide) (fun _ => ?_) (fun h9 => absurd (by decide) h9)
          refine lv_iconst (v := 0) hx hb dX4_readsPart_133 (by decide) ?_
          refine lv_iadd hx hb dX4_readsPart_134 ?_
          refine lv_eqi (y := nI ((numA r ka L 0 99) + 0)) (nI_add (numA r ka L 0 99) 0) ?_
          refine k_put (D := D) (ci := 4) (v := .int (nI ((numA r ka L 0 99) + 0))) (ty := .int) (C := RX4) (T := TX4) (N := 12) hx hb hts hinX4 tyX4 tyX4_ok nmX4 hown hK hP hD hS 0 rfl rfl 7 (by decide) fl96 (fun _ h9 => h9) rfl (by decide +kernel) rfl rfl (Nat.le_of_ble_eq_true rfl) (ws' := cM cI a (bp (bp (bp r_4 4 (2 * P) a_6) 5 4 0) 5 3 (nI ((numA r ka L 0 99) + 0))) h) rfl dX4_readsPart_135 (fun H locs hP hD hS => ?_)
          refine lv_aload_n hx hb dX4_readsPart_138 rfl (lv_at hl 2 rfl) ?_
          refine va_get (D := D) (ci := 4) (v := .ref (a 5)) (C := RX4) (T := TX4) (N := 12) hx hb hts hinX4 hown hK hP 0 rfl rfl 9 (by decide) fl22 (fun _ h9 => h9) rfl dX4_readsPart_139 ?_
          refine lv_iload_n hx hb dX4_readsPart_142 rfl (lv_at hl 1 rfl) ?_
          refine lv_iconst (v := 1) hx hb dX4_readsPart_143 (by decide) ?_
          refine lv_iadd hx hb dX4_readsPart_144 ?_
          refine lv_eqi (y := nI ((2 * P) + 1)) (nI_add (2 * P) 1) ?_
          refine lv_aload_n hx hb dX4_readsPart_145 rfl (lv_at hl 2 rfl) ?_
          refine lv_iconst (v := 1) hx hb dX4_readsPart_146 (by decide) ?_
          refine lv_bipush (v := 60) hx hb dX4_readsPart_147 (by decide) ?_
          obtain ⟨r_13, er_13⟩ : ∃ z : rB, z = numB (bp (bp (bp r_4 4 (2 * P) a_6) 5 4 0) 5 3 (nI ((numA r ka L 0 99) + 0))) ((numA r ka L 0 99) + 0) L 1 60 := ⟨_, rfl⟩
          have hm_14 := mX4_number l D cI cQ cJ a (bp (bp (bp r_4 4 (2 * P) a_6) 5 4 0) 5 3 (nI ((numA r ka L 0 99) + 0))) h ((numA r ka L 0 99) + 0) L (bp_eq) (((bp_ne (by omega)).trans ((bp_ne (by omega)).trans ((bp_rw (by decide)).trans (rfl)))).trans (by rw [er_4]; exact (numB_len hL))) hL60 (by omega) 1 60
          rw [← er_13] at hm_14
          refine k_calli (wc := cM cI a (bp (bp (bp r_4 4 (2 * P) a_6) 5 4 0) 5 3 (nI ((numA r ka L 0 99) + 0))) h) (w' := cM cI a r_13 h) (wn := cM cI a r_13 h) (va_runV (As := [.int 1, .int 60]) (rest := [.int (nI (2 * P + 1)), .ref (a 5)]) ⟨hx, hb, hml, hown, hts⟩ (hm_14 _) (cwV 2 hts gX4_readsPart_X4_number rfl rfl rfl (by decide +kernel) ⟨Nat.le_of_ble_eq_true rfl, Nat.le_of_ble_eq_true rfl⟩) (k_preV (wc := cM cI a (bp (bp (bp r_4 4 (2 * P) a_6) 5 4 0) 5 3 (nI ((numA r ka L 0 99) + 0))) h) hE hK hP hD [0, 1, 2, 3, 4, 5] (by decide) rfl (ci := 4) (q0 := 0) rfl rfl [.int 1, .int 60]) rfl rfl hl.1 rfl (lv_room (Nat.le_of_ble_eq_true rfl)) dX4_readsPart_149 ⟨Nat.zero_le _, Nat.zero_le _⟩) hP hD hS hA [0, 1, 2, 3, 4, 5] rfl rfl rfl (fun H locs hP hD hS => ?_)
          refine lv_topi (fun a_15 ea_15 => ?_)
          refine k_iast (k := 2 * P + 1) (ws' := cM cI a (bp r_13 4 (2 * P + 1) a_15) h) hx hb hK hP hD hS 5 0 rfl rfl (vp_in_nI (n := 2 * P + 1) (by omega) (by omega)) (nI_clamp (n := 2 * P + 1) (by omega)) rfl dX4_readsPart_152 (fun H locs hP hD hS => ?_)
          refine lv_aload_n hx hb dX4_readsPart_153 rfl (lv_at hl 2 rfl) ?_
          refine lv_dup hx hb dX4_readsPart_154 rfl ?_
          refine va_get (D := D) (ci := 4) (v := .int (nI P)) (C := RX4) (T := TX4) (N := 12) hx hb hts hinX4 hown hK hP 0 rfl rfl 10 (by decide) fl109 (fun _ h9 => h9) (congrArg (fun z => some (Value.int z)) ((((bp_rw (by decide)).trans (rfl))).trans ((by rw [er_13]; exact (numB_many ((bp_ne (by decide)).trans ((bp_ne (by decide)).trans ((bp_rw (by decide)).trans (by rw [er_4]; exact (numB_many hP5)))))))))) dX4_readsPart_155 ?_
          refine lv_aload_n hx hb dX4_readsPart_158 rfl (lv_at hl 2 rfl) ?_
          refine va_get (D := D) (ci := 4) (v := .int (r_13 5 4)) (C := RX4) (T := TX4) (N := 12) hx hb hts hinX4 hown hK hP 0 rfl rfl 8 (by decide) fl99 (fun _ h9 => h9) (congrArg (fun z => some (Value.int z)) ((bp_rw (by decide)).trans (rfl))) dX4_readsPart_159 ?_
          refine lv_if_eq (tgt := 169) hx hb dX4_readsPart_162 (by decide) (fun c_16 => ?_) (fun c_16 => ?_)
          · skip
            refine lv_iconst (v := 0) hx hb dX4_readsPart_169 (by decide) ?_
            refine lv_iadd hx hb dX4_readsPart_170 ?_
            refine lv_eqi (y := nI (P + 0)) (nI_add P 0) ?_
            refine k_put (D := D) (ci := 4) (v := .int (nI (P + 0))) (ty := .int) (C := RX4) (T := TX4) (N := 12) hx hb hts hinX4 tyX4 tyX4_ok nmX4 hown hK hP hD hS 0 rfl rfl 10 (by decide) fl109 (fun _ h9 => h9) rfl (by decide +kernel) rfl rfl (Nat.le_of_ble_eq_true rfl) (ws' := cM cI a (bp (bp r_13 4 (2 * P + 1) a_15) 5 5 (nI (P + 0))) h) rfl dX4_readsPart_171 (fun H locs hP hD hS => ?_)
            have e9 : (bp (bp r_13 4 (2 * P + 1) a_15) 5 5 (nI (P + 0)) : rB) = rpB r ka L P := by (replace ea_15 := ea_15.symm; subst ea_15; replace er_13 := er_13.symm; subst er_13; replace ea_6 := ea_6.symm; subst ea_6; replace er_4 := er_4.symm; subst er_4; replace ev2_1 := ev2_1.symm; subst ev2_1; simp only [rpB, rpF, rpW, rpC, rpC1, rpN, rpR2, rpR1, rpX, rpA2, i10, i00, if_neg c_2, if_neg c_3, if_neg c_7, if_neg c_12, if_pos c_16, eq_false c_2, eq_false c_3, eq_false c_7, eq_false c_12, eq_true c_16, ↓reduceIte])
            rw [e9] at hP
            exact k_vret hx hb hr hlocks hS hP dX4_readsPart_174
          · skip
            refine lv_iconst (v := 1) hx hb dX4_readsPart_165 (by decide) ?_
            refine lv_goto (tgt := 170) hx hb dX4_readsPart_166 (by decide) ?_
            refine lv_iadd hx hb dX4_readsPart_170 ?_
            refine lv_eqi (y := nI (P + 1)) (nI_add P 1) ?_
            refine k_put (D := D) (ci := 4) (v := .int (nI (P + 1))) (ty := .int) (C := RX4) (T := TX4) (N := 12) hx hb hts hinX4 tyX4 tyX4_ok nmX4 hown hK hP hD hS 0 rfl rfl 10 (by decide) fl109 (fun _ h9 => h9) rfl (by decide +kernel) rfl rfl (Nat.le_of_ble_eq_true rfl) (ws' := cM cI a (bp (bp r_13 4 (2 * P + 1) a_15) 5 5 (nI (P + 1))) h) rfl dX4_readsPart_171 (fun H locs hP hD hS => ?_)
            have e9 : (bp (bp r_13 4 (2 * P + 1) a_15) 5 5 (nI (P + 1)) : rB) = rpB r ka L P := by (replace ea_15 := ea_15.symm; subst ea_15; replace er_13 := er_13.symm; subst er_13; replace ea_6 := ea_6.symm; subst ea_6; replace er_4 := er_4.symm; subst er_4; replace ev2_1 := ev2_1.symm; subst ev2_1; simp only [rpB, rpF, rpW, rpC, rpC1, rpN, rpR2, rpR1, rpX, rpA2, i10, i00, if_neg c_2, if_neg c_3, if_neg c_7, if_neg c_12, if_neg c_16, eq_false c_2, eq_false c_3, eq_false c_7, eq_false c_12, eq_false c_16, ↓reduceIte])
            rw [e9] at hP
            exact k_vret hx hb hr hlocks hS hP dX4_readsPart_174
        · skip
          refine lv_iconst (v := 1) hx hb dX4_readsPart_109 (by decide) ?_
          refine lv_goto (tgt := 114) hx hb dX4_readsPart_110 (by decide) ?_
          refine k_put (D := D) (ci := 4) (v := .int 1) (ty := .boolean) (C := RX4) (T := TX4) (N := 12) hx hb hts hinX4 tyX4 tyX4_ok nmX4 hown hK hP hD hS 0 rfl rfl 8 (by decide) fl99 (fun _ h9 => h9) rfl (by decide +kernel) (by first | rfl | decide) (by first | rfl | decide) (Nat.le_of_ble_eq_true rfl) (ws' := cM cI a (bp (bp r_4 4 (2 * P) a_6) 5 4 1) h) rfl dX4_readsPart_114 (fun H locs hP hD hS => ?_)
          refine lv_aload_n hx hb dX4_readsPart_117 rfl (lv_at hl 2 rfl) ?_
          refine lv_dup hx hb dX4_readsPart_118 rfl ?_
          refine va_get (D := D) (ci := 4) (v := .int (nI (numA r ka L 0 99))) (C := RX4) (T := TX4) (N := 12) hx hb hts hinX4 hown hK hP 0 rfl rfl 7 (by decide) fl96 (fun _ h9 => h9) (congrArg (fun z => some (Value.int z)) ((((bp_ne (by omega)).trans ((bp_rw (by decide)).trans (rfl)))).trans ((by rw [er_4]; exact numB_at)))) dX4_readsPart_119 ?_
          refine lv_aload_n hx hb dX4_readsPart_122 rfl (lv_at hl 2 rfl) ?_
          refine va_get (D := D) (ci := 4) (v := .int 1) (C := RX4) (T := TX4) (N := 12) hx hb hts hinX4 hown hK hP 0 rfl rfl 8 (by decide) fl99 (fun _ h9 => h9) (congrArg (fun z => some (Value.int z)) (bp_eq)) dX4_readsPart_123 ?_
          refine lv_if_eq (tgt := 133) hx hb dX4_readsPart_126 (by decide) (fun h9 => absurd h9 (by decide)) (fun _ => ?_)
          refine lv_iconst (v := 1) hx hb dX4_readsPart_129 (by decide) ?_
          refine lv_goto (tgt := 134) hx hb dX4_readsPart_130 (by decide) ?_
          refine lv_iadd hx hb dX4_readsPart_134 ?_
          refine lv_eqi (y := nI ((numA r ka L 0 99) + 1)) (nI_add (numA r ka L 0 99) 1) ?_
          refine k_put (D := D) (ci := 4) (v := .int (nI ((numA r ka L 0 99) + 1))) (ty := .int) (C := RX4) (T := TX4) (N := 12) hx hb hts hinX4 tyX4 tyX4_ok nmX4 hown hK hP hD hS 0 rfl rfl 7 (by decide) fl96 (fun _ h9 => h9) rfl (by decide +kernel) rfl rfl (Nat.le_of_ble_eq_true rfl) (ws' := cM cI a (bp (bp (bp r_4 4 (2 * P) a_6) 5 4 1) 5 3 (nI ((numA r ka L 0 99) + 1))) h) rfl dX4_readsPart_135 (fun H locs hP hD hS => ?_)
          refine lv_aload_n hx hb dX4_readsPart_138 rfl (lv_at hl 2 rfl) ?_
          refine va_get (D := D) (ci := 4) (v := .ref (a 5)) (C := RX4) (T := TX4) (N := 12) hx hb hts hinX4 hown hK hP 0 rfl rfl 9 (by decide) fl22 (fun _ h9 => h9) rfl dX4_readsPart_139 ?_
          refine lv_iload_n hx hb dX4_readsPart_142 rfl (lv_at hl 1 rfl) ?_
          refine lv_iconst (v := 1) hx hb dX4_readsPart_143 (by decide) ?_
          refine lv_iadd hx hb dX4_readsPart_144 ?_
          refine lv_eqi (y := nI ((2 * P) + 1)) (nI_add (2 * P) 1) ?_
          refine lv_aload_n hx hb dX4_readsPart_145 rfl (lv_at hl 2 rfl) ?_
          refine lv_iconst (v := 1) hx hb dX4_readsPart_146 (by decide) ?_
          refine lv_bipush (v := 60) hx hb dX4_readsPart_147 (by decide) ?_
          obtain ⟨r_17, er_17⟩ : ∃ z : rB, z = numB (bp (bp (bp r_4 4 (2 * P) a_6) 5 4 1) 5 3 (nI ((numA r ka L 0 99) + 1))) ((numA r ka L 0 99) + 1) L 1 60 := ⟨_, rfl⟩
          have hm_18 := mX4_number l D cI cQ cJ a (bp (bp (bp r_4 4 (2 * P) a_6) 5 4 1) 5 3 (nI ((numA r ka L 0 99) + 1))) h ((numA r ka L 0 99) + 1) L (bp_eq) (((bp_ne (by omega)).trans ((bp_ne (by omega)).trans ((bp_rw (by decide)).trans (rfl)))).trans (by rw [er_4]; exact (numB_len hL))) hL60 (by omega) 1 60
          rw [← er_17] at hm_18
          refine k_calli (wc := cM cI a (bp (bp (bp r_4 4 (2 * P) a_6) 5 4 1) 5 3 (nI ((numA r ka L 0 99) + 1))) h) (w' := cM cI a r_17 h) (wn := cM cI a r_17 h) (va_runV (As := [.int 1, .int 60]) (rest := [.int (nI (2 * P + 1)), .ref (a 5)]) ⟨hx, hb, hml, hown, hts⟩ (hm_18 _) (cwV 2 hts gX4_readsPart_X4_number rfl rfl rfl (by decide +kernel) ⟨Nat.le_of_ble_eq_true rfl, Nat.le_of_ble_eq_true rfl⟩) (k_preV (wc := cM cI a (bp (bp (bp r_4 4 (2 * P) a_6) 5 4 1) 5 3 (nI ((numA r ka L 0 99) + 1))) h) hE hK hP hD [0, 1, 2, 3, 4, 5] (by decide) rfl (ci := 4) (q0 := 0) rfl rfl [.int 1, .int 60]) rfl rfl hl.1 rfl (lv_room (Nat.le_of_ble_eq_true rfl)) dX4_readsPart_149 ⟨Nat.zero_le _, Nat.zero_le _⟩) hP hD hS hA [0, 1, 2, 3, 4, 5] rfl rfl rfl (fun H locs hP hD hS => ?_)
          refine lv_topi (fun a_19 ea_19 => ?_)
          refine k_iast (k := 2 * P + 1) (ws' := cM cI a (bp r_17 4 (2 * P + 1) a_19) h) hx hb hK hP hD hS 5 0 rfl rfl (vp_in_nI (n := 2 * P + 1) (by omega) (by omega)) (nI_clamp (n := 2 * P + 1) (by omega)) rfl dX4_readsPart_152 (fun H locs hP hD hS => ?_)
          refine lv_aload_n hx hb dX4_readsPart_153 rfl (lv_at hl 2 rfl) ?_
          refine lv_dup hx hb dX4_readsPart_154 rfl ?_
          refine va_get (D := D) (ci := 4) (v := .int (nI P)) (C := RX4) (T := TX4) (N := 12) hx hb hts hinX4 hown hK hP 0 rfl rfl 10 (by decide) fl109 (fun _ h9 => h9) (congrArg (fun z => some (Value.int z)) ((((bp_rw (by decide)).trans (rfl))).trans ((by rw [er_17]; exact (numB_many ((bp_ne (by decide)).trans ((bp_ne (by decide)).trans ((bp_rw (by decide)).trans (by rw [er_4]; exact (numB_many hP5)))))))))) dX4_readsPart_155 ?_
          refine lv_aload_n hx hb dX4_readsPart_158 rfl (lv_at hl 2 rfl) ?_
          refine va_get (D := D) (ci := 4) (v := .int (r_17 5 4)) (C := RX4) (T := TX4) (N := 12) hx hb hts hinX4 hown hK hP 0 rfl rfl 8 (by decide) fl99 (fun _ h9 => h9) (congrArg (fun z => some (Value.int z)) ((bp_rw (by decide)).trans (rfl))) dX4_readsPart_159 ?_
          refine lv_if_eq (tgt := 169) hx hb dX4_readsPart_162 (by decide) (fun c_20 => ?_) (fun c_20 => ?_)
          · skip
            refine lv_iconst (v := 0) hx hb dX4_readsPart_169 (by decide) ?_
            refine lv_iadd hx hb dX4_readsPart_170 ?_
            refine lv_eqi (y := nI (P + 0)) (nI_add P 0) ?_
            refine k_put (D := D) (ci := 4) (v := .int (nI (P + 0))) (ty := .int) (C := RX4) (T := TX4) (N := 12) hx hb hts hinX4 tyX4 tyX4_ok nmX4 hown hK hP hD hS 0 rfl rfl 10 (by decide) fl109 (fun _ h9 => h9) rfl (by decide +kernel) rfl rfl (Nat.le_of_ble_eq_true rfl) (ws' := cM cI a (bp (bp r_17 4 (2 * P + 1) a_19) 5 5 (nI (P + 0))) h) rfl dX4_readsPart_171 (fun H locs hP hD hS => ?_)
            have e9 : (bp (bp r_17 4 (2 * P + 1) a_19) 5 5 (nI (P + 0)) : rB) = rpB r ka L P := by (replace ea_19 := ea_19.symm; subst ea_19; replace er_17 := er_17.symm; subst er_17; replace ea_6 := ea_6.symm; subst ea_6; replace er_4 := er_4.symm; subst er_4; replace ev2_1 := ev2_1.symm; subst ev2_1; simp only [rpB, rpF, rpW, rpC, rpC1, rpN, rpR2, rpR1, rpX, rpA2, i10, i00, if_neg c_2, if_neg c_3, if_neg c_7, if_pos c_12, if_pos c_20, eq_false c_2, eq_false c_3, eq_false c_7, eq_true c_12, eq_true c_20, ↓reduceIte])
            rw [e9] at hP
            exact k_vret hx hb hr hlocks hS hP dX4_readsPart_174
          · skip
            refine lv_iconst (v := 1) hx hb dX4_readsPart_165 (by decide) ?_
            refine lv_goto (tgt := 170) hx hb dX4_readsPart_166 (by decide) ?_
            refine lv_iadd hx hb dX4_readsPart_170 ?_
            refine lv_eqi (y := nI (P + 1)) (nI_add P 1) ?_
            refine k_put (D := D) (ci := 4) (v := .int (nI (P + 1))) (ty := .int) (C := RX4) (T := TX4) (N := 12) hx hb hts hinX4 tyX4 tyX4_ok nmX4 hown hK hP hD hS 0 rfl rfl 10 (by decide) fl109 (fun _ h9 => h9) rfl (by decide +kernel) rfl rfl (Nat.le_of_ble_eq_true rfl) (ws' := cM cI a (bp (bp r_17 4 (2 * P + 1) a_19) 5 5 (nI (P + 1))) h) rfl dX4_readsPart_171 (fun H locs hP hD hS => ?_)
            have e9 : (bp (bp r_17 4 (2 * P + 1) a_19) 5 5 (nI (P + 1)) : rB) = rpB r ka L P := by (replace ea_19 := ea_19.symm; subst ea_19; replace er_17 := er_17.symm; subst er_17; replace ea_6 := ea_6.symm; subst ea_6; replace er_4 := er_4.symm; subst er_4; replace ev2_1 := ev2_1.symm; subst ev2_1; simp only [rpB, rpF, rpW, rpC, rpC1, rpN, rpR2, rpR1, rpX, rpA2, i10, i00, if_neg c_2, if_neg c_3, if_neg c_7, if_pos c_12, if_neg c_20, eq_false c_2, eq_false c_3, eq_false c_7, eq_true c_12, eq_false c_20, ↓reduceIte])
            rw [e9] at hP
            exact k_vret hx hb hr hlocks hS hP dX4_readsPart_174
    · skip
      refine lv_aload_n hx hb dX4_readsPart_44 rfl (lv_at hl 2 rfl) ?_
      refine lv_dup hx hb dX4_readsPart_45 rfl ?_
      refine va_get (D := D) (ci := 4) (v := .int (nI ka)) (C := RX4) (T := TX4) (N := 12) hx hb hts hinX4 hown hK hP 0 rfl rfl 7 (by decide) fl96 (fun _ h9 => h9) (congrArg (fun z => some (Value.int z)) (((rfl)).trans (hka))) dX4_readsPart_46 ?_
      refine lv_iconst (v := 1) hx hb dX4_readsPart_49 (by decide) ?_
      refine lv_iadd hx hb dX4_readsPart_50 ?_
      refine lv_eqi (y := nI (ka + 1)) (nI_add ka 1) ?_
      refine k_put (D := D) (ci := 4) (v := .int (nI (ka + 1))) (ty := .int) (C := RX4) (T := TX4) (N := 12) hx hb hts hinX4 tyX4 tyX4_ok nmX4 hown hK hP hD hS 0 rfl rfl 7 (by decide) fl96 (fun _ h9 => h9) rfl (by decide +kernel) rfl rfl (Nat.le_of_ble_eq_true rfl) (ws' := cM cI a (bp r 5 3 (nI (ka + 1))) h) rfl dX4_readsPart_51 (fun H locs hP hD hS => ?_)
      refine lv_aload_n hx hb dX4_readsPart_54 rfl (lv_at hl 2 rfl) ?_
      refine va_get (D := D) (ci := 4) (v := .ref (a 5)) (C := RX4) (T := TX4) (N := 12) hx hb hts hinX4 hown hK hP 0 rfl rfl 9 (by decide) fl22 (fun _ h9 => h9) rfl dX4_readsPart_55 ?_
      refine lv_iload_n hx hb dX4_readsPart_58 rfl (lv_at hl 1 rfl) ?_
      refine lv_bipush (v := (-2)) hx hb dX4_readsPart_59 (by decide) ?_
      refine lv_topi (fun a_21 ea_21 => ?_)
      refine k_iast (k := 2 * P) (ws' := cM cI a (bp (bp r 5 3 (nI (ka + 1))) 4 (2 * P) a_21) h) hx hb hK hP hD hS 5 0 rfl rfl (vp_in_nI (n := 2 * P) (by omega) (by omega)) (nI_clamp (n := 2 * P) (by omega)) rfl dX4_readsPart_61 (fun H locs hP hD hS => ?_)
      refine lv_aload_n hx hb dX4_readsPart_62 rfl (lv_at hl 2 rfl) ?_
      refine va_get (D := D) (ci := 4) (v := .ref (a 5)) (C := RX4) (T := TX4) (N := 12) hx hb hts hinX4 hown hK hP 0 rfl rfl 9 (by decide) fl22 (fun _ h9 => h9) rfl dX4_readsPart_63 ?_
      refine lv_iload_n hx hb dX4_readsPart_66 rfl (lv_at hl 1 rfl) ?_
      refine lv_iconst (v := 1) hx hb dX4_readsPart_67 (by decide) ?_
      refine lv_iadd hx hb dX4_readsPart_68 ?_
      refine lv_eqi (y := nI ((2 * P) + 1)) (nI_add (2 * P) 1) ?_
      refine lv_aload_n hx hb dX4_readsPart_69 rfl (lv_at hl 2 rfl) ?_
      refine lv_iconst (v := 0) hx hb dX4_readsPart_70 (by decide) ?_
      refine lv_iconst (v := 5) hx hb dX4_readsPart_71 (by decide) ?_
      obtain ⟨r_22, er_22⟩ : ∃ z : rB, z = digB (bp (bp r 5 3 (nI (ka + 1))) 4 (2 * P) a_21) (ka + 1) L 0 5 := ⟨_, rfl⟩
      have hm_23 := mX4_digit l D cI cQ cJ a (bp (bp r 5 3 (nI (ka + 1))) 4 (2 * P) a_21) h (ka + 1) L ((bp_rw (by decide)).trans (bp_eq)) (((bp_rw (by decide)).trans ((bp_ne (by omega)).trans (rfl))).trans hL) hL60 (by omega) 0 5
      rw [← er_22] at hm_23
      refine k_calli (wc := cM cI a (bp (bp r 5 3 (nI (ka + 1))) 4 (2 * P) a_21) h) (w' := cM cI a r_22 h) (wn := cM cI a r_22 h) (va_runV (As := [.int 0, .int 5]) (rest := [.int (nI (2 * P + 1)), .ref (a 5)]) ⟨hx, hb, hml, hown, hts⟩ (hm_23 _) (cwV 2 hts gX4_readsPart_X4_digit rfl rfl rfl (by decide +kernel) ⟨Nat.le_of_ble_eq_true rfl, Nat.le_of_ble_eq_true rfl⟩) (k_preV (wc := cM cI a (bp (bp r 5 3 (nI (ka + 1))) 4 (2 * P) a_21) h) hE hK hP hD [0, 1, 2, 3, 4, 5] (by decide) rfl (ci := 4) (q0 := 0) rfl rfl [.int 0, .int 5]) rfl rfl hl.1 rfl (lv_room (Nat.le_of_ble_eq_true rfl)) dX4_readsPart_72 ⟨Nat.zero_le _, Nat.zero_le _⟩) hP hD hS hA [0, 1, 2, 3, 4, 5] rfl rfl rfl (fun H locs hP hD hS => ?_)
      refine lv_topi (fun a_24 ea_24 => ?_)
      refine k_iast (k := 2 * P + 1) (ws' := cM cI a (bp r_22 4 (2 * P + 1) a_24) h) hx hb hK hP hD hS 5 0 rfl rfl (vp_in_nI (n := 2 * P + 1) (by omega) (by omega)) (nI_clamp (n := 2 * P + 1) (by omega)) rfl dX4_readsPart_75 (fun H locs hP hD hS => ?_)
      refine lv_goto (tgt := 153) hx hb dX4_readsPart_76 (by decide) ?_
      refine lv_aload_n hx hb dX4_readsPart_153 rfl (lv_at hl 2 rfl) ?_
      refine lv_dup hx hb dX4_readsPart_154 rfl ?_
      refine va_get (D := D) (ci := 4) (v := .int (nI P)) (C := RX4) (T := TX4) (N := 12) hx hb hts hinX4 hown hK hP 0 rfl rfl 10 (by decide) fl109 (fun _ h9 => h9) (congrArg (fun z => some (Value.int z)) ((((bp_rw (by decide)).trans (rfl))).trans ((by rw [er_22]; exact (digB_many ((bp_rw (by decide)).trans ((bp_ne (by decide)).trans hP5))))))) dX4_readsPart_155 ?_
      refine lv_aload_n hx hb dX4_readsPart_158 rfl (lv_at hl 2 rfl) ?_
      refine va_get (D := D) (ci := 4) (v := .int (r_22 5 4)) (C := RX4) (T := TX4) (N := 12) hx hb hts hinX4 hown hK hP 0 rfl rfl 8 (by decide) fl99 (fun _ h9 => h9) (congrArg (fun z => some (Value.int z)) ((bp_rw (by decide)).trans (rfl))) dX4_readsPart_159 ?_
      refine lv_if_eq (tgt := 169) hx hb dX4_readsPart_162 (by decide) (fun c_25 => ?_) (fun c_25 => ?_)
      · skip
        refine lv_iconst (v := 0) hx hb dX4_readsPart_169 (by decide) ?_
        refine lv_iadd hx hb dX4_readsPart_170 ?_
        refine lv_eqi (y := nI (P + 0)) (nI_add P 0) ?_
        refine k_put (D := D) (ci := 4) (v := .int (nI (P + 0))) (ty := .int) (C := RX4) (T := TX4) (N := 12) hx hb hts hinX4 tyX4 tyX4_ok nmX4 hown hK hP hD hS 0 rfl rfl 10 (by decide) fl109 (fun _ h9 => h9) rfl (by decide +kernel) rfl rfl (Nat.le_of_ble_eq_true rfl) (ws' := cM cI a (bp (bp r_22 4 (2 * P + 1) a_24) 5 5 (nI (P + 0))) h) rfl dX4_readsPart_171 (fun H locs hP hD hS => ?_)
        have e9 : (bp (bp r_22 4 (2 * P + 1) a_24) 5 5 (nI (P + 0)) : rB) = rpB r ka L P := by (replace ea_24 := ea_24.symm; subst ea_24; replace er_22 := er_22.symm; subst er_22; replace ea_21 := ea_21.symm; subst ea_21; replace ev2_1 := ev2_1.symm; subst ev2_1; simp only [rpB, rpF, rpW, rpC, rpC1, rpN, rpR2, rpR1, rpX, rpA2, i10, i00, if_neg c_2, if_pos c_3, if_pos c_25, eq_false c_2, eq_true c_3, eq_true c_25, ↓reduceIte])
        rw [e9] at hP
        exact k_vret hx hb hr hlocks hS hP dX4_readsPart_174
      · skip
        refine lv_iconst (v := 1) hx hb dX4_readsPart_165 (by decide) ?_
        refine lv_goto (tgt := 170) hx hb dX4_readsPart_166 (by decide) ?_
        refine lv_iadd hx hb dX4_readsPart_170 ?_
        refine lv_eqi (y := nI (P + 1)) (nI_add P 1) ?_
        refine k_put (D := D) (ci := 4) (v := .int (nI (P + 1))) (ty := .int) (C := RX4) (T := TX4) (N := 12) hx hb hts hinX4 tyX4 tyX4_ok nmX4 hown hK hP hD hS 0 rfl rfl 10 (by decide) fl109 (fun _ h9 => h9) rfl (by decide +kernel) rfl rfl (Nat.le_of_ble_eq_true rfl) (ws' := cM cI a (bp (bp r_22 4 (2 * P + 1) a_24) 5 5 (nI (P + 1))) h) rfl dX4_readsPart_171 (fun H locs hP hD hS => ?_)
        have e9 : (bp (bp r_22 4 (2 * P + 1) a_24) 5 5 (nI (P + 1)) : rB) = rpB r ka L P := by (replace ea_24 := ea_24.symm; subst ea_24; replace er_22 := er_22.symm; subst er_22; replace ea_21 := ea_21.symm; subst ea_21; replace ev2_1 := ev2_1.symm; subst ev2_1; simp only [rpB, rpF, rpW, rpC, rpC1, rpN, rpR2, rpR1, rpX, rpA2, i10, i00, if_neg c_2, if_pos c_3, if_neg c_25, eq_false c_2, eq_true c_3, eq_false c_25, ↓reduceIte])
        rw [e9] at hP
        exact k_vret hx hb hr hlocks hS hP dX4_readsPart_174
  · skip
    refine lv_aload_n hx hb dX4_readsPart_18 rfl (lv_at hl 2 rfl) ?_
    refine lv_dup hx hb dX4_readsPart_19 rfl ?_
    refine va_get (D := D) (ci := 4) (v := .int (nI ka)) (C := RX4) (T := TX4) (N := 12) hx hb hts hinX4 hown hK hP 0 rfl rfl 7 (by decide) fl96 (fun _ h9 => h9) (congrArg (fun z => some (Value.int z)) (((rfl)).trans (hka))) dX4_readsPart_20 ?_
    refine lv_iconst (v := 1) hx hb dX4_readsPart_23 (by decide) ?_
    refine lv_iadd hx hb dX4_readsPart_24 ?_
    refine lv_eqi (y := nI (ka + 1)) (nI_add ka 1) ?_
    refine k_put (D := D) (ci := 4) (v := .int (nI (ka + 1))) (ty := .int) (C := RX4) (T := TX4) (N := 12) hx hb hts hinX4 tyX4 tyX4_ok nmX4 hown hK hP hD hS 0 rfl rfl 7 (by decide) fl96 (fun _ h9 => h9) rfl (by decide +kernel) rfl rfl (Nat.le_of_ble_eq_true rfl) (ws' := cM cI a (bp r 5 3 (nI (ka + 1))) h) rfl dX4_readsPart_25 (fun H locs hP hD hS => ?_)
    refine lv_aload_n hx hb dX4_readsPart_28 rfl (lv_at hl 2 rfl) ?_
    refine va_get (D := D) (ci := 4) (v := .ref (a 5)) (C := RX4) (T := TX4) (N := 12) hx hb hts hinX4 hown hK hP 0 rfl rfl 9 (by decide) fl22 (fun _ h9 => h9) rfl dX4_readsPart_29 ?_
    refine lv_iload_n hx hb dX4_readsPart_32 rfl (lv_at hl 1 rfl) ?_
    refine lv_iconst (v := (-1)) hx hb dX4_readsPart_33 (by decide) ?_
    refine lv_topi (fun a_26 ea_26 => ?_)
    refine k_iast (k := 2 * P) (ws' := cM cI a (bp (bp r 5 3 (nI (ka + 1))) 4 (2 * P) a_26) h) hx hb hK hP hD hS 5 0 rfl rfl (vp_in_nI (n := 2 * P) (by omega) (by omega)) (nI_clamp (n := 2 * P) (by omega)) rfl dX4_readsPart_34 (fun H locs hP hD hS => ?_)
    refine lv_goto (tgt := 153) hx hb dX4_readsPart_35 (by decide) ?_
    refine lv_aload_n hx hb dX4_readsPart_153 rfl (lv_at hl 2 rfl) ?_
    refine lv_dup hx hb dX4_readsPart_154 rfl ?_
    refine va_get (D := D) (ci := 4) (v := .int (nI P)) (C := RX4) (T := TX4) (N := 12) hx hb hts hinX4 hown hK hP 0 rfl rfl 10 (by decide) fl109 (fun _ h9 => h9) (congrArg (fun z => some (Value.int z)) ((((bp_rw (by decide)).trans ((bp_ne (by omega)).trans (rfl)))).trans (hP5))) dX4_readsPart_155 ?_
    refine lv_aload_n hx hb dX4_readsPart_158 rfl (lv_at hl 2 rfl) ?_
    refine va_get (D := D) (ci := 4) (v := .int (r 5 4)) (C := RX4) (T := TX4) (N := 12) hx hb hts hinX4 hown hK hP 0 rfl rfl 8 (by decide) fl99 (fun _ h9 => h9) (congrArg (fun z => some (Value.int z)) ((bp_rw (by decide)).trans ((bp_ne (by omega)).trans (rfl)))) dX4_readsPart_159 ?_
    refine lv_if_eq (tgt := 169) hx hb dX4_readsPart_162 (by decide) (fun c_27 => ?_) (fun c_27 => ?_)
    · skip
      refine lv_iconst (v := 0) hx hb dX4_readsPart_169 (by decide) ?_
      refine lv_iadd hx hb dX4_readsPart_170 ?_
      refine lv_eqi (y := nI (P + 0)) (nI_add P 0) ?_
      refine k_put (D := D) (ci := 4) (v := .int (nI (P + 0))) (ty := .int) (C := RX4) (T := TX4) (N := 12) hx hb hts hinX4 tyX4 tyX4_ok nmX4 hown hK hP hD hS 0 rfl rfl 10 (by decide) fl109 (fun _ h9 => h9) rfl (by decide +kernel) rfl rfl (Nat.le_of_ble_eq_true rfl) (ws' := cM cI a (bp (bp (bp r 5 3 (nI (ka + 1))) 4 (2 * P) a_26) 5 5 (nI (P + 0))) h) rfl dX4_readsPart_171 (fun H locs hP hD hS => ?_)
      have e9 : (bp (bp (bp r 5 3 (nI (ka + 1))) 4 (2 * P) a_26) 5 5 (nI (P + 0)) : rB) = rpB r ka L P := by (replace ea_26 := ea_26.symm; subst ea_26; replace ev2_1 := ev2_1.symm; subst ev2_1; simp only [rpB, rpF, rpW, rpC, rpC1, rpN, rpR2, rpR1, rpX, rpA2, i10, i00, if_pos c_2, if_pos c_27, eq_true c_2, eq_true c_27, ↓reduceIte])
      rw [e9] at hP
      exact k_vret hx hb hr hlocks hS hP dX4_readsPart_174
    · skip
      refine lv_iconst (v := 1) hx hb dX4_readsPart_165 (by decide) ?_
      refine lv_goto (tgt := 170) hx hb dX4_readsPart_166 (by decide) ?_
      refine lv_iadd hx hb dX4_readsPart_170 ?_
      refine lv_eqi (y := nI (P + 1)) (nI_add P 1) ?_
      refine k_put (D := D) (ci := 4) (v := .int (nI (P + 1))) (ty := .int) (C := RX4) (T := TX4) (N := 12) hx hb hts hinX4 tyX4 tyX4_ok nmX4 hown hK hP hD hS 0 rfl rfl 10 (by decide) fl109 (fun _ h9 => h9) rfl (by decide +kernel) rfl rfl (Nat.le_of_ble_eq_true rfl) (ws' := cM cI a (bp (bp (bp r 5 3 (nI (ka + 1))) 4 (2 * P) a_26) 5 5 (nI (P + 1))) h) rfl dX4_readsPart_171 (fun H locs hP hD hS => ?_)
      have e9 : (bp (bp (bp r 5 3 (nI (ka + 1))) 4 (2 * P) a_26) 5 5 (nI (P + 1)) : rB) = rpB r ka L P := by (replace ea_26 := ea_26.symm; subst ea_26; replace ev2_1 := ev2_1.symm; subst ev2_1; simp only [rpB, rpF, rpW, rpC, rpC1, rpN, rpR2, rpR1, rpX, rpA2, i10, i00, if_pos c_2, if_neg c_27, eq_true c_2, eq_false c_27, ↓reduceIte])
      rw [e9] at hP
      exact k_vret hx hb hr hlocks hS hP dX4_readsPart_174
