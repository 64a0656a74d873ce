set_option maxHeartbeats 4000000 in
set_option maxRecDepth 100000 in
theorem mX4_minute (l : Launch) (D : va_G) (cI cQ cJ : ClassId) (a : Nat → Nat) (r : rB) (h : Int64) (y : Int32) (hok : okS (r 0)) : Mv l D (tY cI cQ cJ) yX4_minute wsX4_minute ({ frames := 3, cells := 0, slots := 0, locals := 69 } : Room) [.ref (a 0), .int y] (cM cI a r h) (cM cI a (minM r y) h) := by
  refine M_of (cc := cX4_minute) (maxL := 3) (ret := none) (Qc := fun A => va_Qv (fun (_ : Unit) => True) (fun _ t => Wd D (cM cI a (minM r y) h) t) A) (by decide) rfl (Nat.le_of_ble_eq_true rfl) ?_
  intro p e s m below meth c A ls hB hE hP hK hD hA hl
  obtain ⟨hx, hb, hr, hml, hts, hown, hlocks⟩ := hB
  have hS : va_S A s.heap s.heap [] := va_S.rf
  have hl : lv_has ls 3 [(0, .ref (a 0)), (1, .int y)] := hl
  have hinX4 : ∀ w ∈ u_ws RX4 TX4 12, w ∈ wsX4_minute := by decide +kernel
  have fl7 := hts (.fieldLink RX4 7 "RoofDrainsModel" "s" "[I") (by decide +kernel)
  refine lv_iconst (v := 0) hx hb dX4_minute_0 (by decide) ?_
  refine lv_istore_n (lv' := [(2, .int 0), (0, .ref (a 0)), (1, .int y)]) hx hb dX4_minute_1 rfl hl (by decide) rfl (fun ls hl => ?_)
  have Lp2 : ∀ (n i : Nat) (r1 : rB), i + n = 6 → okS (r1 0) → sndAll n i r1 y = sndAll 6 0 r y → ∀ (H : Heap) (locs : List Loc), va_P D vwCl (cM cI a r1 h) H → va_D A (cM cI a r1 h) → va_S A s.heap H locs → ∀ (ls : Array Slot), lv_has ls 3 [(2, .int (nI i)), (0, .ref (a 0)), (1, .int y)] → W p l e ({ frames := 3, cells := 0, slots := 0, locals := 69 } : Room) s m ([.ref (a 0), .int y] : List Value).toArray below meth c H locs 0 0 (MQ below (va_Qv (fun (_ : Unit) => True) (fun _ t => Wd D (cM cI a (minM r y) h) t) A) ([.ref (a 0), .int y] : List Value).toArray s 0 0 A) (F0 m 2 ls []) := by
    intro n
    induction n with
    | zero =>
      intro i r1 hin hok1 hres H locs hP hD hS ls hl
      have h9r1 : r1 = sndAll 6 0 r y := hres
      refine lv_iload_n hx hb dX4_minute_2 rfl (lv_at hl 0 rfl) ?_
      refine lv_bipush (v := 6) hx hb dX4_minute_3 (by decide) ?_
      refine lv_icmp_ge (tgt := 20) hx hb dX4_minute_5 (by decide) (fun _ => ?_) (fun h9 => absurd (nI_le (a := 6) (b := i) (by omega) (by omega)) h9)
      refine lv_aload_n hx hb dX4_minute_20 rfl (lv_at hl 1 rfl) ?_
      refine va_get (D := D) (ci := 4) (v := .ref (a 1)) (C := RX4) (T := TX4) (N := 12) hx hb hts hinX4 hown hK hP 0 rfl rfl 1 (by decide) fl7 (fun _ h9 => h9) rfl dX4_minute_21 ?_
      refine lv_bipush (v := 8) hx hb dX4_minute_24 (by decide) ?_
      refine lv_dup2_11 hx hb dX4_minute_26 rfl rfl ?_
      refine k_iald (k := 8) (v := r1 0 8) hx hb hK hP 1 0 rfl rfl (vp_in_nI (n := 8) (by omega) (by omega)) (nI_clamp (n := 8) (by omega)) (rfl) dX4_minute_27 ?_
      refine lv_aload_n hx hb dX4_minute_28 rfl (lv_at hl 1 rfl) ?_
      obtain ⟨r_1, er_1⟩ : ∃ z : rB, z = (drnL 6 0 r1 (r1 0 0) 0).1 := ⟨_, rfl⟩
      have hm_2 := mX4_drains l D cI cQ cJ a r1 h
      rw [← er_1] at hm_2
      refine k_calli (wc := cM cI a r1 h) (w' := cM cI a r_1 h) (wn := cM cI a r_1 h) (va_runV (As := []) (rest := [.int (r1 0 8), .int 8, .ref (a 1)]) ⟨hx, hb, hml, hown, hts⟩ (hm_2 _) (cwV 0 hts gX4_minute_X4_drains rfl rfl rfl (by decide +kernel) ⟨Nat.le_of_ble_eq_true rfl, Nat.le_of_ble_eq_true rfl⟩) (k_preV (wc := cM cI a r1 h) hE hK hP hD [0, 1, 2, 3, 4, 5] (by decide) rfl (ci := 4) (q0 := 0) rfl rfl []) rfl rfl hl.1 rfl (lv_room (Nat.le_of_ble_eq_true rfl)) dX4_minute_29 ⟨Nat.zero_le _, Nat.zero_le _⟩) hP hD hS hA [0, 1, 2, 3, 4, 5] rfl rfl rfl (fun H locs hP hD hS => ?_)
      refine lv_if_eq (tgt := 39) hx hb dX4_minute_32 (by decide) (fun c_3 => ?_) (fun c_3 => ?_)
      · skip
        refine lv_iconst (v := 0) hx hb dX4_minute_39 (by decide) ?_
        refine lv_iadd hx hb dX4_minute_40 ?_
        refine lv_topi (fun a_4 ea_4 => ?_)
        refine k_iast (k := 8) (ws' := cM cI a (bp r_1 0 8 a_4) h) hx hb hK hP hD hS 1 0 rfl rfl (vp_in_nI (n := 8) (by omega) (by omega)) (nI_clamp (n := 8) (by omega)) rfl dX4_minute_41 (fun H locs hP hD hS => ?_)
        refine lv_iconst (v := 0) hx hb dX4_minute_42 (by decide) ?_
        refine lv_istore_n (lv' := [(2, .int 0), (0, .ref (a 0)), (1, .int y)]) hx hb dX4_minute_43 rfl hl (by decide) rfl (fun ls hl => ?_)
        have Lp44 : ∀ (n i : Nat) (r2 : rB), i + n = 6 → okS (r2 0) → fovAll n i r2 = fovAll 6 0 (bp r_1 0 8 a_4) → ∀ (H : Heap) (locs : List Loc), va_P D vwCl (cM cI a r2 h) H → va_D A (cM cI a r2 h) → va_S A s.heap H locs → ∀ (ls : Array Slot), lv_has ls 3 [(2, .int (nI i)), (0, .ref (a 0)), (1, .int y)] → W p l e ({ frames := 3, cells := 0, slots := 0, locals := 69 } : Room) s m ([.ref (a 0), .int y] : List Value).toArray below meth c H locs 0 0 (MQ below (va_Qv (fun (_ : Unit) => True) (fun _ t => Wd D (cM cI a (minM r y) h) t) A) ([.ref (a 0), .int y] : List Value).toArray s 0 0 A) (F0 m 44 ls []) := by
          intro n
          induction n with
          | zero =>
            intro i r2 hin hok2 hres H locs hP hD hS ls hl
            have h9r2 : r2 = fovAll 6 0 (bp r_1 0 8 a_4) := hres
            refine lv_iload_n hx hb dX4_minute_44 rfl (lv_at hl 0 rfl) ?_
            refine lv_bipush (v := 6) hx hb dX4_minute_45 (by decide) ?_
            refine lv_icmp_ge (tgt := 61) hx hb dX4_minute_47 (by decide) (fun _ => ?_) (fun h9 => absurd (nI_le (a := 6) (b := i) (by omega) (by omega)) h9)
            refine lv_aload_n hx hb dX4_minute_61 rfl (lv_at hl 1 rfl) ?_
            refine va_get (D := D) (ci := 4) (v := .ref (a 1)) (C := RX4) (T := TX4) (N := 12) hx hb hts hinX4 hown hK hP 0 rfl rfl 1 (by decide) fl7 (fun _ h9 => h9) rfl dX4_minute_62 ?_
            refine lv_iconst (v := 3) hx hb dX4_minute_65 (by decide) ?_
            refine lv_dup2_11 hx hb dX4_minute_66 rfl rfl ?_
            refine k_iald (k := 3) (v := r2 0 3) hx hb hK hP 1 0 rfl rfl (vp_in_nI (n := 3) (by omega) (by omega)) (nI_clamp (n := 3) (by omega)) (rfl) dX4_minute_67 ?_
            refine lv_iconst (v := 1) hx hb dX4_minute_68 (by decide) ?_
            refine lv_iadd hx hb dX4_minute_69 ?_
            refine lv_topi (fun a_5 ea_5 => ?_)
            refine k_iast (k := 3) (ws' := cM cI a (bp r2 0 3 a_5) h) hx hb hK hP hD hS 1 0 rfl rfl (vp_in_nI (n := 3) (by omega) (by omega)) (nI_clamp (n := 3) (by omega)) rfl dX4_minute_70 (fun H locs hP hD hS => ?_)
            have e9 : (bp r2 0 3 a_5 : rB) = minM r y := by (replace ea_5 := ea_5.symm; subst ea_5; replace h9r2 := h9r2.symm; subst h9r2; replace ea_4 := ea_4.symm; subst ea_4; replace er_1 := er_1.symm; subst er_1; replace h9r1 := h9r1.symm; subst h9r1; simp only [minM, minA, if_pos c_3, ↓reduceIte])
            rw [e9] at hP
            exact k_vret hx hb hr hlocks hS hP dX4_minute_71
          | succ n ih =>
            intro i r2 hin hok2 hres H locs hP hD hS ls hl
            refine lv_iload_n hx hb dX4_minute_44 rfl (lv_at hl 0 rfl) ?_
            refine lv_bipush (v := 6) hx hb dX4_minute_45 (by decide) ?_
            refine lv_icmp_ge (tgt := 61) hx hb dX4_minute_47 (by decide) (fun h9 => absurd h9 (nI_ge (a := i) (b := 6) (by omega) (by omega))) (fun _ => ?_)
            refine lv_aload_n hx hb dX4_minute_50 rfl (lv_at hl 1 rfl) ?_
            refine lv_iload_n hx hb dX4_minute_51 rfl (lv_at hl 0 rfl) ?_
            obtain ⟨r_6, er_6⟩ : ∃ z : rB, z = fovM r2 i := ⟨_, rfl⟩
            have hm_7 := mX4_flowsOver l D cI cQ cJ a r2 h (nI i) i rfl (by omega) hok2
            rw [← er_6] at hm_7
            refine k_callv (wc := cM cI a r2 h) (w' := cM cI a r_6 h) (wn := cM cI a r_6 h) (va_runV (As := [.int (nI i)]) (rest := []) ⟨hx, hb, hml, hown, hts⟩ (hm_7 _) (cwV 1 hts gX4_minute_X4_flowsOver rfl rfl rfl (by decide +kernel) ⟨Nat.le_of_ble_eq_true rfl, Nat.le_of_ble_eq_true rfl⟩) (k_preV (wc := cM cI a r2 h) hE hK hP hD [0, 1, 2, 3, 4, 5] (by decide) rfl (ci := 4) (q0 := 0) rfl rfl [.int (nI i)]) rfl rfl hl.1 rfl (lv_room (Nat.le_of_ble_eq_true rfl)) dX4_minute_52 ⟨Nat.zero_le _, Nat.zero_le _⟩) hP hD hS hA [0, 1, 2, 3, 4, 5] rfl rfl rfl (fun H locs hP hD hS => ?_)
            refine lv_iinc (v := nI (i + 1)) (lv' := [(2, .int (nI (i + 1))), (0, .ref (a 0)), (1, .int y)]) hx hb dX4_minute_55 hl (k := 0) rfl (nI_1 i) (by decide) rfl (fun ls hl => ?_)
            refine lv_goto (tgt := 44) hx hb dX4_minute_58 (by decide) ?_
            exact ih (i + 1) r_6 (by omega) (by rw [er_6]; exact (fovM_ok hok2 (by omega))) (by replace er_6 := er_6.symm; subst er_6; replace ea_4 := ea_4.symm; subst ea_4; replace er_1 := er_1.symm; subst er_1; replace h9r1 := h9r1.symm; subst h9r1; exact hres) H locs hP hD hS ls (lv_sub hl [0, 1, 2] rfl)
        exact Lp44 6 0 (bp r_1 0 8 a_4) (by omega) (ok_bp (by rw [er_1]; exact (drnL_ok _ _ _ _ _ (by omega) hok1)) (fun k hk => by constructor <;> omega)) rfl _ _ hP hD hS ls (lv_sub hl [0, 1, 2] rfl)
      · skip
        refine lv_iconst (v := 1) hx hb dX4_minute_35 (by decide) ?_
        refine lv_goto (tgt := 40) hx hb dX4_minute_36 (by decide) ?_
        refine lv_iadd hx hb dX4_minute_40 ?_
        refine lv_topi (fun a_8 ea_8 => ?_)
        refine k_iast (k := 8) (ws' := cM cI a (bp r_1 0 8 a_8) h) hx hb hK hP hD hS 1 0 rfl rfl (vp_in_nI (n := 8) (by omega) (by omega)) (nI_clamp (n := 8) (by omega)) rfl dX4_minute_41 (fun H locs hP hD hS => ?_)
        refine lv_iconst (v := 0) hx hb dX4_minute_42 (by decide) ?_
        refine lv_istore_n (lv' := [(2, .int 0), (0, .ref (a 0)), (1, .int y)]) hx hb dX4_minute_43 rfl hl (by decide) rfl (fun ls hl => ?_)
        have Lp44 : ∀ (n i : Nat) (r2 : rB), i + n = 6 → okS (r2 0) → fovAll n i r2 = fovAll 6 0 (bp r_1 0 8 a_8) → ∀ (H : Heap) (locs : List Loc), va_P D vwCl (cM cI a r2 h) H → va_D A (cM cI a r2 h) → va_S A s.heap H locs → ∀ (ls : Array Slot), lv_has ls 3 [(2, .int (nI i)), (0, .ref (a 0)), (1, .int y)] → W p l e ({ frames := 3, cells := 0, slots := 0, locals := 69 } : Room) s m ([.ref (a 0), .int y] : List Value).toArray below meth c H locs 0 0 (MQ below (va_Qv (fun (_ : Unit) => True) (fun _ t => Wd D (cM cI a (minM r y) h) t) A) ([.ref (a 0), .int y] : List Value).toArray s 0 0 A) (F0 m 44 ls []) := by
          intro n
          induction n with
          | zero =>
            intro i r2 hin hok2 hres H locs hP hD hS ls hl
            have h9r2 : r2 = fovAll 6 0 (bp r_1 0 8 a_8) := hres
            refine lv_iload_n hx hb dX4_minute_44 rfl (lv_at hl 0 rfl) ?_
            refine lv_bipush (v := 6) hx hb dX4_minute_45 (by decide) ?_
            refine lv_icmp_ge (tgt := 61) hx hb dX4_minute_47 (by decide) (fun _ => ?_) (fun h9 => absurd (nI_le (a := 6) (b := i) (by omega) (by omega)) h9)
            refine lv_aload_n hx hb dX4_minute_61 rfl (lv_at hl 1 rfl) ?_
            refine va_get (D := D) (ci := 4) (v := .ref (a 1)) (C := RX4) (T := TX4) (N := 12) hx hb hts hinX4 hown hK hP 0 rfl rfl 1 (by decide) fl7 (fun _ h9 => h9) rfl dX4_minute_62 ?_
            refine lv_iconst (v := 3) hx hb dX4_minute_65 (by decide) ?_
            refine lv_dup2_11 hx hb dX4_minute_66 rfl rfl ?_
            refine k_iald (k := 3) (v := r2 0 3) hx hb hK hP 1 0 rfl rfl (vp_in_nI (n := 3) (by omega) (by omega)) (nI_clamp (n := 3) (by omega)) (rfl) dX4_minute_67 ?_
            refine lv_iconst (v := 1) hx hb dX4_minute_68 (by decide) ?_
            refine lv_iadd hx hb dX4_minute_69 ?_
            refine lv_topi (fun a_9 ea_9 => ?_)
            refine k_iast (k := 3) (ws' := cM cI a (bp r2 0 3 a_9) h) hx hb hK hP hD hS 1 0 rfl rfl (vp_in_nI (n := 3) (by omega) (by omega)) (nI_clamp (n := 3) (by omega)) rfl dX4_minute_70 (fun H locs hP hD hS => ?_)
            have e9 : (bp r2 0 3 a_9 : rB) = minM r y := by (replace ea_9 := ea_9.symm; subst ea_9; replace h9r2 := h9r2.symm; subst h9r2; replace ea_8 := ea_8.symm; subst ea_8; replace er_1 := er_1.symm; subst er_1; replace h9r1 := h9r1.symm; subst h9r1; simp only [minM, minA, if_neg c_3, ↓reduceIte])
            rw [e9] at hP
            exact k_vret hx hb hr hlocks hS hP dX4_minute_71
          | succ n ih =>
            intro i r2 hin hok2 hres H locs hP hD hS ls hl
            refine lv_iload_n hx hb dX4_minute_44 rfl (lv_at hl 0 rfl) ?_
            refine lv_bipush (v := 6) hx hb dX4_minute_45 (by decide) ?_
            refine lv_icmp_ge (tgt := 61) hx hb dX4_minute_47 (by decide) (fun h9 => absurd h9 (nI_ge (a := i) (b := 6) (by omega) (by omega))) (fun _ => ?_)
            refine lv_aload_n hx hb dX4_minute_50 rfl (lv_at hl 1 rfl) ?_
            refine lv_iload_n hx hb dX4_minute_51 rfl (lv_at hl 0 rfl) ?_
            obtain ⟨r_10, er_10⟩ : ∃ z : rB, z = fovM r2 i := ⟨_, rfl⟩
            have hm_11 := mX4_flowsOver l D cI cQ cJ a r2 h (nI i) i rfl (by omega) hok2
            rw [← er_10] at hm_11
            refine k_callv (wc := cM cI a r2 h) (w' := cM cI a r_10 h) (wn := cM cI a r_10 h) (va_runV (As := [.int (nI i)]) (rest := []) ⟨hx, hb, hml, hown, hts⟩ (hm_11 _) (cwV 1 hts gX4_minute_X4_flowsOver rfl rfl rfl (by decide +kernel) ⟨Nat.le_of_ble_eq_true rfl, Nat.le_of_ble_eq_true rfl⟩) (k_preV (wc := cM cI a r2 h) hE hK hP hD [0, 1, 2, 3, 4, 5] (by decide) rfl (ci := 4) (q0 := 0) rfl rfl [.int (nI i)]) rfl rfl hl.1 rfl (lv_room (Nat.le_of_ble_eq_true rfl)) dX4_minute_52 ⟨Nat.zero_le _, Nat.zero_le _⟩) hP hD hS hA [0, 1, 2, 3, 4, 5] rfl rfl rfl (fun H locs hP hD hS => ?_)
            refine lv_iinc (v := nI (i + 1)) (lv' := [(2, .int (nI (i + 1))), (0, .ref (a 0)), (1, .int y)]) hx hb dX4_minute_55 hl (k := 0) rfl (nI_1 i) (by decide) rfl (fun ls hl => ?_)
            refine lv_goto (tgt := 44) hx hb dX4_minute_58 (by decide) ?_
            exact ih (i + 1) r_10 (by omega) (by rw [er_10]; exact (fovM_ok hok2 (by omega))) (by replace er_10 := er_10.symm; subst er_10; replace ea_8 := ea_8.symm; subst ea_8; replace er_1 := er_1.symm; subst er_1; replace h9r1 := h9r1.symm; subst h9r1; exact hres) H locs hP hD hS ls (lv_sub hl [0, 1, 2] rfl)
        exact Lp44 6 0 (bp r_1 0 8 a_8) (by omega) (ok_bp (by rw [er_1]; exact (drnL_ok _ _ _ _ _ (by omega) hok1)) (fun k hk => by constructor <;> omega)) rfl _ _ hP hD hS ls (lv_sub hl [0, 1, 2] rfl)
    | succ n ih =>
      intro i r1 hin hok1 hres H locs hP hD hS ls hl
      refine lv_iload_n hx hb dX4_minute_2 rfl (lv_at hl 0 rfl) ?_
      refine lv_bipush (v := 6) hx hb dX4_minute_3 (by decide) ?_
      refine lv_icmp_ge (tgt := 20) hx hb dX4_minute_5 (by decide) (fun h9 => absurd h9 (nI_ge (a := i) (b := 6) (by omega) (by omega))) (fun _ => ?_)
      refine lv_aload_n hx hb dX4_minute_8 rfl (lv_at hl 1 rfl) ?_
      refine lv_iload_n hx hb dX4_minute_9 rfl (lv_at hl 0 rfl) ?_
      refine lv_iload_n hx hb dX4_minute_10 rfl (lv_at hl 2 rfl) ?_
      obtain ⟨r_12, er_12⟩ : ∃ z : rB, z = sndM r1 i y := ⟨_, rfl⟩
      have hm_13 := mX4_sends l D cI cQ cJ a r1 h (nI i) i rfl (by omega) y hok1
      rw [← er_12] at hm_13
      refine k_callv (wc := cM cI a r1 h) (w' := cM cI a r_12 h) (wn := cM cI a r_12 h) (va_runV (As := [.int (nI i), .int y]) (rest := []) ⟨hx, hb, hml, hown, hts⟩ (hm_13 _) (cwV 2 hts gX4_minute_X4_sends rfl rfl rfl (by decide +kernel) ⟨Nat.le_of_ble_eq_true rfl, Nat.le_of_ble_eq_true rfl⟩) (k_preV (wc := cM cI a r1 h) hE hK hP hD [0, 1, 2, 3, 4, 5] (by decide) rfl (ci := 4) (q0 := 0) rfl rfl [.int (nI i), .int y]) rfl rfl hl.1 rfl (lv_room (Nat.le_of_ble_eq_true rfl)) dX4_minute_11 ⟨Nat.zero_le _, Nat.zero_le _⟩) hP hD hS hA [0, 1, 2, 3, 4, 5] rfl rfl rfl (fun H locs hP hD hS => ?_)
      refine lv_iinc (v := nI (i + 1)) (lv' := [(2, .int (nI (i + 1))), (0, .ref (a 0)), (1, .int y)]) hx hb dX4_minute_14 hl (k := 0) rfl (nI_1 i) (by decide) rfl (fun ls hl => ?_)
      refine lv_goto (tgt := 2) hx hb dX4_minute_17 (by decide) ?_
      exact ih (i + 1) r_12 (by omega) (by rw [er_12]; exact (sndM_ok hok1 (by omega))) (by replace er_12 := er_12.symm; subst er_12; exact hres) H locs hP hD hS ls (lv_sub hl [0, 1, 2] rfl)
  exact Lp2 6 0 r (by omega) hok rfl _ _ hP hD hS ls (lv_sub hl [0, 1, 2] rfl)
