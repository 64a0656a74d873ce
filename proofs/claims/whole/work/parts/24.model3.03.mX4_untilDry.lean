set_option maxHeartbeats 4000000 in
set_option maxRecDepth 100000 in
theorem mX4_untilDry (l : Launch) (D : va_G) (cI cQ cJ : ClassId) (a : Nat → Nat) (r : rB) (h : Int64) (hok : okS (r 0)) : Mi l D (tY cI cQ cJ) yX4_untilDry wsX4_untilDry ({ frames := 4, cells := 0, slots := 0, locals := 91 } : Room) [.ref (a 0)] (cM cI a r h) (cM cI a (asd r) h) (udV r) := by
  refine M_of (cc := cX4_untilDry) (maxL := 2) (ret := some .int) (Qc := fun A => va_Qi (fun (x : Int32) (_ : Unit) => x = udV r) (fun _ t => Wd D (cM cI a (asd r) h) t) A) (by decide) rfl (Nat.le_of_ble_eq_true rfl) ?_
  intro p e s m below meth c A ls hB hE hP hK hD hA hl
  obtain ⟨hx, hb, hr, hml, hts, hown, hlocks⟩ := hB
  have hS : va_S A s.heap s.heap [] := va_S.rf
  have hl : lv_has ls 2 [(0, .ref (a 0))] := hl
  refine lv_aload_n hx hb dX4_untilDry_0 rfl (lv_at hl 0 rfl) ?_
  obtain ⟨r_1, er_1⟩ : ∃ z : rB, z = asd r := ⟨_, rfl⟩
  have hm_2 := mX4_putAside l D cI cQ cJ a r h
  rw [← er_1] at hm_2
  refine k_callv (wc := cM cI a r h) (w' := cM cI a r_1 h) (wn := cM cI a r_1 h) (va_runV (As := []) (rest := []) ⟨hx, hb, hml, hown, hts⟩ (hm_2 _) (cwV 0 hts gX4_untilDry_X4_putAside rfl rfl rfl (by decide +kernel) ⟨Nat.le_of_ble_eq_true rfl, Nat.le_of_ble_eq_true rfl⟩) (k_preV (wc := cM cI a r h) hE hK hP hD [0, 1, 2, 3, 4, 5] (by decide) rfl (ci := 4) (q0 := 0) rfl rfl []) rfl rfl hl.1 rfl (lv_room (Nat.le_of_ble_eq_true rfl)) dX4_untilDry_1 ⟨Nat.zero_le _, Nat.zero_le _⟩) hP hD hS hA [0, 1, 2, 3, 4, 5] rfl rfl rfl (fun H locs hP hD hS => ?_)
  refine lv_iconst (v := 0) hx hb dX4_untilDry_4 (by decide) ?_
  refine lv_istore_n (lv' := [(1, .int 0), (0, .ref (a 0))]) hx hb dX4_untilDry_5 rfl hl (by decide) rfl (fun ls hl => ?_)
  have J31 : ∀ (r3 : rB) (cnt : Nat), (r3, cnt) = udL 301 0 r_1 → ∀ (H : Heap) (locs : List Loc), va_P D vwCl (cM cI a r3 h) H → va_D A (cM cI a r3 h) → va_S A s.heap H locs → ∀ (ls : Array Slot), lv_has ls 2 [(1, .int (nI cnt)), (0, .ref (a 0))] → W p l e ({ frames := 4, cells := 0, slots := 0, locals := 91 } : Room) s m ([.ref (a 0)] : List Value).toArray below meth c H locs 0 0 (MQ below (va_Qi (fun (x : Int32) (_ : Unit) => x = udV r) (fun _ t => Wd D (cM cI a (asd r) h) t) A) ([.ref (a 0)] : List Value).toArray s 0 0 A) (F0 m 31 ls []) := by
    intro r3 cnt hJ H locs hP hD hS ls hl
    have hq1 : r3 = (udL 301 0 (asd r)).1 := by have h8 := congrArg Prod.fst hJ; rw [er_1] at h8; exact h8
    have hq2 : cnt = (udL 301 0 (asd r)).2 := by have h8 := congrArg Prod.snd hJ; rw [er_1] at h8; exact h8
    refine lv_aload_n hx hb dX4_untilDry_31 rfl (lv_at hl 1 rfl) ?_
    obtain ⟨r_3, er_3⟩ : ∃ z : rB, z = tkb r3 := ⟨_, rfl⟩
    have hm_4 := mX4_takeBack l D cI cQ cJ a r3 h
    rw [← er_3] at hm_4
    refine k_callv (wc := cM cI a r3 h) (w' := cM cI a r_3 h) (wn := cM cI a r_3 h) (va_runV (As := []) (rest := []) ⟨hx, hb, hml, hown, hts⟩ (hm_4 _) (cwV 0 hts gX4_untilDry_X4_takeBack rfl rfl rfl (by decide +kernel) ⟨Nat.le_of_ble_eq_true rfl, Nat.le_of_ble_eq_true rfl⟩) (k_preV (wc := cM cI a r3 h) hE hK hP hD [0, 1, 2, 3, 4, 5] (by decide) rfl (ci := 4) (q0 := 0) rfl rfl []) rfl rfl hl.1 rfl (lv_room (Nat.le_of_ble_eq_true rfl)) dX4_untilDry_32 ⟨Nat.zero_le _, Nat.zero_le _⟩) hP hD hS hA [0, 1, 2, 3, 4, 5] rfl rfl rfl (fun H locs hP hD hS => ?_)
    refine lv_iload_n hx hb dX4_untilDry_35 rfl (lv_at hl 0 rfl) ?_
    refine lv_sipush (v := 300) hx hb dX4_untilDry_36 (by decide) ?_
    refine lv_icmp_le (tgt := 46) hx hb dX4_untilDry_39 (by decide) (fun c_5 => ?_) (fun c_5 => ?_)
    · skip
      refine lv_iload_n hx hb dX4_untilDry_46 rfl (lv_at hl 0 rfl) ?_
      have e9 : (r_3 : rB) = asd r := by rw [er_3, hq1]; exact tkb_of (Sm_udL _ _ _)
      rw [e9] at hP
      exact k_iret hx hb hr hlocks hS hP dX4_untilDry_47 (by simp only [udV, ← hq2, if_pos c_5, ↓reduceIte])
    · skip
      refine lv_iconst (v := (-1)) hx hb dX4_untilDry_42 (by decide) ?_
      refine lv_goto (tgt := 47) hx hb dX4_untilDry_43 (by decide) ?_
      have e9 : (r_3 : rB) = asd r := by rw [er_3, hq1]; exact tkb_of (Sm_udL _ _ _)
      rw [e9] at hP
      exact k_iret hx hb hr hlocks hS hP dX4_untilDry_47 (by simp only [udV, ← hq2, if_neg c_5, ↓reduceIte])
  have Lp6 : ∀ (n i : Nat) (r2 : rB), i + n = 301 → okS (r2 0) → udL n i r2 = udL 301 0 r_1 → ∀ (H : Heap) (locs : List Loc), va_P D vwCl (cM cI a r2 h) H → va_D A (cM cI a r2 h) → va_S A s.heap H locs → ∀ (ls : Array Slot), lv_has ls 2 [(1, .int (nI i)), (0, .ref (a 0))] → W p l e ({ frames := 4, cells := 0, slots := 0, locals := 91 } : Room) s m ([.ref (a 0)] : List Value).toArray below meth c H locs 0 0 (MQ below (va_Qi (fun (x : Int32) (_ : Unit) => x = udV r) (fun _ t => Wd D (cM cI a (asd r) h) t) A) ([.ref (a 0)] : List Value).toArray s 0 0 A) (F0 m 6 ls []) := by
    intro n
    induction n with
    | zero =>
      intro i r2 hin hok2 hres H locs hP hD hS ls hl
      refine lv_iload_n hx hb dX4_untilDry_6 rfl (lv_at hl 0 rfl) ?_
      refine lv_sipush (v := 300) hx hb dX4_untilDry_7 (by decide) ?_
      refine lv_icmp_gt (tgt := 31) hx hb dX4_untilDry_10 (by decide) (fun _ => ?_) (fun h9 => absurd (nI_lt (a := 300) (b := i) (by omega) (by omega)) h9)
      exact J31 r2 i hres _ _ hP hD hS ls (lv_sub hl [0, 1] rfl)
    | succ n ih =>
      intro i r2 hin hok2 hres H locs hP hD hS ls hl
      refine lv_iload_n hx hb dX4_untilDry_6 rfl (lv_at hl 0 rfl) ?_
      refine lv_sipush (v := 300) hx hb dX4_untilDry_7 (by decide) ?_
      refine lv_icmp_gt (tgt := 31) hx hb dX4_untilDry_10 (by decide) (fun h9 => absurd h9 (nI_nlt (a := 300) (b := i) (by omega) (by omega))) (fun _ => ?_)
      refine lv_aload_n hx hb dX4_untilDry_13 rfl (lv_at hl 1 rfl) ?_
      refine k_calli (wc := cM cI a r2 h) (w' := cM cI a r2 h) (wn := cM cI a r2 h) (va_runV (As := []) (rest := []) ⟨hx, hb, hml, hown, hts⟩ (mX4_stands l D cI cQ cJ a r2 h _) (cwV 0 hts gX4_untilDry_X4_stands rfl rfl rfl (by decide +kernel) ⟨Nat.le_of_ble_eq_true rfl, Nat.le_of_ble_eq_true rfl⟩) (k_preV (wc := cM cI a r2 h) hE hK hP hD [0, 1, 2, 3, 4, 5] (by decide) rfl (ci := 4) (q0 := 0) rfl rfl []) rfl rfl hl.1 rfl (lv_room (Nat.le_of_ble_eq_true rfl)) dX4_untilDry_14 ⟨Nat.zero_le _, Nat.zero_le _⟩) hP hD hS hA [0, 1, 2, 3, 4, 5] rfl rfl rfl (fun H locs hP hD hS => ?_)
      refine lv_if_le (tgt := 31) hx hb dX4_untilDry_17 (by decide) (fun c_6 => ?_) (fun c_6 => ?_)
      · skip
        exact J31 r2 i (by rw [← hres]; simp only [udL, if_pos c_6, ↓reduceIte]) _ _ hP hD hS ls (lv_sub hl [0, 1] rfl)
      · skip
        refine lv_aload_n hx hb dX4_untilDry_20 rfl (lv_at hl 1 rfl) ?_
        refine lv_iconst (v := 0) hx hb dX4_untilDry_21 (by decide) ?_
        obtain ⟨r_7, er_7⟩ : ∃ z : rB, z = minM r2 0 := ⟨_, rfl⟩
        have hm_8 := mX4_minute l D cI cQ cJ a r2 h 0 hok2
        rw [← er_7] at hm_8
        refine k_callv (wc := cM cI a r2 h) (w' := cM cI a r_7 h) (wn := cM cI a r_7 h) (va_runV (As := [.int 0]) (rest := []) ⟨hx, hb, hml, hown, hts⟩ (hm_8 _) (cwV 1 hts gX4_untilDry_X4_minute rfl rfl rfl (by decide +kernel) ⟨Nat.le_of_ble_eq_true rfl, Nat.le_of_ble_eq_true rfl⟩) (k_preV (wc := cM cI a r2 h) hE hK hP hD [0, 1, 2, 3, 4, 5] (by decide) rfl (ci := 4) (q0 := 0) rfl rfl [.int 0]) rfl rfl hl.1 rfl (lv_room (Nat.le_of_ble_eq_true rfl)) dX4_untilDry_22 ⟨Nat.zero_le _, Nat.zero_le _⟩) hP hD hS hA [0, 1, 2, 3, 4, 5] rfl rfl rfl (fun H locs hP hD hS => ?_)
        refine lv_iinc (v := nI (i + 1)) (lv' := [(1, .int (nI (i + 1))), (0, .ref (a 0))]) hx hb dX4_untilDry_25 hl (k := 0) rfl (nI_1 i) (by decide) rfl (fun ls hl => ?_)
        refine lv_goto (tgt := 6) hx hb dX4_untilDry_28 (by decide) ?_
        exact ih (i + 1) r_7 (by omega) (by rw [er_7]; exact (minM_ok hok2)) (by replace er_7 := er_7.symm; subst er_7; replace er_1 := er_1.symm; subst er_1; rw [← hres]; simp only [udL, if_neg c_6, ↓reduceIte]) H locs hP hD hS ls (lv_sub hl [0, 1] rfl)
  exact Lp6 301 0 r_1 (by omega) (by rw [er_1]; exact (asd_ok hok)) rfl _ _ hP hD hS ls (lv_sub hl [0, 1] rfl)
