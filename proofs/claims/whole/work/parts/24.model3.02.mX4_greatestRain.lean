set_option maxHeartbeats 4000000 in
set_option maxRecDepth 100000 in
theorem mX4_greatestRain (l : Launch) (D : va_G) (cI cQ cJ : ClassId) (a : Nat → Nat) (r : rB) (h : Int64) (mi : Int32) (k : Nat) (hk : mi.toNatClampNeg = k) (hok : okS (r 0)) : Mi l D (tY cI cQ cJ) yX4_greatestRain wsX4_greatestRain ({ frames := 5, cells := 0, slots := 0, locals := 115 } : Room) [.ref (a 0), .int mi] (cM cI a r h) (cM cI a (asd r) h) (grL r k 100) := by
  refine M_of (cc := cX4_greatestRain) (maxL := 4) (ret := some .int) (Qc := fun A => va_Qi (fun (x : Int32) (_ : Unit) => x = grL r k 100) (fun _ t => Wd D (cM cI a (asd r) h) t) A) (by decide) rfl (Nat.le_of_ble_eq_true rfl) ?_
  intro p e s m below meth c A ls hB hE hP hK hD hA hl
  obtain ⟨hx, hb, hr, hml, hts, hown, hlocks⟩ := hB
  have hS : va_S A s.heap s.heap [] := va_S.rf
  have hl : lv_has ls 4 [(0, .ref (a 0)), (1, .int mi)] := hl
  refine lv_bipush (v := 99) hx hb dX4_greatestRain_0 (by decide) ?_
  refine lv_istore_n (lv' := [(2, .int 99), (0, .ref (a 0)), (1, .int mi)]) hx hb dX4_greatestRain_2 rfl hl (by decide) rfl (fun ls hl => ?_)
  refine lv_iconst (v := 0) hx hb dX4_greatestRain_3 (by decide) ?_
  refine lv_istore_n (lv' := [(3, .int 0), (2, .int 99), (0, .ref (a 0)), (1, .int mi)]) hx hb dX4_greatestRain_4 rfl hl (by decide) rfl (fun ls hl => ?_)
  have Ld : ∀ (n : Nat) (r1 : rB) (g2 : Int32), n ≤ 100 → g2 + 1 = nI n → asd r1 = asd r → (n ≠ 100 → r1 = asd r) → okS (r1 0) → grL r k n = grL r k 100 → ∀ (H : Heap) (locs : List Loc), va_P D vwCl (cM cI a r1 h) H → va_D A (cM cI a r1 h) → va_S A s.heap H locs → ∀ (ls : Array Slot), lv_has ls 4 [(3, .int 0), (2, .int g2), (0, .ref (a 0)), (1, .int mi)] → W p l e ({ frames := 5, cells := 0, slots := 0, locals := 115 } : Room) s m ([.ref (a 0), .int mi] : List Value).toArray below meth c H locs 0 0 (MQ below (va_Qi (fun (x : Int32) (_ : Unit) => x = grL r k 100) (fun _ t => Wd D (cM cI a (asd r) h) t) A) ([.ref (a 0), .int mi] : List Value).toArray s 0 0 A) (F0 m 5 ls []) := by
    intro n
    induction n with
    | zero =>
      intro r1 g2 hn hg2 hasd hr1 hok1 hres H locs hP hD hS ls hl
      have hg := g_m1 hg2
      subst hg
      refine lv_iload_n hx hb dX4_greatestRain_5 rfl (lv_at hl 1 rfl) ?_
      refine lv_if_lt (tgt := 51) hx hb dX4_greatestRain_6 (by decide) (fun _ => ?_) (fun h9 => absurd (by decide) h9)
      refine lv_iload_n hx hb dX4_greatestRain_51 rfl (lv_at hl 1 rfl) ?_
      have e9 : r1 = asd r := hr1 (by omega)
      rw [e9] at hP
      exact k_iret hx hb hr hlocks hS hP dX4_greatestRain_52 hres
    | succ n ih =>
      intro r1 g2 hn hg2 hasd hr1 hok1 hres H locs hP hD hS ls hl
      have hg := g_nI hg2
      subst hg
      refine lv_iload_n hx hb dX4_greatestRain_5 rfl (lv_at hl 1 rfl) ?_
      refine lv_if_lt (tgt := 51) hx hb dX4_greatestRain_6 (by decide) (fun h9 => absurd h9 (nI_pos (by omega))) (fun _ => ?_)
      refine lv_iload_n hx hb dX4_greatestRain_9 rfl (lv_at hl 0 rfl) ?_
      refine lv_if_ne (tgt := 51) hx hb dX4_greatestRain_10 (by decide) (fun h9 => absurd (by decide) h9) (fun _ => ?_)
      refine lv_aload_n hx hb dX4_greatestRain_13 rfl (lv_at hl 2 rfl) ?_
      obtain ⟨r_1, er_1⟩ : ∃ z : rB, z = asd r1 := ⟨_, rfl⟩
      have hm_2 := mX4_putAside l D cI cQ cJ a r1 h
      rw [← er_1] at hm_2
      refine k_callv (wc := cM cI a r1 h) (w' := cM cI a r_1 h) (wn := cM cI a r_1 h) (va_runV (As := []) (rest := []) ⟨hx, hb, hml, hown, hts⟩ (hm_2 _) (cwV 0 hts gX4_greatestRain_X4_putAside rfl rfl rfl (by decide +kernel) ⟨Nat.le_of_ble_eq_true rfl, Nat.le_of_ble_eq_true rfl⟩) (k_preV (wc := cM cI a r1 h) hE hK hP hD [0, 1, 2, 3, 4, 5] (by decide) rfl (ci := 4) (q0 := 0) rfl rfl []) rfl rfl hl.1 rfl (lv_room (Nat.le_of_ble_eq_true rfl)) dX4_greatestRain_14 ⟨Nat.zero_le _, Nat.zero_le _⟩) hP hD hS hA [0, 1, 2, 3, 4, 5] rfl rfl rfl (fun H locs hP hD hS => ?_)
      refine lv_aload_n hx hb dX4_greatestRain_17 rfl (lv_at hl 2 rfl) ?_
      refine lv_iload_n hx hb dX4_greatestRain_18 rfl (lv_at hl 1 rfl) ?_
      refine lv_iload_n hx hb dX4_greatestRain_19 rfl (lv_at hl 3 rfl) ?_
      obtain ⟨r_3, er_3⟩ : ∃ z : rB, z = minsM k r_1 (nI n) := ⟨_, rfl⟩
      have hm_4 := mX4_rains l D cI cQ cJ a r_1 h (nI n) mi k hk (by rw [er_1]; exact (asd_ok hok1))
      rw [← er_3] at hm_4
      refine k_calli (wc := cM cI a r_1 h) (w' := cM cI a r_3 h) (wn := cM cI a r_3 h) (va_runV (As := [.int (nI n), .int mi]) (rest := []) ⟨hx, hb, hml, hown, hts⟩ (hm_4 _) (cwV 2 hts gX4_greatestRain_X4_rains rfl rfl rfl (by decide +kernel) ⟨Nat.le_of_ble_eq_true rfl, Nat.le_of_ble_eq_true rfl⟩) (k_preV (wc := cM cI a r_1 h) hE hK hP hD [0, 1, 2, 3, 4, 5] (by decide) rfl (ci := 4) (q0 := 0) rfl rfl [.int (nI n), .int mi]) rfl rfl hl.1 rfl (lv_room (Nat.le_of_ble_eq_true rfl)) dX4_greatestRain_20 ⟨Nat.zero_le _, Nat.zero_le _⟩) hP hD hS hA [0, 1, 2, 3, 4, 5] rfl rfl rfl (fun H locs hP hD hS => ?_)
      refine lv_if_ne (tgt := 30) hx hb dX4_greatestRain_23 (by decide) (fun c_5 => ?_) (fun c_5 => ?_)
      · skip
        refine lv_iconst (v := 0) hx hb dX4_greatestRain_30 (by decide) ?_
        refine lv_istore_n (lv' := [(3, .int 0), (2, .int (nI n)), (0, .ref (a 0)), (1, .int mi)]) hx hb dX4_greatestRain_31 rfl hl (by decide) rfl (fun ls hl => ?_)
        refine lv_aload_n hx hb dX4_greatestRain_32 rfl (lv_at hl 2 rfl) ?_
        obtain ⟨r_6, er_6⟩ : ∃ z : rB, z = tkb r_3 := ⟨_, rfl⟩
        have hm_7 := mX4_takeBack l D cI cQ cJ a r_3 h
        rw [← er_6] at hm_7
        refine k_callv (wc := cM cI a r_3 h) (w' := cM cI a r_6 h) (wn := cM cI a r_6 h) (va_runV (As := []) (rest := []) ⟨hx, hb, hml, hown, hts⟩ (hm_7 _) (cwV 0 hts gX4_greatestRain_X4_takeBack rfl rfl rfl (by decide +kernel) ⟨Nat.le_of_ble_eq_true rfl, Nat.le_of_ble_eq_true rfl⟩) (k_preV (wc := cM cI a r_3 h) hE hK hP hD [0, 1, 2, 3, 4, 5] (by decide) rfl (ci := 4) (q0 := 0) rfl rfl []) rfl rfl hl.1 rfl (lv_room (Nat.le_of_ble_eq_true rfl)) dX4_greatestRain_33 ⟨Nat.zero_le _, Nat.zero_le _⟩) hP hD hS hA [0, 1, 2, 3, 4, 5] rfl rfl rfl (fun H locs hP hD hS => ?_)
        refine lv_iload_n hx hb dX4_greatestRain_36 rfl (lv_at hl 1 rfl) ?_
        refine lv_iload_n hx hb dX4_greatestRain_37 rfl (lv_at hl 0 rfl) ?_
        refine lv_if_eq (tgt := 45) hx hb dX4_greatestRain_38 (by decide) (fun _ => ?_) (fun h9 => absurd (by decide) h9)
        refine lv_iconst (v := 1) hx hb dX4_greatestRain_45 (by decide) ?_
        refine lv_isub hx hb dX4_greatestRain_46 ?_
        refine lv_topi (fun v2_8 ev2_8 => ?_)
        refine lv_istore_n (lv' := [(2, .int v2_8), (3, .int 0), (0, .ref (a 0)), (1, .int mi)]) hx hb dX4_greatestRain_47 rfl hl (by decide) rfl (fun ls hl => ?_)
        refine lv_goto (tgt := 5) hx hb dX4_greatestRain_48 (by decide) ?_
        have e9 : (r_6 : rB) = asd r := by rw [er_6, er_3, er_1, tkb_of (Sm_mins _ _ _)]; exact hasd
        rw [er_3, er_1, hasd] at c_5
        exact ih r_6 v2_8 (by omega) (by rw [ev2_8]; exact g_back2 n) (by rw [e9]; exact asd_asd r) (fun _ => e9) (by rw [e9]; exact asd_ok hok) (by rw [← hres]; simp only [grL, if_neg c_5, ↓reduceIte]) H locs hP hD hS ls (lv_sub hl [1, 0, 2, 3] rfl)
      · skip
        refine lv_iconst (v := 1) hx hb dX4_greatestRain_26 (by decide) ?_
        refine lv_goto (tgt := 31) hx hb dX4_greatestRain_27 (by decide) ?_
        refine lv_istore_n (lv' := [(3, .int 1), (2, .int (nI n)), (0, .ref (a 0)), (1, .int mi)]) hx hb dX4_greatestRain_31 rfl hl (by decide) rfl (fun ls hl => ?_)
        refine lv_aload_n hx hb dX4_greatestRain_32 rfl (lv_at hl 2 rfl) ?_
        obtain ⟨r_9, er_9⟩ : ∃ z : rB, z = tkb r_3 := ⟨_, rfl⟩
        have hm_10 := mX4_takeBack l D cI cQ cJ a r_3 h
        rw [← er_9] at hm_10
        refine k_callv (wc := cM cI a r_3 h) (w' := cM cI a r_9 h) (wn := cM cI a r_9 h) (va_runV (As := []) (rest := []) ⟨hx, hb, hml, hown, hts⟩ (hm_10 _) (cwV 0 hts gX4_greatestRain_X4_takeBack rfl rfl rfl (by decide +kernel) ⟨Nat.le_of_ble_eq_true rfl, Nat.le_of_ble_eq_true rfl⟩) (k_preV (wc := cM cI a r_3 h) hE hK hP hD [0, 1, 2, 3, 4, 5] (by decide) rfl (ci := 4) (q0 := 0) rfl rfl []) rfl rfl hl.1 rfl (lv_room (Nat.le_of_ble_eq_true rfl)) dX4_greatestRain_33 ⟨Nat.zero_le _, Nat.zero_le _⟩) hP hD hS hA [0, 1, 2, 3, 4, 5] rfl rfl rfl (fun H locs hP hD hS => ?_)
        refine lv_iload_n hx hb dX4_greatestRain_36 rfl (lv_at hl 1 rfl) ?_
        refine lv_iload_n hx hb dX4_greatestRain_37 rfl (lv_at hl 0 rfl) ?_
        refine lv_if_eq (tgt := 45) hx hb dX4_greatestRain_38 (by decide) (fun h9 => absurd h9 (by decide)) (fun _ => ?_)
        refine lv_iconst (v := 0) hx hb dX4_greatestRain_41 (by decide) ?_
        refine lv_goto (tgt := 46) hx hb dX4_greatestRain_42 (by decide) ?_
        refine lv_isub hx hb dX4_greatestRain_46 ?_
        refine lv_topi (fun v2_11 ev2_11 => ?_)
        refine lv_istore_n (lv' := [(2, .int v2_11), (3, .int 1), (0, .ref (a 0)), (1, .int mi)]) hx hb dX4_greatestRain_47 rfl hl (by decide) rfl (fun ls hl => ?_)
        refine lv_goto (tgt := 5) hx hb dX4_greatestRain_48 (by decide) ?_
        refine lv_iload_n hx hb dX4_greatestRain_5 rfl (lv_at hl 0 rfl) ?_
        refine lv_if_lt (tgt := 51) hx hb dX4_greatestRain_6 (by decide) (fun h9 => absurd h9 (by rw [ev2_11, Int32.sub_zero]; exact nI_pos (by omega))) (fun _ => ?_)
        refine lv_iload_n hx hb dX4_greatestRain_9 rfl (lv_at hl 1 rfl) ?_
        refine lv_if_ne (tgt := 51) hx hb dX4_greatestRain_10 (by decide) (fun _ => ?_) (fun h9 => absurd h9 (by decide))
        refine lv_iload_n hx hb dX4_greatestRain_51 rfl (lv_at hl 0 rfl) ?_
        have e9 : (r_9 : rB) = asd r := by rw [er_9, er_3, er_1, tkb_of (Sm_mins _ _ _)]; exact hasd
        rw [e9] at hP
        rw [er_3, er_1, hasd] at c_5
        exact k_iret hx hb hr hlocks hS hP dX4_greatestRain_52 (by rw [← hres, ev2_11]; simp only [grL, if_pos c_5, ↓reduceIte, Int32.sub_zero])
  exact Ld 100 r 99 (by omega) (by decide) rfl (fun h9 => absurd rfl h9) hok rfl _ _ hP hD hS ls (lv_sub hl [0, 1, 2, 3] rfl)
