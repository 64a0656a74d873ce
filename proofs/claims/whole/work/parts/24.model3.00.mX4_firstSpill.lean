set_option maxHeartbeats 4000000 in
set_option maxRecDepth 100000 in
theorem mX4_firstSpill (l : Launch) (D : va_G) (cI cQ cJ : ClassId) (a : Nat → Nat) (r : rB) (h : Int64) (w : Int32) (hok : okS (r 0)) : Mi l D (tY cI cQ cJ) yX4_firstSpill wsX4_firstSpill ({ frames := 4, cells := 0, slots := 0, locals := 91 } : Room) [.ref (a 0), .int w] (cM cI a r h) (cM cI a (asd r) h) (fsV r w) := by
  refine M_of (cc := cX4_firstSpill) (maxL := 5) (ret := some .int) (Qc := fun A => va_Qi (fun (x : Int32) (_ : Unit) => x = fsV r w) (fun _ t => Wd D (cM cI a (asd r) h) t) A) (by decide) rfl (Nat.le_of_ble_eq_true rfl) ?_
  intro p e s m below meth c A ls hB hE hP hK hD hA hl
  obtain ⟨hx, hb, hr, hml, hts, hown, hlocks⟩ := hB
  have hS : va_S A s.heap s.heap [] := va_S.rf
  have hl : lv_has ls 5 [(0, .ref (a 0)), (1, .int w)] := hl
  have hinX4 : ∀ w ∈ u_ws RX4 TX4 12, w ∈ wsX4_firstSpill := by decide +kernel
  have fl13 := hts (.fieldLink RX4 13 "RoofDrainsModel" "aside" "[I") (by decide +kernel)
  have fl7 := hts (.fieldLink RX4 7 "RoofDrainsModel" "s" "[I") (by decide +kernel)
  refine lv_aload_n hx hb dX4_firstSpill_0 rfl (lv_at hl 0 rfl) ?_
  obtain ⟨r_1, er_1⟩ : ∃ z : rB, z = asd r := ⟨_, rfl⟩
  have hm_2 := mX4_putAside l D cI cQ cJ a r h
  rw [← er_1] at hm_2
  refine k_callv (wc := cM cI a r h) (w' := cM cI a r_1 h) (wn := cM cI a r_1 h) (va_runV (As := []) (rest := []) ⟨hx, hb, hml, hown, hts⟩ (hm_2 _) (cwV 0 hts gX4_firstSpill_X4_putAside rfl rfl rfl (by decide +kernel) ⟨Nat.le_of_ble_eq_true rfl, Nat.le_of_ble_eq_true rfl⟩) (k_preV (wc := cM cI a r h) hE hK hP hD [0, 1, 2, 3, 4, 5] (by decide) rfl (ci := 4) (q0 := 0) rfl rfl []) rfl rfl hl.1 rfl (lv_room (Nat.le_of_ble_eq_true rfl)) dX4_firstSpill_1 ⟨Nat.zero_le _, Nat.zero_le _⟩) hP hD hS hA [0, 1, 2, 3, 4, 5] rfl rfl rfl (fun H locs hP hD hS => ?_)
  refine lv_iconst (v := 0) hx hb dX4_firstSpill_4 (by decide) ?_
  refine lv_istore_n (lv' := [(2, .int 0), (0, .ref (a 0)), (1, .int w)]) hx hb dX4_firstSpill_5 rfl hl (by decide) rfl (fun ls hl => ?_)
  have J45 : ∀ (r3 : rB) (cnt : Nat), (r3, cnt) = fsL 60 0 r_1 → ∀ (H : Heap) (locs : List Loc), va_P D vwCl (cM cI a r3 h) H → va_D A (cM cI a r3 h) → va_S A s.heap H locs → ∀ (ls : Array Slot), lv_has ls 5 [(2, .int (nI cnt)), (1, .int w), (0, .ref (a 0))] → W p l e ({ frames := 4, cells := 0, slots := 0, locals := 91 } : Room) s m ([.ref (a 0), .int w] : List Value).toArray below meth c H locs 0 0 (MQ below (va_Qi (fun (x : Int32) (_ : Unit) => x = fsV r w) (fun _ t => Wd D (cM cI a (asd r) h) t) A) ([.ref (a 0), .int w] : List Value).toArray s 0 0 A) (F0 m 45 ls []) := by
    intro r3 cnt hJ H locs hP hD hS ls hl
    have hq1 : r3 = (fsL 60 0 (asd r)).1 := by have h8 := congrArg Prod.fst hJ; rw [er_1] at h8; exact h8
    have hq2 : cnt = (fsL 60 0 (asd r)).2 := by have h8 := congrArg Prod.snd hJ; rw [er_1] at h8; exact h8
    refine lv_iconst (v := (-1)) hx hb dX4_firstSpill_45 (by decide) ?_
    refine lv_topi (fun v3_3 ev3_3 => ?_)
    refine lv_istore_n (lv' := [(3, .int v3_3), (2, .int (nI cnt)), (1, .int w), (0, .ref (a 0))]) hx hb dX4_firstSpill_46 rfl hl (by decide) rfl (fun ls hl => ?_)
    refine lv_iconst (v := 5) hx hb dX4_firstSpill_47 (by decide) ?_
    refine lv_istore (lv' := [(4, .int 5), (3, .int v3_3), (2, .int (nI cnt)), (1, .int w), (0, .ref (a 0))]) hx hb dX4_firstSpill_48 hl (by decide) rfl (fun ls hl => ?_)
    have Ld : ∀ (n : Nat) (g4 fi : Int32), n ≤ 6 → g4 + 1 = nI n → fsG r3 n fi = fsG r3 6 (-1) → ∀ (H : Heap) (locs : List Loc), va_P D vwCl (cM cI a r3 h) H → va_D A (cM cI a r3 h) → va_S A s.heap H locs → ∀ (ls : Array Slot), lv_has ls 5 [(4, .int g4), (3, .int fi), (2, .int (nI cnt)), (1, .int w), (0, .ref (a 0))] → W p l e ({ frames := 4, cells := 0, slots := 0, locals := 91 } : Room) s m ([.ref (a 0), .int w] : List Value).toArray below meth c H locs 0 0 (MQ below (va_Qi (fun (x : Int32) (_ : Unit) => x = fsV r w) (fun _ t => Wd D (cM cI a (asd r) h) t) A) ([.ref (a 0), .int w] : List Value).toArray s 0 0 A) (F0 m 50 ls []) := by
      intro n
      induction n with
      | zero =>
        intro g4 fi hn hg4 hres H locs hP hD hS ls hl
        have hg := g_m1 hg4
        subst hg
        have hf : fi = fsG (fsL 60 0 (asd r)).1 6 (-1) := by rw [← hq1]; exact hres
        refine lv_iload hx hb dX4_firstSpill_50 (lv_at hl 0 rfl) ?_
        refine lv_if_lt (tgt := 93) hx hb dX4_firstSpill_52 (by decide) (fun _ => ?_) (fun h9 => absurd (by decide) h9)
        refine lv_aload_n hx hb dX4_firstSpill_93 rfl (lv_at hl 4 rfl) ?_
        obtain ⟨r_4, er_4⟩ : ∃ z : rB, z = tkb r3 := ⟨_, rfl⟩
        have hm_5 := mX4_takeBack l D cI cQ cJ a r3 h
        rw [← er_4] at hm_5
        refine k_callv (wc := cM cI a r3 h) (w' := cM cI a r_4 h) (wn := cM cI a r_4 h) (va_runV (As := []) (rest := []) ⟨hx, hb, hml, hown, hts⟩ (hm_5 _) (cwV 0 hts gX4_firstSpill_X4_takeBack rfl rfl rfl (by decide +kernel) ⟨Nat.le_of_ble_eq_true rfl, Nat.le_of_ble_eq_true rfl⟩) (k_preV (wc := cM cI a r3 h) hE hK hP hD [0, 1, 2, 3, 4, 5] (by decide) rfl (ci := 4) (q0 := 0) rfl rfl []) rfl rfl hl.1 rfl (lv_room (Nat.le_of_ble_eq_true rfl)) dX4_firstSpill_94 ⟨Nat.zero_le _, Nat.zero_le _⟩) hP hD hS hA [0, 1, 2, 3, 4, 5] rfl rfl rfl (fun H locs hP hD hS => ?_)
        refine lv_iload_n hx hb dX4_firstSpill_97 rfl (lv_at hl 1 rfl) ?_
        refine lv_iconst (v := (-1)) hx hb dX4_firstSpill_98 (by decide) ?_
        refine lv_icmp_eq (tgt := 106) hx hb dX4_firstSpill_99 (by decide) (fun c_6 => ?_) (fun c_6 => ?_)
        · skip
          refine lv_iload_n hx hb dX4_firstSpill_106 rfl (lv_at hl 1 rfl) ?_
          refine lv_goto (tgt := 111) hx hb dX4_firstSpill_107 (by decide) ?_
          have e9 : (r_4 : rB) = asd r := by rw [er_4, hq1]; exact tkb_of (Sm_fsL _ _ _)
          rw [e9] at hP
          exact k_iret hx hb hr hlocks hS hP dX4_firstSpill_111 (by simp only [fsV, ← hf, ← hq2, if_pos c_6, ↓reduceIte])
        · skip
          refine lv_iload_n hx hb dX4_firstSpill_102 rfl (lv_at hl 3 rfl) ?_
          refine lv_if_ne (tgt := 110) hx hb dX4_firstSpill_103 (by decide) (fun c_7 => ?_) (fun c_7 => ?_)
          · skip
            refine lv_iload_n hx hb dX4_firstSpill_110 rfl (lv_at hl 2 rfl) ?_
            have e9 : (r_4 : rB) = asd r := by rw [er_4, hq1]; exact tkb_of (Sm_fsL _ _ _)
            rw [e9] at hP
            exact k_iret hx hb hr hlocks hS hP dX4_firstSpill_111 (by simp only [fsV, ← hf, ← hq2, if_neg c_6, if_neg c_7, ↓reduceIte])
          · skip
            refine lv_iload_n hx hb dX4_firstSpill_106 rfl (lv_at hl 1 rfl) ?_
            refine lv_goto (tgt := 111) hx hb dX4_firstSpill_107 (by decide) ?_
            have e9 : (r_4 : rB) = asd r := by rw [er_4, hq1]; exact tkb_of (Sm_fsL _ _ _)
            rw [e9] at hP
            exact k_iret hx hb hr hlocks hS hP dX4_firstSpill_111 (by simp only [fsV, ← hf, ← hq2, if_neg c_6, if_pos c_7, ↓reduceIte])
      | succ n ih =>
        intro g4 fi hn hg4 hres H locs hP hD hS ls hl
        have hg := g_nI hg4
        subst hg
        refine lv_iload hx hb dX4_firstSpill_50 (lv_at hl 0 rfl) ?_
        refine lv_if_lt (tgt := 93) hx hb dX4_firstSpill_52 (by decide) (fun h9 => absurd h9 (nI_pos (by omega))) (fun _ => ?_)
        refine lv_aload_n hx hb dX4_firstSpill_55 rfl (lv_at hl 4 rfl) ?_
        refine lv_iload hx hb dX4_firstSpill_56 (lv_at hl 0 rfl) ?_
        refine lv_iconst (v := 5) hx hb dX4_firstSpill_58 (by decide) ?_
        refine k_calli (wc := cM cI a r3 h) (w' := cM cI a r3 h) (wn := cM cI a r3 h) (va_runV (As := [.int (nI n), .int 5]) (rest := []) ⟨hx, hb, hml, hown, hts⟩ (mX4_of l D cI cQ cJ a r3 h (nI n) n 5 rfl (by omega) (by omega) _) (cwV 2 hts gX4_firstSpill_X4_of rfl rfl rfl (by decide +kernel) ⟨Nat.le_of_ble_eq_true rfl, Nat.le_of_ble_eq_true rfl⟩) (k_preV (wc := cM cI a r3 h) hE hK hP hD [0, 1, 2, 3, 4, 5] (by decide) rfl (ci := 4) (q0 := 0) rfl rfl [.int (nI n), .int 5]) rfl rfl hl.1 rfl (lv_room (Nat.le_of_ble_eq_true rfl)) dX4_firstSpill_59 ⟨Nat.zero_le _, Nat.zero_le _⟩) hP hD hS hA [0, 1, 2, 3, 4, 5] rfl rfl rfl (fun H locs hP hD hS => ?_)
        refine lv_aload_n hx hb dX4_firstSpill_62 rfl (lv_at hl 4 rfl) ?_
        refine va_get (D := D) (ci := 4) (v := .ref (a 2)) (C := RX4) (T := TX4) (N := 12) hx hb hts hinX4 hown hK hP 0 rfl rfl 2 (by decide) fl13 (fun _ h9 => h9) rfl dX4_firstSpill_63 ?_
        refine lv_bipush (v := 33) hx hb dX4_firstSpill_66 (by decide) ?_
        refine lv_bipush (v := 7) hx hb dX4_firstSpill_68 (by decide) ?_
        refine lv_iload hx hb dX4_firstSpill_70 (lv_at hl 0 rfl) ?_
        refine lv_imul hx hb dX4_firstSpill_72 ?_
        refine lv_eqi (y := nI (7 * n)) (pk_mul 7 n) ?_
        refine lv_iadd hx hb dX4_firstSpill_73 ?_
        refine lv_eqi (y := nI (33 + (7 * n))) (nI_add 33 (7 * n)) ?_
        refine lv_iconst (v := 5) hx hb dX4_firstSpill_74 (by decide) ?_
        refine lv_iadd hx hb dX4_firstSpill_75 ?_
        refine lv_eqi (y := nI ((33 + 7 * n) + 5)) (nI_add (33 + 7 * n) 5) ?_
        refine k_iald (k := 33 + 7 * n + 5) (v := r3 1 (33 + 7 * n + 5)) hx hb hK hP 2 0 rfl rfl (vp_in_nI (n := 33 + 7 * n + 5) (by omega) (by omega)) (nI_clamp (n := 33 + 7 * n + 5) (by omega)) (rfl) dX4_firstSpill_76 ?_
        refine lv_icmp_le (tgt := 85) hx hb dX4_firstSpill_77 (by decide) (fun c_8 => ?_) (fun c_8 => ?_)
        · skip
          refine lv_iload_n hx hb dX4_firstSpill_85 rfl (lv_at hl 1 rfl) ?_
          refine lv_istore_n (lv' := [(3, .int fi), (4, .int (nI n)), (2, .int (nI cnt)), (1, .int w), (0, .ref (a 0))]) hx hb dX4_firstSpill_86 rfl hl (by decide) rfl (fun ls hl => ?_)
          refine lv_iinc (v := (nI n) + (-1)) (lv' := [(4, .int ((nI n) + (-1))), (3, .int fi), (2, .int (nI cnt)), (1, .int w), (0, .ref (a 0))]) hx hb dX4_firstSpill_87 hl (k := 1) rfl rfl (by decide) rfl (fun ls hl => ?_)
          refine lv_goto (tgt := 50) hx hb dX4_firstSpill_90 (by decide) ?_
          exact ih (nI n + (-1)) fi (by omega) (g_back n) (by rw [← hres]; simp only [fsG, if_pos c_8, ↓reduceIte]) H locs hP hD hS ls (lv_sub hl [0, 1, 2, 3, 4] rfl)
        · skip
          refine lv_iload hx hb dX4_firstSpill_80 (lv_at hl 0 rfl) ?_
          refine lv_goto (tgt := 86) hx hb dX4_firstSpill_82 (by decide) ?_
          refine lv_istore_n (lv' := [(3, .int (nI n)), (4, .int (nI n)), (2, .int (nI cnt)), (1, .int w), (0, .ref (a 0))]) hx hb dX4_firstSpill_86 rfl hl (by decide) rfl (fun ls hl => ?_)
          refine lv_iinc (v := (nI n) + (-1)) (lv' := [(4, .int ((nI n) + (-1))), (3, .int (nI n)), (2, .int (nI cnt)), (1, .int w), (0, .ref (a 0))]) hx hb dX4_firstSpill_87 hl (k := 1) rfl rfl (by decide) rfl (fun ls hl => ?_)
          refine lv_goto (tgt := 50) hx hb dX4_firstSpill_90 (by decide) ?_
          exact ih (nI n + (-1)) (nI n) (by omega) (g_back n) (by rw [← hres]; simp only [fsG, if_neg c_8, ↓reduceIte]) H locs hP hD hS ls (lv_sub hl [0, 1, 2, 3, 4] rfl)
    replace ev3_3 := ev3_3.symm; subst ev3_3
    exact Ld 6 5 (-1) (by omega) (by decide) rfl _ _ hP hD hS ls (lv_sub hl [0, 1, 2, 3, 4] rfl)
  have Lp6 : ∀ (n i : Nat) (r2 : rB), i + n = 60 → okS (r2 0) → fsL n i r2 = fsL 60 0 r_1 → ∀ (H : Heap) (locs : List Loc), va_P D vwCl (cM cI a r2 h) H → va_D A (cM cI a r2 h) → va_S A s.heap H locs → ∀ (ls : Array Slot), lv_has ls 5 [(2, .int (nI i)), (0, .ref (a 0)), (1, .int w)] → W p l e ({ frames := 4, cells := 0, slots := 0, locals := 91 } : Room) s m ([.ref (a 0), .int w] : List Value).toArray below meth c H locs 0 0 (MQ below (va_Qi (fun (x : Int32) (_ : Unit) => x = fsV r w) (fun _ t => Wd D (cM cI a (asd r) h) t) A) ([.ref (a 0), .int w] : List Value).toArray s 0 0 A) (F0 m 6 ls []) := by
    intro n
    induction n with
    | zero =>
      intro i r2 hin hok2 hres H locs hP hD hS ls hl
      refine lv_iload_n hx hb dX4_firstSpill_6 rfl (lv_at hl 0 rfl) ?_
      refine lv_bipush (v := 60) hx hb dX4_firstSpill_7 (by decide) ?_
      refine lv_icmp_ge (tgt := 45) hx hb dX4_firstSpill_9 (by decide) (fun _ => ?_) (fun h9 => absurd (nI_le (a := 60) (b := i) (by omega) (by omega)) h9)
      exact J45 r2 i hres _ _ hP hD hS ls (lv_sub hl [0, 2, 1] rfl)
    | succ n ih =>
      intro i r2 hin hok2 hres H locs hP hD hS ls hl
      refine lv_iload_n hx hb dX4_firstSpill_6 rfl (lv_at hl 0 rfl) ?_
      refine lv_bipush (v := 60) hx hb dX4_firstSpill_7 (by decide) ?_
      refine lv_icmp_ge (tgt := 45) hx hb dX4_firstSpill_9 (by decide) (fun h9 => absurd h9 (nI_ge (a := i) (b := 60) (by omega) (by omega))) (fun _ => ?_)
      refine lv_aload_n hx hb dX4_firstSpill_12 rfl (lv_at hl 1 rfl) ?_
      refine va_get (D := D) (ci := 4) (v := .ref (a 1)) (C := RX4) (T := TX4) (N := 12) hx hb hts hinX4 hown hK hP 0 rfl rfl 1 (by decide) fl7 (fun _ h9 => h9) rfl dX4_firstSpill_13 ?_
      refine lv_bipush (v := 7) hx hb dX4_firstSpill_16 (by decide) ?_
      refine k_iald (k := 7) (v := r2 0 7) hx hb hK hP 1 0 rfl rfl (vp_in_nI (n := 7) (by omega) (by omega)) (nI_clamp (n := 7) (by omega)) (rfl) dX4_firstSpill_18 ?_
      refine lv_aload_n hx hb dX4_firstSpill_19 rfl (lv_at hl 1 rfl) ?_
      refine va_get (D := D) (ci := 4) (v := .ref (a 2)) (C := RX4) (T := TX4) (N := 12) hx hb hts hinX4 hown hK hP 0 rfl rfl 2 (by decide) fl13 (fun _ h9 => h9) rfl dX4_firstSpill_20 ?_
      refine lv_bipush (v := 7) hx hb dX4_firstSpill_23 (by decide) ?_
      refine k_iald (k := 7) (v := r2 1 7) hx hb hK hP 2 0 rfl rfl (vp_in_nI (n := 7) (by omega) (by omega)) (nI_clamp (n := 7) (by omega)) (rfl) dX4_firstSpill_25 ?_
      refine lv_icmp_ne (tgt := 45) hx hb dX4_firstSpill_26 (by decide) (fun c_9 => ?_) (fun c_9 => ?_)
      · skip
        exact J45 r2 i (by rw [← hres]; simp only [fsL, if_neg c_9, ↓reduceIte]) _ _ hP hD hS ls (lv_sub hl [0, 2, 1] rfl)
      · skip
        refine lv_aload_n hx hb dX4_firstSpill_29 rfl (lv_at hl 1 rfl) ?_
        refine lv_aload_n hx hb dX4_firstSpill_30 rfl (lv_at hl 1 rfl) ?_
        refine va_get (D := D) (ci := 4) (v := .ref (a 1)) (C := RX4) (T := TX4) (N := 12) hx hb hts hinX4 hown hK hP 0 rfl rfl 1 (by decide) fl7 (fun _ h9 => h9) rfl dX4_firstSpill_31 ?_
        refine lv_iconst (v := 2) hx hb dX4_firstSpill_34 (by decide) ?_
        refine k_iald (k := 2) (v := r2 0 2) hx hb hK hP 1 0 rfl rfl (vp_in_nI (n := 2) (by omega) (by omega)) (nI_clamp (n := 2) (by omega)) (rfl) dX4_firstSpill_35 ?_
        obtain ⟨r_10, er_10⟩ : ∃ z : rB, z = minM r2 (r2 0 2) := ⟨_, rfl⟩
        have hm_11 := mX4_minute l D cI cQ cJ a r2 h (r2 0 2) hok2
        rw [← er_10] at hm_11
        refine k_callv (wc := cM cI a r2 h) (w' := cM cI a r_10 h) (wn := cM cI a r_10 h) (va_runV (As := [.int (r2 0 2)]) (rest := []) ⟨hx, hb, hml, hown, hts⟩ (hm_11 _) (cwV 1 hts gX4_firstSpill_X4_minute rfl rfl rfl (by decide +kernel) ⟨Nat.le_of_ble_eq_true rfl, Nat.le_of_ble_eq_true rfl⟩) (k_preV (wc := cM cI a r2 h) hE hK hP hD [0, 1, 2, 3, 4, 5] (by decide) rfl (ci := 4) (q0 := 0) rfl rfl [.int (r2 0 2)]) rfl rfl hl.1 rfl (lv_room (Nat.le_of_ble_eq_true rfl)) dX4_firstSpill_36 ⟨Nat.zero_le _, Nat.zero_le _⟩) hP hD hS hA [0, 1, 2, 3, 4, 5] rfl rfl rfl (fun H locs hP hD hS => ?_)
        refine lv_iinc (v := nI (i + 1)) (lv' := [(2, .int (nI (i + 1))), (0, .ref (a 0)), (1, .int w)]) hx hb dX4_firstSpill_39 hl (k := 0) rfl (nI_1 i) (by decide) rfl (fun ls hl => ?_)
        refine lv_goto (tgt := 6) hx hb dX4_firstSpill_42 (by decide) ?_
        exact ih (i + 1) r_10 (by omega) (by rw [er_10]; exact (minM_ok hok2)) (by replace er_10 := er_10.symm; subst er_10; replace er_1 := er_1.symm; subst er_1; rw [← hres]; simp only [fsL, if_pos c_9, ↓reduceIte]) H locs hP hD hS ls (lv_sub hl [0, 1, 2] rfl)
  exact Lp6 60 0 r_1 (by omega) (by rw [er_1]; exact (asd_ok hok)) rfl _ _ hP hD hS ls (lv_sub hl [0, 1, 2] rfl)
