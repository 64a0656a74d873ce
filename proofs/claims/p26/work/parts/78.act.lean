set_option maxHeartbeats 4000000 in
set_option maxRecDepth 100000 in
theorem cL_act_ok (l : Launch) (hfl : l.stackTraces = false) (D : va_G) (cI cQ cJ : ClassId) (o s0 w0 : Nat) (x a a2 : Nat → Nat) (A : Nat → Nat → Nat) (r q t : rB) (n old held : Nat) (B : Nat → rB) (sv sw : Int32) (hok : svOk n old held) (K : Int) (hG : Gd K r) : YM l D (tY cI cQ cJ) yL_act wsL_act ({ frames := 7, cells := 14, slots := 91, locals := 150 } : Room) [.ref o, .int sv, .int sw] (WX cI cQ o s0 w0 x a a2 A r q t n (zF A n) (nI old) (nI held) B) (fun z9 u9 => (blk r sv sw ∧ z9 = -9 ∧ u9 = WX cI cQ o s0 w0 x a a2 A r q t n (zF A n) (nI old) (nI held) B) ∨ (¬ blk r sv sw ∧ z9 = (acC r sv sw).2 ∧ ∃ u : Nat → Nat → Nat, u9 = WX cI cQ o s0 w0 x a a2 u ((acC r sv sw).1) q t (kN n old held) (zF u (kN n old held)) (nI (kO old held)) (nI (kH held + 1)) (kB B old held r))) := by
  intro sz
  refine Y_of (cc := cL_act) (maxL := 6) (ret := some .int) (Qc := fun A9 => va_Qi (fun z9 u9 => (blk r sv sw ∧ z9 = -9 ∧ u9 = WX cI cQ o s0 w0 x a a2 A r q t n (zF A n) (nI old) (nI held) B) ∨ (¬ blk r sv sw ∧ z9 = (acC r sv sw).2 ∧ ∃ u : Nat → Nat → Nat, u9 = WX cI cQ o s0 w0 x a a2 u ((acC r sv sw).1) q t (kN n old held) (zF u (kN n old held)) (nI (kO old held)) (nI (kH held + 1)) (kB B old held r))) (fun u t => Wd D u t ∧ va_D A9 u) A9) (by decide) rfl (Nat.le_of_ble_eq_true rfl) ?_ sz
  intro p e s m below meth c A0 ls hB _ hE hX hP hK hD hA hl
  obtain ⟨hx, hb, hr, hml, hts, hown, hlocks⟩ := hB
  have hS : va_S A0 s.heap s.heap [] := va_S.rf
  have hl : lv_has ls 6 [(0, .ref o), (1, .int sv), (2, .int sw)] := hl
  refine lv_iload_n hx hb dL_act_0 rfl (lv_at hl 1 rfl) ?_
  refine lv_iconst (v := 4) hx hb dL_act_1 (by decide) ?_
  refine lv_ishr hx hb dL_act_2 ?_
  refine lv_bipush (v := 6) hx hb dL_act_3 (by decide) ?_
  refine k_calli (wc := ([] : va_W)) (w' := ([] : va_W)) (wn := (cO o [.ref (a 0), .ref (a2 0), .ref s0, .ref (x 0)]) ++ (cR cI a r) ++ (cR cI a2 q) ++ (cS cQ s0 w0 (zF A n) (nI old) (nI held)) ++ (cT cI x t) ++ (cZ cI A B n)) (va_runS (As := [.int (sv >>> (4 &&& 31)), .int 6]) (rest := []) ⟨hx, hb, hml, hown, hts⟩ (mL_low l D cI cQ cJ (sv >>> (4 &&& 31)) 6 (by decide) _) (va_cwS 2 hts gL_act_L_low rfl rfl rfl (by decide +kernel) ⟨Nat.le_of_ble_eq_true rfl, Nat.le_of_ble_eq_true rfl⟩) (k_preS (wc := ([] : va_W)) hE hK hP hD [] (by decide) rfl [.int (sv >>> (4 &&& 31)), .int 6]) rfl rfl hl.1 rfl (lv_room (Nat.le_of_ble_eq_true rfl)) dL_act_5 ⟨Nat.zero_le _, Nat.zero_le _⟩) hP hD hS hA [] rfl rfl (putAt_same _ _ _ rfl) (fun H locs hP hD hS => ?_)
  refine lv_istore_n (lv' := [(3, .int (lo (sv >>> (4 &&& 31)) 6)), (0, .ref o), (1, .int sv), (2, .int sw)]) hx hb dL_act_8 rfl hl (by decide) rfl (fun ls hl => ?_)
  refine lv_iload_n hx hb dL_act_9 rfl (lv_at hl 2 rfl) ?_
  refine lv_bipush (v := 15) hx hb dL_act_10 (by decide) ?_
  refine lv_iand hx hb dL_act_12 ?_
  have K68 : (acC r sv sw = aPl r sv sw) → (¬ blk r sv sw) → ∀ (H : Heap) (locs : List Loc), va_P D vwCl ((cO o [.ref (a 0), .ref (a2 0), .ref s0, .ref (x 0)]) ++ (cR cI a r) ++ (cR cI a2 q) ++ (cS cQ s0 w0 (zF A n) (nI old) (nI held)) ++ (cT cI x t) ++ (cZ cI A B n)) H → va_D A0 ((cO o [.ref (a 0), .ref (a2 0), .ref s0, .ref (x 0)]) ++ (cR cI a r) ++ (cR cI a2 q) ++ (cS cQ s0 w0 (zF A n) (nI old) (nI held)) ++ (cT cI x t) ++ (cZ cI A B n)) → va_S A0 s.heap H locs → ∀ (ls : Array Slot), lv_has ls 6 [(3, .int (lo (sv >>> (4 &&& 31)) 6)), (0, .ref o), (1, .int sv), (2, .int sw)] → W p l e ({ frames := 7, cells := 14, slots := 91, locals := 150 } : Room) s m ([.ref o, .int sv, .int sw] : List Value).toArray below meth c H locs 0 0 (MQ below (va_Qi (fun z9 u9 => (blk r sv sw ∧ z9 = -9 ∧ u9 = WX cI cQ o s0 w0 x a a2 A r q t n (zF A n) (nI old) (nI held) B) ∨ (¬ blk r sv sw ∧ z9 = (acC r sv sw).2 ∧ ∃ u : Nat → Nat → Nat, u9 = WX cI cQ o s0 w0 x a a2 u ((acC r sv sw).1) q t (kN n old held) (zF u (kN n old held)) (nI (kO old held)) (nI (kH held + 1)) (kB B old held r))) (fun u t => Wd D u t ∧ va_D A0 u) A0) ([.ref o, .int sv, .int sw] : List Value).toArray s 14 91 A0) (F0 m 68 ls []) := by
    intro hac hnb H locs hP hD hS ls hl
    refine lv_aload_n hx hb dL_act_68 rfl (lv_at hl 1 rfl) ?_
    refine lv_iload_n hx hb dL_act_69 rfl (lv_at hl 0 rfl) ?_
    refine lv_iload_n hx hb dL_act_70 rfl (lv_at hl 3 rfl) ?_
    refine lv_sipush (v := 201) hx hb dL_act_71 (by decide) ?_
    refine k_calli (wc := ([] : va_W)) (w' := ([] : va_W)) (wn := (cO o [.ref (a 0), .ref (a2 0), .ref s0, .ref (x 0)]) ++ (cR cI a r) ++ (cR cI a2 q) ++ (cS cQ s0 w0 (zF A n) (nI old) (nI held)) ++ (cT cI x t) ++ (cZ cI A B n)) (va_runS (As := [.int sw, .int 201]) (rest := [.int (lo (sv >>> (4 &&& 31)) 6), .ref o]) ⟨hx, hb, hml, hown, hts⟩ (mL_low l D cI cQ cJ sw 201 (by decide) _) (va_cwS 2 hts gL_act_L_low rfl rfl rfl (by decide +kernel) ⟨Nat.le_of_ble_eq_true rfl, Nat.le_of_ble_eq_true rfl⟩) (k_preS (wc := ([] : va_W)) hE hK hP hD [] (by decide) rfl [.int sw, .int 201]) rfl rfl hl.1 rfl (lv_room (Nat.le_of_ble_eq_true rfl)) dL_act_74 ⟨Nat.zero_le _, Nat.zero_le _⟩) hP hD hS hA [] rfl rfl (putAt_same _ _ _ rfl) (fun H locs hP hD hS => ?_)
    refine lv_iload_n hx hb dL_act_77 rfl (lv_at hl 3 rfl) ?_
    refine lv_bipush (v := 8) hx hb dL_act_78 (by decide) ?_
    refine lv_ishr hx hb dL_act_80 ?_
    refine lv_bipush (v := 10) hx hb dL_act_81 (by decide) ?_
    refine k_calli (wc := ([] : va_W)) (w' := ([] : va_W)) (wn := (cO o [.ref (a 0), .ref (a2 0), .ref s0, .ref (x 0)]) ++ (cR cI a r) ++ (cR cI a2 q) ++ (cS cQ s0 w0 (zF A n) (nI old) (nI held)) ++ (cT cI x t) ++ (cZ cI A B n)) (va_runS (As := [.int (sw >>> (8 &&& 31)), .int 10]) (rest := [.int (lo sw 201), .int (lo (sv >>> (4 &&& 31)) 6), .ref o]) ⟨hx, hb, hml, hown, hts⟩ (mL_low l D cI cQ cJ (sw >>> (8 &&& 31)) 10 (by decide) _) (va_cwS 2 hts gL_act_L_low rfl rfl rfl (by decide +kernel) ⟨Nat.le_of_ble_eq_true rfl, Nat.le_of_ble_eq_true rfl⟩) (k_preS (wc := ([] : va_W)) hE hK hP hD [] (by decide) rfl [.int (sw >>> (8 &&& 31)), .int 10]) rfl rfl hl.1 rfl (lv_room (Nat.le_of_ble_eq_true rfl)) dL_act_83 ⟨Nat.zero_le _, Nat.zero_le _⟩) hP hD hS hA [] rfl rfl (putAt_same _ _ _ rfl) (fun H locs hP hD hS => ?_)
    refine lv_iload_n hx hb dL_act_86 rfl (lv_at hl 3 rfl) ?_
    refine lv_bipush (v := 12) hx hb dL_act_87 (by decide) ?_
    refine lv_ishr hx hb dL_act_89 ?_
    refine lv_bipush (v := 6) hx hb dL_act_90 (by decide) ?_
    refine k_calli (wc := ([] : va_W)) (w' := ([] : va_W)) (wn := (cO o [.ref (a 0), .ref (a2 0), .ref s0, .ref (x 0)]) ++ (cR cI a r) ++ (cR cI a2 q) ++ (cS cQ s0 w0 (zF A n) (nI old) (nI held)) ++ (cT cI x t) ++ (cZ cI A B n)) (va_runS (As := [.int (sw >>> (12 &&& 31)), .int 6]) (rest := [.int (lo (sw >>> (8 &&& 31)) 10), .int (lo sw 201), .int (lo (sv >>> (4 &&& 31)) 6), .ref o]) ⟨hx, hb, hml, hown, hts⟩ (mL_low l D cI cQ cJ (sw >>> (12 &&& 31)) 6 (by decide) _) (va_cwS 2 hts gL_act_L_low rfl rfl rfl (by decide +kernel) ⟨Nat.le_of_ble_eq_true rfl, Nat.le_of_ble_eq_true rfl⟩) (k_preS (wc := ([] : va_W)) hE hK hP hD [] (by decide) rfl [.int (sw >>> (12 &&& 31)), .int 6]) rfl rfl hl.1 rfl (lv_room (Nat.le_of_ble_eq_true rfl)) dL_act_92 ⟨Nat.zero_le _, Nat.zero_le _⟩) hP hD hS hA [] rfl rfl (putAt_same _ _ _ rfl) (fun H locs hP hD hS => ?_)
    refine k_callY (wc := WX cI cQ o s0 w0 x a a2 A r q t n (zF A n) (nI old) (nI held) B) (va_runV (As := [.int (lo (sv >>> (4 &&& 31)) 6), .int (lo sw 201), .int (lo (sw >>> (8 &&& 31)) 10), .int (lo (sw >>> (12 &&& 31)) 6)]) (rest := []) ⟨hx, hb, hml, hown, hts⟩ (YM_of (xX3_plane l hfl D cI cQ cJ o s0 w0 x a a2 A r q t n old held B (lo (sv >>> (4 &&& 31)) 6) (lo sw 201) (lo (sw >>> (8 &&& 31)) 10) (lo (sw >>> (12 &&& 31)) 6) hok) (cpla0 sv sw) _) (cwV 4 hts gL_act_X3_plane rfl rfl rfl (by decide +kernel) ⟨Nat.le_of_ble_eq_true rfl, Nat.le_of_ble_eq_true rfl⟩) (k_preYV (wr := []) (wc := WX cI cQ o s0 w0 x a a2 A r q t n (zF A n) (nI old) (nI held) B) hE hX hK hP hD hS hA (ci := 3) (q0 := 0) rfl rfl [.int (lo (sv >>> (4 &&& 31)) 6), .int (lo sw 201), .int (lo (sw >>> (8 &&& 31)) 10), .int (lo (sw >>> (12 &&& 31)) 6)]) rfl rfl hl.1 rfl (lv_room (Nat.le_of_ble_eq_true rfl)) dL_act_95 ⟨Nat.le_of_ble_eq_true rfl, Nat.le_of_ble_eq_true rfl⟩) hP hD hS hA (fun z9 u9 hp9 H locs hP hD hS => ?_)
    obtain ⟨u, e1, e2⟩ := hp9
    exact y_iret hx hb hr hlocks hS hP hD dL_act_98 (Or.inr ⟨hnb, by rw [hac]; exact e1, u, by rw [hac]; exact e2⟩) (Nat.le_of_ble_eq_true rfl) (Nat.le_of_ble_eq_true rfl)
  have K99 : (acC r sv sw = aGu r sv sw) → (¬ blk r sv sw) → ∀ (H : Heap) (locs : List Loc), va_P D vwCl ((cO o [.ref (a 0), .ref (a2 0), .ref s0, .ref (x 0)]) ++ (cR cI a r) ++ (cR cI a2 q) ++ (cS cQ s0 w0 (zF A n) (nI old) (nI held)) ++ (cT cI x t) ++ (cZ cI A B n)) H → va_D A0 ((cO o [.ref (a 0), .ref (a2 0), .ref s0, .ref (x 0)]) ++ (cR cI a r) ++ (cR cI a2 q) ++ (cS cQ s0 w0 (zF A n) (nI old) (nI held)) ++ (cT cI x t) ++ (cZ cI A B n)) → va_S A0 s.heap H locs → ∀ (ls : Array Slot), lv_has ls 6 [(3, .int (lo (sv >>> (4 &&& 31)) 6)), (0, .ref o), (1, .int sv), (2, .int sw)] → W p l e ({ frames := 7, cells := 14, slots := 91, locals := 150 } : Room) s m ([.ref o, .int sv, .int sw] : List Value).toArray below meth c H locs 0 0 (MQ below (va_Qi (fun z9 u9 => (blk r sv sw ∧ z9 = -9 ∧ u9 = WX cI cQ o s0 w0 x a a2 A r q t n (zF A n) (nI old) (nI held) B) ∨ (¬ blk r sv sw ∧ z9 = (acC r sv sw).2 ∧ ∃ u : Nat → Nat → Nat, u9 = WX cI cQ o s0 w0 x a a2 u ((acC r sv sw).1) q t (kN n old held) (zF u (kN n old held)) (nI (kO old held)) (nI (kH held + 1)) (kB B old held r))) (fun u t => Wd D u t ∧ va_D A0 u) A0) ([.ref o, .int sv, .int sw] : List Value).toArray s 14 91 A0) (F0 m 99 ls []) := by
    intro hac hnb H locs hP hD hS ls hl
    refine lv_aload_n hx hb dL_act_99 rfl (lv_at hl 1 rfl) ?_
    refine lv_iload_n hx hb dL_act_100 rfl (lv_at hl 0 rfl) ?_
    refine lv_iconst (v := 1) hx hb dL_act_101 (by decide) ?_
    refine lv_iload_n hx hb dL_act_102 rfl (lv_at hl 3 rfl) ?_
    refine lv_iload_n hx hb dL_act_103 rfl (lv_at hl 3 rfl) ?_
    refine lv_bipush (v := 24) hx hb dL_act_104 (by decide) ?_
    refine lv_ishr hx hb dL_act_106 ?_
    refine lv_iconst (v := 1) hx hb dL_act_107 (by decide) ?_
    refine lv_iand hx hb dL_act_108 ?_
    have K120 : ∀ (H : Heap) (locs : List Loc), va_P D vwCl ((cO o [.ref (a 0), .ref (a2 0), .ref s0, .ref (x 0)]) ++ (cR cI a r) ++ (cR cI a2 q) ++ (cS cQ s0 w0 (zF A n) (nI old) (nI held)) ++ (cT cI x t) ++ (cZ cI A B n)) H → va_D A0 ((cO o [.ref (a 0), .ref (a2 0), .ref s0, .ref (x 0)]) ++ (cR cI a r) ++ (cR cI a2 q) ++ (cS cQ s0 w0 (zF A n) (nI old) (nI held)) ++ (cT cI x t) ++ (cZ cI A B n)) → va_S A0 s.heap H locs → ∀ (ls : Array Slot), lv_has ls 6 [(3, .int (lo (sv >>> (4 &&& 31)) 6)), (0, .ref o), (1, .int sv), (2, .int sw)] → W p l e ({ frames := 7, cells := 14, slots := 91, locals := 150 } : Room) s m ([.ref o, .int sv, .int sw] : List Value).toArray below meth c H locs 0 0 (MQ below (va_Qi (fun z9 u9 => (blk r sv sw ∧ z9 = -9 ∧ u9 = WX cI cQ o s0 w0 x a a2 A r q t n (zF A n) (nI old) (nI held) B) ∨ (¬ blk r sv sw ∧ z9 = (acC r sv sw).2 ∧ ∃ u : Nat → Nat → Nat, u9 = WX cI cQ o s0 w0 x a a2 u ((acC r sv sw).1) q t (kN n old held) (zF u (kN n old held)) (nI (kO old held)) (nI (kH held + 1)) (kB B old held r))) (fun u t => Wd D u t ∧ va_D A0 u) A0) ([.ref o, .int sv, .int sw] : List Value).toArray s 14 91 A0) (F0 m 120 ls [.int (gN sw), .int sw, .int 1, .int (lo (sv >>> (4 &&& 31)) 6), .ref o]) := by
      intro H locs hP hD hS ls hl
      refine k_calli (wc := ([] : va_W)) (w' := ([] : va_W)) (wn := (cO o [.ref (a 0), .ref (a2 0), .ref s0, .ref (x 0)]) ++ (cR cI a r) ++ (cR cI a2 q) ++ (cS cQ s0 w0 (zF A n) (nI old) (nI held)) ++ (cT cI x t) ++ (cZ cI A B n)) (va_runS (As := [.int sw, .int (gN sw)]) (rest := [.int 1, .int (lo (sv >>> (4 &&& 31)) 6), .ref o]) ⟨hx, hb, hml, hown, hts⟩ (mL_low l D cI cQ cJ sw (gN sw) (gN_ne sw) _) (va_cwS 2 hts gL_act_L_low rfl rfl rfl (by decide +kernel) ⟨Nat.le_of_ble_eq_true rfl, Nat.le_of_ble_eq_true rfl⟩) (k_preS (wc := ([] : va_W)) hE hK hP hD [] (by decide) rfl [.int sw, .int (gN sw)]) rfl rfl hl.1 rfl (lv_room (Nat.le_of_ble_eq_true rfl)) dL_act_120 ⟨Nat.zero_le _, Nat.zero_le _⟩) hP hD hS hA [] rfl rfl (putAt_same _ _ _ rfl) (fun H locs hP hD hS => ?_)
      refine lv_iadd hx hb dL_act_123 ?_
      refine lv_iload_n hx hb dL_act_124 rfl (lv_at hl 3 rfl) ?_
      refine lv_bipush (v := 9) hx hb dL_act_125 (by decide) ?_
      refine lv_ishr hx hb dL_act_127 ?_
      refine lv_bipush (v := 100) hx hb dL_act_128 (by decide) ?_
      refine k_calli (wc := ([] : va_W)) (w' := ([] : va_W)) (wn := (cO o [.ref (a 0), .ref (a2 0), .ref s0, .ref (x 0)]) ++ (cR cI a r) ++ (cR cI a2 q) ++ (cS cQ s0 w0 (zF A n) (nI old) (nI held)) ++ (cT cI x t) ++ (cZ cI A B n)) (va_runS (As := [.int (sw >>> (9 &&& 31)), .int 100]) (rest := [.int ((1 : Int32) + (lo sw (gN sw))), .int (lo (sv >>> (4 &&& 31)) 6), .ref o]) ⟨hx, hb, hml, hown, hts⟩ (mL_low l D cI cQ cJ (sw >>> (9 &&& 31)) 100 (by decide) _) (va_cwS 2 hts gL_act_L_low rfl rfl rfl (by decide +kernel) ⟨Nat.le_of_ble_eq_true rfl, Nat.le_of_ble_eq_true rfl⟩) (k_preS (wc := ([] : va_W)) hE hK hP hD [] (by decide) rfl [.int (sw >>> (9 &&& 31)), .int 100]) rfl rfl hl.1 rfl (lv_room (Nat.le_of_ble_eq_true rfl)) dL_act_130 ⟨Nat.zero_le _, Nat.zero_le _⟩) hP hD hS hA [] rfl rfl (putAt_same _ _ _ rfl) (fun H locs hP hD hS => ?_)
      refine k_callY (wc := WX cI cQ o s0 w0 x a a2 A r q t n (zF A n) (nI old) (nI held) B) (va_runV (As := [.int (lo (sv >>> (4 &&& 31)) 6), .int ((1 : Int32) + (lo sw (gN sw))), .int (lo (sw >>> (9 &&& 31)) 100)]) (rest := []) ⟨hx, hb, hml, hown, hts⟩ (YM_of (xX3_gutter l hfl D cI cQ cJ o s0 w0 x a a2 A r q t n old held B (lo (sv >>> (4 &&& 31)) 6) ((1 : Int32) + (lo sw (gN sw))) (lo (sw >>> (9 &&& 31)) 100) hok) (cgut0 sv sw) _) (cwV 3 hts gL_act_X3_gutter rfl rfl rfl (by decide +kernel) ⟨Nat.le_of_ble_eq_true rfl, Nat.le_of_ble_eq_true rfl⟩) (k_preYV (wr := []) (wc := WX cI cQ o s0 w0 x a a2 A r q t n (zF A n) (nI old) (nI held) B) hE hX hK hP hD hS hA (ci := 3) (q0 := 0) rfl rfl [.int (lo (sv >>> (4 &&& 31)) 6), .int ((1 : Int32) + (lo sw (gN sw))), .int (lo (sw >>> (9 &&& 31)) 100)]) rfl rfl hl.1 rfl (lv_room (Nat.le_of_ble_eq_true rfl)) dL_act_133 ⟨Nat.le_of_ble_eq_true rfl, Nat.le_of_ble_eq_true rfl⟩) hP hD hS hA (fun z9 u9 hp9 H locs hP hD hS => ?_)
      obtain ⟨u, e1, e2⟩ := hp9
      exact y_iret hx hb hr hlocks hS hP hD dL_act_136 (Or.inr ⟨hnb, by rw [hac]; exact e1, u, by rw [hac]; exact e2⟩) (Nat.le_of_ble_eq_true rfl) (Nat.le_of_ble_eq_true rfl)
    refine lv_if_ne (tgt := 117) hx hb dL_act_109 (by decide) (fun c_1 => ?_) (fun c_1 => ?_)
    · skip
      refine lv_sipush (v := 500) hx hb dL_act_117 (by decide) ?_
      refine lv_eqi (y := gN sw) (by unfold gN; rw [if_neg c_1]) ?_
      exact K120 H locs hP hD hS ls (lv_sub hl [0, 1, 2, 3] rfl)
    · skip
      refine lv_bipush (v := 60) hx hb dL_act_112 (by decide) ?_
      refine lv_goto (tgt := 120) hx hb dL_act_114 (by decide) ?_
      refine lv_eqi (y := gN sw) (by unfold gN; rw [if_pos c_1]) ?_
      exact K120 H locs hP hD hS ls (lv_sub hl [0, 1, 2, 3] rfl)
  have K181 : (acC r sv sw = aCl r sv) → (¬ blk r sv sw) → ∀ (H : Heap) (locs : List Loc), va_P D vwCl ((cO o [.ref (a 0), .ref (a2 0), .ref s0, .ref (x 0)]) ++ (cR cI a r) ++ (cR cI a2 q) ++ (cS cQ s0 w0 (zF A n) (nI old) (nI held)) ++ (cT cI x t) ++ (cZ cI A B n)) H → va_D A0 ((cO o [.ref (a 0), .ref (a2 0), .ref s0, .ref (x 0)]) ++ (cR cI a r) ++ (cR cI a2 q) ++ (cS cQ s0 w0 (zF A n) (nI old) (nI held)) ++ (cT cI x t) ++ (cZ cI A B n)) → va_S A0 s.heap H locs → ∀ (ls : Array Slot), lv_has ls 6 [(3, .int (lo (sv >>> (4 &&& 31)) 6)), (0, .ref o), (1, .int sv), (2, .int sw)] → W p l e ({ frames := 7, cells := 14, slots := 91, locals := 150 } : Room) s m ([.ref o, .int sv, .int sw] : List Value).toArray below meth c H locs 0 0 (MQ below (va_Qi (fun z9 u9 => (blk r sv sw ∧ z9 = -9 ∧ u9 = WX cI cQ o s0 w0 x a a2 A r q t n (zF A n) (nI old) (nI held) B) ∨ (¬ blk r sv sw ∧ z9 = (acC r sv sw).2 ∧ ∃ u : Nat → Nat → Nat, u9 = WX cI cQ o s0 w0 x a a2 u ((acC r sv sw).1) q t (kN n old held) (zF u (kN n old held)) (nI (kO old held)) (nI (kH held + 1)) (kB B old held r))) (fun u t => Wd D u t ∧ va_D A0 u) A0) ([.ref o, .int sv, .int sw] : List Value).toArray s 14 91 A0) (F0 m 181 ls []) := by
    intro hac hnb H locs hP hD hS ls hl
    refine lv_aload_n hx hb dL_act_181 rfl (lv_at hl 1 rfl) ?_
    refine lv_iload_n hx hb dL_act_182 rfl (lv_at hl 0 rfl) ?_
    refine k_callY (wc := WX cI cQ o s0 w0 x a a2 A r q t n (zF A n) (nI old) (nI held) B) (va_runV (As := [.int (lo (sv >>> (4 &&& 31)) 6)]) (rest := []) ⟨hx, hb, hml, hown, hts⟩ (YM_of (xX3_clean l hfl D cI cQ cJ o s0 w0 x a a2 A r q t n old held B (lo (sv >>> (4 &&& 31)) 6) hok) (ccle0 sv) _) (cwV 1 hts gL_act_X3_clean rfl rfl rfl (by decide +kernel) ⟨Nat.le_of_ble_eq_true rfl, Nat.le_of_ble_eq_true rfl⟩) (k_preYV (wr := []) (wc := WX cI cQ o s0 w0 x a a2 A r q t n (zF A n) (nI old) (nI held) B) hE hX hK hP hD hS hA (ci := 3) (q0 := 0) rfl rfl [.int (lo (sv >>> (4 &&& 31)) 6)]) rfl rfl hl.1 rfl (lv_room (Nat.le_of_ble_eq_true rfl)) dL_act_183 ⟨Nat.le_of_ble_eq_true rfl, Nat.le_of_ble_eq_true rfl⟩) hP hD hS hA (fun z9 u9 hp9 H locs hP hD hS => ?_)
    obtain ⟨u, e1, e2⟩ := hp9
    exact y_iret hx hb hr hlocks hS hP hD dL_act_186 (Or.inr ⟨hnb, by rw [hac]; exact e1, u, by rw [hac]; exact e2⟩) (Nat.le_of_ble_eq_true rfl) (Nat.le_of_ble_eq_true rfl)
  have K187 : (acC r sv sw = aSe r sw) → (¬ blk r sv sw) → ∀ (H : Heap) (locs : List Loc), va_P D vwCl ((cO o [.ref (a 0), .ref (a2 0), .ref s0, .ref (x 0)]) ++ (cR cI a r) ++ (cR cI a2 q) ++ (cS cQ s0 w0 (zF A n) (nI old) (nI held)) ++ (cT cI x t) ++ (cZ cI A B n)) H → va_D A0 ((cO o [.ref (a 0), .ref (a2 0), .ref s0, .ref (x 0)]) ++ (cR cI a r) ++ (cR cI a2 q) ++ (cS cQ s0 w0 (zF A n) (nI old) (nI held)) ++ (cT cI x t) ++ (cZ cI A B n)) → va_S A0 s.heap H locs → ∀ (ls : Array Slot), lv_has ls 6 [(3, .int (lo (sv >>> (4 &&& 31)) 6)), (0, .ref o), (1, .int sv), (2, .int sw)] → W p l e ({ frames := 7, cells := 14, slots := 91, locals := 150 } : Room) s m ([.ref o, .int sv, .int sw] : List Value).toArray below meth c H locs 0 0 (MQ below (va_Qi (fun z9 u9 => (blk r sv sw ∧ z9 = -9 ∧ u9 = WX cI cQ o s0 w0 x a a2 A r q t n (zF A n) (nI old) (nI held) B) ∨ (¬ blk r sv sw ∧ z9 = (acC r sv sw).2 ∧ ∃ u : Nat → Nat → Nat, u9 = WX cI cQ o s0 w0 x a a2 u ((acC r sv sw).1) q t (kN n old held) (zF u (kN n old held)) (nI (kO old held)) (nI (kH held + 1)) (kB B old held r))) (fun u t => Wd D u t ∧ va_D A0 u) A0) ([.ref o, .int sv, .int sw] : List Value).toArray s 14 91 A0) (F0 m 187 ls []) := by
    intro hac hnb H locs hP hD hS ls hl
    refine lv_iload_n hx hb dL_act_187 rfl (lv_at hl 3 rfl) ?_
    refine lv_iconst (v := 3) hx hb dL_act_188 (by decide) ?_
    refine k_calli (wc := ([] : va_W)) (w' := ([] : va_W)) (wn := (cO o [.ref (a 0), .ref (a2 0), .ref s0, .ref (x 0)]) ++ (cR cI a r) ++ (cR cI a2 q) ++ (cS cQ s0 w0 (zF A n) (nI old) (nI held)) ++ (cT cI x t) ++ (cZ cI A B n)) (va_runS (As := [.int sw, .int 3]) (rest := []) ⟨hx, hb, hml, hown, hts⟩ (mL_low l D cI cQ cJ sw 3 (by decide) _) (va_cwS 2 hts gL_act_L_low rfl rfl rfl (by decide +kernel) ⟨Nat.le_of_ble_eq_true rfl, Nat.le_of_ble_eq_true rfl⟩) (k_preS (wc := ([] : va_W)) hE hK hP hD [] (by decide) rfl [.int sw, .int 3]) rfl rfl hl.1 rfl (lv_room (Nat.le_of_ble_eq_true rfl)) dL_act_189 ⟨Nat.zero_le _, Nat.zero_le _⟩) hP hD hS hA [] rfl rfl (putAt_same _ _ _ rfl) (fun H locs hP hD hS => ?_)
    refine lv_istore (lv' := [(5, .int (lo sw 3)), (3, .int (lo (sv >>> (4 &&& 31)) 6)), (0, .ref o), (1, .int sv), (2, .int sw)]) hx hb dL_act_192 hl (by decide) rfl (fun ls hl => ?_)
    refine lv_aload_n hx hb dL_act_194 rfl (lv_at hl 2 rfl) ?_
    refine lv_iload hx hb dL_act_195 (lv_at hl 0 rfl) ?_
    refine lv_iload hx hb dL_act_197 (lv_at hl 0 rfl) ?_
    have K253 : ∀ (H : Heap) (locs : List Loc), va_P D vwCl ((cO o [.ref (a 0), .ref (a2 0), .ref s0, .ref (x 0)]) ++ (cR cI a r) ++ (cR cI a2 q) ++ (cS cQ s0 w0 (zF A n) (nI old) (nI held)) ++ (cT cI x t) ++ (cZ cI A B n)) H → va_D A0 ((cO o [.ref (a 0), .ref (a2 0), .ref s0, .ref (x 0)]) ++ (cR cI a r) ++ (cR cI a2 q) ++ (cS cQ s0 w0 (zF A n) (nI old) (nI held)) ++ (cT cI x t) ++ (cZ cI A B n)) → va_S A0 s.heap H locs → ∀ (ls : Array Slot), lv_has ls 6 [(5, .int (lo sw 3)), (3, .int (lo (sv >>> (4 &&& 31)) 6)), (0, .ref o), (1, .int sv), (2, .int sw)] → W p l e ({ frames := 7, cells := 14, slots := 91, locals := 150 } : Room) s m ([.ref o, .int sv, .int sw] : List Value).toArray below meth c H locs 0 0 (MQ below (va_Qi (fun z9 u9 => (blk r sv sw ∧ z9 = -9 ∧ u9 = WX cI cQ o s0 w0 x a a2 A r q t n (zF A n) (nI old) (nI held) B) ∨ (¬ blk r sv sw ∧ z9 = (acC r sv sw).2 ∧ ∃ u : Nat → Nat → Nat, u9 = WX cI cQ o s0 w0 x a a2 u ((acC r sv sw).1) q t (kN n old held) (zF u (kN n old held)) (nI (kO old held)) (nI (kH held + 1)) (kB B old held r))) (fun u t => Wd D u t ∧ va_D A0 u) A0) ([.ref o, .int sv, .int sw] : List Value).toArray s 14 91 A0) (F0 m 253 ls [.int (sV sw), .int (lo sw 3), .ref o]) := by
      intro H locs hP hD hS ls hl
      refine k_callY (wc := WX cI cQ o s0 w0 x a a2 A r q t n (zF A n) (nI old) (nI held) B) (va_runV (As := [.int (lo sw 3), .int (sV sw)]) (rest := []) ⟨hx, hb, hml, hown, hts⟩ (YM_of (xX3_set l hfl D cI cQ cJ o s0 w0 x a a2 A r q t n old held B (lo sw 3) (sV sw) hok) (cset0 sw) _) (cwV 2 hts gL_act_X3_set rfl rfl rfl (by decide +kernel) ⟨Nat.le_of_ble_eq_true rfl, Nat.le_of_ble_eq_true rfl⟩) (k_preYV (wr := []) (wc := WX cI cQ o s0 w0 x a a2 A r q t n (zF A n) (nI old) (nI held) B) hE hX hK hP hD hS hA (ci := 3) (q0 := 0) rfl rfl [.int (lo sw 3), .int (sV sw)]) rfl rfl hl.1 rfl (lv_room (Nat.le_of_ble_eq_true rfl)) dL_act_253 ⟨Nat.le_of_ble_eq_true rfl, Nat.le_of_ble_eq_true rfl⟩) hP hD hS hA (fun z9 u9 hp9 H locs hP hD hS => ?_)
      obtain ⟨u, e1, e2⟩ := hp9
      exact y_iret hx hb hr hlocks hS hP hD dL_act_256 (Or.inr ⟨hnb, by rw [hac]; exact e1, u, by rw [hac]; exact e2⟩) (Nat.le_of_ble_eq_true rfl) (Nat.le_of_ble_eq_true rfl)
    refine lv_if_ne (tgt := 228) hx hb dL_act_199 (by decide) (fun c_2 => ?_) (fun c_2 => ?_)
    · skip
      refine lv_iload hx hb dL_act_228 (lv_at hl 0 rfl) ?_
      refine lv_iconst (v := 1) hx hb dL_act_230 (by decide) ?_
      refine lv_icmp_ne (tgt := 245) hx hb dL_act_231 (by decide) (fun c_3 => ?_) (fun c_3 => ?_)
      · skip
        refine lv_iload_n hx hb dL_act_245 rfl (lv_at hl 4 rfl) ?_
        refine lv_iconst (v := 2) hx hb dL_act_246 (by decide) ?_
        refine lv_ishr hx hb dL_act_247 ?_
        refine lv_bipush (v := 100) hx hb dL_act_248 (by decide) ?_
        refine k_calli (wc := ([] : va_W)) (w' := ([] : va_W)) (wn := (cO o [.ref (a 0), .ref (a2 0), .ref s0, .ref (x 0)]) ++ (cR cI a r) ++ (cR cI a2 q) ++ (cS cQ s0 w0 (zF A n) (nI old) (nI held)) ++ (cT cI x t) ++ (cZ cI A B n)) (va_runS (As := [.int (sw >>> (2 &&& 31)), .int 100]) (rest := [.int (lo sw 3), .ref o]) ⟨hx, hb, hml, hown, hts⟩ (mL_low l D cI cQ cJ (sw >>> (2 &&& 31)) 100 (by decide) _) (va_cwS 2 hts gL_act_L_low rfl rfl rfl (by decide +kernel) ⟨Nat.le_of_ble_eq_true rfl, Nat.le_of_ble_eq_true rfl⟩) (k_preS (wc := ([] : va_W)) hE hK hP hD [] (by decide) rfl [.int (sw >>> (2 &&& 31)), .int 100]) rfl rfl hl.1 rfl (lv_room (Nat.le_of_ble_eq_true rfl)) dL_act_250 ⟨Nat.zero_le _, Nat.zero_le _⟩) hP hD hS hA [] rfl rfl (putAt_same _ _ _ rfl) (fun H locs hP hD hS => ?_)
        refine lv_eqi (y := sV sw) (by unfold sV; simp only [if_neg c_2, if_neg c_3, ↓reduceIte]) ?_
        exact K253 H locs hP hD hS ls (lv_sub hl [0, 1, 2, 3, 4] rfl)
      · skip
        refine lv_iload_n hx hb dL_act_234 rfl (lv_at hl 4 rfl) ?_
        refine lv_iconst (v := 2) hx hb dL_act_235 (by decide) ?_
        refine lv_ishr hx hb dL_act_236 ?_
        refine lv_bipush (v := 51) hx hb dL_act_237 (by decide) ?_
        refine k_calli (wc := ([] : va_W)) (w' := ([] : va_W)) (wn := (cO o [.ref (a 0), .ref (a2 0), .ref s0, .ref (x 0)]) ++ (cR cI a r) ++ (cR cI a2 q) ++ (cS cQ s0 w0 (zF A n) (nI old) (nI held)) ++ (cT cI x t) ++ (cZ cI A B n)) (va_runS (As := [.int (sw >>> (2 &&& 31)), .int 51]) (rest := [.int (lo sw 3), .ref o]) ⟨hx, hb, hml, hown, hts⟩ (mL_low l D cI cQ cJ (sw >>> (2 &&& 31)) 51 (by decide) _) (va_cwS 2 hts gL_act_L_low rfl rfl rfl (by decide +kernel) ⟨Nat.le_of_ble_eq_true rfl, Nat.le_of_ble_eq_true rfl⟩) (k_preS (wc := ([] : va_W)) hE hK hP hD [] (by decide) rfl [.int (sw >>> (2 &&& 31)), .int 51]) rfl rfl hl.1 rfl (lv_room (Nat.le_of_ble_eq_true rfl)) dL_act_239 ⟨Nat.zero_le _, Nat.zero_le _⟩) hP hD hS hA [] rfl rfl (putAt_same _ _ _ rfl) (fun H locs hP hD hS => ?_)
        refine lv_goto (tgt := 253) hx hb dL_act_242 (by decide) ?_
        refine lv_eqi (y := sV sw) (by unfold sV; simp only [if_neg c_2, if_pos c_3, ↓reduceIte]) ?_
        exact K253 H locs hP hD hS ls (lv_sub hl [0, 1, 2, 3, 4] rfl)
    · skip
      refine lv_iload_n hx hb dL_act_202 rfl (lv_at hl 4 rfl) ?_
      refine lv_iconst (v := 2) hx hb dL_act_203 (by decide) ?_
      refine lv_ishr hx hb dL_act_204 ?_
      refine lv_iload_n hx hb dL_act_205 rfl (lv_at hl 4 rfl) ?_
      refine lv_bipush (v := 20) hx hb dL_act_206 (by decide) ?_
      refine lv_ishr hx hb dL_act_208 ?_
      refine lv_iconst (v := 1) hx hb dL_act_209 (by decide) ?_
      refine lv_iand hx hb dL_act_210 ?_
      refine lv_if_ne (tgt := 219) hx hb dL_act_211 (by decide) (fun c_4 => ?_) (fun c_4 => ?_)
      · skip
        refine lv_sipush (v := 601) hx hb dL_act_219 (by decide) ?_
        refine k_calli (wc := ([] : va_W)) (w' := ([] : va_W)) (wn := (cO o [.ref (a 0), .ref (a2 0), .ref s0, .ref (x 0)]) ++ (cR cI a r) ++ (cR cI a2 q) ++ (cS cQ s0 w0 (zF A n) (nI old) (nI held)) ++ (cT cI x t) ++ (cZ cI A B n)) (va_runS (As := [.int (sw >>> (2 &&& 31)), .int 601]) (rest := [.int (lo sw 3), .ref o]) ⟨hx, hb, hml, hown, hts⟩ (mL_low l D cI cQ cJ (sw >>> (2 &&& 31)) 601 (by decide) _) (va_cwS 2 hts gL_act_L_low rfl rfl rfl (by decide +kernel) ⟨Nat.le_of_ble_eq_true rfl, Nat.le_of_ble_eq_true rfl⟩) (k_preS (wc := ([] : va_W)) hE hK hP hD [] (by decide) rfl [.int (sw >>> (2 &&& 31)), .int 601]) rfl rfl hl.1 rfl (lv_room (Nat.le_of_ble_eq_true rfl)) dL_act_222 ⟨Nat.zero_le _, Nat.zero_le _⟩) hP hD hS hA [] rfl rfl (putAt_same _ _ _ rfl) (fun H locs hP hD hS => ?_)
        refine lv_goto (tgt := 253) hx hb dL_act_225 (by decide) ?_
        refine lv_eqi (y := sV sw) (by unfold sV; simp only [if_pos c_2, if_neg c_4, ↓reduceIte]) ?_
        exact K253 H locs hP hD hS ls (lv_sub hl [0, 1, 2, 3, 4] rfl)
      · skip
        refine lv_bipush (v := 60) hx hb dL_act_214 (by decide) ?_
        refine lv_goto (tgt := 222) hx hb dL_act_216 (by decide) ?_
        refine k_calli (wc := ([] : va_W)) (w' := ([] : va_W)) (wn := (cO o [.ref (a 0), .ref (a2 0), .ref s0, .ref (x 0)]) ++ (cR cI a r) ++ (cR cI a2 q) ++ (cS cQ s0 w0 (zF A n) (nI old) (nI held)) ++ (cT cI x t) ++ (cZ cI A B n)) (va_runS (As := [.int (sw >>> (2 &&& 31)), .int 60]) (rest := [.int (lo sw 3), .ref o]) ⟨hx, hb, hml, hown, hts⟩ (mL_low l D cI cQ cJ (sw >>> (2 &&& 31)) 60 (by decide) _) (va_cwS 2 hts gL_act_L_low rfl rfl rfl (by decide +kernel) ⟨Nat.le_of_ble_eq_true rfl, Nat.le_of_ble_eq_true rfl⟩) (k_preS (wc := ([] : va_W)) hE hK hP hD [] (by decide) rfl [.int (sw >>> (2 &&& 31)), .int 60]) rfl rfl hl.1 rfl (lv_room (Nat.le_of_ble_eq_true rfl)) dL_act_222 ⟨Nat.zero_le _, Nat.zero_le _⟩) hP hD hS hA [] rfl rfl (putAt_same _ _ _ rfl) (fun H locs hP hD hS => ?_)
        refine lv_goto (tgt := 253) hx hb dL_act_225 (by decide) ?_
        refine lv_eqi (y := sV sw) (by unfold sV; simp only [if_pos c_2, if_pos c_4, ↓reduceIte]) ?_
        exact K253 H locs hP hD hS ls (lv_sub hl [0, 1, 2, 3, 4] rfl)
  have K257 : (acC r sv sw = aWk r sw) → (¬ blk r sv sw) → ∀ (H : Heap) (locs : List Loc), va_P D vwCl ((cO o [.ref (a 0), .ref (a2 0), .ref s0, .ref (x 0)]) ++ (cR cI a r) ++ (cR cI a2 q) ++ (cS cQ s0 w0 (zF A n) (nI old) (nI held)) ++ (cT cI x t) ++ (cZ cI A B n)) H → va_D A0 ((cO o [.ref (a 0), .ref (a2 0), .ref s0, .ref (x 0)]) ++ (cR cI a r) ++ (cR cI a2 q) ++ (cS cQ s0 w0 (zF A n) (nI old) (nI held)) ++ (cT cI x t) ++ (cZ cI A B n)) → va_S A0 s.heap H locs → ∀ (ls : Array Slot), lv_has ls 6 [(3, .int (lo (sv >>> (4 &&& 31)) 6)), (0, .ref o), (1, .int sv), (2, .int sw)] → W p l e ({ frames := 7, cells := 14, slots := 91, locals := 150 } : Room) s m ([.ref o, .int sv, .int sw] : List Value).toArray below meth c H locs 0 0 (MQ below (va_Qi (fun z9 u9 => (blk r sv sw ∧ z9 = -9 ∧ u9 = WX cI cQ o s0 w0 x a a2 A r q t n (zF A n) (nI old) (nI held) B) ∨ (¬ blk r sv sw ∧ z9 = (acC r sv sw).2 ∧ ∃ u : Nat → Nat → Nat, u9 = WX cI cQ o s0 w0 x a a2 u ((acC r sv sw).1) q t (kN n old held) (zF u (kN n old held)) (nI (kO old held)) (nI (kH held + 1)) (kB B old held r))) (fun u t => Wd D u t ∧ va_D A0 u) A0) ([.ref o, .int sv, .int sw] : List Value).toArray s 14 91 A0) (F0 m 257 ls []) := by
    intro hac hnb H locs hP hD hS ls hl
    refine lv_aload_n hx hb dL_act_257 rfl (lv_at hl 1 rfl) ?_
    refine lv_iconst (v := 1) hx hb dL_act_258 (by decide) ?_
    refine lv_iload_n hx hb dL_act_259 rfl (lv_at hl 3 rfl) ?_
    refine lv_bipush (v := 20) hx hb dL_act_260 (by decide) ?_
    refine k_calli (wc := ([] : va_W)) (w' := ([] : va_W)) (wn := (cO o [.ref (a 0), .ref (a2 0), .ref s0, .ref (x 0)]) ++ (cR cI a r) ++ (cR cI a2 q) ++ (cS cQ s0 w0 (zF A n) (nI old) (nI held)) ++ (cT cI x t) ++ (cZ cI A B n)) (va_runS (As := [.int sw, .int 20]) (rest := [.int 1, .ref o]) ⟨hx, hb, hml, hown, hts⟩ (mL_low l D cI cQ cJ sw 20 (by decide) _) (va_cwS 2 hts gL_act_L_low rfl rfl rfl (by decide +kernel) ⟨Nat.le_of_ble_eq_true rfl, Nat.le_of_ble_eq_true rfl⟩) (k_preS (wc := ([] : va_W)) hE hK hP hD [] (by decide) rfl [.int sw, .int 20]) rfl rfl hl.1 rfl (lv_room (Nat.le_of_ble_eq_true rfl)) dL_act_262 ⟨Nat.zero_le _, Nat.zero_le _⟩) hP hD hS hA [] rfl rfl (putAt_same _ _ _ rfl) (fun H locs hP hD hS => ?_)
    refine lv_iadd hx hb dL_act_265 ?_
    refine k_callY (wc := WX cI cQ o s0 w0 x a a2 A r q t n (zF A n) (nI old) (nI held) B) (va_runV (As := [.int ((1 : Int32) + (lo sw 20))]) (rest := []) ⟨hx, hb, hml, hown, hts⟩ (YM_of (xX3_weeks l hfl D cI cQ cJ o s0 w0 x a a2 A r q t n old held B ((1 : Int32) + (lo sw 20)) hok) (cwks0 sw) _) (cwV 1 hts gL_act_X3_weeks rfl rfl rfl (by decide +kernel) ⟨Nat.le_of_ble_eq_true rfl, Nat.le_of_ble_eq_true rfl⟩) (k_preYV (wr := []) (wc := WX cI cQ o s0 w0 x a a2 A r q t n (zF A n) (nI old) (nI held) B) hE hX hK hP hD hS hA (ci := 3) (q0 := 0) rfl rfl [.int ((1 : Int32) + (lo sw 20))]) rfl rfl hl.1 rfl (lv_room (Nat.le_of_ble_eq_true rfl)) dL_act_266 ⟨Nat.le_of_ble_eq_true rfl, Nat.le_of_ble_eq_true rfl⟩) hP hD hS hA (fun z9 u9 hp9 H locs hP hD hS => ?_)
    obtain ⟨u, e1, e2⟩ := hp9
    exact y_iret hx hb hr hlocks hS hP hD dL_act_269 (Or.inr ⟨hnb, by rw [hac]; exact e1, u, by rw [hac]; exact e2⟩) (Nat.le_of_ble_eq_true rfl) (Nat.le_of_ble_eq_true rfl)
  have K270 : (acC r sv sw = aRa r sw) → (¬ blk r sv sw) → ∀ (H : Heap) (locs : List Loc), va_P D vwCl ((cO o [.ref (a 0), .ref (a2 0), .ref s0, .ref (x 0)]) ++ (cR cI a r) ++ (cR cI a2 q) ++ (cS cQ s0 w0 (zF A n) (nI old) (nI held)) ++ (cT cI x t) ++ (cZ cI A B n)) H → va_D A0 ((cO o [.ref (a 0), .ref (a2 0), .ref s0, .ref (x 0)]) ++ (cR cI a r) ++ (cR cI a2 q) ++ (cS cQ s0 w0 (zF A n) (nI old) (nI held)) ++ (cT cI x t) ++ (cZ cI A B n)) → va_S A0 s.heap H locs → ∀ (ls : Array Slot), lv_has ls 6 [(3, .int (lo (sv >>> (4 &&& 31)) 6)), (0, .ref o), (1, .int sv), (2, .int sw)] → W p l e ({ frames := 7, cells := 14, slots := 91, locals := 150 } : Room) s m ([.ref o, .int sv, .int sw] : List Value).toArray below meth c H locs 0 0 (MQ below (va_Qi (fun z9 u9 => (blk r sv sw ∧ z9 = -9 ∧ u9 = WX cI cQ o s0 w0 x a a2 A r q t n (zF A n) (nI old) (nI held) B) ∨ (¬ blk r sv sw ∧ z9 = (acC r sv sw).2 ∧ ∃ u : Nat → Nat → Nat, u9 = WX cI cQ o s0 w0 x a a2 u ((acC r sv sw).1) q t (kN n old held) (zF u (kN n old held)) (nI (kO old held)) (nI (kH held + 1)) (kB B old held r))) (fun u t => Wd D u t ∧ va_D A0 u) A0) ([.ref o, .int sv, .int sw] : List Value).toArray s 14 91 A0) (F0 m 270 ls []) := by
    intro hac hnb H locs hP hD hS ls hl
    refine lv_aload_n hx hb dL_act_270 rfl (lv_at hl 1 rfl) ?_
    refine lv_iload_n hx hb dL_act_271 rfl (lv_at hl 3 rfl) ?_
    refine lv_iload_n hx hb dL_act_272 rfl (lv_at hl 3 rfl) ?_
    refine lv_bipush (v := 20) hx hb dL_act_273 (by decide) ?_
    refine lv_ishr hx hb dL_act_275 ?_
    refine lv_iconst (v := 1) hx hb dL_act_276 (by decide) ?_
    refine lv_iand hx hb dL_act_277 ?_
    have K288 : ∀ (H : Heap) (locs : List Loc), va_P D vwCl ((cO o [.ref (a 0), .ref (a2 0), .ref s0, .ref (x 0)]) ++ (cR cI a r) ++ (cR cI a2 q) ++ (cS cQ s0 w0 (zF A n) (nI old) (nI held)) ++ (cT cI x t) ++ (cZ cI A B n)) H → va_D A0 ((cO o [.ref (a 0), .ref (a2 0), .ref s0, .ref (x 0)]) ++ (cR cI a r) ++ (cR cI a2 q) ++ (cS cQ s0 w0 (zF A n) (nI old) (nI held)) ++ (cT cI x t) ++ (cZ cI A B n)) → va_S A0 s.heap H locs → ∀ (ls : Array Slot), lv_has ls 6 [(3, .int (lo (sv >>> (4 &&& 31)) 6)), (0, .ref o), (1, .int sv), (2, .int sw)] → W p l e ({ frames := 7, cells := 14, slots := 91, locals := 150 } : Room) s m ([.ref o, .int sv, .int sw] : List Value).toArray below meth c H locs 0 0 (MQ below (va_Qi (fun z9 u9 => (blk r sv sw ∧ z9 = -9 ∧ u9 = WX cI cQ o s0 w0 x a a2 A r q t n (zF A n) (nI old) (nI held) B) ∨ (¬ blk r sv sw ∧ z9 = (acC r sv sw).2 ∧ ∃ u : Nat → Nat → Nat, u9 = WX cI cQ o s0 w0 x a a2 u ((acC r sv sw).1) q t (kN n old held) (zF u (kN n old held)) (nI (kO old held)) (nI (kH held + 1)) (kB B old held r))) (fun u t => Wd D u t ∧ va_D A0 u) A0) ([.ref o, .int sv, .int sw] : List Value).toArray s 14 91 A0) (F0 m 288 ls [.int (rN sw), .int sw, .ref o]) := by
      intro H locs hP hD hS ls hl
      refine k_calli (wc := ([] : va_W)) (w' := ([] : va_W)) (wn := (cO o [.ref (a 0), .ref (a2 0), .ref s0, .ref (x 0)]) ++ (cR cI a r) ++ (cR cI a2 q) ++ (cS cQ s0 w0 (zF A n) (nI old) (nI held)) ++ (cT cI x t) ++ (cZ cI A B n)) (va_runS (As := [.int sw, .int (rN sw)]) (rest := [.ref o]) ⟨hx, hb, hml, hown, hts⟩ (mL_low l D cI cQ cJ sw (rN sw) (rN_ne sw) _) (va_cwS 2 hts gL_act_L_low rfl rfl rfl (by decide +kernel) ⟨Nat.le_of_ble_eq_true rfl, Nat.le_of_ble_eq_true rfl⟩) (k_preS (wc := ([] : va_W)) hE hK hP hD [] (by decide) rfl [.int sw, .int (rN sw)]) rfl rfl hl.1 rfl (lv_room (Nat.le_of_ble_eq_true rfl)) dL_act_288 ⟨Nat.zero_le _, Nat.zero_le _⟩) hP hD hS hA [] rfl rfl (putAt_same _ _ _ rfl) (fun H locs hP hD hS => ?_)
      refine lv_iconst (v := 1) hx hb dL_act_291 (by decide) ?_
      refine lv_iload_n hx hb dL_act_292 rfl (lv_at hl 3 rfl) ?_
      refine lv_bipush (v := 7) hx hb dL_act_293 (by decide) ?_
      refine lv_ishr hx hb dL_act_295 ?_
      refine lv_iload_n hx hb dL_act_296 rfl (lv_at hl 3 rfl) ?_
      refine lv_bipush (v := 21) hx hb dL_act_297 (by decide) ?_
      refine lv_ishr hx hb dL_act_299 ?_
      refine lv_iconst (v := 1) hx hb dL_act_300 (by decide) ?_
      refine lv_iand hx hb dL_act_301 ?_
      have K312 : ∀ (H : Heap) (locs : List Loc), va_P D vwCl ((cO o [.ref (a 0), .ref (a2 0), .ref s0, .ref (x 0)]) ++ (cR cI a r) ++ (cR cI a2 q) ++ (cS cQ s0 w0 (zF A n) (nI old) (nI held)) ++ (cT cI x t) ++ (cZ cI A B n)) H → va_D A0 ((cO o [.ref (a 0), .ref (a2 0), .ref s0, .ref (x 0)]) ++ (cR cI a r) ++ (cR cI a2 q) ++ (cS cQ s0 w0 (zF A n) (nI old) (nI held)) ++ (cT cI x t) ++ (cZ cI A B n)) → va_S A0 s.heap H locs → ∀ (ls : Array Slot), lv_has ls 6 [(3, .int (lo (sv >>> (4 &&& 31)) 6)), (0, .ref o), (1, .int sv), (2, .int sw)] → W p l e ({ frames := 7, cells := 14, slots := 91, locals := 150 } : Room) s m ([.ref o, .int sv, .int sw] : List Value).toArray below meth c H locs 0 0 (MQ below (va_Qi (fun z9 u9 => (blk r sv sw ∧ z9 = -9 ∧ u9 = WX cI cQ o s0 w0 x a a2 A r q t n (zF A n) (nI old) (nI held) B) ∨ (¬ blk r sv sw ∧ z9 = (acC r sv sw).2 ∧ ∃ u : Nat → Nat → Nat, u9 = WX cI cQ o s0 w0 x a a2 u ((acC r sv sw).1) q t (kN n old held) (zF u (kN n old held)) (nI (kO old held)) (nI (kH held + 1)) (kB B old held r))) (fun u t => Wd D u t ∧ va_D A0 u) A0) ([.ref o, .int sv, .int sw] : List Value).toArray s 14 91 A0) (F0 m 312 ls [.int (mN sw), .int (sw >>> (7 &&& 31)), .int 1, .int (lo sw (rN sw)), .ref o]) := by
        intro H locs hP hD hS ls hl
        refine k_calli (wc := ([] : va_W)) (w' := ([] : va_W)) (wn := (cO o [.ref (a 0), .ref (a2 0), .ref s0, .ref (x 0)]) ++ (cR cI a r) ++ (cR cI a2 q) ++ (cS cQ s0 w0 (zF A n) (nI old) (nI held)) ++ (cT cI x t) ++ (cZ cI A B n)) (va_runS (As := [.int (sw >>> (7 &&& 31)), .int (mN sw)]) (rest := [.int 1, .int (lo sw (rN sw)), .ref o]) ⟨hx, hb, hml, hown, hts⟩ (mL_low l D cI cQ cJ (sw >>> (7 &&& 31)) (mN sw) (mN_ne sw) _) (va_cwS 2 hts gL_act_L_low rfl rfl rfl (by decide +kernel) ⟨Nat.le_of_ble_eq_true rfl, Nat.le_of_ble_eq_true rfl⟩) (k_preS (wc := ([] : va_W)) hE hK hP hD [] (by decide) rfl [.int (sw >>> (7 &&& 31)), .int (mN sw)]) rfl rfl hl.1 rfl (lv_room (Nat.le_of_ble_eq_true rfl)) dL_act_312 ⟨Nat.zero_le _, Nat.zero_le _⟩) hP hD hS hA [] rfl rfl (putAt_same _ _ _ rfl) (fun H locs hP hD hS => ?_)
        refine lv_iadd hx hb dL_act_315 ?_
        refine k_callY (wc := WX cI cQ o s0 w0 x a a2 A r q t n (zF A n) (nI old) (nI held) B) (va_runV (As := [.int (lo sw (rN sw)), .int ((1 : Int32) + (lo (sw >>> (7 &&& 31)) (mN sw)))]) (rest := []) ⟨hx, hb, hml, hown, hts⟩ (YM_of (xX3_rain l hfl D cI cQ cJ o s0 w0 x a a2 A r q t n old held B (lo sw (rN sw)) ((1 : Int32) + (lo (sw >>> (7 &&& 31)) (mN sw))) hok) (crai0 sw) _) (cwV 2 hts gL_act_X3_rain rfl rfl rfl (by decide +kernel) ⟨Nat.le_of_ble_eq_true rfl, Nat.le_of_ble_eq_true rfl⟩) (k_preYV (wr := []) (wc := WX cI cQ o s0 w0 x a a2 A r q t n (zF A n) (nI old) (nI held) B) hE hX hK hP hD hS hA (ci := 3) (q0 := 0) rfl rfl [.int (lo sw (rN sw)), .int ((1 : Int32) + (lo (sw >>> (7 &&& 31)) (mN sw)))]) rfl rfl hl.1 rfl (lv_room (Nat.le_of_ble_eq_true rfl)) dL_act_316 ⟨Nat.le_of_ble_eq_true rfl, Nat.le_of_ble_eq_true rfl⟩) hP hD hS hA (fun z9 u9 hp9 H locs hP hD hS => ?_)
        obtain ⟨u, e1, e2⟩ := hp9
        exact y_iret hx hb hr hlocks hS hP hD dL_act_319 (Or.inr ⟨hnb, by rw [hac]; exact e1, u, by rw [hac]; exact e2⟩) (Nat.le_of_ble_eq_true rfl) (Nat.le_of_ble_eq_true rfl)
      refine lv_if_ne (tgt := 310) hx hb dL_act_302 (by decide) (fun c_5 => ?_) (fun c_5 => ?_)
      · skip
        refine lv_bipush (v := 60) hx hb dL_act_310 (by decide) ?_
        refine lv_eqi (y := mN sw) (by unfold mN; rw [if_neg c_5]) ?_
        exact K312 H locs hP hD hS ls (lv_sub hl [0, 1, 2, 3] rfl)
      · skip
        refine lv_bipush (v := 6) hx hb dL_act_305 (by decide) ?_
        refine lv_goto (tgt := 312) hx hb dL_act_307 (by decide) ?_
        refine lv_eqi (y := mN sw) (by unfold mN; rw [if_pos c_5]) ?_
        exact K312 H locs hP hD hS ls (lv_sub hl [0, 1, 2, 3] rfl)
    refine lv_if_ne (tgt := 286) hx hb dL_act_278 (by decide) (fun c_6 => ?_) (fun c_6 => ?_)
    · skip
      refine lv_bipush (v := 100) hx hb dL_act_286 (by decide) ?_
      refine lv_eqi (y := rN sw) (by unfold rN; rw [if_neg c_6]) ?_
      exact K288 H locs hP hD hS ls (lv_sub hl [0, 1, 2, 3] rfl)
    · skip
      refine lv_bipush (v := 20) hx hb dL_act_281 (by decide) ?_
      refine lv_goto (tgt := 288) hx hb dL_act_283 (by decide) ?_
      refine lv_eqi (y := rN sw) (by unfold rN; rw [if_pos c_6]) ?_
      exact K288 H locs hP hD hS ls (lv_sub hl [0, 1, 2, 3] rfl)
  have K137 : (acC r sv sw = aVa r sv sw) → (blk r sv sw ↔ bkV r sv sw) → ∀ (H : Heap) (locs : List Loc), va_P D vwCl ((cO o [.ref (a 0), .ref (a2 0), .ref s0, .ref (x 0)]) ++ (cR cI a r) ++ (cR cI a2 q) ++ (cS cQ s0 w0 (zF A n) (nI old) (nI held)) ++ (cT cI x t) ++ (cZ cI A B n)) H → va_D A0 ((cO o [.ref (a 0), .ref (a2 0), .ref s0, .ref (x 0)]) ++ (cR cI a r) ++ (cR cI a2 q) ++ (cS cQ s0 w0 (zF A n) (nI old) (nI held)) ++ (cT cI x t) ++ (cZ cI A B n)) → va_S A0 s.heap H locs → ∀ (ls : Array Slot), lv_has ls 6 [(3, .int (lo (sv >>> (4 &&& 31)) 6)), (0, .ref o), (1, .int sv), (2, .int sw)] → W p l e ({ frames := 7, cells := 14, slots := 91, locals := 150 } : Room) s m ([.ref o, .int sv, .int sw] : List Value).toArray below meth c H locs 0 0 (MQ below (va_Qi (fun z9 u9 => (blk r sv sw ∧ z9 = -9 ∧ u9 = WX cI cQ o s0 w0 x a a2 A r q t n (zF A n) (nI old) (nI held) B) ∨ (¬ blk r sv sw ∧ z9 = (acC r sv sw).2 ∧ ∃ u : Nat → Nat → Nat, u9 = WX cI cQ o s0 w0 x a a2 u ((acC r sv sw).1) q t (kN n old held) (zF u (kN n old held)) (nI (kO old held)) (nI (kH held + 1)) (kB B old held r))) (fun u t => Wd D u t ∧ va_D A0 u) A0) ([.ref o, .int sv, .int sw] : List Value).toArray s 14 91 A0) (F0 m 137 ls []) := by
    intro hac hbk H locs hP hD hS ls hl
    refine lv_iload_n hx hb dL_act_137 rfl (lv_at hl 3 rfl) ?_
    refine lv_bipush (v := 7) hx hb dL_act_138 (by decide) ?_
    refine k_calli (wc := ([] : va_W)) (w' := ([] : va_W)) (wn := (cO o [.ref (a 0), .ref (a2 0), .ref s0, .ref (x 0)]) ++ (cR cI a r) ++ (cR cI a2 q) ++ (cS cQ s0 w0 (zF A n) (nI old) (nI held)) ++ (cT cI x t) ++ (cZ cI A B n)) (va_runS (As := [.int sw, .int 7]) (rest := []) ⟨hx, hb, hml, hown, hts⟩ (mL_low l D cI cQ cJ sw 7 (by decide) _) (va_cwS 2 hts gL_act_L_low rfl rfl rfl (by decide +kernel) ⟨Nat.le_of_ble_eq_true rfl, Nat.le_of_ble_eq_true rfl⟩) (k_preS (wc := ([] : va_W)) hE hK hP hD [] (by decide) rfl [.int sw, .int 7]) rfl rfl hl.1 rfl (lv_room (Nat.le_of_ble_eq_true rfl)) dL_act_140 ⟨Nat.zero_le _, Nat.zero_le _⟩) hP hD hS hA [] rfl rfl (putAt_same _ _ _ rfl) (fun H locs hP hD hS => ?_)
    refine lv_iconst (v := 1) hx hb dL_act_143 (by decide) ?_
    refine lv_isub hx hb dL_act_144 ?_
    refine lv_istore (lv' := [(4, .int ((lo sw 7) - 1)), (3, .int (lo (sv >>> (4 &&& 31)) 6)), (0, .ref o), (1, .int sv), (2, .int sw)]) hx hb dL_act_145 hl (by decide) rfl (fun ls hl => ?_)
    refine lv_iload hx hb dL_act_147 (lv_at hl 0 rfl) ?_
    refine lv_iload_n hx hb dL_act_149 rfl (lv_at hl 1 rfl) ?_
    have K168 : (bkV r sv sw) → ∀ (H : Heap) (locs : List Loc), va_P D vwCl ((cO o [.ref (a 0), .ref (a2 0), .ref s0, .ref (x 0)]) ++ (cR cI a r) ++ (cR cI a2 q) ++ (cS cQ s0 w0 (zF A n) (nI old) (nI held)) ++ (cT cI x t) ++ (cZ cI A B n)) H → va_D A0 ((cO o [.ref (a 0), .ref (a2 0), .ref s0, .ref (x 0)]) ++ (cR cI a r) ++ (cR cI a2 q) ++ (cS cQ s0 w0 (zF A n) (nI old) (nI held)) ++ (cT cI x t) ++ (cZ cI A B n)) → va_S A0 s.heap H locs → ∀ (ls : Array Slot), lv_has ls 6 [(4, .int ((lo sw 7) - 1)), (3, .int (lo (sv >>> (4 &&& 31)) 6)), (0, .ref o), (1, .int sv), (2, .int sw)] → W p l e ({ frames := 7, cells := 14, slots := 91, locals := 150 } : Room) s m ([.ref o, .int sv, .int sw] : List Value).toArray below meth c H locs 0 0 (MQ below (va_Qi (fun z9 u9 => (blk r sv sw ∧ z9 = -9 ∧ u9 = WX cI cQ o s0 w0 x a a2 A r q t n (zF A n) (nI old) (nI held) B) ∨ (¬ blk r sv sw ∧ z9 = (acC r sv sw).2 ∧ ∃ u : Nat → Nat → Nat, u9 = WX cI cQ o s0 w0 x a a2 u ((acC r sv sw).1) q t (kN n old held) (zF u (kN n old held)) (nI (kO old held)) (nI (kH held + 1)) (kB B old held r))) (fun u t => Wd D u t ∧ va_D A0 u) A0) ([.ref o, .int sv, .int sw] : List Value).toArray s 14 91 A0) (F0 m 168 ls []) := by
      intro hyb H locs hP hD hS ls hl
      refine lv_bipush (v := (-9)) hx hb dL_act_168 (by decide) ?_
      refine lv_goto (tgt := 180) hx hb dL_act_170 (by decide) ?_
      exact y_iret hx hb hr hlocks hS hP hD dL_act_180 (Or.inl ⟨hbk.mpr hyb, rfl, rfl⟩) (Nat.le_of_ble_eq_true rfl) (Nat.le_of_ble_eq_true rfl)
    have K173 : (¬ bkV r sv sw) → ∀ (H : Heap) (locs : List Loc), va_P D vwCl ((cO o [.ref (a 0), .ref (a2 0), .ref s0, .ref (x 0)]) ++ (cR cI a r) ++ (cR cI a2 q) ++ (cS cQ s0 w0 (zF A n) (nI old) (nI held)) ++ (cT cI x t) ++ (cZ cI A B n)) H → va_D A0 ((cO o [.ref (a 0), .ref (a2 0), .ref s0, .ref (x 0)]) ++ (cR cI a r) ++ (cR cI a2 q) ++ (cS cQ s0 w0 (zF A n) (nI old) (nI held)) ++ (cT cI x t) ++ (cZ cI A B n)) → va_S A0 s.heap H locs → ∀ (ls : Array Slot), lv_has ls 6 [(4, .int ((lo sw 7) - 1)), (3, .int (lo (sv >>> (4 &&& 31)) 6)), (0, .ref o), (1, .int sv), (2, .int sw)] → W p l e ({ frames := 7, cells := 14, slots := 91, locals := 150 } : Room) s m ([.ref o, .int sv, .int sw] : List Value).toArray below meth c H locs 0 0 (MQ below (va_Qi (fun z9 u9 => (blk r sv sw ∧ z9 = -9 ∧ u9 = WX cI cQ o s0 w0 x a a2 A r q t n (zF A n) (nI old) (nI held) B) ∨ (¬ blk r sv sw ∧ z9 = (acC r sv sw).2 ∧ ∃ u : Nat → Nat → Nat, u9 = WX cI cQ o s0 w0 x a a2 u ((acC r sv sw).1) q t (kN n old held) (zF u (kN n old held)) (nI (kO old held)) (nI (kH held + 1)) (kB B old held r))) (fun u t => Wd D u t ∧ va_D A0 u) A0) ([.ref o, .int sv, .int sw] : List Value).toArray s 14 91 A0) (F0 m 173 ls []) := by
      intro hnv H locs hP hD hS ls hl
      refine lv_aload_n hx hb dL_act_173 rfl (lv_at hl 2 rfl) ?_
      refine lv_iload_n hx hb dL_act_174 rfl (lv_at hl 1 rfl) ?_
      refine lv_iload hx hb dL_act_175 (lv_at hl 0 rfl) ?_
      refine k_callY (wc := WX cI cQ o s0 w0 x a a2 A r q t n (zF A n) (nI old) (nI held) B) (va_runV (As := [.int (lo (sv >>> (4 &&& 31)) 6), .int ((lo sw 7) - 1)]) (rest := []) ⟨hx, hb, hml, hown, hts⟩ (YM_of (xX3_valley l hfl D cI cQ cJ o s0 w0 x a a2 A r q t n old held B (lo (sv >>> (4 &&& 31)) 6) ((lo sw 7) - 1) hok) (cval0 hG.1 hG.2.2 hnv) _) (cwV 2 hts gL_act_X3_valley rfl rfl rfl (by decide +kernel) ⟨Nat.le_of_ble_eq_true rfl, Nat.le_of_ble_eq_true rfl⟩) (k_preYV (wr := []) (wc := WX cI cQ o s0 w0 x a a2 A r q t n (zF A n) (nI old) (nI held) B) hE hX hK hP hD hS hA (ci := 3) (q0 := 0) rfl rfl [.int (lo (sv >>> (4 &&& 31)) 6), .int ((lo sw 7) - 1)]) rfl rfl hl.1 rfl (lv_room (Nat.le_of_ble_eq_true rfl)) dL_act_177 ⟨Nat.le_of_ble_eq_true rfl, Nat.le_of_ble_eq_true rfl⟩) hP hD hS hA (fun z9 u9 hp9 H locs hP hD hS => ?_)
      obtain ⟨u, e1, e2⟩ := hp9
      exact y_iret hx hb hr hlocks hS hP hD dL_act_180 (Or.inr ⟨fun h => hnv (hbk.mp h), by rw [hac]; exact e1, u, by rw [hac]; exact e2⟩) (Nat.le_of_ble_eq_true rfl) (Nat.le_of_ble_eq_true rfl)
    refine lv_icmp_eq (tgt := 168) hx hb dL_act_150 (by decide) (fun c_7 => ?_) (fun c_7 => ?_)
    · skip
      exact K168 (Or.inl c_7) H locs hP hD hS ls (lv_sub hl [0, 1, 2, 3, 4] rfl)
    · skip
      refine lv_iload hx hb dL_act_153 (lv_at hl 0 rfl) ?_
      refine lv_if_lt (tgt := 173) hx hb dL_act_155 (by decide) (fun c_8 => ?_) (fun c_8 => ?_)
      · skip
        exact K173 (fun h9 => h9.elim (fun h => c_7 h) (fun h => h.1 c_8)) H locs hP hD hS ls (lv_sub hl [0, 1, 2, 3, 4] rfl)
      · skip
        refine lv_aload_n hx hb dL_act_158 rfl (lv_at hl 2 rfl) ?_
        refine lv_iload hx hb dL_act_159 (lv_at hl 0 rfl) ?_
        refine lv_iload_n hx hb dL_act_161 rfl (lv_at hl 1 rfl) ?_
        refine k_calli (wc := (cO o [.ref (a 0), .ref (a2 0), .ref s0, .ref (x 0)]) ++ (cR cI a r)) (w' := (cO o [.ref (a 0), .ref (a2 0), .ref s0, .ref (x 0)]) ++ (cR cI a r)) (wn := (cO o [.ref (a 0), .ref (a2 0), .ref s0, .ref (x 0)]) ++ (cR cI a r) ++ (cR cI a2 q) ++ (cS cQ s0 w0 (zF A n) (nI old) (nI held)) ++ (cT cI x t) ++ (cZ cI A B n)) (va_runS (As := [.ref o, .int ((lo sw 7) - 1), .int (lo (sv >>> (4 &&& 31)) 6)]) (rest := []) ⟨hx, hb, hml, hown, hts⟩ (mL_leads l D cI cQ cJ o s0 (x 0) a a2 r (fun i hi => hG.1.v hi) ((lo sw 7) - 1) (lo (sv >>> (4 &&& 31)) 6) (vto_g sw) _) (va_cwS 3 hts gL_act_L_leads rfl rfl rfl (by decide +kernel) ⟨Nat.le_of_ble_eq_true rfl, Nat.le_of_ble_eq_true rfl⟩) (k_preS (wc := (cO o [.ref (a 0), .ref (a2 0), .ref s0, .ref (x 0)]) ++ (cR cI a r)) hE hK hP hD [0, 1, 2, 3, 4, 5, 6, 7, 8, 9, 10, 11, 12, 13] (by decide) rfl [.ref o, .int ((lo sw 7) - 1), .int (lo (sv >>> (4 &&& 31)) 6)]) rfl rfl hl.1 rfl (lv_room (Nat.le_of_ble_eq_true rfl)) dL_act_162 ⟨Nat.zero_le _, Nat.zero_le _⟩) hP hD hS hA [0, 1, 2, 3, 4, 5, 6, 7, 8, 9, 10, 11, 12, 13] rfl rfl (putAt_same _ _ _ rfl) (fun H locs hP hD hS => ?_)
        refine lv_if_eq (tgt := 173) hx hb dL_act_165 (by decide) (fun c_9 => ?_) (fun c_9 => ?_)
        · skip
          exact K173 (fun h9 => h9.elim (fun h => c_7 h) (fun h => by have h8 := c_9; rw [if_pos h.2] at h8; exact absurd h8 (by decide))) H locs hP hD hS ls (lv_sub hl [0, 1, 2, 3, 4] rfl)
        · skip
          exact K168 (Or.inr ⟨c_8, Classical.not_not.mp (fun h9 => c_9 (if_neg h9))⟩) H locs hP hD hS ls (lv_sub hl [0, 1, 2, 3, 4] rfl)
  obtain ⟨k9, hk9, ek9⟩ := pk_andE sv (m := 15) 4 (by decide)
  have hk9 : k9 < 16 := hk9
  refine lv_eqi (y := nI k9) ek9 ?_
  have hsw : k9 = 0 ∨ k9 = 1 ∨ k9 = 2 ∨ k9 = 3 ∨ k9 = 4 ∨ k9 = 5 ∨ k9 = 6 ∨ k9 = 7 ∨ k9 = 8 ∨ k9 = 9 ∨ k9 = 10 ∨ k9 = 11 ∨ k9 = 12 ∨ k9 = 13 ∨ k9 = 14 ∨ k9 = 15 := by omega
  rcases hsw with rfl | rfl | rfl | rfl | rfl | rfl | rfl | rfl | rfl | rfl | rfl | rfl | rfl | rfl | rfl | rfl
  · skip
    refine lv_tableIn (off := 55) (tgt := 68) hx hb dL_act_13 (by decide +kernel) (by decide +kernel) (by decide +kernel) (by decide) ?_
    exact K68 (acC_k ek9 (by decide)) (fun h => by have h1 := ((blk_k ek9 (by decide)).mp h).1; omega) H locs hP hD hS ls (lv_sub hl [0, 1, 2, 3] rfl)
  · skip
    refine lv_tableIn (off := 55) (tgt := 68) hx hb dL_act_13 (by decide +kernel) (by decide +kernel) (by decide +kernel) (by decide) ?_
    exact K68 (acC_k ek9 (by decide)) (fun h => by have h1 := ((blk_k ek9 (by decide)).mp h).1; omega) H locs hP hD hS ls (lv_sub hl [0, 1, 2, 3] rfl)
  · skip
    refine lv_tableIn (off := 86) (tgt := 99) hx hb dL_act_13 (by decide +kernel) (by decide +kernel) (by decide +kernel) (by decide) ?_
    exact K99 (acC_k ek9 (by decide)) (fun h => by have h1 := ((blk_k ek9 (by decide)).mp h).1; omega) H locs hP hD hS ls (lv_sub hl [0, 1, 2, 3] rfl)
  · skip
    refine lv_tableIn (off := 86) (tgt := 99) hx hb dL_act_13 (by decide +kernel) (by decide +kernel) (by decide +kernel) (by decide) ?_
    exact K99 (acC_k ek9 (by decide)) (fun h => by have h1 := ((blk_k ek9 (by decide)).mp h).1; omega) H locs hP hD hS ls (lv_sub hl [0, 1, 2, 3] rfl)
  · skip
    refine lv_tableIn (off := 124) (tgt := 137) hx hb dL_act_13 (by decide +kernel) (by decide +kernel) (by decide +kernel) (by decide) ?_
    exact K137 (acC_k ek9 (by decide)) (by rw [blk_k ek9 (by decide)]; exact ⟨fun h => h.2, fun h => ⟨by decide, h⟩⟩) H locs hP hD hS ls (lv_sub hl [0, 1, 2, 3] rfl)
  · skip
    refine lv_tableIn (off := 124) (tgt := 137) hx hb dL_act_13 (by decide +kernel) (by decide +kernel) (by decide +kernel) (by decide) ?_
    exact K137 (acC_k ek9 (by decide)) (by rw [blk_k ek9 (by decide)]; exact ⟨fun h => h.2, fun h => ⟨by decide, h⟩⟩) H locs hP hD hS ls (lv_sub hl [0, 1, 2, 3] rfl)
  · skip
    refine lv_tableIn (off := 168) (tgt := 181) hx hb dL_act_13 (by decide +kernel) (by decide +kernel) (by decide +kernel) (by decide) ?_
    exact K181 (acC_k ek9 (by decide)) (fun h => by have h1 := ((blk_k ek9 (by decide)).mp h).1; omega) H locs hP hD hS ls (lv_sub hl [0, 1, 2, 3] rfl)
  · skip
    refine lv_tableIn (off := 174) (tgt := 187) hx hb dL_act_13 (by decide +kernel) (by decide +kernel) (by decide +kernel) (by decide) ?_
    exact K187 (acC_k ek9 (by decide)) (fun h => by have h1 := ((blk_k ek9 (by decide)).mp h).1; omega) H locs hP hD hS ls (lv_sub hl [0, 1, 2, 3] rfl)
  · skip
    refine lv_tableIn (off := 244) (tgt := 257) hx hb dL_act_13 (by decide +kernel) (by decide +kernel) (by decide +kernel) (by decide) ?_
    exact K257 (acC_k ek9 (by decide)) (fun h => by have h1 := ((blk_k ek9 (by decide)).mp h).1; omega) H locs hP hD hS ls (lv_sub hl [0, 1, 2, 3] rfl)
  · skip
    refine lv_tableIn (off := 244) (tgt := 257) hx hb dL_act_13 (by decide +kernel) (by decide +kernel) (by decide +kernel) (by decide) ?_
    exact K257 (acC_k ek9 (by decide)) (fun h => by have h1 := ((blk_k ek9 (by decide)).mp h).1; omega) H locs hP hD hS ls (lv_sub hl [0, 1, 2, 3] rfl)
  · skip
    refine lv_tableOut (tgt := 270) hx hb dL_act_13 (by decide +kernel) (by decide) ?_
    exact K270 (acC_k ek9 (by decide)) (fun h => by have h1 := ((blk_k ek9 (by decide)).mp h).1; omega) H locs hP hD hS ls (lv_sub hl [0, 1, 2, 3] rfl)
  · skip
    refine lv_tableOut (tgt := 270) hx hb dL_act_13 (by decide +kernel) (by decide) ?_
    exact K270 (acC_k ek9 (by decide)) (fun h => by have h1 := ((blk_k ek9 (by decide)).mp h).1; omega) H locs hP hD hS ls (lv_sub hl [0, 1, 2, 3] rfl)
  · skip
    refine lv_tableOut (tgt := 270) hx hb dL_act_13 (by decide +kernel) (by decide) ?_
    exact K270 (acC_k ek9 (by decide)) (fun h => by have h1 := ((blk_k ek9 (by decide)).mp h).1; omega) H locs hP hD hS ls (lv_sub hl [0, 1, 2, 3] rfl)
  · skip
    refine lv_tableOut (tgt := 270) hx hb dL_act_13 (by decide +kernel) (by decide) ?_
    exact K270 (acC_k ek9 (by decide)) (fun h => by have h1 := ((blk_k ek9 (by decide)).mp h).1; omega) H locs hP hD hS ls (lv_sub hl [0, 1, 2, 3] rfl)
  · skip
    refine lv_tableOut (tgt := 270) hx hb dL_act_13 (by decide +kernel) (by decide) ?_
    exact K270 (acC_k ek9 (by decide)) (fun h => by have h1 := ((blk_k ek9 (by decide)).mp h).1; omega) H locs hP hD hS ls (lv_sub hl [0, 1, 2, 3] rfl)
  · skip
    refine lv_tableOut (tgt := 270) hx hb dL_act_13 (by decide +kernel) (by decide) ?_
    exact K270 (acC_k ek9 (by decide)) (fun h => by have h1 := ((blk_k ek9 (by decide)).mp h).1; omega) H locs hP hD hS ls (lv_sub hl [0, 1, 2, 3] rfl)
