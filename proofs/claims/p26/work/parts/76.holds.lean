set_option maxHeartbeats 4000000 in
set_option maxRecDepth 100000 in
theorem mL_holds (l : Launch) (D : va_G) (cI cQ cJ : ClassId) (o s0 x0 : Nat) (a a2 : Nat → Nat) (r q : rB) (w0 : Nat) (f : Nat → Option Nat) (vo vh : Int32) (hF : FPn) (fl : Int32) (hv : ∀ i, i < 6 → vg (r 7 i)) (hbk : ∀ i, i < 6 → ¬ r 7 i < 0 → ¬ ldV r (nI i) 6 (r 7 i) = nI i) (h1 : ∀ i, i < 6 → ¬ r 4 i < roomT r i) (h2 : ∀ i, i < 6 → ¬ r 5 i < pipeT r i) (h3 : ∀ i, i < 6 → (pipeT r i = 0 ↔ r 5 i = 0)) (h4 : ∀ i, i < 6 → ¬ 100 < r 6 i) (h5 : ∀ i, i < 6 → 0 ≤ r 8 i) (h6 : ¬ fl = 0 → ∀ i, i < 6 → fdV r i (6 - (i + 1)) (i + 1) 0 = 0 → r 8 i ≤ roomT r i) (h7 : r 12 2 = standC r + smI (r 10) 6 0 0 + smI (r 9) 6 0 0) (h8 : standC r = 0 ↔ (dyC 301 0 r).2 = 0) (hFQ : FQ r) : Mi l D (tY cI cQ cJ) yL_holds wsL_holds ({ frames := 4, cells := 0, slots := 0, locals := 102 } : Room) [.ref o, .int fl] ((cO o [.ref (a 0), .ref (a2 0), .ref s0, .ref x0]) ++ (cR cI a r) ++ (cR cI a2 q) ++ (cS cQ s0 w0 f vo vh)) ((cO o [.ref (a 0), .ref (a2 0), .ref s0, .ref x0]) ++ (cR cI a r) ++ (cR cI a2 ((dyC 301 0 r).1)) ++ (cS cQ s0 w0 f vo vh)) 1 := by
  refine M_of (cc := cL_holds) (maxL := 12) (ret := some .boolean) (Qc := fun A => va_Qi (fun (x : Int32) (_ : Unit) => x = 1) (fun _ t => Wd D ((cO o [.ref (a 0), .ref (a2 0), .ref s0, .ref x0]) ++ (cR cI a r) ++ (cR cI a2 ((dyC 301 0 r).1)) ++ (cS cQ s0 w0 f vo vh)) t) A) (by decide) rfl (Nat.le_of_ble_eq_true rfl) ?_
  intro p e s m below meth c A ls hB hE hP hK hD hA hl
  obtain ⟨hx, hb, hr, hml, hts, hown, hlocks⟩ := hB
  have hS : va_S A s.heap s.heap [] := va_S.rf
  have hl : lv_has ls 12 [(0, .ref o), (1, .int fl)] := hl
  refine lv_iconst (v := 0) hx hb dL_holds_0 (by decide) ?_
  refine lv_istore_n (lv' := [(2, .int 0), (0, .ref o), (1, .int fl)]) hx hb dL_holds_1 rfl hl (by decide) rfl (fun ls hl => ?_)
  refine lv_iconst (v := 0) hx hb dL_holds_2 (by decide) ?_
  refine lv_istore_n (lv' := [(3, .int 0), (2, .int 0), (0, .ref o), (1, .int fl)]) hx hb dL_holds_3 rfl hl (by decide) rfl (fun ls hl => ?_)
  refine lv_iconst (v := 0) hx hb dL_holds_4 (by decide) ?_
  refine lv_istore (lv' := [(4, .int 0), (3, .int 0), (2, .int 0), (0, .ref o), (1, .int fl)]) hx hb dL_holds_5 hl (by decide) rfl (fun ls hl => ?_)
  refine lv_iconst (v := 0) hx hb dL_holds_7 (by decide) ?_
  refine lv_istore (lv' := [(5, .int 0), (4, .int 0), (3, .int 0), (2, .int 0), (0, .ref o), (1, .int fl)]) hx hb dL_holds_8 hl (by decide) rfl (fun ls hl => ?_)
  refine lv_iconst (v := 0) hx hb dL_holds_10 (by decide) ?_
  refine lv_istore (lv' := [(6, .int 0), (5, .int 0), (4, .int 0), (3, .int 0), (2, .int 0), (0, .ref o), (1, .int fl)]) hx hb dL_holds_11 hl (by decide) rfl (fun ls hl => ?_)
  have Lp13 : ∀ (n i : Nat) (t1 : Int32) (t2 : Int32) (t3 : Int32) (t4 : Int32), i + n = 6 → shS r n i t1 t2 t3 t4 = shS r 6 0 0 0 0 0 → ∀ (H : Heap) (locs : List Loc), va_P D vwCl ((cO o [.ref (a 0), .ref (a2 0), .ref s0, .ref x0]) ++ (cR cI a r) ++ (cR cI a2 q) ++ (cS cQ s0 w0 f vo vh)) H → va_D A ((cO o [.ref (a 0), .ref (a2 0), .ref s0, .ref x0]) ++ (cR cI a r) ++ (cR cI a2 q) ++ (cS cQ s0 w0 f vo vh)) → va_S A s.heap H locs → ∀ (ls : Array Slot), lv_has ls 12 [(6, .int (nI i)), (5, .int t4), (4, .int t3), (3, .int t2), (2, .int t1), (0, .ref o), (1, .int fl)] → W p l e ({ frames := 4, cells := 0, slots := 0, locals := 102 } : Room) s m ([.ref o, .int fl] : List Value).toArray below meth c H locs 0 0 (MQ below (va_Qi (fun (x : Int32) (_ : Unit) => x = 1) (fun _ t => Wd D ((cO o [.ref (a 0), .ref (a2 0), .ref s0, .ref x0]) ++ (cR cI a r) ++ (cR cI a2 ((dyC 301 0 r).1)) ++ (cS cQ s0 w0 f vo vh)) t) A) ([.ref o, .int fl] : List Value).toArray s 0 0 A) (F0 m 13 ls []) := by
    intro n
    induction n with
    | zero =>
      intro i t1 t2 t3 t4 hin hres H locs hP hD hS ls hl
      have h9 : t1 = standC r ∧ t2 = smI (r 10) 6 0 0 ∧ t3 = smI (r 9) 6 0 0 ∧ t4 = smI (r 6) 6 0 0 := by
        have h8 := hres.trans (shS_eq r)
        simpa only [shS, Prod.mk.injEq] using h8
      clear hres
      obtain ⟨e1, e2, e3, e4⟩ := h9
      subst e1; subst e2; subst e3; subst e4
      refine lv_iload hx hb dL_holds_13 (lv_at hl 0 rfl) ?_
      refine lv_bipush (v := 6) hx hb dL_holds_15 (by decide) ?_
      refine lv_icmp_ge (tgt := 282) hx hb dL_holds_17 (by decide) (fun _ => ?_) (fun h9 => absurd (nI_le (a := 6) (b := i) (by omega) (by omega)) h9)
      refine lv_aload_n hx hb dL_holds_282 rfl (lv_at hl 5 rfl) ?_
      refine k_calld (wc := (cO o [.ref (a 0), .ref (a2 0), .ref s0, .ref x0]) ++ (cR cI a r)) (w' := (cO o [.ref (a 0), .ref (a2 0), .ref s0, .ref x0]) ++ (cR cI a r)) (wn := (cO o [.ref (a 0), .ref (a2 0), .ref s0, .ref x0]) ++ (cR cI a r) ++ (cR cI a2 q) ++ (cS cQ s0 w0 f vo vh)) (va_runV (As := []) (rest := []) ⟨hx, hb, hml, hown, hts⟩ (mX3_drainedShare l D cI cQ cJ o s0 x0 a a2 r hF _) (cwV 0 hts gL_holds_X3_drainedShare rfl rfl rfl (by decide +kernel) ⟨Nat.le_of_ble_eq_true rfl, Nat.le_of_ble_eq_true rfl⟩) (k_preV (wc := (cO o [.ref (a 0), .ref (a2 0), .ref s0, .ref x0]) ++ (cR cI a r)) hE hK hP hD [0, 1, 2, 3, 4, 5, 6, 7, 8, 9, 10, 11, 12, 13] (by decide) rfl (ci := 3) (q0 := 0) rfl rfl []) rfl rfl hl.1 rfl (lv_room (Nat.le_of_ble_eq_true rfl)) dL_holds_283 ⟨Nat.zero_le _, Nat.zero_le _⟩) hP hD hS hA [0, 1, 2, 3, 4, 5, 6, 7, 8, 9, 10, 11, 12, 13] rfl rfl (putAt_same _ _ _ rfl) (fun H locs hP hD hS => ?_)
      refine lv_dstore (lv' := [(6, .double (shC r)), (5, .int (smI (r 6) 6 0 0)), (4, .int (smI (r 9) 6 0 0)), (3, .int (smI (r 10) 6 0 0)), (2, .int (standC r)), (0, .ref o), (1, .int fl)]) hx hb dL_holds_286 hl (by decide) rfl (fun ls hl => ?_)
      have K351 : ∀ (H : Heap) (locs : List Loc), va_P D vwCl ((cO o [.ref (a 0), .ref (a2 0), .ref s0, .ref x0]) ++ (cR cI a r) ++ (cR cI a2 q) ++ (cS cQ s0 w0 f vo vh)) H → va_D A ((cO o [.ref (a 0), .ref (a2 0), .ref s0, .ref x0]) ++ (cR cI a r) ++ (cR cI a2 q) ++ (cS cQ s0 w0 f vo vh)) → va_S A s.heap H locs → ∀ (ls : Array Slot), lv_has ls 12 [(8, .int 1), (6, .double (shC r)), (5, .int (smI (r 6) 6 0 0)), (4, .int (smI (r 9) 6 0 0)), (3, .int (smI (r 10) 6 0 0)), (2, .int (standC r)), (0, .ref o), (1, .int fl)] → W p l e ({ frames := 4, cells := 0, slots := 0, locals := 102 } : Room) s m ([.ref o, .int fl] : List Value).toArray below meth c H locs 0 0 (MQ below (va_Qi (fun (x : Int32) (_ : Unit) => x = 1) (fun _ t => Wd D ((cO o [.ref (a 0), .ref (a2 0), .ref s0, .ref x0]) ++ (cR cI a r) ++ (cR cI a2 ((dyC 301 0 r).1)) ++ (cS cQ s0 w0 f vo vh)) t) A) ([.ref o, .int fl] : List Value).toArray s 0 0 A) (F0 m 351 ls []) := by
        intro H locs hP hD hS ls hl
        refine lv_aload_n hx hb dL_holds_351 rfl (lv_at hl 6 rfl) ?_
        obtain ⟨r_1, er_1⟩ : ∃ z : rB, z = (dyC 301 0 r).1 := ⟨_, rfl⟩
        have hm_2 := mX3_dryIn l D cI cQ cJ o s0 x0 a a2 r q
        rw [← er_1] at hm_2
        refine k_calli (wc := (cO o [.ref (a 0), .ref (a2 0), .ref s0, .ref x0]) ++ (cR cI a r) ++ (cR cI a2 q)) (w' := (cO o [.ref (a 0), .ref (a2 0), .ref s0, .ref x0]) ++ (cR cI a r) ++ (cR cI a2 r_1)) (wn := (cO o [.ref (a 0), .ref (a2 0), .ref s0, .ref x0]) ++ (cR cI a r) ++ (cR cI a2 r_1) ++ (cS cQ s0 w0 f vo vh)) (va_runV (As := []) (rest := []) ⟨hx, hb, hml, hown, hts⟩ (hm_2 _) (cwV 0 hts gL_holds_X3_dryIn rfl rfl rfl (by decide +kernel) ⟨Nat.le_of_ble_eq_true rfl, Nat.le_of_ble_eq_true rfl⟩) (k_preV (wc := (cO o [.ref (a 0), .ref (a2 0), .ref s0, .ref x0]) ++ (cR cI a r) ++ (cR cI a2 q)) hE hK hP hD [0, 1, 2, 3, 4, 5, 6, 7, 8, 9, 10, 11, 12, 13, 14, 15, 16, 17, 18, 19, 20, 21, 22, 23, 24, 25, 26] (by decide) rfl (ci := 3) (q0 := 0) rfl rfl []) rfl rfl hl.1 rfl (lv_room (Nat.le_of_ble_eq_true rfl)) dL_holds_352 ⟨Nat.zero_le _, Nat.zero_le _⟩) hP hD hS hA [0, 1, 2, 3, 4, 5, 6, 7, 8, 9, 10, 11, 12, 13, 14, 15, 16, 17, 18, 19, 20, 21, 22, 23, 24, 25, 26] rfl rfl (by rw [show [0, 1, 2, 3, 4, 5, 6, 7, 8, 9, 10, 11, 12, 13, 14, 15, 16, 17, 18, 19, 20, 21, 22, 23, 24, 25, 26] = List.range' 0 27 from rfl, putAt_l _ _ _ _ 27, putAt_f 27] <;> first | rfl | decide) (fun H locs hP hD hS => ?_)
        have K386 : ∀ (H : Heap) (locs : List Loc), va_P D vwCl ((cO o [.ref (a 0), .ref (a2 0), .ref s0, .ref x0]) ++ (cR cI a r) ++ (cR cI a2 r_1) ++ (cS cQ s0 w0 f vo vh)) H → va_D A ((cO o [.ref (a 0), .ref (a2 0), .ref s0, .ref x0]) ++ (cR cI a r) ++ (cR cI a2 r_1) ++ (cS cQ s0 w0 f vo vh)) → va_S A s.heap H locs → ∀ (ls : Array Slot), lv_has ls 12 [(9, .int 1), (8, .int 1), (6, .double (shC r)), (5, .int (smI (r 6) 6 0 0)), (4, .int (smI (r 9) 6 0 0)), (3, .int (smI (r 10) 6 0 0)), (2, .int (standC r)), (0, .ref o), (1, .int fl)] → W p l e ({ frames := 4, cells := 0, slots := 0, locals := 102 } : Room) s m ([.ref o, .int fl] : List Value).toArray below meth c H locs 0 0 (MQ below (va_Qi (fun (x : Int32) (_ : Unit) => x = 1) (fun _ t => Wd D ((cO o [.ref (a 0), .ref (a2 0), .ref s0, .ref x0]) ++ (cR cI a r) ++ (cR cI a2 ((dyC 301 0 r).1)) ++ (cS cQ s0 w0 f vo vh)) t) A) ([.ref o, .int fl] : List Value).toArray s 0 0 A) (F0 m 386 ls []) := by
          intro H locs hP hD hS ls hl
          refine lv_iload hx hb dL_holds_386 (lv_at hl 1 rfl) ?_
          refine lv_if_eq (tgt := 457) hx hb dL_holds_388 (by decide) (fun h9 => absurd h9 (by decide)) (fun _ => ?_)
          refine lv_iload hx hb dL_holds_391 (lv_at hl 0 rfl) ?_
          refine lv_if_eq (tgt := 457) hx hb dL_holds_393 (by decide) (fun h9 => absurd h9 (by decide)) (fun _ => ?_)
          refine lv_aload_n hx hb dL_holds_396 rfl (lv_at hl 7 rfl) ?_
          refine lv_iconst (v := 2) hx hb dL_holds_397 (by decide) ?_
          refine k_calli (wc := (cO o [.ref (a 0), .ref (a2 0), .ref s0, .ref x0]) ++ (cR cI a r) ++ (cS cQ s0 w0 f vo vh)) (w' := (cO o [.ref (a 0), .ref (a2 0), .ref s0, .ref x0]) ++ (cR cI a r) ++ (cS cQ s0 w0 f vo vh)) (wn := (cO o [.ref (a 0), .ref (a2 0), .ref s0, .ref x0]) ++ (cR cI a r) ++ (cR cI a2 r_1) ++ (cS cQ s0 w0 f vo vh)) (va_runV (As := [.int 2]) (rest := []) ⟨hx, hb, hml, hown, hts⟩ (mX3_count l D cI cQ cJ o s0 x0 a a2 r w0 f vo vh 2 (by omega) _) (cwV 1 hts gL_holds_X3_count rfl rfl rfl (by decide +kernel) ⟨Nat.le_of_ble_eq_true rfl, Nat.le_of_ble_eq_true rfl⟩) (k_preV (wc := (cO o [.ref (a 0), .ref (a2 0), .ref s0, .ref x0]) ++ (cR cI a r) ++ (cS cQ s0 w0 f vo vh)) hE hK hP hD [0, 1, 2, 3, 4, 5, 6, 7, 8, 9, 10, 11, 12, 13, 27, 28] (by decide) rfl (ci := 3) (q0 := 0) rfl rfl [.int 2]) rfl rfl hl.1 rfl (lv_room (Nat.le_of_ble_eq_true rfl)) dL_holds_398 ⟨Nat.zero_le _, Nat.zero_le _⟩) hP hD hS hA [0, 1, 2, 3, 4, 5, 6, 7, 8, 9, 10, 11, 12, 13, 27, 28] rfl rfl (putAt_same _ _ _ rfl) (fun H locs hP hD hS => ?_)
          refine lv_eqi (y := r 12 2) rfl ?_
          refine lv_aload_n hx hb dL_holds_401 rfl (lv_at hl 7 rfl) ?_
          refine lv_iconst (v := 3) hx hb dL_holds_402 (by decide) ?_
          refine k_calli (wc := (cO o [.ref (a 0), .ref (a2 0), .ref s0, .ref x0]) ++ (cR cI a r) ++ (cS cQ s0 w0 f vo vh)) (w' := (cO o [.ref (a 0), .ref (a2 0), .ref s0, .ref x0]) ++ (cR cI a r) ++ (cS cQ s0 w0 f vo vh)) (wn := (cO o [.ref (a 0), .ref (a2 0), .ref s0, .ref x0]) ++ (cR cI a r) ++ (cR cI a2 r_1) ++ (cS cQ s0 w0 f vo vh)) (va_runV (As := [.int 3]) (rest := [.int (r 12 2)]) ⟨hx, hb, hml, hown, hts⟩ (mX3_count l D cI cQ cJ o s0 x0 a a2 r w0 f vo vh 3 (by omega) _) (cwV 1 hts gL_holds_X3_count rfl rfl rfl (by decide +kernel) ⟨Nat.le_of_ble_eq_true rfl, Nat.le_of_ble_eq_true rfl⟩) (k_preV (wc := (cO o [.ref (a 0), .ref (a2 0), .ref s0, .ref x0]) ++ (cR cI a r) ++ (cS cQ s0 w0 f vo vh)) hE hK hP hD [0, 1, 2, 3, 4, 5, 6, 7, 8, 9, 10, 11, 12, 13, 27, 28] (by decide) rfl (ci := 3) (q0 := 0) rfl rfl [.int 3]) rfl rfl hl.1 rfl (lv_room (Nat.le_of_ble_eq_true rfl)) dL_holds_403 ⟨Nat.zero_le _, Nat.zero_le _⟩) hP hD hS hA [0, 1, 2, 3, 4, 5, 6, 7, 8, 9, 10, 11, 12, 13, 27, 28] rfl rfl (putAt_same _ _ _ rfl) (fun H locs hP hD hS => ?_)
          refine lv_eqi (y := standC r) rfl ?_
          refine lv_iload_n hx hb dL_holds_406 rfl (lv_at hl 5 rfl) ?_
          refine lv_iadd hx hb dL_holds_407 ?_
          refine lv_iload hx hb dL_holds_408 (lv_at hl 4 rfl) ?_
          refine lv_iadd hx hb dL_holds_410 ?_
          refine lv_icmp_ne (tgt := 457) hx hb dL_holds_411 (by decide) (fun h9 => absurd h7 h9) (fun _ => ?_)
          refine lv_iload_n hx hb dL_holds_414 rfl (lv_at hl 6 rfl) ?_
          refine lv_aload_n hx hb dL_holds_415 rfl (lv_at hl 7 rfl) ?_
          refine lv_iconst (v := 3) hx hb dL_holds_416 (by decide) ?_
          refine k_calli (wc := (cO o [.ref (a 0), .ref (a2 0), .ref s0, .ref x0]) ++ (cR cI a r) ++ (cS cQ s0 w0 f vo vh)) (w' := (cO o [.ref (a 0), .ref (a2 0), .ref s0, .ref x0]) ++ (cR cI a r) ++ (cS cQ s0 w0 f vo vh)) (wn := (cO o [.ref (a 0), .ref (a2 0), .ref s0, .ref x0]) ++ (cR cI a r) ++ (cR cI a2 r_1) ++ (cS cQ s0 w0 f vo vh)) (va_runV (As := [.int 3]) (rest := [.int (standC r)]) ⟨hx, hb, hml, hown, hts⟩ (mX3_count l D cI cQ cJ o s0 x0 a a2 r w0 f vo vh 3 (by omega) _) (cwV 1 hts gL_holds_X3_count rfl rfl rfl (by decide +kernel) ⟨Nat.le_of_ble_eq_true rfl, Nat.le_of_ble_eq_true rfl⟩) (k_preV (wc := (cO o [.ref (a 0), .ref (a2 0), .ref s0, .ref x0]) ++ (cR cI a r) ++ (cS cQ s0 w0 f vo vh)) hE hK hP hD [0, 1, 2, 3, 4, 5, 6, 7, 8, 9, 10, 11, 12, 13, 27, 28] (by decide) rfl (ci := 3) (q0 := 0) rfl rfl [.int 3]) rfl rfl hl.1 rfl (lv_room (Nat.le_of_ble_eq_true rfl)) dL_holds_417 ⟨Nat.zero_le _, Nat.zero_le _⟩) hP hD hS hA [0, 1, 2, 3, 4, 5, 6, 7, 8, 9, 10, 11, 12, 13, 27, 28] rfl rfl (putAt_same _ _ _ rfl) (fun H locs hP hD hS => ?_)
          refine lv_eqi (y := standC r) rfl ?_
          refine lv_icmp_ne (tgt := 457) hx hb dL_holds_420 (by decide) (fun h9 => absurd rfl h9) (fun _ => ?_)
          refine lv_iload_n hx hb dL_holds_423 rfl (lv_at hl 5 rfl) ?_
          refine lv_aload_n hx hb dL_holds_424 rfl (lv_at hl 7 rfl) ?_
          refine lv_iconst (v := 4) hx hb dL_holds_425 (by decide) ?_
          refine k_calli (wc := (cO o [.ref (a 0), .ref (a2 0), .ref s0, .ref x0]) ++ (cR cI a r) ++ (cS cQ s0 w0 f vo vh)) (w' := (cO o [.ref (a 0), .ref (a2 0), .ref s0, .ref x0]) ++ (cR cI a r) ++ (cS cQ s0 w0 f vo vh)) (wn := (cO o [.ref (a 0), .ref (a2 0), .ref s0, .ref x0]) ++ (cR cI a r) ++ (cR cI a2 r_1) ++ (cS cQ s0 w0 f vo vh)) (va_runV (As := [.int 4]) (rest := [.int (smI (r 10) 6 0 0)]) ⟨hx, hb, hml, hown, hts⟩ (mX3_count l D cI cQ cJ o s0 x0 a a2 r w0 f vo vh 4 (by omega) _) (cwV 1 hts gL_holds_X3_count rfl rfl rfl (by decide +kernel) ⟨Nat.le_of_ble_eq_true rfl, Nat.le_of_ble_eq_true rfl⟩) (k_preV (wc := (cO o [.ref (a 0), .ref (a2 0), .ref s0, .ref x0]) ++ (cR cI a r) ++ (cS cQ s0 w0 f vo vh)) hE hK hP hD [0, 1, 2, 3, 4, 5, 6, 7, 8, 9, 10, 11, 12, 13, 27, 28] (by decide) rfl (ci := 3) (q0 := 0) rfl rfl [.int 4]) rfl rfl hl.1 rfl (lv_room (Nat.le_of_ble_eq_true rfl)) dL_holds_426 ⟨Nat.zero_le _, Nat.zero_le _⟩) hP hD hS hA [0, 1, 2, 3, 4, 5, 6, 7, 8, 9, 10, 11, 12, 13, 27, 28] rfl rfl (putAt_same _ _ _ rfl) (fun H locs hP hD hS => ?_)
          refine lv_eqi (y := smI (r 10) 6 0 0) rfl ?_
          refine lv_icmp_ne (tgt := 457) hx hb dL_holds_429 (by decide) (fun h9 => absurd rfl h9) (fun _ => ?_)
          refine lv_iload hx hb dL_holds_432 (lv_at hl 4 rfl) ?_
          refine lv_aload_n hx hb dL_holds_434 rfl (lv_at hl 7 rfl) ?_
          refine lv_iconst (v := 5) hx hb dL_holds_435 (by decide) ?_
          refine k_calli (wc := (cO o [.ref (a 0), .ref (a2 0), .ref s0, .ref x0]) ++ (cR cI a r) ++ (cS cQ s0 w0 f vo vh)) (w' := (cO o [.ref (a 0), .ref (a2 0), .ref s0, .ref x0]) ++ (cR cI a r) ++ (cS cQ s0 w0 f vo vh)) (wn := (cO o [.ref (a 0), .ref (a2 0), .ref s0, .ref x0]) ++ (cR cI a r) ++ (cR cI a2 r_1) ++ (cS cQ s0 w0 f vo vh)) (va_runV (As := [.int 5]) (rest := [.int (smI (r 9) 6 0 0)]) ⟨hx, hb, hml, hown, hts⟩ (mX3_count l D cI cQ cJ o s0 x0 a a2 r w0 f vo vh 5 (by omega) _) (cwV 1 hts gL_holds_X3_count rfl rfl rfl (by decide +kernel) ⟨Nat.le_of_ble_eq_true rfl, Nat.le_of_ble_eq_true rfl⟩) (k_preV (wc := (cO o [.ref (a 0), .ref (a2 0), .ref s0, .ref x0]) ++ (cR cI a r) ++ (cS cQ s0 w0 f vo vh)) hE hK hP hD [0, 1, 2, 3, 4, 5, 6, 7, 8, 9, 10, 11, 12, 13, 27, 28] (by decide) rfl (ci := 3) (q0 := 0) rfl rfl [.int 5]) rfl rfl hl.1 rfl (lv_room (Nat.le_of_ble_eq_true rfl)) dL_holds_436 ⟨Nat.zero_le _, Nat.zero_le _⟩) hP hD hS hA [0, 1, 2, 3, 4, 5, 6, 7, 8, 9, 10, 11, 12, 13, 27, 28] rfl rfl (putAt_same _ _ _ rfl) (fun H locs hP hD hS => ?_)
          refine lv_eqi (y := smI (r 9) 6 0 0) rfl ?_
          refine lv_icmp_ne (tgt := 457) hx hb dL_holds_439 (by decide) (fun h9 => absurd rfl h9) (fun _ => ?_)
          refine lv_iload hx hb dL_holds_442 (lv_at hl 3 rfl) ?_
          refine lv_aload_n hx hb dL_holds_444 rfl (lv_at hl 7 rfl) ?_
          refine lv_bipush (v := 7) hx hb dL_holds_445 (by decide) ?_
          refine k_calli (wc := (cO o [.ref (a 0), .ref (a2 0), .ref s0, .ref x0]) ++ (cR cI a r) ++ (cS cQ s0 w0 f vo vh)) (w' := (cO o [.ref (a 0), .ref (a2 0), .ref s0, .ref x0]) ++ (cR cI a r) ++ (cS cQ s0 w0 f vo vh)) (wn := (cO o [.ref (a 0), .ref (a2 0), .ref s0, .ref x0]) ++ (cR cI a r) ++ (cR cI a2 r_1) ++ (cS cQ s0 w0 f vo vh)) (va_runV (As := [.int 7]) (rest := [.int (smI (r 6) 6 0 0)]) ⟨hx, hb, hml, hown, hts⟩ (mX3_count l D cI cQ cJ o s0 x0 a a2 r w0 f vo vh 7 (by omega) _) (cwV 1 hts gL_holds_X3_count rfl rfl rfl (by decide +kernel) ⟨Nat.le_of_ble_eq_true rfl, Nat.le_of_ble_eq_true rfl⟩) (k_preV (wc := (cO o [.ref (a 0), .ref (a2 0), .ref s0, .ref x0]) ++ (cR cI a r) ++ (cS cQ s0 w0 f vo vh)) hE hK hP hD [0, 1, 2, 3, 4, 5, 6, 7, 8, 9, 10, 11, 12, 13, 27, 28] (by decide) rfl (ci := 3) (q0 := 0) rfl rfl [.int 7]) rfl rfl hl.1 rfl (lv_room (Nat.le_of_ble_eq_true rfl)) dL_holds_447 ⟨Nat.zero_le _, Nat.zero_le _⟩) hP hD hS hA [0, 1, 2, 3, 4, 5, 6, 7, 8, 9, 10, 11, 12, 13, 27, 28] rfl rfl (putAt_same _ _ _ rfl) (fun H locs hP hD hS => ?_)
          refine lv_eqi (y := smI (r 6) 6 0 0) rfl ?_
          refine lv_icmp_ne (tgt := 457) hx hb dL_holds_450 (by decide) (fun h9 => absurd rfl h9) (fun _ => ?_)
          refine lv_iconst (v := 1) hx hb dL_holds_453 (by decide) ?_
          refine lv_goto (tgt := 458) hx hb dL_holds_454 (by decide) ?_
          have e9 : (r_1 : rB) = (dyC 301 0 r).1 := by (replace er_1 := er_1.symm; subst er_1; first | with_reducible rfl | simp only [↓reduceIte])
          rw [e9] at hP
          exact k_zret hx hb hr hlocks hS hP dL_holds_458 (by first | rfl | decide | exact rfl) (by (replace er_1 := er_1.symm; subst er_1; first | with_reducible rfl | simp only [↓reduceIte]))
        by_cases hz : standC r = 0
        · skip
          refine lv_if_ne (tgt := 362) hx hb dL_holds_355 (by decide) (fun h9 => absurd (h8.mp hz) h9) (fun _ => ?_)
          refine lv_iconst (v := 1) hx hb dL_holds_358 (by decide) ?_
          refine lv_goto (tgt := 363) hx hb dL_holds_359 (by decide) ?_
          refine lv_aload_n hx hb dL_holds_363 rfl (lv_at hl 6 rfl) ?_
          refine lv_iconst (v := 3) hx hb dL_holds_364 (by decide) ?_
          refine k_calli (wc := (cO o [.ref (a 0), .ref (a2 0), .ref s0, .ref x0]) ++ (cR cI a r) ++ (cS cQ s0 w0 f vo vh)) (w' := (cO o [.ref (a 0), .ref (a2 0), .ref s0, .ref x0]) ++ (cR cI a r) ++ (cS cQ s0 w0 f vo vh)) (wn := (cO o [.ref (a 0), .ref (a2 0), .ref s0, .ref x0]) ++ (cR cI a r) ++ (cR cI a2 r_1) ++ (cS cQ s0 w0 f vo vh)) (va_runV (As := [.int 3]) (rest := [.int 1]) ⟨hx, hb, hml, hown, hts⟩ (mX3_count l D cI cQ cJ o s0 x0 a a2 r w0 f vo vh 3 (by omega) _) (cwV 1 hts gL_holds_X3_count rfl rfl rfl (by decide +kernel) ⟨Nat.le_of_ble_eq_true rfl, Nat.le_of_ble_eq_true rfl⟩) (k_preV (wc := (cO o [.ref (a 0), .ref (a2 0), .ref s0, .ref x0]) ++ (cR cI a r) ++ (cS cQ s0 w0 f vo vh)) hE hK hP hD [0, 1, 2, 3, 4, 5, 6, 7, 8, 9, 10, 11, 12, 13, 27, 28] (by decide) rfl (ci := 3) (q0 := 0) rfl rfl [.int 3]) rfl rfl hl.1 rfl (lv_room (Nat.le_of_ble_eq_true rfl)) dL_holds_365 ⟨Nat.zero_le _, Nat.zero_le _⟩) hP hD hS hA [0, 1, 2, 3, 4, 5, 6, 7, 8, 9, 10, 11, 12, 13, 27, 28] rfl rfl (putAt_same _ _ _ rfl) (fun H locs hP hD hS => ?_)
          refine lv_eqi (y := standC r) rfl ?_
          refine lv_if_ne (tgt := 375) hx hb dL_holds_368 (by decide) (fun h9 => absurd hz h9) (fun _ => ?_)
          refine lv_iconst (v := 1) hx hb dL_holds_371 (by decide) ?_
          refine lv_goto (tgt := 376) hx hb dL_holds_372 (by decide) ?_
          refine lv_icmp_ne (tgt := 383) hx hb dL_holds_376 (by decide) (fun h9 => absurd (by decide) h9) (fun _ => ?_)
          refine lv_iconst (v := 1) hx hb dL_holds_379 (by decide) ?_
          refine lv_goto (tgt := 384) hx hb dL_holds_380 (by decide) ?_
          refine lv_istore (lv' := [(9, .int 1), (8, .int 1), (6, .double (shC r)), (5, .int (smI (r 6) 6 0 0)), (4, .int (smI (r 9) 6 0 0)), (3, .int (smI (r 10) 6 0 0)), (2, .int (standC r)), (0, .ref o), (1, .int fl)]) hx hb dL_holds_384 hl (by decide) rfl (fun ls hl => ?_)
          exact K386 H locs hP hD hS ls (lv_sub hl [0, 1, 2, 3, 4, 5, 6, 7, 8] rfl)
        · skip
          refine lv_if_ne (tgt := 362) hx hb dL_holds_355 (by decide) (fun _ => ?_) (fun h9 => absurd h9 (fun h9 => hz (h8.mpr h9)))
          refine lv_iconst (v := 0) hx hb dL_holds_362 (by decide) ?_
          refine lv_aload_n hx hb dL_holds_363 rfl (lv_at hl 6 rfl) ?_
          refine lv_iconst (v := 3) hx hb dL_holds_364 (by decide) ?_
          refine k_calli (wc := (cO o [.ref (a 0), .ref (a2 0), .ref s0, .ref x0]) ++ (cR cI a r) ++ (cS cQ s0 w0 f vo vh)) (w' := (cO o [.ref (a 0), .ref (a2 0), .ref s0, .ref x0]) ++ (cR cI a r) ++ (cS cQ s0 w0 f vo vh)) (wn := (cO o [.ref (a 0), .ref (a2 0), .ref s0, .ref x0]) ++ (cR cI a r) ++ (cR cI a2 r_1) ++ (cS cQ s0 w0 f vo vh)) (va_runV (As := [.int 3]) (rest := [.int 0]) ⟨hx, hb, hml, hown, hts⟩ (mX3_count l D cI cQ cJ o s0 x0 a a2 r w0 f vo vh 3 (by omega) _) (cwV 1 hts gL_holds_X3_count rfl rfl rfl (by decide +kernel) ⟨Nat.le_of_ble_eq_true rfl, Nat.le_of_ble_eq_true rfl⟩) (k_preV (wc := (cO o [.ref (a 0), .ref (a2 0), .ref s0, .ref x0]) ++ (cR cI a r) ++ (cS cQ s0 w0 f vo vh)) hE hK hP hD [0, 1, 2, 3, 4, 5, 6, 7, 8, 9, 10, 11, 12, 13, 27, 28] (by decide) rfl (ci := 3) (q0 := 0) rfl rfl [.int 3]) rfl rfl hl.1 rfl (lv_room (Nat.le_of_ble_eq_true rfl)) dL_holds_365 ⟨Nat.zero_le _, Nat.zero_le _⟩) hP hD hS hA [0, 1, 2, 3, 4, 5, 6, 7, 8, 9, 10, 11, 12, 13, 27, 28] rfl rfl (putAt_same _ _ _ rfl) (fun H locs hP hD hS => ?_)
          refine lv_eqi (y := standC r) rfl ?_
          refine lv_if_ne (tgt := 375) hx hb dL_holds_368 (by decide) (fun _ => ?_) (fun h9 => absurd h9 hz)
          refine lv_iconst (v := 0) hx hb dL_holds_375 (by decide) ?_
          refine lv_icmp_ne (tgt := 383) hx hb dL_holds_376 (by decide) (fun h9 => absurd (by decide) h9) (fun _ => ?_)
          refine lv_iconst (v := 1) hx hb dL_holds_379 (by decide) ?_
          refine lv_goto (tgt := 384) hx hb dL_holds_380 (by decide) ?_
          refine lv_istore (lv' := [(9, .int 1), (8, .int 1), (6, .double (shC r)), (5, .int (smI (r 6) 6 0 0)), (4, .int (smI (r 9) 6 0 0)), (3, .int (smI (r 10) 6 0 0)), (2, .int (standC r)), (0, .ref o), (1, .int fl)]) hx hb dL_holds_384 hl (by decide) rfl (fun ls hl => ?_)
          exact K386 H locs hP hD hS ls (lv_sub hl [0, 1, 2, 3, 4, 5, 6, 7, 8] rfl)
      refine lv_aload_n hx hb dL_holds_288 rfl (lv_at hl 5 rfl) ?_
      refine lv_iconst (v := 2) hx hb dL_holds_289 (by decide) ?_
      refine k_calli (wc := (cO o [.ref (a 0), .ref (a2 0), .ref s0, .ref x0]) ++ (cR cI a r) ++ (cS cQ s0 w0 f vo vh)) (w' := (cO o [.ref (a 0), .ref (a2 0), .ref s0, .ref x0]) ++ (cR cI a r) ++ (cS cQ s0 w0 f vo vh)) (wn := (cO o [.ref (a 0), .ref (a2 0), .ref s0, .ref x0]) ++ (cR cI a r) ++ (cR cI a2 q) ++ (cS cQ s0 w0 f vo vh)) (va_runV (As := [.int 2]) (rest := []) ⟨hx, hb, hml, hown, hts⟩ (mX3_count l D cI cQ cJ o s0 x0 a a2 r w0 f vo vh 2 (by omega) _) (cwV 1 hts gL_holds_X3_count rfl rfl rfl (by decide +kernel) ⟨Nat.le_of_ble_eq_true rfl, Nat.le_of_ble_eq_true rfl⟩) (k_preV (wc := (cO o [.ref (a 0), .ref (a2 0), .ref s0, .ref x0]) ++ (cR cI a r) ++ (cS cQ s0 w0 f vo vh)) hE hK hP hD [0, 1, 2, 3, 4, 5, 6, 7, 8, 9, 10, 11, 12, 13, 27, 28] (by decide) rfl (ci := 3) (q0 := 0) rfl rfl [.int 2]) rfl rfl hl.1 rfl (lv_room (Nat.le_of_ble_eq_true rfl)) dL_holds_290 ⟨Nat.zero_le _, Nat.zero_le _⟩) hP hD hS hA [0, 1, 2, 3, 4, 5, 6, 7, 8, 9, 10, 11, 12, 13, 27, 28] rfl rfl (putAt_same _ _ _ rfl) (fun H locs hP hD hS => ?_)
      refine lv_eqi (y := r 12 2) rfl ?_
      refine lv_if_ne (tgt := 311) hx hb dL_holds_293 (by decide) (fun c_3 => ?_) (fun c_3 => ?_)
      · skip
        refine lv_dload hx hb dL_holds_311 (lv_at hl 0 rfl) ?_
        refine lv_aload_n hx hb dL_holds_313 rfl (lv_at hl 5 rfl) ?_
        refine lv_iconst (v := 4) hx hb dL_holds_314 (by decide) ?_
        refine k_calli (wc := (cO o [.ref (a 0), .ref (a2 0), .ref s0, .ref x0]) ++ (cR cI a r) ++ (cS cQ s0 w0 f vo vh)) (w' := (cO o [.ref (a 0), .ref (a2 0), .ref s0, .ref x0]) ++ (cR cI a r) ++ (cS cQ s0 w0 f vo vh)) (wn := (cO o [.ref (a 0), .ref (a2 0), .ref s0, .ref x0]) ++ (cR cI a r) ++ (cR cI a2 q) ++ (cS cQ s0 w0 f vo vh)) (va_runV (As := [.int 4]) (rest := [.double (shC r)]) ⟨hx, hb, hml, hown, hts⟩ (mX3_count l D cI cQ cJ o s0 x0 a a2 r w0 f vo vh 4 (by omega) _) (cwV 1 hts gL_holds_X3_count rfl rfl rfl (by decide +kernel) ⟨Nat.le_of_ble_eq_true rfl, Nat.le_of_ble_eq_true rfl⟩) (k_preV (wc := (cO o [.ref (a 0), .ref (a2 0), .ref s0, .ref x0]) ++ (cR cI a r) ++ (cS cQ s0 w0 f vo vh)) hE hK hP hD [0, 1, 2, 3, 4, 5, 6, 7, 8, 9, 10, 11, 12, 13, 27, 28] (by decide) rfl (ci := 3) (q0 := 0) rfl rfl [.int 4]) rfl rfl hl.1 rfl (lv_room (Nat.le_of_ble_eq_true rfl)) dL_holds_315 ⟨Nat.zero_le _, Nat.zero_le _⟩) hP hD hS hA [0, 1, 2, 3, 4, 5, 6, 7, 8, 9, 10, 11, 12, 13, 27, 28] rfl rfl (putAt_same _ _ _ rfl) (fun H locs hP hD hS => ?_)
        refine lv_eqi (y := smI (r 10) 6 0 0) rfl ?_
        refine lv_i2d hx hb dL_holds_318 ?_
        refine lv_aload_n hx hb dL_holds_319 rfl (lv_at hl 5 rfl) ?_
        refine lv_iconst (v := 2) hx hb dL_holds_320 (by decide) ?_
        refine k_calli (wc := (cO o [.ref (a 0), .ref (a2 0), .ref s0, .ref x0]) ++ (cR cI a r) ++ (cS cQ s0 w0 f vo vh)) (w' := (cO o [.ref (a 0), .ref (a2 0), .ref s0, .ref x0]) ++ (cR cI a r) ++ (cS cQ s0 w0 f vo vh)) (wn := (cO o [.ref (a 0), .ref (a2 0), .ref s0, .ref x0]) ++ (cR cI a r) ++ (cR cI a2 q) ++ (cS cQ s0 w0 f vo vh)) (va_runV (As := [.int 2]) (rest := [.double (FP.i2d (smI (r 10) 6 0 0)), .double (shC r)]) ⟨hx, hb, hml, hown, hts⟩ (mX3_count l D cI cQ cJ o s0 x0 a a2 r w0 f vo vh 2 (by omega) _) (cwV 1 hts gL_holds_X3_count rfl rfl rfl (by decide +kernel) ⟨Nat.le_of_ble_eq_true rfl, Nat.le_of_ble_eq_true rfl⟩) (k_preV (wc := (cO o [.ref (a 0), .ref (a2 0), .ref s0, .ref x0]) ++ (cR cI a r) ++ (cS cQ s0 w0 f vo vh)) hE hK hP hD [0, 1, 2, 3, 4, 5, 6, 7, 8, 9, 10, 11, 12, 13, 27, 28] (by decide) rfl (ci := 3) (q0 := 0) rfl rfl [.int 2]) rfl rfl hl.1 rfl (lv_room (Nat.le_of_ble_eq_true rfl)) dL_holds_321 ⟨Nat.zero_le _, Nat.zero_le _⟩) hP hD hS hA [0, 1, 2, 3, 4, 5, 6, 7, 8, 9, 10, 11, 12, 13, 27, 28] rfl rfl (putAt_same _ _ _ rfl) (fun H locs hP hD hS => ?_)
        refine lv_eqi (y := r 12 2) rfl ?_
        refine lv_i2d hx hb dL_holds_324 ?_
        refine lv_ddiv hx hb dL_holds_325 (hF _ _ c_3) ?_
        refine lv_dcmp hx hb dL_holds_326 ?_
        refine lv_if_ne (tgt := 348) hx hb dL_holds_327 (by decide) (fun h9 => absurd (hFQ.2 c_3).1 h9) (fun _ => ?_)
        refine lv_dload hx hb dL_holds_330 (lv_at hl 0 rfl) ?_
        refine lv_dconst0 hx hb dL_holds_332 ?_
        refine lv_dcmp hx hb dL_holds_333 ?_
        refine lv_if_lt (tgt := 348) hx hb dL_holds_334 (by decide) (fun h9 => absurd h9 (hFQ.2 c_3).2.1) (fun _ => ?_)
        refine lv_dload hx hb dL_holds_337 (lv_at hl 0 rfl) ?_
        refine lv_dconst1 hx hb dL_holds_339 ?_
        refine lv_dcmp hx hb dL_holds_340 ?_
        refine lv_if_gt (tgt := 348) hx hb dL_holds_341 (by decide) (fun h9 => absurd h9 (hFQ.2 c_3).2.2) (fun _ => ?_)
        refine lv_iconst (v := 1) hx hb dL_holds_344 (by decide) ?_
        refine lv_goto (tgt := 349) hx hb dL_holds_345 (by decide) ?_
        refine lv_istore (lv' := [(8, .int 1), (6, .double (shC r)), (5, .int (smI (r 6) 6 0 0)), (4, .int (smI (r 9) 6 0 0)), (3, .int (smI (r 10) 6 0 0)), (2, .int (standC r)), (0, .ref o), (1, .int fl)]) hx hb dL_holds_349 hl (by decide) rfl (fun ls hl => ?_)
        exact K351 H locs hP hD hS ls (lv_sub hl [0, 1, 2, 3, 4, 5, 6, 7] rfl)
      · skip
        refine lv_dload hx hb dL_holds_296 (lv_at hl 0 rfl) ?_
        refine lv_dconst1 hx hb dL_holds_298 ?_
        refine lv_dcmp hx hb dL_holds_299 ?_
        refine lv_if_ne (tgt := 307) hx hb dL_holds_300 (by decide) (fun h9 => absurd (hFQ.1 c_3) h9) (fun _ => ?_)
        refine lv_iconst (v := 1) hx hb dL_holds_303 (by decide) ?_
        refine lv_goto (tgt := 349) hx hb dL_holds_304 (by decide) ?_
        refine lv_istore (lv' := [(8, .int 1), (6, .double (shC r)), (5, .int (smI (r 6) 6 0 0)), (4, .int (smI (r 9) 6 0 0)), (3, .int (smI (r 10) 6 0 0)), (2, .int (standC r)), (0, .ref o), (1, .int fl)]) hx hb dL_holds_349 hl (by decide) rfl (fun ls hl => ?_)
        exact K351 H locs hP hD hS ls (lv_sub hl [0, 1, 2, 3, 4, 5, 6, 7] rfl)
    | succ n ih =>
      intro i t1 t2 t3 t4 hin hres H locs hP hD hS ls hl
      refine lv_iload hx hb dL_holds_13 (lv_at hl 0 rfl) ?_
      refine lv_bipush (v := 6) hx hb dL_holds_15 (by decide) ?_
      refine lv_icmp_ge (tgt := 282) hx hb dL_holds_17 (by decide) (fun h9 => absurd h9 (nI_ge (a := i) (b := 6) (by omega) (by omega))) (fun _ => ?_)
      refine lv_aload_n hx hb dL_holds_20 rfl (lv_at hl 5 rfl) ?_
      refine lv_iload hx hb dL_holds_21 (lv_at hl 0 rfl) ?_
      refine lv_iconst (v := 3) hx hb dL_holds_23 (by decide) ?_
      refine k_calli (wc := (cO o [.ref (a 0), .ref (a2 0), .ref s0, .ref x0]) ++ (cR cI a r)) (w' := (cO o [.ref (a 0), .ref (a2 0), .ref s0, .ref x0]) ++ (cR cI a r)) (wn := (cO o [.ref (a 0), .ref (a2 0), .ref s0, .ref x0]) ++ (cR cI a r) ++ (cR cI a2 q) ++ (cS cQ s0 w0 f vo vh)) (va_runV (As := [.int (nI i), .int 3]) (rest := []) ⟨hx, hb, hml, hown, hts⟩ (mX3_gutterOf l D cI cQ cJ o s0 x0 a a2 r i 3 (by omega) (by omega) _) (cwV 2 hts gL_holds_X3_gutterOf rfl rfl rfl (by decide +kernel) ⟨Nat.le_of_ble_eq_true rfl, Nat.le_of_ble_eq_true rfl⟩) (k_preV (wc := (cO o [.ref (a 0), .ref (a2 0), .ref s0, .ref x0]) ++ (cR cI a r)) hE hK hP hD [0, 1, 2, 3, 4, 5, 6, 7, 8, 9, 10, 11, 12, 13] (by decide) rfl (ci := 3) (q0 := 0) rfl rfl [.int (nI i), .int 3]) rfl rfl hl.1 rfl (lv_room (Nat.le_of_ble_eq_true rfl)) dL_holds_24 ⟨Nat.zero_le _, Nat.zero_le _⟩) hP hD hS hA [0, 1, 2, 3, 4, 5, 6, 7, 8, 9, 10, 11, 12, 13] rfl rfl (putAt_same _ _ _ rfl) (fun H locs hP hD hS => ?_)
      refine lv_eqi (y := r 7 i) rfl ?_
      refine lv_istore (lv' := [(7, .int (r 7 i)), (6, .int (nI i)), (5, .int t4), (4, .int t3), (3, .int t2), (2, .int t1), (0, .ref o), (1, .int fl)]) hx hb dL_holds_27 hl (by decide) rfl (fun ls hl => ?_)
      refine lv_aload_n hx hb dL_holds_29 rfl (lv_at hl 6 rfl) ?_
      refine lv_iload hx hb dL_holds_30 (lv_at hl 1 rfl) ?_
      refine lv_bipush (v := 6) hx hb dL_holds_32 (by decide) ?_
      refine k_calli (wc := (cO o [.ref (a 0), .ref (a2 0), .ref s0, .ref x0]) ++ (cR cI a r)) (w' := (cO o [.ref (a 0), .ref (a2 0), .ref s0, .ref x0]) ++ (cR cI a r)) (wn := (cO o [.ref (a 0), .ref (a2 0), .ref s0, .ref x0]) ++ (cR cI a r) ++ (cR cI a2 q) ++ (cS cQ s0 w0 f vo vh)) (va_runV (As := [.int (nI i), .int 6]) (rest := []) ⟨hx, hb, hml, hown, hts⟩ (mX3_gutterOf l D cI cQ cJ o s0 x0 a a2 r i 6 (by omega) (by omega) _) (cwV 2 hts gL_holds_X3_gutterOf rfl rfl rfl (by decide +kernel) ⟨Nat.le_of_ble_eq_true rfl, Nat.le_of_ble_eq_true rfl⟩) (k_preV (wc := (cO o [.ref (a 0), .ref (a2 0), .ref s0, .ref x0]) ++ (cR cI a r)) hE hK hP hD [0, 1, 2, 3, 4, 5, 6, 7, 8, 9, 10, 11, 12, 13] (by decide) rfl (ci := 3) (q0 := 0) rfl rfl [.int (nI i), .int 6]) rfl rfl hl.1 rfl (lv_room (Nat.le_of_ble_eq_true rfl)) dL_holds_34 ⟨Nat.zero_le _, Nat.zero_le _⟩) hP hD hS hA [0, 1, 2, 3, 4, 5, 6, 7, 8, 9, 10, 11, 12, 13] rfl rfl (putAt_same _ _ _ rfl) (fun H locs hP hD hS => ?_)
      refine lv_eqi (y := pipeT r i) rfl ?_
      refine lv_istore (lv' := [(8, .int (pipeT r i)), (7, .int (r 7 i)), (6, .int (nI i)), (5, .int t4), (4, .int t3), (3, .int t2), (2, .int t1), (0, .ref o), (1, .int fl)]) hx hb dL_holds_37 hl (by decide) rfl (fun ls hl => ?_)
      have K59 : ∀ (H : Heap) (locs : List Loc), va_P D vwCl ((cO o [.ref (a 0), .ref (a2 0), .ref s0, .ref x0]) ++ (cR cI a r) ++ (cR cI a2 q) ++ (cS cQ s0 w0 f vo vh)) H → va_D A ((cO o [.ref (a 0), .ref (a2 0), .ref s0, .ref x0]) ++ (cR cI a r) ++ (cR cI a2 q) ++ (cS cQ s0 w0 f vo vh)) → va_S A s.heap H locs → ∀ (ls : Array Slot), lv_has ls 12 [(8, .int (pipeT r i)), (7, .int (r 7 i)), (6, .int (nI i)), (5, .int t4), (4, .int t3), (3, .int t2), (2, .int t1), (0, .ref o), (1, .int fl)] → W p l e ({ frames := 4, cells := 0, slots := 0, locals := 102 } : Room) s m ([.ref o, .int fl] : List Value).toArray below meth c H locs 0 0 (MQ below (va_Qi (fun (x : Int32) (_ : Unit) => x = 1) (fun _ t => Wd D ((cO o [.ref (a 0), .ref (a2 0), .ref s0, .ref x0]) ++ (cR cI a r) ++ (cR cI a2 ((dyC 301 0 r).1)) ++ (cS cQ s0 w0 f vo vh)) t) A) ([.ref o, .int fl] : List Value).toArray s 0 0 A) (F0 m 59 ls []) := by
        intro H locs hP hD hS ls hl
        refine lv_iconst (v := 0) hx hb dL_holds_59 (by decide) ?_
        refine lv_istore (lv' := [(9, .int 0), (8, .int (pipeT r i)), (7, .int (r 7 i)), (6, .int (nI i)), (5, .int t4), (4, .int t3), (3, .int t2), (2, .int t1), (0, .ref o), (1, .int fl)]) hx hb dL_holds_60 hl (by decide) rfl (fun ls hl => ?_)
        refine lv_iconst (v := 0) hx hb dL_holds_62 (by decide) ?_
        refine lv_istore (lv' := [(10, .int 0), (9, .int 0), (8, .int (pipeT r i)), (7, .int (r 7 i)), (6, .int (nI i)), (5, .int t4), (4, .int t3), (3, .int t2), (2, .int t1), (0, .ref o), (1, .int fl)]) hx hb dL_holds_63 hl (by decide) rfl (fun ls hl => ?_)
        refine lv_iload hx hb dL_holds_65 (lv_at hl 4 rfl) ?_
        refine lv_iconst (v := 1) hx hb dL_holds_67 (by decide) ?_
        refine lv_iadd hx hb dL_holds_68 ?_
        refine lv_eqi (y := nI (i + 1)) (nI_add i 1) ?_
        refine lv_istore (lv' := [(11, .int (nI (i + 1))), (10, .int 0), (9, .int 0), (8, .int (pipeT r i)), (7, .int (r 7 i)), (6, .int (nI i)), (5, .int t4), (4, .int t3), (3, .int t2), (2, .int t1), (0, .ref o), (1, .int fl)]) hx hb dL_holds_69 hl (by decide) rfl (fun ls hl => ?_)
        have Lf : ∀ (n9 e9 : Nat) (fb : Int32), e9 + n9 = 6 → fdV r i n9 e9 fb = fdV r i (6 - (i + 1)) (i + 1) 0 → ∀ (H : Heap) (locs : List Loc), va_P D vwCl ((cO o [.ref (a 0), .ref (a2 0), .ref s0, .ref x0]) ++ (cR cI a r) ++ (cR cI a2 q) ++ (cS cQ s0 w0 f vo vh)) H → va_D A ((cO o [.ref (a 0), .ref (a2 0), .ref s0, .ref x0]) ++ (cR cI a r) ++ (cR cI a2 q) ++ (cS cQ s0 w0 f vo vh)) → va_S A s.heap H locs → ∀ (ls : Array Slot), lv_has ls 12 [(11, .int (nI e9)), (10, .int fb), (9, .int 0), (8, .int (pipeT r i)), (7, .int (r 7 i)), (6, .int (nI i)), (5, .int t4), (4, .int t3), (3, .int t2), (2, .int t1), (0, .ref o), (1, .int fl)] → W p l e ({ frames := 4, cells := 0, slots := 0, locals := 102 } : Room) s m ([.ref o, .int fl] : List Value).toArray below meth c H locs 0 0 (MQ below (va_Qi (fun (x : Int32) (_ : Unit) => x = 1) (fun _ t => Wd D ((cO o [.ref (a 0), .ref (a2 0), .ref s0, .ref x0]) ++ (cR cI a r) ++ (cR cI a2 ((dyC 301 0 r).1)) ++ (cS cQ s0 w0 f vo vh)) t) A) ([.ref o, .int fl] : List Value).toArray s 0 0 A) (F0 m 71 ls []) := by
          intro n9
          induction n9 with
          | zero =>
            intro e9 fb hin9 hres9 H locs hP hD hS ls hl
            have hfd : fb = fdV r i (6 - (i + 1)) (i + 1) 0 := hres9
            refine lv_iload hx hb dL_holds_71 (lv_at hl 0 rfl) ?_
            refine lv_bipush (v := 6) hx hb dL_holds_73 (by decide) ?_
            refine lv_icmp_ge (tgt := 108) hx hb dL_holds_75 (by decide) (fun _ => ?_) (fun h9 => absurd (nI_le (a := 6) (b := e9) (by omega) (by omega)) h9)
            refine lv_iload_n hx hb dL_holds_108 rfl (lv_at hl 9 rfl) ?_
            refine lv_aload_n hx hb dL_holds_109 rfl (lv_at hl 10 rfl) ?_
            refine lv_iload hx hb dL_holds_110 (lv_at hl 5 rfl) ?_
            refine lv_iconst (v := 3) hx hb dL_holds_112 (by decide) ?_
            refine k_calli (wc := (cO o [.ref (a 0), .ref (a2 0), .ref s0, .ref x0]) ++ (cR cI a r)) (w' := (cO o [.ref (a 0), .ref (a2 0), .ref s0, .ref x0]) ++ (cR cI a r)) (wn := (cO o [.ref (a 0), .ref (a2 0), .ref s0, .ref x0]) ++ (cR cI a r) ++ (cR cI a2 q) ++ (cS cQ s0 w0 f vo vh)) (va_runV (As := [.int (nI i), .int 3]) (rest := [.int t1]) ⟨hx, hb, hml, hown, hts⟩ (mX3_planeOf l D cI cQ cJ o s0 x0 a a2 r i 3 (by omega) (by omega) _) (cwV 2 hts gL_holds_X3_planeOf rfl rfl rfl (by decide +kernel) ⟨Nat.le_of_ble_eq_true rfl, Nat.le_of_ble_eq_true rfl⟩) (k_preV (wc := (cO o [.ref (a 0), .ref (a2 0), .ref s0, .ref x0]) ++ (cR cI a r)) hE hK hP hD [0, 1, 2, 3, 4, 5, 6, 7, 8, 9, 10, 11, 12, 13] (by decide) rfl (ci := 3) (q0 := 0) rfl rfl [.int (nI i), .int 3]) rfl rfl hl.1 rfl (lv_room (Nat.le_of_ble_eq_true rfl)) dL_holds_113 ⟨Nat.zero_le _, Nat.zero_le _⟩) hP hD hS hA [0, 1, 2, 3, 4, 5, 6, 7, 8, 9, 10, 11, 12, 13] rfl rfl (putAt_same _ _ _ rfl) (fun H locs hP hD hS => ?_)
            refine lv_eqi (y := r 3 i) rfl ?_
            refine lv_aload_n hx hb dL_holds_116 rfl (lv_at hl 10 rfl) ?_
            refine lv_iload hx hb dL_holds_117 (lv_at hl 5 rfl) ?_
            refine lv_iconst (v := 4) hx hb dL_holds_119 (by decide) ?_
            refine k_calli (wc := (cO o [.ref (a 0), .ref (a2 0), .ref s0, .ref x0]) ++ (cR cI a r)) (w' := (cO o [.ref (a 0), .ref (a2 0), .ref s0, .ref x0]) ++ (cR cI a r)) (wn := (cO o [.ref (a 0), .ref (a2 0), .ref s0, .ref x0]) ++ (cR cI a r) ++ (cR cI a2 q) ++ (cS cQ s0 w0 f vo vh)) (va_runV (As := [.int (nI i), .int 4]) (rest := [.int (r 3 i), .int t1]) ⟨hx, hb, hml, hown, hts⟩ (mX3_gutterOf l D cI cQ cJ o s0 x0 a a2 r i 4 (by omega) (by omega) _) (cwV 2 hts gL_holds_X3_gutterOf rfl rfl rfl (by decide +kernel) ⟨Nat.le_of_ble_eq_true rfl, Nat.le_of_ble_eq_true rfl⟩) (k_preV (wc := (cO o [.ref (a 0), .ref (a2 0), .ref s0, .ref x0]) ++ (cR cI a r)) hE hK hP hD [0, 1, 2, 3, 4, 5, 6, 7, 8, 9, 10, 11, 12, 13] (by decide) rfl (ci := 3) (q0 := 0) rfl rfl [.int (nI i), .int 4]) rfl rfl hl.1 rfl (lv_room (Nat.le_of_ble_eq_true rfl)) dL_holds_120 ⟨Nat.zero_le _, Nat.zero_le _⟩) hP hD hS hA [0, 1, 2, 3, 4, 5, 6, 7, 8, 9, 10, 11, 12, 13] rfl rfl (putAt_same _ _ _ rfl) (fun H locs hP hD hS => ?_)
            refine lv_eqi (y := r 8 i) rfl ?_
            refine lv_iadd hx hb dL_holds_123 ?_
            refine lv_iadd hx hb dL_holds_124 ?_
            refine lv_istore_n (lv' := [(2, .int (t1 + ((r 3 i) + (r 8 i)))), (11, .int (nI e9)), (10, .int fb), (9, .int 0), (8, .int (pipeT r i)), (7, .int (r 7 i)), (6, .int (nI i)), (5, .int t4), (4, .int t3), (3, .int t2), (0, .ref o), (1, .int fl)]) hx hb dL_holds_125 rfl hl (by decide) rfl (fun ls hl => ?_)
            refine lv_iload_n hx hb dL_holds_126 rfl (lv_at hl 9 rfl) ?_
            refine lv_aload_n hx hb dL_holds_127 rfl (lv_at hl 10 rfl) ?_
            refine lv_iload hx hb dL_holds_128 (lv_at hl 6 rfl) ?_
            refine lv_bipush (v := 8) hx hb dL_holds_130 (by decide) ?_
            refine k_calli (wc := (cO o [.ref (a 0), .ref (a2 0), .ref s0, .ref x0]) ++ (cR cI a r)) (w' := (cO o [.ref (a 0), .ref (a2 0), .ref s0, .ref x0]) ++ (cR cI a r)) (wn := (cO o [.ref (a 0), .ref (a2 0), .ref s0, .ref x0]) ++ (cR cI a r) ++ (cR cI a2 q) ++ (cS cQ s0 w0 f vo vh)) (va_runV (As := [.int (nI i), .int 8]) (rest := [.int t2]) ⟨hx, hb, hml, hown, hts⟩ (mX3_gutterOf l D cI cQ cJ o s0 x0 a a2 r i 8 (by omega) (by omega) _) (cwV 2 hts gL_holds_X3_gutterOf rfl rfl rfl (by decide +kernel) ⟨Nat.le_of_ble_eq_true rfl, Nat.le_of_ble_eq_true rfl⟩) (k_preV (wc := (cO o [.ref (a 0), .ref (a2 0), .ref s0, .ref x0]) ++ (cR cI a r)) hE hK hP hD [0, 1, 2, 3, 4, 5, 6, 7, 8, 9, 10, 11, 12, 13] (by decide) rfl (ci := 3) (q0 := 0) rfl rfl [.int (nI i), .int 8]) rfl rfl hl.1 rfl (lv_room (Nat.le_of_ble_eq_true rfl)) dL_holds_132 ⟨Nat.zero_le _, Nat.zero_le _⟩) hP hD hS hA [0, 1, 2, 3, 4, 5, 6, 7, 8, 9, 10, 11, 12, 13] rfl rfl (putAt_same _ _ _ rfl) (fun H locs hP hD hS => ?_)
            refine lv_eqi (y := r 10 i) rfl ?_
            refine lv_iadd hx hb dL_holds_135 ?_
            refine lv_istore_n (lv' := [(3, .int (t2 + (r 10 i))), (2, .int (t1 + ((r 3 i) + (r 8 i)))), (11, .int (nI e9)), (10, .int fb), (9, .int 0), (8, .int (pipeT r i)), (7, .int (r 7 i)), (6, .int (nI i)), (5, .int t4), (4, .int t3), (0, .ref o), (1, .int fl)]) hx hb dL_holds_136 rfl hl (by decide) rfl (fun ls hl => ?_)
            refine lv_iload hx hb dL_holds_137 (lv_at hl 9 rfl) ?_
            refine lv_aload_n hx hb dL_holds_139 rfl (lv_at hl 10 rfl) ?_
            refine lv_iload hx hb dL_holds_140 (lv_at hl 7 rfl) ?_
            refine lv_bipush (v := 7) hx hb dL_holds_142 (by decide) ?_
            refine k_calli (wc := (cO o [.ref (a 0), .ref (a2 0), .ref s0, .ref x0]) ++ (cR cI a r)) (w' := (cO o [.ref (a 0), .ref (a2 0), .ref s0, .ref x0]) ++ (cR cI a r)) (wn := (cO o [.ref (a 0), .ref (a2 0), .ref s0, .ref x0]) ++ (cR cI a r) ++ (cR cI a2 q) ++ (cS cQ s0 w0 f vo vh)) (va_runV (As := [.int (nI i), .int 7]) (rest := [.int t3]) ⟨hx, hb, hml, hown, hts⟩ (mX3_gutterOf l D cI cQ cJ o s0 x0 a a2 r i 7 (by omega) (by omega) _) (cwV 2 hts gL_holds_X3_gutterOf rfl rfl rfl (by decide +kernel) ⟨Nat.le_of_ble_eq_true rfl, Nat.le_of_ble_eq_true rfl⟩) (k_preV (wc := (cO o [.ref (a 0), .ref (a2 0), .ref s0, .ref x0]) ++ (cR cI a r)) hE hK hP hD [0, 1, 2, 3, 4, 5, 6, 7, 8, 9, 10, 11, 12, 13] (by decide) rfl (ci := 3) (q0 := 0) rfl rfl [.int (nI i), .int 7]) rfl rfl hl.1 rfl (lv_room (Nat.le_of_ble_eq_true rfl)) dL_holds_144 ⟨Nat.zero_le _, Nat.zero_le _⟩) hP hD hS hA [0, 1, 2, 3, 4, 5, 6, 7, 8, 9, 10, 11, 12, 13] rfl rfl (putAt_same _ _ _ rfl) (fun H locs hP hD hS => ?_)
            refine lv_eqi (y := r 9 i) rfl ?_
            refine lv_iadd hx hb dL_holds_147 ?_
            refine lv_istore (lv' := [(4, .int (t3 + (r 9 i))), (3, .int (t2 + (r 10 i))), (2, .int (t1 + ((r 3 i) + (r 8 i)))), (11, .int (nI e9)), (10, .int fb), (9, .int 0), (8, .int (pipeT r i)), (7, .int (r 7 i)), (6, .int (nI i)), (5, .int t4), (0, .ref o), (1, .int fl)]) hx hb dL_holds_148 hl (by decide) rfl (fun ls hl => ?_)
            refine lv_iload hx hb dL_holds_150 (lv_at hl 9 rfl) ?_
            refine lv_aload_n hx hb dL_holds_152 rfl (lv_at hl 10 rfl) ?_
            refine lv_iload hx hb dL_holds_153 (lv_at hl 8 rfl) ?_
            refine lv_iconst (v := 2) hx hb dL_holds_155 (by decide) ?_
            refine k_calli (wc := (cO o [.ref (a 0), .ref (a2 0), .ref s0, .ref x0]) ++ (cR cI a r)) (w' := (cO o [.ref (a 0), .ref (a2 0), .ref s0, .ref x0]) ++ (cR cI a r)) (wn := (cO o [.ref (a 0), .ref (a2 0), .ref s0, .ref x0]) ++ (cR cI a r) ++ (cR cI a2 q) ++ (cS cQ s0 w0 f vo vh)) (va_runV (As := [.int (nI i), .int 2]) (rest := [.int t4]) ⟨hx, hb, hml, hown, hts⟩ (mX3_gutterOf l D cI cQ cJ o s0 x0 a a2 r i 2 (by omega) (by omega) _) (cwV 2 hts gL_holds_X3_gutterOf rfl rfl rfl (by decide +kernel) ⟨Nat.le_of_ble_eq_true rfl, Nat.le_of_ble_eq_true rfl⟩) (k_preV (wc := (cO o [.ref (a 0), .ref (a2 0), .ref s0, .ref x0]) ++ (cR cI a r)) hE hK hP hD [0, 1, 2, 3, 4, 5, 6, 7, 8, 9, 10, 11, 12, 13] (by decide) rfl (ci := 3) (q0 := 0) rfl rfl [.int (nI i), .int 2]) rfl rfl hl.1 rfl (lv_room (Nat.le_of_ble_eq_true rfl)) dL_holds_156 ⟨Nat.zero_le _, Nat.zero_le _⟩) hP hD hS hA [0, 1, 2, 3, 4, 5, 6, 7, 8, 9, 10, 11, 12, 13] rfl rfl (putAt_same _ _ _ rfl) (fun H locs hP hD hS => ?_)
            refine lv_eqi (y := r 6 i) rfl ?_
            refine lv_iadd hx hb dL_holds_159 ?_
            refine lv_istore (lv' := [(5, .int (t4 + (r 6 i))), (4, .int (t3 + (r 9 i))), (3, .int (t2 + (r 10 i))), (2, .int (t1 + ((r 3 i) + (r 8 i)))), (11, .int (nI e9)), (10, .int fb), (9, .int 0), (8, .int (pipeT r i)), (7, .int (r 7 i)), (6, .int (nI i)), (0, .ref o), (1, .int fl)]) hx hb dL_holds_160 hl (by decide) rfl (fun ls hl => ?_)
            refine lv_iload hx hb dL_holds_162 (lv_at hl 6 rfl) ?_
            refine lv_if_ne (tgt := 246) hx hb dL_holds_164 (by decide) (fun h9 => absurd (by decide) h9) (fun _ => ?_)
            refine lv_aload_n hx hb dL_holds_167 rfl (lv_at hl 10 rfl) ?_
            refine lv_iload hx hb dL_holds_168 (lv_at hl 9 rfl) ?_
            refine lv_iconst (v := 5) hx hb dL_holds_170 (by decide) ?_
            refine k_calli (wc := (cO o [.ref (a 0), .ref (a2 0), .ref s0, .ref x0]) ++ (cR cI a r)) (w' := (cO o [.ref (a 0), .ref (a2 0), .ref s0, .ref x0]) ++ (cR cI a r)) (wn := (cO o [.ref (a 0), .ref (a2 0), .ref s0, .ref x0]) ++ (cR cI a r) ++ (cR cI a2 q) ++ (cS cQ s0 w0 f vo vh)) (va_runV (As := [.int (nI i), .int 5]) (rest := []) ⟨hx, hb, hml, hown, hts⟩ (mX3_gutterOf l D cI cQ cJ o s0 x0 a a2 r i 5 (by omega) (by omega) _) (cwV 2 hts gL_holds_X3_gutterOf rfl rfl rfl (by decide +kernel) ⟨Nat.le_of_ble_eq_true rfl, Nat.le_of_ble_eq_true rfl⟩) (k_preV (wc := (cO o [.ref (a 0), .ref (a2 0), .ref s0, .ref x0]) ++ (cR cI a r)) hE hK hP hD [0, 1, 2, 3, 4, 5, 6, 7, 8, 9, 10, 11, 12, 13] (by decide) rfl (ci := 3) (q0 := 0) rfl rfl [.int (nI i), .int 5]) rfl rfl hl.1 rfl (lv_room (Nat.le_of_ble_eq_true rfl)) dL_holds_171 ⟨Nat.zero_le _, Nat.zero_le _⟩) hP hD hS hA [0, 1, 2, 3, 4, 5, 6, 7, 8, 9, 10, 11, 12, 13] rfl rfl (putAt_same _ _ _ rfl) (fun H locs hP hD hS => ?_)
            refine lv_eqi (y := roomT r i) rfl ?_
            refine lv_aload_n hx hb dL_holds_174 rfl (lv_at hl 10 rfl) ?_
            refine lv_iload hx hb dL_holds_175 (lv_at hl 9 rfl) ?_
            refine lv_iconst (v := 0) hx hb dL_holds_177 (by decide) ?_
            refine k_calli (wc := (cO o [.ref (a 0), .ref (a2 0), .ref s0, .ref x0]) ++ (cR cI a r)) (w' := (cO o [.ref (a 0), .ref (a2 0), .ref s0, .ref x0]) ++ (cR cI a r)) (wn := (cO o [.ref (a 0), .ref (a2 0), .ref s0, .ref x0]) ++ (cR cI a r) ++ (cR cI a2 q) ++ (cS cQ s0 w0 f vo vh)) (va_runV (As := [.int (nI i), .int 0]) (rest := [.int (roomT r i)]) ⟨hx, hb, hml, hown, hts⟩ (mX3_gutterOf l D cI cQ cJ o s0 x0 a a2 r i 0 (by omega) (by omega) _) (cwV 2 hts gL_holds_X3_gutterOf rfl rfl rfl (by decide +kernel) ⟨Nat.le_of_ble_eq_true rfl, Nat.le_of_ble_eq_true rfl⟩) (k_preV (wc := (cO o [.ref (a 0), .ref (a2 0), .ref s0, .ref x0]) ++ (cR cI a r)) hE hK hP hD [0, 1, 2, 3, 4, 5, 6, 7, 8, 9, 10, 11, 12, 13] (by decide) rfl (ci := 3) (q0 := 0) rfl rfl [.int (nI i), .int 0]) rfl rfl hl.1 rfl (lv_room (Nat.le_of_ble_eq_true rfl)) dL_holds_178 ⟨Nat.zero_le _, Nat.zero_le _⟩) hP hD hS hA [0, 1, 2, 3, 4, 5, 6, 7, 8, 9, 10, 11, 12, 13] rfl rfl (putAt_same _ _ _ rfl) (fun H locs hP hD hS => ?_)
            refine lv_eqi (y := r 4 i) rfl ?_
            refine lv_icmp_gt (tgt := 246) hx hb dL_holds_181 (by decide) (fun h9 => absurd h9 (h1 i (by omega))) (fun _ => ?_)
            refine lv_iload hx hb dL_holds_184 (lv_at hl 7 rfl) ?_
            refine lv_aload_n hx hb dL_holds_186 rfl (lv_at hl 10 rfl) ?_
            refine lv_iload hx hb dL_holds_187 (lv_at hl 9 rfl) ?_
            refine lv_iconst (v := 1) hx hb dL_holds_189 (by decide) ?_
            refine k_calli (wc := (cO o [.ref (a 0), .ref (a2 0), .ref s0, .ref x0]) ++ (cR cI a r)) (w' := (cO o [.ref (a 0), .ref (a2 0), .ref s0, .ref x0]) ++ (cR cI a r)) (wn := (cO o [.ref (a 0), .ref (a2 0), .ref s0, .ref x0]) ++ (cR cI a r) ++ (cR cI a2 q) ++ (cS cQ s0 w0 f vo vh)) (va_runV (As := [.int (nI i), .int 1]) (rest := [.int (pipeT r i)]) ⟨hx, hb, hml, hown, hts⟩ (mX3_gutterOf l D cI cQ cJ o s0 x0 a a2 r i 1 (by omega) (by omega) _) (cwV 2 hts gL_holds_X3_gutterOf rfl rfl rfl (by decide +kernel) ⟨Nat.le_of_ble_eq_true rfl, Nat.le_of_ble_eq_true rfl⟩) (k_preV (wc := (cO o [.ref (a 0), .ref (a2 0), .ref s0, .ref x0]) ++ (cR cI a r)) hE hK hP hD [0, 1, 2, 3, 4, 5, 6, 7, 8, 9, 10, 11, 12, 13] (by decide) rfl (ci := 3) (q0 := 0) rfl rfl [.int (nI i), .int 1]) rfl rfl hl.1 rfl (lv_room (Nat.le_of_ble_eq_true rfl)) dL_holds_190 ⟨Nat.zero_le _, Nat.zero_le _⟩) hP hD hS hA [0, 1, 2, 3, 4, 5, 6, 7, 8, 9, 10, 11, 12, 13] rfl rfl (putAt_same _ _ _ rfl) (fun H locs hP hD hS => ?_)
            refine lv_eqi (y := r 5 i) rfl ?_
            refine lv_icmp_gt (tgt := 246) hx hb dL_holds_193 (by decide) (fun h9 => absurd h9 (h2 i (by omega))) (fun _ => ?_)
            have K224 : ∀ (H : Heap) (locs : List Loc), va_P D vwCl ((cO o [.ref (a 0), .ref (a2 0), .ref s0, .ref x0]) ++ (cR cI a r) ++ (cR cI a2 q) ++ (cS cQ s0 w0 f vo vh)) H → va_D A ((cO o [.ref (a 0), .ref (a2 0), .ref s0, .ref x0]) ++ (cR cI a r) ++ (cR cI a2 q) ++ (cS cQ s0 w0 f vo vh)) → va_S A s.heap H locs → ∀ (ls : Array Slot), lv_has ls 12 [(5, .int (t4 + (r 6 i))), (4, .int (t3 + (r 9 i))), (3, .int (t2 + (r 10 i))), (2, .int (t1 + ((r 3 i) + (r 8 i)))), (11, .int (nI e9)), (10, .int fb), (9, .int 0), (8, .int (pipeT r i)), (7, .int (r 7 i)), (6, .int (nI i)), (0, .ref o), (1, .int fl)] → W p l e ({ frames := 4, cells := 0, slots := 0, locals := 102 } : Room) s m ([.ref o, .int fl] : List Value).toArray below meth c H locs 0 0 (MQ below (va_Qi (fun (x : Int32) (_ : Unit) => x = 1) (fun _ t => Wd D ((cO o [.ref (a 0), .ref (a2 0), .ref s0, .ref x0]) ++ (cR cI a r) ++ (cR cI a2 ((dyC 301 0 r).1)) ++ (cS cQ s0 w0 f vo vh)) t) A) ([.ref o, .int fl] : List Value).toArray s 0 0 A) (F0 m 224 ls []) := by
              intro H locs hP hD hS ls hl
              refine lv_aload_n hx hb dL_holds_224 rfl (lv_at hl 10 rfl) ?_
              refine lv_iload hx hb dL_holds_225 (lv_at hl 9 rfl) ?_
              refine lv_iconst (v := 2) hx hb dL_holds_227 (by decide) ?_
              refine k_calli (wc := (cO o [.ref (a 0), .ref (a2 0), .ref s0, .ref x0]) ++ (cR cI a r)) (w' := (cO o [.ref (a 0), .ref (a2 0), .ref s0, .ref x0]) ++ (cR cI a r)) (wn := (cO o [.ref (a 0), .ref (a2 0), .ref s0, .ref x0]) ++ (cR cI a r) ++ (cR cI a2 q) ++ (cS cQ s0 w0 f vo vh)) (va_runV (As := [.int (nI i), .int 2]) (rest := []) ⟨hx, hb, hml, hown, hts⟩ (mX3_gutterOf l D cI cQ cJ o s0 x0 a a2 r i 2 (by omega) (by omega) _) (cwV 2 hts gL_holds_X3_gutterOf rfl rfl rfl (by decide +kernel) ⟨Nat.le_of_ble_eq_true rfl, Nat.le_of_ble_eq_true rfl⟩) (k_preV (wc := (cO o [.ref (a 0), .ref (a2 0), .ref s0, .ref x0]) ++ (cR cI a r)) hE hK hP hD [0, 1, 2, 3, 4, 5, 6, 7, 8, 9, 10, 11, 12, 13] (by decide) rfl (ci := 3) (q0 := 0) rfl rfl [.int (nI i), .int 2]) rfl rfl hl.1 rfl (lv_room (Nat.le_of_ble_eq_true rfl)) dL_holds_228 ⟨Nat.zero_le _, Nat.zero_le _⟩) hP hD hS hA [0, 1, 2, 3, 4, 5, 6, 7, 8, 9, 10, 11, 12, 13] rfl rfl (putAt_same _ _ _ rfl) (fun H locs hP hD hS => ?_)
              refine lv_eqi (y := r 6 i) rfl ?_
              refine lv_bipush (v := 100) hx hb dL_holds_231 (by decide) ?_
              refine lv_icmp_gt (tgt := 246) hx hb dL_holds_233 (by decide) (fun h9 => absurd h9 (h4 i (by omega))) (fun _ => ?_)
              refine lv_aload_n hx hb dL_holds_236 rfl (lv_at hl 10 rfl) ?_
              refine lv_iload hx hb dL_holds_237 (lv_at hl 9 rfl) ?_
              refine lv_iconst (v := 4) hx hb dL_holds_239 (by decide) ?_
              refine k_calli (wc := (cO o [.ref (a 0), .ref (a2 0), .ref s0, .ref x0]) ++ (cR cI a r)) (w' := (cO o [.ref (a 0), .ref (a2 0), .ref s0, .ref x0]) ++ (cR cI a r)) (wn := (cO o [.ref (a 0), .ref (a2 0), .ref s0, .ref x0]) ++ (cR cI a r) ++ (cR cI a2 q) ++ (cS cQ s0 w0 f vo vh)) (va_runV (As := [.int (nI i), .int 4]) (rest := []) ⟨hx, hb, hml, hown, hts⟩ (mX3_gutterOf l D cI cQ cJ o s0 x0 a a2 r i 4 (by omega) (by omega) _) (cwV 2 hts gL_holds_X3_gutterOf rfl rfl rfl (by decide +kernel) ⟨Nat.le_of_ble_eq_true rfl, Nat.le_of_ble_eq_true rfl⟩) (k_preV (wc := (cO o [.ref (a 0), .ref (a2 0), .ref s0, .ref x0]) ++ (cR cI a r)) hE hK hP hD [0, 1, 2, 3, 4, 5, 6, 7, 8, 9, 10, 11, 12, 13] (by decide) rfl (ci := 3) (q0 := 0) rfl rfl [.int (nI i), .int 4]) rfl rfl hl.1 rfl (lv_room (Nat.le_of_ble_eq_true rfl)) dL_holds_240 ⟨Nat.zero_le _, Nat.zero_le _⟩) hP hD hS hA [0, 1, 2, 3, 4, 5, 6, 7, 8, 9, 10, 11, 12, 13] rfl rfl (putAt_same _ _ _ rfl) (fun H locs hP hD hS => ?_)
              refine lv_eqi (y := r 8 i) rfl ?_
              refine lv_if_ge (tgt := 248) hx hb dL_holds_243 (by decide) (fun _ => ?_) (fun h9 => absurd (h5 i (by omega)) h9)
              refine lv_iload_n hx hb dL_holds_248 rfl (lv_at hl 11 rfl) ?_
              refine lv_if_eq (tgt := 276) hx hb dL_holds_249 (by decide) (fun c_4 => ?_) (fun c_4 => ?_)
              · skip
                refine lv_iinc (v := nI (i + 1)) (lv' := [(6, .int (nI (i + 1))), (5, .int (t4 + (r 6 i))), (4, .int (t3 + (r 9 i))), (3, .int (t2 + (r 10 i))), (2, .int (t1 + ((r 3 i) + (r 8 i)))), (11, .int (nI e9)), (10, .int fb), (9, .int 0), (8, .int (pipeT r i)), (7, .int (r 7 i)), (0, .ref o), (1, .int fl)]) hx hb dL_holds_276 hl (k := 9) rfl (nI_1 i) (by decide) rfl (fun ls hl => ?_)
                refine lv_goto (tgt := 13) hx hb dL_holds_279 (by decide) ?_
                exact ih (i + 1) (t1 + ((r 3 i) + (r 8 i))) (t2 + (r 10 i)) (t3 + (r 9 i)) (t4 + (r 6 i)) (by omega) (by exact hres) H locs hP hD hS ls (lv_sub hl [0, 1, 2, 3, 4, 10, 11] rfl)
              · skip
                refine lv_iload hx hb dL_holds_252 (lv_at hl 5 rfl) ?_
                refine lv_if_ne (tgt := 276) hx hb dL_holds_254 (by decide) (fun c_5 => ?_) (fun c_5 => ?_)
                · skip
                  refine lv_iinc (v := nI (i + 1)) (lv' := [(6, .int (nI (i + 1))), (5, .int (t4 + (r 6 i))), (4, .int (t3 + (r 9 i))), (3, .int (t2 + (r 10 i))), (2, .int (t1 + ((r 3 i) + (r 8 i)))), (11, .int (nI e9)), (10, .int fb), (9, .int 0), (8, .int (pipeT r i)), (7, .int (r 7 i)), (0, .ref o), (1, .int fl)]) hx hb dL_holds_276 hl (k := 9) rfl (nI_1 i) (by decide) rfl (fun ls hl => ?_)
                  refine lv_goto (tgt := 13) hx hb dL_holds_279 (by decide) ?_
                  exact ih (i + 1) (t1 + ((r 3 i) + (r 8 i))) (t2 + (r 10 i)) (t3 + (r 9 i)) (t4 + (r 6 i)) (by omega) (by exact hres) H locs hP hD hS ls (lv_sub hl [0, 1, 2, 3, 4, 10, 11] rfl)
                · skip
                  refine lv_aload_n hx hb dL_holds_257 rfl (lv_at hl 10 rfl) ?_
                  refine lv_iload hx hb dL_holds_258 (lv_at hl 9 rfl) ?_
                  refine lv_iconst (v := 4) hx hb dL_holds_260 (by decide) ?_
                  refine k_calli (wc := (cO o [.ref (a 0), .ref (a2 0), .ref s0, .ref x0]) ++ (cR cI a r)) (w' := (cO o [.ref (a 0), .ref (a2 0), .ref s0, .ref x0]) ++ (cR cI a r)) (wn := (cO o [.ref (a 0), .ref (a2 0), .ref s0, .ref x0]) ++ (cR cI a r) ++ (cR cI a2 q) ++ (cS cQ s0 w0 f vo vh)) (va_runV (As := [.int (nI i), .int 4]) (rest := []) ⟨hx, hb, hml, hown, hts⟩ (mX3_gutterOf l D cI cQ cJ o s0 x0 a a2 r i 4 (by omega) (by omega) _) (cwV 2 hts gL_holds_X3_gutterOf rfl rfl rfl (by decide +kernel) ⟨Nat.le_of_ble_eq_true rfl, Nat.le_of_ble_eq_true rfl⟩) (k_preV (wc := (cO o [.ref (a 0), .ref (a2 0), .ref s0, .ref x0]) ++ (cR cI a r)) hE hK hP hD [0, 1, 2, 3, 4, 5, 6, 7, 8, 9, 10, 11, 12, 13] (by decide) rfl (ci := 3) (q0 := 0) rfl rfl [.int (nI i), .int 4]) rfl rfl hl.1 rfl (lv_room (Nat.le_of_ble_eq_true rfl)) dL_holds_261 ⟨Nat.zero_le _, Nat.zero_le _⟩) hP hD hS hA [0, 1, 2, 3, 4, 5, 6, 7, 8, 9, 10, 11, 12, 13] rfl rfl (putAt_same _ _ _ rfl) (fun H locs hP hD hS => ?_)
                  refine lv_eqi (y := r 8 i) rfl ?_
                  refine lv_aload_n hx hb dL_holds_264 rfl (lv_at hl 10 rfl) ?_
                  refine lv_iload hx hb dL_holds_265 (lv_at hl 9 rfl) ?_
                  refine lv_iconst (v := 5) hx hb dL_holds_267 (by decide) ?_
                  refine k_calli (wc := (cO o [.ref (a 0), .ref (a2 0), .ref s0, .ref x0]) ++ (cR cI a r)) (w' := (cO o [.ref (a 0), .ref (a2 0), .ref s0, .ref x0]) ++ (cR cI a r)) (wn := (cO o [.ref (a 0), .ref (a2 0), .ref s0, .ref x0]) ++ (cR cI a r) ++ (cR cI a2 q) ++ (cS cQ s0 w0 f vo vh)) (va_runV (As := [.int (nI i), .int 5]) (rest := [.int (r 8 i)]) ⟨hx, hb, hml, hown, hts⟩ (mX3_gutterOf l D cI cQ cJ o s0 x0 a a2 r i 5 (by omega) (by omega) _) (cwV 2 hts gL_holds_X3_gutterOf rfl rfl rfl (by decide +kernel) ⟨Nat.le_of_ble_eq_true rfl, Nat.le_of_ble_eq_true rfl⟩) (k_preV (wc := (cO o [.ref (a 0), .ref (a2 0), .ref s0, .ref x0]) ++ (cR cI a r)) hE hK hP hD [0, 1, 2, 3, 4, 5, 6, 7, 8, 9, 10, 11, 12, 13] (by decide) rfl (ci := 3) (q0 := 0) rfl rfl [.int (nI i), .int 5]) rfl rfl hl.1 rfl (lv_room (Nat.le_of_ble_eq_true rfl)) dL_holds_268 ⟨Nat.zero_le _, Nat.zero_le _⟩) hP hD hS hA [0, 1, 2, 3, 4, 5, 6, 7, 8, 9, 10, 11, 12, 13] rfl rfl (putAt_same _ _ _ rfl) (fun H locs hP hD hS => ?_)
                  refine lv_eqi (y := roomT r i) rfl ?_
                  refine lv_icmp_le (tgt := 276) hx hb dL_holds_271 (by decide) (fun _ => ?_) (fun h9 => absurd (h6 c_4 i (by omega) (hfd ▸ c_5)) h9)
                  refine lv_iinc (v := nI (i + 1)) (lv' := [(6, .int (nI (i + 1))), (5, .int (t4 + (r 6 i))), (4, .int (t3 + (r 9 i))), (3, .int (t2 + (r 10 i))), (2, .int (t1 + ((r 3 i) + (r 8 i)))), (11, .int (nI e9)), (10, .int fb), (9, .int 0), (8, .int (pipeT r i)), (7, .int (r 7 i)), (0, .ref o), (1, .int fl)]) hx hb dL_holds_276 hl (k := 9) rfl (nI_1 i) (by decide) rfl (fun ls hl => ?_)
                  refine lv_goto (tgt := 13) hx hb dL_holds_279 (by decide) ?_
                  exact ih (i + 1) (t1 + ((r 3 i) + (r 8 i))) (t2 + (r 10 i)) (t3 + (r 9 i)) (t4 + (r 6 i)) (by omega) (by exact hres) H locs hP hD hS ls (lv_sub hl [0, 1, 2, 3, 4, 10, 11] rfl)
            by_cases hz : pipeT r i = 0
            · skip
              refine lv_iload hx hb dL_holds_196 (lv_at hl 7 rfl) ?_
              refine lv_if_ne (tgt := 205) hx hb dL_holds_198 (by decide) (fun h9 => absurd hz h9) (fun _ => ?_)
              refine lv_iconst (v := 1) hx hb dL_holds_201 (by decide) ?_
              refine lv_goto (tgt := 206) hx hb dL_holds_202 (by decide) ?_
              refine lv_aload_n hx hb dL_holds_206 rfl (lv_at hl 10 rfl) ?_
              refine lv_iload hx hb dL_holds_207 (lv_at hl 9 rfl) ?_
              refine lv_iconst (v := 1) hx hb dL_holds_209 (by decide) ?_
              refine k_calli (wc := (cO o [.ref (a 0), .ref (a2 0), .ref s0, .ref x0]) ++ (cR cI a r)) (w' := (cO o [.ref (a 0), .ref (a2 0), .ref s0, .ref x0]) ++ (cR cI a r)) (wn := (cO o [.ref (a 0), .ref (a2 0), .ref s0, .ref x0]) ++ (cR cI a r) ++ (cR cI a2 q) ++ (cS cQ s0 w0 f vo vh)) (va_runV (As := [.int (nI i), .int 1]) (rest := [.int 1]) ⟨hx, hb, hml, hown, hts⟩ (mX3_gutterOf l D cI cQ cJ o s0 x0 a a2 r i 1 (by omega) (by omega) _) (cwV 2 hts gL_holds_X3_gutterOf rfl rfl rfl (by decide +kernel) ⟨Nat.le_of_ble_eq_true rfl, Nat.le_of_ble_eq_true rfl⟩) (k_preV (wc := (cO o [.ref (a 0), .ref (a2 0), .ref s0, .ref x0]) ++ (cR cI a r)) hE hK hP hD [0, 1, 2, 3, 4, 5, 6, 7, 8, 9, 10, 11, 12, 13] (by decide) rfl (ci := 3) (q0 := 0) rfl rfl [.int (nI i), .int 1]) rfl rfl hl.1 rfl (lv_room (Nat.le_of_ble_eq_true rfl)) dL_holds_210 ⟨Nat.zero_le _, Nat.zero_le _⟩) hP hD hS hA [0, 1, 2, 3, 4, 5, 6, 7, 8, 9, 10, 11, 12, 13] rfl rfl (putAt_same _ _ _ rfl) (fun H locs hP hD hS => ?_)
              refine lv_eqi (y := r 5 i) rfl ?_
              refine lv_if_ne (tgt := 220) hx hb dL_holds_213 (by decide) (fun h9 => absurd ((h3 i (by omega)).mp hz) h9) (fun _ => ?_)
              refine lv_iconst (v := 1) hx hb dL_holds_216 (by decide) ?_
              refine lv_goto (tgt := 221) hx hb dL_holds_217 (by decide) ?_
              refine lv_icmp_ne (tgt := 246) hx hb dL_holds_221 (by decide) (fun h9 => absurd (by decide) h9) (fun _ => ?_)
              exact K224 H locs hP hD hS ls (lv_sub hl [0, 1, 2, 3, 4, 5, 6, 7, 8, 9, 10, 11] rfl)
            · skip
              refine lv_iload hx hb dL_holds_196 (lv_at hl 7 rfl) ?_
              refine lv_if_ne (tgt := 205) hx hb dL_holds_198 (by decide) (fun _ => ?_) (fun h9 => absurd h9 hz)
              refine lv_iconst (v := 0) hx hb dL_holds_205 (by decide) ?_
              refine lv_aload_n hx hb dL_holds_206 rfl (lv_at hl 10 rfl) ?_
              refine lv_iload hx hb dL_holds_207 (lv_at hl 9 rfl) ?_
              refine lv_iconst (v := 1) hx hb dL_holds_209 (by decide) ?_
              refine k_calli (wc := (cO o [.ref (a 0), .ref (a2 0), .ref s0, .ref x0]) ++ (cR cI a r)) (w' := (cO o [.ref (a 0), .ref (a2 0), .ref s0, .ref x0]) ++ (cR cI a r)) (wn := (cO o [.ref (a 0), .ref (a2 0), .ref s0, .ref x0]) ++ (cR cI a r) ++ (cR cI a2 q) ++ (cS cQ s0 w0 f vo vh)) (va_runV (As := [.int (nI i), .int 1]) (rest := [.int 0]) ⟨hx, hb, hml, hown, hts⟩ (mX3_gutterOf l D cI cQ cJ o s0 x0 a a2 r i 1 (by omega) (by omega) _) (cwV 2 hts gL_holds_X3_gutterOf rfl rfl rfl (by decide +kernel) ⟨Nat.le_of_ble_eq_true rfl, Nat.le_of_ble_eq_true rfl⟩) (k_preV (wc := (cO o [.ref (a 0), .ref (a2 0), .ref s0, .ref x0]) ++ (cR cI a r)) hE hK hP hD [0, 1, 2, 3, 4, 5, 6, 7, 8, 9, 10, 11, 12, 13] (by decide) rfl (ci := 3) (q0 := 0) rfl rfl [.int (nI i), .int 1]) rfl rfl hl.1 rfl (lv_room (Nat.le_of_ble_eq_true rfl)) dL_holds_210 ⟨Nat.zero_le _, Nat.zero_le _⟩) hP hD hS hA [0, 1, 2, 3, 4, 5, 6, 7, 8, 9, 10, 11, 12, 13] rfl rfl (putAt_same _ _ _ rfl) (fun H locs hP hD hS => ?_)
              refine lv_eqi (y := r 5 i) rfl ?_
              refine lv_if_ne (tgt := 220) hx hb dL_holds_213 (by decide) (fun _ => ?_) (fun h9 => absurd h9 (fun h8 => hz ((h3 i (by omega)).mpr h8)))
              refine lv_iconst (v := 0) hx hb dL_holds_220 (by decide) ?_
              refine lv_icmp_ne (tgt := 246) hx hb dL_holds_221 (by decide) (fun h9 => absurd (by decide) h9) (fun _ => ?_)
              exact K224 H locs hP hD hS ls (lv_sub hl [0, 1, 2, 3, 4, 5, 6, 7, 8, 9, 10, 11] rfl)
          | succ n9 ih9 =>
            intro e9 fb hin9 hres9 H locs hP hD hS ls hl
            refine lv_iload hx hb dL_holds_71 (lv_at hl 0 rfl) ?_
            refine lv_bipush (v := 6) hx hb dL_holds_73 (by decide) ?_
            refine lv_icmp_ge (tgt := 108) hx hb dL_holds_75 (by decide) (fun h9 => absurd h9 (nI_ge (a := e9) (b := 6) (by omega) (by omega))) (fun _ => ?_)
            refine lv_iload hx hb dL_holds_78 (lv_at hl 1 rfl) ?_
            refine lv_if_ne (tgt := 95) hx hb dL_holds_80 (by decide) (fun c_6 => ?_) (fun c_6 => ?_)
            · skip
              refine lv_iconst (v := 1) hx hb dL_holds_95 (by decide) ?_
              refine lv_goto (tgt := 100) hx hb dL_holds_96 (by decide) ?_
              refine lv_istore (lv' := [(10, .int 1), (11, .int (nI e9)), (9, .int 0), (8, .int (pipeT r i)), (7, .int (r 7 i)), (6, .int (nI i)), (5, .int t4), (4, .int t3), (3, .int t2), (2, .int t1), (0, .ref o), (1, .int fl)]) hx hb dL_holds_100 hl (by decide) rfl (fun ls hl => ?_)
              refine lv_iinc (v := nI (e9 + 1)) (lv' := [(11, .int (nI (e9 + 1))), (10, .int 1), (9, .int 0), (8, .int (pipeT r i)), (7, .int (r 7 i)), (6, .int (nI i)), (5, .int t4), (4, .int t3), (3, .int t2), (2, .int t1), (0, .ref o), (1, .int fl)]) hx hb dL_holds_102 hl (k := 1) rfl (nI_1 e9) (by decide) rfl (fun ls hl => ?_)
              refine lv_goto (tgt := 71) hx hb dL_holds_105 (by decide) ?_
              exact ih9 (e9 + 1) 1 (by omega) (by rw [← hres9]; simp only [fdV, if_neg c_6, ↓reduceIte]) H locs hP hD hS ls (lv_sub hl [0, 1, 2, 3, 4, 5, 6, 7, 8, 9, 10, 11] rfl)
            · skip
              refine lv_aload_n hx hb dL_holds_83 rfl (lv_at hl 10 rfl) ?_
              refine lv_iload hx hb dL_holds_84 (lv_at hl 0 rfl) ?_
              refine lv_iconst (v := 3) hx hb dL_holds_86 (by decide) ?_
              refine k_calli (wc := (cO o [.ref (a 0), .ref (a2 0), .ref s0, .ref x0]) ++ (cR cI a r)) (w' := (cO o [.ref (a 0), .ref (a2 0), .ref s0, .ref x0]) ++ (cR cI a r)) (wn := (cO o [.ref (a 0), .ref (a2 0), .ref s0, .ref x0]) ++ (cR cI a r) ++ (cR cI a2 q) ++ (cS cQ s0 w0 f vo vh)) (va_runV (As := [.int (nI e9), .int 3]) (rest := []) ⟨hx, hb, hml, hown, hts⟩ (mX3_gutterOf l D cI cQ cJ o s0 x0 a a2 r e9 3 (by omega) (by omega) _) (cwV 2 hts gL_holds_X3_gutterOf rfl rfl rfl (by decide +kernel) ⟨Nat.le_of_ble_eq_true rfl, Nat.le_of_ble_eq_true rfl⟩) (k_preV (wc := (cO o [.ref (a 0), .ref (a2 0), .ref s0, .ref x0]) ++ (cR cI a r)) hE hK hP hD [0, 1, 2, 3, 4, 5, 6, 7, 8, 9, 10, 11, 12, 13] (by decide) rfl (ci := 3) (q0 := 0) rfl rfl [.int (nI e9), .int 3]) rfl rfl hl.1 rfl (lv_room (Nat.le_of_ble_eq_true rfl)) dL_holds_87 ⟨Nat.zero_le _, Nat.zero_le _⟩) hP hD hS hA [0, 1, 2, 3, 4, 5, 6, 7, 8, 9, 10, 11, 12, 13] rfl rfl (putAt_same _ _ _ rfl) (fun H locs hP hD hS => ?_)
              refine lv_eqi (y := r 7 e9) rfl ?_
              refine lv_iload hx hb dL_holds_90 (lv_at hl 5 rfl) ?_
              refine lv_icmp_ne (tgt := 99) hx hb dL_holds_92 (by decide) (fun c_7 => ?_) (fun c_7 => ?_)
              · skip
                refine lv_iconst (v := 0) hx hb dL_holds_99 (by decide) ?_
                refine lv_istore (lv' := [(10, .int 0), (11, .int (nI e9)), (9, .int 0), (8, .int (pipeT r i)), (7, .int (r 7 i)), (6, .int (nI i)), (5, .int t4), (4, .int t3), (3, .int t2), (2, .int t1), (0, .ref o), (1, .int fl)]) hx hb dL_holds_100 hl (by decide) rfl (fun ls hl => ?_)
                refine lv_iinc (v := nI (e9 + 1)) (lv' := [(11, .int (nI (e9 + 1))), (10, .int 0), (9, .int 0), (8, .int (pipeT r i)), (7, .int (r 7 i)), (6, .int (nI i)), (5, .int t4), (4, .int t3), (3, .int t2), (2, .int t1), (0, .ref o), (1, .int fl)]) hx hb dL_holds_102 hl (k := 1) rfl (nI_1 e9) (by decide) rfl (fun ls hl => ?_)
                refine lv_goto (tgt := 71) hx hb dL_holds_105 (by decide) ?_
                exact ih9 (e9 + 1) 0 (by omega) (by rw [← hres9]; simp only [fdV, if_pos c_6, if_neg c_7, ↓reduceIte]) H locs hP hD hS ls (lv_sub hl [0, 1, 2, 3, 4, 5, 6, 7, 8, 9, 10, 11] rfl)
              · skip
                refine lv_iconst (v := 1) hx hb dL_holds_95 (by decide) ?_
                refine lv_goto (tgt := 100) hx hb dL_holds_96 (by decide) ?_
                refine lv_istore (lv' := [(10, .int 1), (11, .int (nI e9)), (9, .int 0), (8, .int (pipeT r i)), (7, .int (r 7 i)), (6, .int (nI i)), (5, .int t4), (4, .int t3), (3, .int t2), (2, .int t1), (0, .ref o), (1, .int fl)]) hx hb dL_holds_100 hl (by decide) rfl (fun ls hl => ?_)
                refine lv_iinc (v := nI (e9 + 1)) (lv' := [(11, .int (nI (e9 + 1))), (10, .int 1), (9, .int 0), (8, .int (pipeT r i)), (7, .int (r 7 i)), (6, .int (nI i)), (5, .int t4), (4, .int t3), (3, .int t2), (2, .int t1), (0, .ref o), (1, .int fl)]) hx hb dL_holds_102 hl (k := 1) rfl (nI_1 e9) (by decide) rfl (fun ls hl => ?_)
                refine lv_goto (tgt := 71) hx hb dL_holds_105 (by decide) ?_
                exact ih9 (e9 + 1) 1 (by omega) (by rw [← hres9]; simp only [fdV, if_pos c_6, if_pos c_7, ↓reduceIte]) H locs hP hD hS ls (lv_sub hl [0, 1, 2, 3, 4, 5, 6, 7, 8, 9, 10, 11] rfl)
        exact Lf (6 - (i + 1)) (i + 1) 0 (by omega) rfl H locs hP hD hS ls (lv_sub hl [0, 1, 2, 3, 4, 5, 6, 7, 8, 9, 10, 11] rfl)
      refine lv_iload hx hb dL_holds_39 (lv_at hl 1 rfl) ?_
      refine lv_if_lt (tgt := 59) hx hb dL_holds_41 (by decide) (fun c_8 => ?_) (fun c_8 => ?_)
      · skip
        exact K59 H locs hP hD hS ls (lv_sub hl [0, 1, 2, 3, 4, 5, 6, 7, 8] rfl)
      · skip
        refine lv_aload_n hx hb dL_holds_44 rfl (lv_at hl 7 rfl) ?_
        refine lv_iload hx hb dL_holds_45 (lv_at hl 1 rfl) ?_
        refine lv_iload hx hb dL_holds_47 (lv_at hl 2 rfl) ?_
        refine k_calli (wc := (cO o [.ref (a 0), .ref (a2 0), .ref s0, .ref x0]) ++ (cR cI a r)) (w' := (cO o [.ref (a 0), .ref (a2 0), .ref s0, .ref x0]) ++ (cR cI a r)) (wn := (cO o [.ref (a 0), .ref (a2 0), .ref s0, .ref x0]) ++ (cR cI a r) ++ (cR cI a2 q) ++ (cS cQ s0 w0 f vo vh)) (va_runS (As := [.ref o, .int (r 7 i), .int (nI i)]) (rest := []) ⟨hx, hb, hml, hown, hts⟩ (mL_leads l D cI cQ cJ o s0 x0 a a2 r hv (r 7 i) (nI i) (hv i (by omega)) _) (va_cwS 3 hts gL_holds_L_leads rfl rfl rfl (by decide +kernel) ⟨Nat.le_of_ble_eq_true rfl, Nat.le_of_ble_eq_true rfl⟩) (k_preS (wc := (cO o [.ref (a 0), .ref (a2 0), .ref s0, .ref x0]) ++ (cR cI a r)) hE hK hP hD [0, 1, 2, 3, 4, 5, 6, 7, 8, 9, 10, 11, 12, 13] (by decide) rfl [.ref o, .int (r 7 i), .int (nI i)]) rfl rfl hl.1 rfl (lv_room (Nat.le_of_ble_eq_true rfl)) dL_holds_49 ⟨Nat.zero_le _, Nat.zero_le _⟩) hP hD hS hA [0, 1, 2, 3, 4, 5, 6, 7, 8, 9, 10, 11, 12, 13] rfl rfl (putAt_same _ _ _ rfl) (fun H locs hP hD hS => ?_)
        refine lv_if_eq (tgt := 59) hx hb dL_holds_52 (by decide) (fun _ => ?_) (fun h9 => absurd (if_neg (hbk i (by omega) c_8)) h9)
        exact K59 H locs hP hD hS ls (lv_sub hl [0, 1, 2, 3, 4, 5, 6, 7, 8] rfl)
  exact Lp13 6 0 0 0 0 0 (by omega) rfl _ _ hP hD hS ls (lv_sub hl [0, 1, 2, 3, 4, 5, 6] rfl)
