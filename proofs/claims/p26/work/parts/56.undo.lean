/-! the rest of the face's calls -/
theorem nd_undo (i : Nat) : va_nd ([1, 2, 3, 4, 5, 6, 7, 8, 9, 10, 11, 12, 13] ++ List.range' (31 + 13 * i) 13) = true := nd_app (by decide) (nd_range _ _) (fun x hx h2 => by
  have := List.mem_range'_1.mp h2
  simp only [List.mem_cons, List.not_mem_nil, or_false] at hx
  omega)
set_option maxHeartbeats 4000000 in
set_option maxRecDepth 100000 in
theorem xX3_undo (l : Launch) (hfl : l.stackTraces = false) (D : va_G) (cI cQ cJ : ClassId) (o s0 w0 : Nat) (x a a2 : Nat → Nat) (A : Nat → Nat → Nat) (r q t : rB) (n old held : Nat) (B : Nat → rB)  (hok : svOk n old held) : XM l D (tY cI cQ cJ) yX3_undo wsX3_undo ({ frames := 6, cells := 1, slots := 6, locals := 90 } : Room) [.ref o] (WX cI cQ o s0 w0 x a a2 A r q t n (zF A n) (nI old) (nI held) B) (cUnd held) (fun z w' => z = nI (held - 1) ∧ w' = WX cI cQ o s0 w0 x a a2 A (B ((old + (held - 1)) % 6)) q t n (zF A n) (nI old) (nI (held - 1)) B) := by
  refine X_of (cc := cX3_undo) (maxL := 2) (ret := some .int) (by decide) rfl (Nat.le_of_ble_eq_true rfl) ?_
  intro p e s m below meth c A0 ls hB hT hE hX hP hK hD hA0 hl
  obtain ⟨hx, hb, hr, hml, hts, hown, hlocks⟩ := hB
  have hS : va_S A0 s.heap s.heap [] := va_S.rf
  have hA := hA0
  have hl : lv_has ls 2 [(0, .ref o)] := hl
  have hinX3 : ∀ w ∈ u_ws RX3 TX3 4, w ∈ wsX3_undo := by decide +kernel
  have fl22 := hts (.fieldLink RX3 22 "RoofDrains" "saved" "LRoofDrains$SavedRoofs;") (by decide +kernel)
  have fl10 := hts (.fieldLink RX3 10 "RoofDrains" "roof" "LRoofDrains$Roof;") (by decide +kernel)
  refine lv_aload_n hx hb dX3_undo_0 rfl (lv_at hl 0 rfl) ?_
  refine va_get (D := D) (ci := 3) (v := .ref s0) (C := RX3) (T := TX3) (N := 4) hx hb hts hinX3 hown hK hP 0 rfl rfl 2 (by decide) fl22 (fun _ h9 => h9) rfl dX3_undo_1 ?_
  refine va_callq (va_runV (As := []) (rest := []) ⟨hx, hb, hml, hown, hts⟩ (mX2_dropLatest l D cI cQ cJ o s0 w0 x a a2 A r q t n old held B hok _) (cwV 0 hts gX3_undo_X2_dropLatest rfl rfl rfl (by decide +kernel) ⟨Nat.le_of_ble_eq_true rfl, Nat.le_of_ble_eq_true rfl⟩) (k_preRV (wr := []) (wc := (cO o [.ref (a 0), .ref (a2 0), .ref s0, .ref (x 0)]) ++ (cR cI a r) ++ (cR cI a2 q) ++ (cS cQ s0 w0 (zF A n) (nI old) (nI held)) ++ (cT cI x t) ++ (cZ cI A B n)) hE hK hP hD (ci := 2) (q0 := 27) rfl rfl []) rfl rfl hl.1 rfl (lv_room (Nat.le_of_ble_eq_true rfl)) dX3_undo_4 ⟨Nat.le_of_ble_eq_true rfl, Nat.le_of_ble_eq_true rfl⟩) hS (fun q9 _ h9 => k_freeR (wr := []) hD hS hA0 q9 h9) (fun q9 h9 => k_freeR (wr := []) hD hS hA0 q9 h9) (fun rq u9 t9 H locs ht hvm hw hB9 hz hk9 hS => ?_)
  subst hw
  have hP : va_P D vwCl (WX cI cQ o s0 w0 x a a2 A r q t n (zF A n) (nI old) (nI (held - 1)) B) H := by have h9 : va_P D vwCl (WX cI cQ o s0 w0 x a a2 A r q t n (zF A n) (nI old) (nI (held - 1)) B) t9.heap := hB9; rw [ht] at h9; exact h9
  have hD : va_D A0 (WX cI cQ o s0 w0 x a a2 A r q t n (zF A n) (nI old) (nI (held - 1)) B) := va_D_fst hD rfl
  by_cases h0 : held = 0
  · skip
    refine lv_eqv (y := .null) (by rw [show kD A old held = none from if_pos h0]; rfl) ?_
    obtain ⟨hP, hD⟩ := k_eqw (w' := WX cI cQ o s0 w0 x a a2 A r q t n (zF A n) (nI old) (nI held) B) (by rw [show held - 1 = held by omega]) hP hD
    refine lv_astore_nN (lv' := [(1, .null), (0, .ref o)]) hx hb dX3_undo_7 rfl hl (by decide) rfl (fun ls hl => ?_)
    refine lv_aload_nN hx hb dX3_undo_8 rfl (lv_at hl 0 rfl) ?_
    refine lv_ifnonnullN hx hb dX3_undo_9 ?_
    exact x_throw (E := "java/lang/IllegalStateException") (kE := 3) (text := "no saved state") (ik := 78) (is := 156) (ic := 82) (Ts := wsX3_undo) hfl hx hb hml hts hown hX hS hP hT hlocks rfl (by simp [eIOB, eIAE, eISE]) (by decide +kernel) (by decide +kernel) (fun _ h => List.mem_cons_of_mem _ (List.mem_append_right _ h)) bad3 hot3 (by decide +kernel) (by decide +kernel) hl.1 (by simp only [cUnd, if_pos h0, ↓reduceIte]) (by decide) dX3_undo_12 dX3_undo_15 dX3_undo_16 dX3_undo_18 dX3_undo_21 (Nat.le_of_ble_eq_true rfl) (Nat.le_of_ble_eq_true rfl) (Nat.le_of_ble_eq_true rfl) (Nat.le_of_ble_eq_true rfl) (Nat.le_of_ble_eq_true rfl) (Nat.le_of_ble_eq_true rfl)
  · skip
    obtain ⟨i, hi⟩ : ∃ i, i = (old + (held - 1)) % 6 := ⟨_, rfl⟩
    have hin : i < n := hi ▸ svOk_at hok h0
    refine lv_eqv (y := .ref (A i 0)) (by rw [show kD A old held = some (A i 0) from (if_neg h0).trans (by rw [hi])]; rfl) ?_
    refine lv_astore_n (lv' := [(1, .ref (A i 0)), (0, .ref o)]) hx hb dX3_undo_7 rfl hl (by decide) rfl (fun ls hl => ?_)
    refine lv_aload_n hx hb dX3_undo_8 rfl (lv_at hl 0 rfl) ?_
    refine lv_ifnonnull (tgt := 22) hx hb dX3_undo_9 (by decide) ?_
    refine lv_aload_n hx hb dX3_undo_22 rfl (lv_at hl 1 rfl) ?_
    refine va_get (D := D) (ci := 3) (v := .ref (a 0)) (C := RX3) (T := TX3) (N := 4) hx hb hts hinX3 hown hK hP 0 rfl rfl 0 (by decide) fl10 (fun _ h9 => h9) rfl dX3_undo_23 ?_
    refine lv_aload_n hx hb dX3_undo_26 rfl (lv_at hl 0 rfl) ?_
    have hC : ([1, 2, 3, 4, 5, 6, 7, 8, 9, 10, 11, 12, 13] ++ List.range' (31 + 13 * i) 13).map (fun z => (WX cI cQ o s0 w0 x a a2 A r q t n (zF A n) (nI old) (nI (held - 1)) B)[z]?) = (cR cI a r ++ cR cI (A i) (B i)).map some := map_app2 rfl (cZ_map (k := 31) rfl rfl hin)
    have hn9 : putAt (WX cI cQ o s0 w0 x a a2 A r q t n (zF A n) (nI old) (nI (held - 1)) B) ([1, 2, 3, 4, 5, 6, 7, 8, 9, 10, 11, 12, 13] ++ List.range' (31 + 13 * i) 13) (cR cI a (B i) ++ cR cI (A i) (B i)) = WX cI cQ o s0 w0 x a a2 A (B i) q t n (zF A n) (nI old) (nI (held - 1)) B := by
      rw [putAt_cat _ _ _ _ _ rfl]
      refine (cZ_put (w := (cO o [.ref (a 0), .ref (a2 0), .ref s0, .ref (x 0)]) ++ (cR cI a (B i)) ++ (cR cI a2 q) ++ (cS cQ s0 w0 (zF A n) (nI old) (nI (held - 1))) ++ (cT cI x t)) (k := 31) (r := B i) rfl rfl n hin).trans ?_
      rw [cZ_cong n (A := A) (A1 := A) (B := fun z => if z = i then B i else B z) (B1 := B) (fun z hz => ⟨rfl, by by_cases h9 : z = i <;> simp [h9]⟩)]
    refine k_callv (wc := cR cI a r ++ cR cI (A i) (B i)) (w' := cR cI a (B i) ++ cR cI (A i) (B i)) (wn := WX cI cQ o s0 w0 x a a2 A (B i) q t n (zF A n) (nI old) (nI (held - 1)) B) (va_runV (As := [.ref (A i 0)]) (rest := []) ⟨hx, hb, hml, hown, hts⟩ (mX1_copyFrom l D cI cQ cJ a r (A i) (B i) _) (cwV 1 hts gX3_undo_X1_copyFrom rfl rfl rfl (by decide +kernel) ⟨Nat.le_of_ble_eq_true rfl, Nat.le_of_ble_eq_true rfl⟩) (k_preV (wc := cR cI a r ++ cR cI (A i) (B i)) hE hK hP hD ([1, 2, 3, 4, 5, 6, 7, 8, 9, 10, 11, 12, 13] ++ List.range' (31 + 13 * i) 13) (nd_undo i) hC (ci := 1) (q0 := 1) rfl rfl [.ref (A i 0)]) rfl rfl hl.1 rfl (lv_room (Nat.le_of_ble_eq_true rfl)) dX3_undo_27 ⟨Nat.le_of_ble_eq_true rfl, Nat.le_of_ble_eq_true rfl⟩) hP hD hS hA0 ([1, 2, 3, 4, 5, 6, 7, 8, 9, 10, 11, 12, 13] ++ List.range' (31 + 13 * i) 13) hC rfl hn9 (fun H locs hP hD hS => ?_)
    refine lv_aload_n hx hb dX3_undo_30 rfl (lv_at hl 1 rfl) ?_
    refine va_get (D := D) (ci := 3) (v := .ref s0) (C := RX3) (T := TX3) (N := 4) hx hb hts hinX3 hown hK hP 0 rfl rfl 2 (by decide) fl22 (fun _ h9 => h9) rfl dX3_undo_31 ?_
    refine k_calli (wc := cS cQ s0 w0 (zF A n) (nI old) (nI (held - 1))) (w' := cS cQ s0 w0 (zF A n) (nI old) (nI (held - 1))) (wn := (cO o [.ref (a 0), .ref (a2 0), .ref s0, .ref (x 0)]) ++ (cR cI a (B i)) ++ (cR cI a2 q) ++ (cS cQ s0 w0 (zF A n) (nI old) (nI (held - 1))) ++ (cT cI x t) ++ (cZ cI A B n)) (va_runV (As := []) (rest := []) ⟨hx, hb, hml, hown, hts⟩ (mX2_held l D cI cQ cJ s0 w0 (zF A n) (nI old) (nI (held - 1)) _) (cwV 0 hts gX3_undo_X2_held rfl rfl rfl (by decide +kernel) ⟨Nat.le_of_ble_eq_true rfl, Nat.le_of_ble_eq_true rfl⟩) (k_preV (wc := cS cQ s0 w0 (zF A n) (nI old) (nI (held - 1))) hE hK hP hD [27, 28] (by decide) rfl (ci := 2) (q0 := 27) rfl rfl []) rfl rfl hl.1 rfl (lv_room (Nat.le_of_ble_eq_true rfl)) dX3_undo_34 ⟨Nat.le_of_ble_eq_true rfl, Nat.le_of_ble_eq_true rfl⟩) hP hD hS hA [27, 28] rfl rfl (putAt_same _ _ _ rfl) (fun H locs hP hD hS => ?_)
    exact x_iret hx hb hr hlocks hS hP hD dX3_undo_37 (by simp only [cUnd, if_neg h0, ↓reduceIte]) ⟨rfl, by rw [← hi]⟩ (Nat.le_of_ble_eq_true rfl) (Nat.le_of_ble_eq_true rfl)
