set_option maxHeartbeats 4000000 in
set_option maxRecDepth 100000 in
theorem mX1_lowest (l : Launch) (D : va_G) (cI cQ cJ : ClassId) (a : Nat → Nat) (r : rB) (a2 : Nat → Nat) (r2 : rB) : Mi l D (tY cI cQ cJ) yX1_lowestThatSpiltMoreThanIn wsX1_lowestThatSpiltMoreThanIn ({ frames := 0, cells := 0, slots := 0, locals := 0 } : Room) [.ref (a 0), .ref (a2 0)] ((cR cI a r) ++ (cR cI a2 r2)) ((cR cI a r) ++ (cR cI a2 r2)) (lowL r r2 6 0) := by
  refine M_of (cc := cX1_lowestThatSpiltMoreThanIn) (maxL := 3) (ret := some .int) (Qc := fun A => va_Qi (fun (x : Int32) (_ : Unit) => x = lowL r r2 6 0) (fun _ t => Wd D ((cR cI a r) ++ (cR cI a2 r2)) t) A) (by decide) rfl (Nat.le_of_ble_eq_true rfl) ?_
  intro p e s m below meth c A ls hB hE hP hK hD hA hl
  obtain ⟨hx, hb, hr, hml, hts, hown, hlocks⟩ := hB
  have hS : va_S A s.heap s.heap [] := va_S.rf
  have hl : lv_has ls 3 [(0, .ref (a 0)), (1, .ref (a2 0))] := hl
  have hinX1 : ∀ w ∈ u_ws RX1 TX1 16, w ∈ wsX1_lowestThatSpiltMoreThanIn := by decide +kernel
  have fl39 := hts (.fieldLink RX1 39 "RoofDrains$Roof" "spilt" "[I") (by decide +kernel)
  refine lv_iconst (v := 0) hx hb dX1_lowestThatSpiltMoreThanIn_0 (by decide) ?_
  refine lv_istore_n (lv' := [(2, .int 0), (0, .ref (a 0)), (1, .ref (a2 0))]) hx hb dX1_lowestThatSpiltMoreThanIn_1 rfl hl (by decide) rfl (fun ls hl => ?_)
  have Lp2 : ∀ (n i : Nat) , i + n = 6 → lowL r r2 n i = lowL r r2 6 0 → ∀ (H : Heap) (locs : List Loc), va_P D vwCl ((cR cI a r) ++ (cR cI a2 r2)) H → va_D A ((cR cI a r) ++ (cR cI a2 r2)) → va_S A s.heap H locs → ∀ (ls : Array Slot), lv_has ls 3 [(2, .int (nI i)), (0, .ref (a 0)), (1, .ref (a2 0))] → W p l e ({ frames := 0, cells := 0, slots := 0, locals := 0 } : Room) s m ([.ref (a 0), .ref (a2 0)] : List Value).toArray below meth c H locs 0 0 (MQ below (va_Qi (fun (x : Int32) (_ : Unit) => x = lowL r r2 6 0) (fun _ t => Wd D ((cR cI a r) ++ (cR cI a2 r2)) t) A) ([.ref (a 0), .ref (a2 0)] : List Value).toArray s 0 0 A) (F0 m 2 ls []) := by
    intro n
    induction n with
    | zero =>
      intro i  hin hres H locs hP hD hS ls hl
      refine lv_iload_n hx hb dX1_lowestThatSpiltMoreThanIn_2 rfl (lv_at hl 0 rfl) ?_
      refine lv_bipush (v := 6) hx hb dX1_lowestThatSpiltMoreThanIn_3 (by decide) ?_
      refine lv_icmp_ge (tgt := 31) hx hb dX1_lowestThatSpiltMoreThanIn_5 (by decide) (fun _ => ?_) (fun h9 => absurd (nI_le (a := 6) (b := i) (by omega) (by omega)) h9)
      refine lv_iconst (v := (-1)) hx hb dX1_lowestThatSpiltMoreThanIn_31 (by decide) ?_
      exact k_iret hx hb hr hlocks hS hP dX1_lowestThatSpiltMoreThanIn_32 (by (rw [← hres]; first | rfl | simp only [lowL, ↓reduceIte]))
    | succ n ih =>
      intro i  hin hres H locs hP hD hS ls hl
      refine lv_iload_n hx hb dX1_lowestThatSpiltMoreThanIn_2 rfl (lv_at hl 0 rfl) ?_
      refine lv_bipush (v := 6) hx hb dX1_lowestThatSpiltMoreThanIn_3 (by decide) ?_
      refine lv_icmp_ge (tgt := 31) hx hb dX1_lowestThatSpiltMoreThanIn_5 (by decide) (fun h9 => absurd h9 (nI_ge (a := i) (b := 6) (by omega) (by omega))) (fun _ => ?_)
      refine lv_aload_n hx hb dX1_lowestThatSpiltMoreThanIn_8 rfl (lv_at hl 1 rfl) ?_
      refine va_get (D := D) (ci := 1) (v := .ref (a 10)) (C := RX1) (T := TX1) (N := 16) hx hb hts hinX1 hown hK hP 0 rfl rfl 9 (by decide) fl39 (fun _ h9 => h9) rfl dX1_lowestThatSpiltMoreThanIn_9 ?_
      refine lv_iload_n hx hb dX1_lowestThatSpiltMoreThanIn_12 rfl (lv_at hl 0 rfl) ?_
      refine k_iald (k := i) (v := r 9 i) hx hb hK hP 10 0 rfl rfl (vp_in_nI (n := i) (by omega) (by omega)) (nI_clamp (n := i) (by omega)) (rfl) dX1_lowestThatSpiltMoreThanIn_13 ?_
      refine lv_aload_n hx hb dX1_lowestThatSpiltMoreThanIn_14 rfl (lv_at hl 2 rfl) ?_
      refine va_get (D := D) (ci := 1) (v := .ref (a2 10)) (C := RX1) (T := TX1) (N := 16) hx hb hts hinX1 hown hK hP 13 rfl rfl 9 (by decide) fl39 (fun _ h9 => h9) rfl dX1_lowestThatSpiltMoreThanIn_15 ?_
      refine lv_iload_n hx hb dX1_lowestThatSpiltMoreThanIn_18 rfl (lv_at hl 0 rfl) ?_
      refine k_iald (k := i) (v := r2 9 i) hx hb hK hP 23 0 rfl rfl (vp_in_nI (n := i) (by omega) (by omega)) (nI_clamp (n := i) (by omega)) (rfl) dX1_lowestThatSpiltMoreThanIn_19 ?_
      refine lv_icmp_le (tgt := 25) hx hb dX1_lowestThatSpiltMoreThanIn_20 (by decide) (fun c_1 => ?_) (fun c_1 => ?_)
      · skip
        refine lv_iinc (v := nI (i + 1)) (lv' := [(2, .int (nI (i + 1))), (0, .ref (a 0)), (1, .ref (a2 0))]) hx hb dX1_lowestThatSpiltMoreThanIn_25 hl (k := 0) rfl (nI_1 i) (by decide) rfl (fun ls hl => ?_)
        refine lv_goto (tgt := 2) hx hb dX1_lowestThatSpiltMoreThanIn_28 (by decide) ?_
        exact ih (i + 1)  (by omega) (by rw [← hres]; simp only [lowL, c_1, ↓reduceIte]) H locs hP hD hS ls (lv_sub hl [0, 1, 2] rfl)
      · skip
        refine lv_iload_n hx hb dX1_lowestThatSpiltMoreThanIn_23 rfl (lv_at hl 0 rfl) ?_
        exact k_iret hx hb hr hlocks hS hP dX1_lowestThatSpiltMoreThanIn_24 (by (rw [← hres]; first | rfl | simp only [lowL, c_1, ↓reduceIte]))
  exact Lp2 6 0  (by omega) rfl _ _ hP hD hS ls (lv_sub hl [0, 1, 2] rfl)
