set_option maxHeartbeats 4000000 in
set_option maxRecDepth 100000 in
theorem mX1_valleysLead (l : Launch) (D : va_G) (cI cQ cJ : ClassId) (a : Nat → Nat) (r : rB) (q t : Int32) : Mi l D (tY cI cQ cJ) yX1_valleysLead wsX1_valleysLead ({ frames := 1, cells := 0, slots := 0, locals := 20 } : Room) [.ref (a 0), .int q, .int t] (cR cI a r) (cR cI a r) (vlead r t 6 q) := by
  refine M_of (cc := cX1_valleysLead) (maxL := 5) (ret := some .boolean) (Qc := fun A => va_Qi (fun (x : Int32) (_ : Unit) => x = vlead r t 6 q) (fun _ t => Wd D (cR cI a r) t) A) (by decide) rfl (Nat.le_of_ble_eq_true rfl) ?_
  intro p e s m below meth c A ls hB hE hP hK hD hA hl
  obtain ⟨hx, hb, hr, hml, hts, hown, hlocks⟩ := hB
  have hS : va_S A s.heap s.heap [] := va_S.rf
  have hl : lv_has ls 5 [(0, .ref (a 0)), (1, .int q), (2, .int t)] := hl
  have hinX1 : ∀ w ∈ u_ws RX1 TX1 16, w ∈ wsX1_valleysLead := by decide +kernel
  have fl33 := hts (.fieldLink RX1 33 "RoofDrains$Roof" "valleyTo" "[I") (by decide +kernel)
  refine lv_iload_n hx hb dX1_valleysLead_0 rfl (lv_at hl 1 rfl) ?_
  refine lv_istore_n (lv' := [(3, .int q), (0, .ref (a 0)), (1, .int q), (2, .int t)]) hx hb dX1_valleysLead_1 rfl hl (by decide) rfl (fun ls hl => ?_)
  refine lv_iconst (v := 0) hx hb dX1_valleysLead_2 (by decide) ?_
  refine lv_istore (lv' := [(4, .int 0), (3, .int q), (0, .ref (a 0)), (1, .int q), (2, .int t)]) hx hb dX1_valleysLead_3 hl (by decide) rfl (fun ls hl => ?_)
  have Lp5 : ∀ (n i : Nat) (aq : Int32), i + n = 6 → vlead r t n aq = vlead r t 6 q → ∀ (H : Heap) (locs : List Loc), va_P D vwCl (cR cI a r) H → va_D A (cR cI a r) → va_S A s.heap H locs → ∀ (ls : Array Slot), lv_has ls 5 [(4, .int (nI i)), (3, .int aq), (0, .ref (a 0)), (1, .int q), (2, .int t)] → W p l e ({ frames := 1, cells := 0, slots := 0, locals := 20 } : Room) s m ([.ref (a 0), .int q, .int t] : List Value).toArray below meth c H locs 0 0 (MQ below (va_Qi (fun (x : Int32) (_ : Unit) => x = vlead r t 6 q) (fun _ t => Wd D (cR cI a r) t) A) ([.ref (a 0), .int q, .int t] : List Value).toArray s 0 0 A) (F0 m 5 ls []) := by
    intro n
    induction n with
    | zero =>
      intro i aq hin hres H locs hP hD hS ls hl
      refine lv_iload hx hb dX1_valleysLead_5 (lv_at hl 0 rfl) ?_
      refine lv_bipush (v := 6) hx hb dX1_valleysLead_7 (by decide) ?_
      refine lv_icmp_ge (tgt := 39) hx hb dX1_valleysLead_9 (by decide) (fun _ => ?_) (fun h9 => absurd (nI_le (a := 6) (b := i) (by omega) (by omega)) h9)
      refine lv_iconst (v := 0) hx hb dX1_valleysLead_39 (by decide) ?_
      exact k_zret hx hb hr hlocks hS hP dX1_valleysLead_40 (by first | rfl | decide | exact rfl) (by (rw [← hres]; simp only [vlead, ↓reduceIte]))
    | succ n ih =>
      intro i aq hin hres H locs hP hD hS ls hl
      refine lv_iload hx hb dX1_valleysLead_5 (lv_at hl 0 rfl) ?_
      refine lv_bipush (v := 6) hx hb dX1_valleysLead_7 (by decide) ?_
      refine lv_icmp_ge (tgt := 39) hx hb dX1_valleysLead_9 (by decide) (fun h9 => absurd h9 (nI_ge (a := i) (b := 6) (by omega) (by omega))) (fun _ => ?_)
      refine lv_iload_n hx hb dX1_valleysLead_12 rfl (lv_at hl 1 rfl) ?_
      refine k_calli (wc := ([] : va_W)) (w' := ([] : va_W)) (wn := cR cI a r) (va_runSN (As := [.int aq]) (rest := []) ⟨hx, hb, hml, hown, hts⟩ (mX3_isGutter l D cI cQ cJ aq _) ⟨va_cnB 1 hts gX1_valleysLead_X3_isGutter_n67 rfl rfl rfl hE.1 (hts (.initialized RX3) (by decide +kernel)) (by decide +kernel) ⟨Nat.le_of_ble_eq_true rfl, Nat.le_of_ble_eq_true rfl⟩, hts (.static yX3_isGutter) (by decide +kernel), trivial⟩ (k_preS (wc := ([] : va_W)) hE hK hP hD [] (by decide) rfl [.int aq]) rfl rfl hl.1 rfl (lv_room (Nat.le_of_ble_eq_true rfl)) dX1_valleysLead_13 ⟨Nat.zero_le _, Nat.zero_le _⟩) hP hD hS hA [] rfl rfl rfl (fun H locs hP hD hS => ?_)
      refine lv_if_eq (tgt := 39) hx hb dX1_valleysLead_16 (by decide) (fun c_1 => ?_) (fun c_1 => ?_)
      · skip
        refine lv_iconst (v := 0) hx hb dX1_valleysLead_39 (by decide) ?_
        exact k_zret hx hb hr hlocks hS hP dX1_valleysLead_40 (by first | rfl | decide | exact rfl) (by (rw [← hres]; simp only [vlead, if_pos c_1, ↓reduceIte]))
      · skip
        refine lv_iload_n hx hb dX1_valleysLead_19 rfl (lv_at hl 1 rfl) ?_
        refine lv_iload_n hx hb dX1_valleysLead_20 rfl (lv_at hl 4 rfl) ?_
        refine lv_icmp_ne (tgt := 26) hx hb dX1_valleysLead_21 (by decide) (fun c_2 => ?_) (fun c_2 => ?_)
        · skip
          refine lv_aload_n hx hb dX1_valleysLead_26 rfl (lv_at hl 2 rfl) ?_
          refine va_get (D := D) (ci := 1) (v := .ref (a 8)) (C := RX1) (T := TX1) (N := 16) hx hb hts hinX1 hown hK hP 0 rfl rfl 7 (by decide) fl33 (fun _ h9 => h9) rfl dX1_valleysLead_27 ?_
          refine lv_iload_n hx hb dX1_valleysLead_30 rfl (lv_at hl 1 rfl) ?_
          refine k_iald (k := aq.toNatClampNeg) (v := r 7 aq.toNatClampNeg) hx hb hK hP 8 0 rfl rfl (zL_in (n := 6) rfl rfl c_1) rfl (rfl) dX1_valleysLead_31 ?_
          refine lv_topi (fun v3_3 ev3_3 => ?_)
          refine lv_istore_n (lv' := [(3, .int v3_3), (4, .int (nI i)), (0, .ref (a 0)), (1, .int q), (2, .int t)]) hx hb dX1_valleysLead_32 rfl hl (by decide) rfl (fun ls hl => ?_)
          refine lv_iinc (v := nI (i + 1)) (lv' := [(4, .int (nI (i + 1))), (3, .int v3_3), (0, .ref (a 0)), (1, .int q), (2, .int t)]) hx hb dX1_valleysLead_33 hl (k := 1) rfl (nI_1 i) (by decide) rfl (fun ls hl => ?_)
          refine lv_goto (tgt := 5) hx hb dX1_valleysLead_36 (by decide) ?_
          exact ih (i + 1) v3_3 (by omega) (by replace ev3_3 := ev3_3.symm; subst ev3_3; rw [← hres]; simp only [vlead, if_neg c_1, if_neg c_2, ↓reduceIte]) H locs hP hD hS ls (lv_sub hl [0, 1, 2, 3, 4] rfl)
        · skip
          refine lv_iconst (v := 1) hx hb dX1_valleysLead_24 (by decide) ?_
          exact k_zret hx hb hr hlocks hS hP dX1_valleysLead_25 (by first | rfl | decide | exact rfl) (by (rw [← hres]; simp only [vlead, if_neg c_1, if_pos c_2, ↓reduceIte]))
  exact Lp5 6 0 q (by omega) rfl _ _ hP hD hS ls (lv_sub hl [0, 1, 2, 3, 4] rfl)
