set_option maxHeartbeats 4000000 in
set_option maxRecDepth 100000 in
theorem mX4_undo (l : Launch) (D : va_G) (cI cQ cJ : ClassId) (a : Nat → Nat) (r : rB) (h : Int64) (N : Nat) (hN : r 5 1 = nI N) (hN6 : N ≤ 6)  : Mi l D (tY cI cQ cJ) yX4_undo wsX4_undo ({ frames := 1, cells := 0, slots := 0, locals := 21 } : Room) [.ref (a 0)] (cM cI a r h) (cM cI a (unB r N) h) (unV N) := by
  refine M_of (cc := cX4_undo) (maxL := 2) (ret := some .int) (Qc := fun A => va_Qi (fun (x : Int32) (_ : Unit) => x = unV N) (fun _ t => Wd D (cM cI a (unB r N) h) t) A) (by decide) rfl (Nat.le_of_ble_eq_true rfl) ?_
  intro p e s m below meth c A ls hB hE hP hK hD hA hl
  obtain ⟨hx, hb, hr, hml, hts, hown, hlocks⟩ := hB
  have hS : va_S A s.heap s.heap [] := va_S.rf
  have hl : lv_has ls 2 [(0, .ref (a 0))] := hl
  have hinX4 : ∀ w ∈ u_ws RX4 TX4 12, w ∈ wsX4_undo := by decide +kernel
  have fl25 := hts (.fieldLink RX4 25 "RoofDrainsModel" "thrown" "I") (by decide +kernel)
  have fl33 := hts (.fieldLink RX4 33 "RoofDrainsModel" "savedMany" "I") (by decide +kernel)
  have fl7 := hts (.fieldLink RX4 7 "RoofDrainsModel" "s" "[I") (by decide +kernel)
  have fl16 := hts (.fieldLink RX4 16 "RoofDrainsModel" "saved" "[I") (by decide +kernel)
  by_cases hN0 : N = 0
  · skip
    subst hN0
    refine lv_aload_n hx hb dX4_undo_0 rfl (lv_at hl 0 rfl) ?_
    refine lv_iconst (v := 0) hx hb dX4_undo_1 (by decide) ?_
    refine k_put (D := D) (ci := 4) (v := .int 0) (ty := .int) (C := RX4) (T := TX4) (N := 12) hx hb hts hinX4 tyX4 tyX4_ok nmX4 hown hK hP hD hS 0 rfl rfl 0 (by decide) fl25 (fun _ h9 => h9) rfl (by decide +kernel) rfl rfl (Nat.le_of_ble_eq_true rfl) (ws' := cM cI a (bp r 5 0 0) h) rfl dX4_undo_2 (fun H locs hP hD hS => ?_)
    refine lv_aload_n hx hb dX4_undo_5 rfl (lv_at hl 0 rfl) ?_
    refine va_get (D := D) (ci := 4) (v := .int 0) (C := RX4) (T := TX4) (N := 12) hx hb hts hinX4 hown hK hP 0 rfl rfl 4 (by decide) fl33 (fun _ h9 => h9) (congrArg (fun z => some (Value.int z)) ((((bp_ne (by omega)).trans (rfl))).trans (hN))) dX4_undo_6 ?_
    refine lv_if_ne (tgt := 18) hx hb dX4_undo_9 (by decide) (fun h9 => absurd (by decide) h9) (fun _ => ?_)
    refine lv_aload_n hx hb dX4_undo_12 rfl (lv_at hl 0 rfl) ?_
    refine lv_iconst (v := 1) hx hb dX4_undo_13 (by decide) ?_
    obtain ⟨r_1, er_1⟩ : ∃ z : rB, z = bp (bp r 5 0 0) 5 0 1 := ⟨_, rfl⟩
    have hm_2 := mX4_fails l D cI cQ cJ a (bp r 5 0 0) h 1
    rw [← er_1] at hm_2
    refine k_calli (wc := cM cI a (bp r 5 0 0) h) (w' := cM cI a r_1 h) (wn := cM cI a r_1 h) (va_runV (As := [.int 1]) (rest := []) ⟨hx, hb, hml, hown, hts⟩ (hm_2 _) (cwV 1 hts gX4_undo_X4_fails rfl rfl rfl (by decide +kernel) ⟨Nat.le_of_ble_eq_true rfl, Nat.le_of_ble_eq_true rfl⟩) (k_preV (wc := cM cI a (bp r 5 0 0) h) hE hK hP hD [0, 1, 2, 3, 4, 5] (by decide) rfl (ci := 4) (q0 := 0) rfl rfl [.int 1]) rfl rfl hl.1 rfl (lv_room (Nat.le_of_ble_eq_true rfl)) dX4_undo_14 ⟨Nat.zero_le _, Nat.zero_le _⟩) hP hD hS hA [0, 1, 2, 3, 4, 5] rfl rfl rfl (fun H locs hP hD hS => ?_)
    have e9 : (r_1 : rB) = unB r 0 := by (replace er_1 := er_1.symm; subst er_1; simp only [unV, unB, ↓reduceIte])
    rw [e9] at hP
    exact k_iret hx hb hr hlocks hS hP dX4_undo_17 (by (replace er_1 := er_1.symm; subst er_1; simp only [unV, unB, ↓reduceIte]))
  · skip
    refine lv_aload_n hx hb dX4_undo_0 rfl (lv_at hl 0 rfl) ?_
    refine lv_iconst (v := 0) hx hb dX4_undo_1 (by decide) ?_
    refine k_put (D := D) (ci := 4) (v := .int 0) (ty := .int) (C := RX4) (T := TX4) (N := 12) hx hb hts hinX4 tyX4 tyX4_ok nmX4 hown hK hP hD hS 0 rfl rfl 0 (by decide) fl25 (fun _ h9 => h9) rfl (by decide +kernel) rfl rfl (Nat.le_of_ble_eq_true rfl) (ws' := cM cI a (bp r 5 0 0) h) rfl dX4_undo_2 (fun H locs hP hD hS => ?_)
    refine lv_aload_n hx hb dX4_undo_5 rfl (lv_at hl 0 rfl) ?_
    refine va_get (D := D) (ci := 4) (v := .int (nI N)) (C := RX4) (T := TX4) (N := 12) hx hb hts hinX4 hown hK hP 0 rfl rfl 4 (by decide) fl33 (fun _ h9 => h9) (congrArg (fun z => some (Value.int z)) ((((bp_ne (by omega)).trans (rfl))).trans (hN))) dX4_undo_6 ?_
    refine lv_if_ne (tgt := 18) hx hb dX4_undo_9 (by decide) (fun _ => ?_) (fun h9 => absurd h9 (nI_ne0 (by omega) (by omega)))
    refine lv_aload_n hx hb dX4_undo_18 rfl (lv_at hl 0 rfl) ?_
    refine lv_dup hx hb dX4_undo_19 rfl ?_
    refine va_get (D := D) (ci := 4) (v := .int (nI N)) (C := RX4) (T := TX4) (N := 12) hx hb hts hinX4 hown hK hP 0 rfl rfl 4 (by decide) fl33 (fun _ h9 => h9) (congrArg (fun z => some (Value.int z)) ((((bp_ne (by omega)).trans (rfl))).trans (hN))) dX4_undo_20 ?_
    refine lv_iconst (v := 1) hx hb dX4_undo_23 (by decide) ?_
    refine lv_isub hx hb dX4_undo_24 ?_
    refine lv_eqi (y := nI (N - 1)) (pk_sub (a := N) (b := 1) (by omega)) ?_
    refine k_put (D := D) (ci := 4) (v := .int (nI (N - 1))) (ty := .int) (C := RX4) (T := TX4) (N := 12) hx hb hts hinX4 tyX4 tyX4_ok nmX4 hown hK hP hD hS 0 rfl rfl 4 (by decide) fl33 (fun _ h9 => h9) rfl (by decide +kernel) rfl rfl (Nat.le_of_ble_eq_true rfl) (ws' := cM cI a (bp (bp r 5 0 0) 5 1 (nI (N - 1))) h) rfl dX4_undo_25 (fun H locs hP hD hS => ?_)
    refine lv_iconst (v := 0) hx hb dX4_undo_28 (by decide) ?_
    refine lv_istore_n (lv' := [(1, .int 0), (0, .ref (a 0))]) hx hb dX4_undo_29 rfl hl (by decide) rfl (fun ls hl => ?_)
    obtain ⟨rk, erk⟩ : ∃ z : rB, z = bp (bp r 5 0 0) 5 1 (nI (N - 1)) := ⟨_, rfl⟩
    rw [← erk] at hP hD
    have hk1 : rk 5 1 = nI (N - 1) := by rw [erk]; exact bp_eq
    have hP : va_P D vwCl (cM cI a (sr rk 0 (rk 0)) h) H := by rw [sr_self]; exact hP
    have hD : va_D A (cM cI a (sr rk 0 (rk 0)) h) := by rw [sr_self]; exact hD
    have Lp : ∀ (n i : Nat) (f : Nat → Int32), i + n = 75 → (∀ j, j < i → f j = rk 2 (75 * (N - 1) + j)) → ∀ (H : Heap) (locs : List Loc), va_P D vwCl (cM cI a (sr rk 0 f) h) H → va_D A (cM cI a (sr rk 0 f) h) → va_S A s.heap H locs → ∀ (ls : Array Slot), lv_has ls 2 [(1, .int (nI i)), (0, .ref (a 0))] → W p l e ({ frames := 1, cells := 0, slots := 0, locals := 21 } : Room) s m ([.ref (a 0)] : List Value).toArray below meth c H locs 0 0 (MQ below (va_Qi (fun (x : Int32) (_ : Unit) => x = unV N) (fun _ t => Wd D (cM cI a (unB r N) h) t) A) ([.ref (a 0)] : List Value).toArray s 0 0 A) (F0 m 30 ls []) := by
      intro n
      induction n with
      | zero =>
        intro i f hin hc H locs hP hD hS ls hl
        refine lv_iload_n hx hb dX4_undo_30 rfl (lv_at hl 0 rfl) ?_
        refine lv_bipush (v := 75) hx hb dX4_undo_31 (by decide) ?_
        refine lv_icmp_ge (tgt := 62) hx hb dX4_undo_33 (by decide) (fun _ => ?_) (fun h9 => absurd (nI_le (a := 75) (b := i) (by omega) (by omega)) h9)
        refine lv_aload_n hx hb dX4_undo_62 rfl (lv_at hl 1 rfl) ?_
        refine va_get (D := D) (ci := 4) (v := .int (nI (N - 1))) (C := RX4) (T := TX4) (N := 12) hx hb hts hinX4 hown hK hP 0 rfl rfl 4 (by decide) fl33 (fun _ h9 => h9) (congrArg (fun z => some (Value.int z)) (((rfl)).trans (((congrFun (sr_ne (by decide)) 1).trans hk1)))) dX4_undo_63 ?_
        obtain ⟨hP, hD⟩ := P_arr hP hD 1 (fun j => rk 2 (75 * (N - 1) + j)) rfl (fun j hj => hc j (by omega)) (ws' := cM cI a (sr rk 0 (fun j => rk 2 (75 * (N - 1) + j))) h) rfl
        have e9 : (sr rk 0 (fun j => rk 2 (75 * (N - 1) + j)) : rB) = unB r N := by rw [erk]; simp only [unB, if_neg hN0]; rfl
        rw [e9] at hP
        exact k_iret hx hb hr hlocks hS hP dX4_undo_66 (by simp only [unV, if_neg hN0])
      | succ n ih =>
        intro i f hin hc H locs hP hD hS ls hl
        refine lv_iload_n hx hb dX4_undo_30 rfl (lv_at hl 0 rfl) ?_
        refine lv_bipush (v := 75) hx hb dX4_undo_31 (by decide) ?_
        refine lv_icmp_ge (tgt := 62) hx hb dX4_undo_33 (by decide) (fun h9 => absurd h9 (nI_ge (a := i) (b := 75) (by omega) (by omega))) (fun _ => ?_)
        refine lv_aload_n hx hb dX4_undo_36 rfl (lv_at hl 1 rfl) ?_
        refine va_get (D := D) (ci := 4) (v := .ref (a 1)) (C := RX4) (T := TX4) (N := 12) hx hb hts hinX4 hown hK hP 0 rfl rfl 1 (by decide) fl7 (fun _ h9 => h9) rfl dX4_undo_37 ?_
        refine lv_iload_n hx hb dX4_undo_40 rfl (lv_at hl 0 rfl) ?_
        refine lv_aload_n hx hb dX4_undo_41 rfl (lv_at hl 1 rfl) ?_
        refine va_get (D := D) (ci := 4) (v := .ref (a 3)) (C := RX4) (T := TX4) (N := 12) hx hb hts hinX4 hown hK hP 0 rfl rfl 3 (by decide) fl16 (fun _ h9 => h9) rfl dX4_undo_42 ?_
        refine lv_bipush (v := 75) hx hb dX4_undo_45 (by decide) ?_
        refine lv_aload_n hx hb dX4_undo_47 rfl (lv_at hl 1 rfl) ?_
        refine va_get (D := D) (ci := 4) (v := .int (nI (N - 1))) (C := RX4) (T := TX4) (N := 12) hx hb hts hinX4 hown hK hP 0 rfl rfl 4 (by decide) fl33 (fun _ h9 => h9) (congrArg (fun z => some (Value.int z)) (((rfl)).trans (((congrFun (sr_ne (by decide)) 1).trans hk1)))) dX4_undo_48 ?_
        refine lv_imul hx hb dX4_undo_51 ?_
        refine lv_eqi (y := nI (75 * (N - 1))) (pk_mul 75 (N - 1)) ?_
        refine lv_iload_n hx hb dX4_undo_52 rfl (lv_at hl 0 rfl) ?_
        refine lv_iadd hx hb dX4_undo_53 ?_
        refine lv_eqi (y := nI ((75 * (N - 1)) + i)) (nI_add (75 * (N - 1)) i) ?_
        refine k_iald (k := 75 * (N - 1) + i) (v := (sr rk 0 f) 2 (75 * (N - 1) + i)) hx hb hK hP 3 0 rfl rfl (vp_in_nI (n := 75 * (N - 1) + i) (by omega) (by omega)) (nI_clamp (n := 75 * (N - 1) + i) (by omega)) (rfl) dX4_undo_54 ?_
        refine lv_topi (fun a_3 ea_3 => ?_)
        refine k_iast (k := i) (ws' := cM cI a (bp (sr rk 0 f) 0 i a_3) h) hx hb hK hP hD hS 1 0 rfl rfl (vp_in_nI (n := i) (by omega) (by omega)) (nI_clamp (n := i) (by omega)) rfl dX4_undo_55 (fun H locs hP hD hS => ?_)
        refine lv_iinc (v := nI (i + 1)) (lv' := [(1, .int (nI (i + 1))), (0, .ref (a 0))]) hx hb dX4_undo_56 hl (k := 0) rfl (nI_1 i) (by decide) rfl (fun ls hl => ?_)
        refine lv_goto (tgt := 30) hx hb dX4_undo_59 (by decide) ?_
        have e9 : bp (sr rk 0 f) 0 i a_3 = sr rk 0 (upd f i a_3) := bp_sr
        rw [e9] at hP hD
        exact ih (i + 1) (upd f i a_3) (by omega) (cp_step (g := fun j => rk 2 (75 * (N - 1) + j)) hc (ea_3.trans (congrFun (sr_ne (by decide)) _))) H locs hP hD hS ls (lv_sub hl [0, 1] rfl)
    exact Lp 75 0 (rk 0) (by omega) (fun j hj => absurd hj (by omega)) _ _ hP hD hS ls (lv_sub hl [0, 1] rfl)
