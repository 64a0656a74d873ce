set_option maxHeartbeats 4000000 in
set_option maxRecDepth 100000 in
theorem mX4_stands (l : Launch) (D : va_G) (cI cQ cJ : ClassId) (a : Nat → Nat) (r : rB) (h : Int64)  : Mi l D (tY cI cQ cJ) yX4_stands wsX4_stands ({ frames := 1, cells := 0, slots := 0, locals := 22 } : Room) [.ref (a 0)] (cM cI a r h) (cM cI a r h) (stM r 6 0 0) := by
  refine M_of (cc := cX4_stands) (maxL := 3) (ret := some .int) (Qc := fun A => va_Qi (fun (x : Int32) (_ : Unit) => x = stM r 6 0 0) (fun _ t => Wd D (cM cI a r h) t) A) (by decide) rfl (Nat.le_of_ble_eq_true rfl) ?_
  intro p e s m below meth c A ls hB hE hP hK hD hA hl
  obtain ⟨hx, hb, hr, hml, hts, hown, hlocks⟩ := hB
  have hS : va_S A s.heap s.heap [] := va_S.rf
  have hl : lv_has ls 3 [(0, .ref (a 0))] := hl
  refine lv_iconst (v := 0) hx hb dX4_stands_0 (by decide) ?_
  refine lv_istore_n (lv' := [(1, .int 0), (0, .ref (a 0))]) hx hb dX4_stands_1 rfl hl (by decide) rfl (fun ls hl => ?_)
  refine lv_iconst (v := 0) hx hb dX4_stands_2 (by decide) ?_
  refine lv_istore_n (lv' := [(2, .int 0), (1, .int 0), (0, .ref (a 0))]) hx hb dX4_stands_3 rfl hl (by decide) rfl (fun ls hl => ?_)
  have Lp4 : ∀ (n i : Nat) (sa : Int32), i + n = 6 → stM r n i sa = stM r 6 0 0 → ∀ (H : Heap) (locs : List Loc), va_P D vwCl (cM cI a r h) H → va_D A (cM cI a r h) → va_S A s.heap H locs → ∀ (ls : Array Slot), lv_has ls 3 [(2, .int (nI i)), (1, .int sa), (0, .ref (a 0))] → W p l e ({ frames := 1, cells := 0, slots := 0, locals := 22 } : Room) s m ([.ref (a 0)] : List Value).toArray below meth c H locs 0 0 (MQ below (va_Qi (fun (x : Int32) (_ : Unit) => x = stM r 6 0 0) (fun _ t => Wd D (cM cI a r h) t) A) ([.ref (a 0)] : List Value).toArray s 0 0 A) (F0 m 4 ls []) := by
    intro n
    induction n with
    | zero =>
      intro i sa hin hres H locs hP hD hS ls hl
      have h9sa : sa = stM r 6 0 0 := hres
      refine lv_iload_n hx hb dX4_stands_4 rfl (lv_at hl 0 rfl) ?_
      refine lv_bipush (v := 6) hx hb dX4_stands_5 (by decide) ?_
      refine lv_icmp_ge (tgt := 32) hx hb dX4_stands_7 (by decide) (fun _ => ?_) (fun h9 => absurd (nI_le (a := 6) (b := i) (by omega) (by omega)) h9)
      refine lv_iload_n hx hb dX4_stands_32 rfl (lv_at hl 1 rfl) ?_
      exact k_iret hx hb hr hlocks hS hP dX4_stands_33 (by (replace h9sa := h9sa.symm; subst h9sa; simp only [↓reduceIte]))
    | succ n ih =>
      intro i sa hin hres H locs hP hD hS ls hl
      refine lv_iload_n hx hb dX4_stands_4 rfl (lv_at hl 0 rfl) ?_
      refine lv_bipush (v := 6) hx hb dX4_stands_5 (by decide) ?_
      refine lv_icmp_ge (tgt := 32) hx hb dX4_stands_7 (by decide) (fun h9 => absurd h9 (nI_ge (a := i) (b := 6) (by omega) (by omega))) (fun _ => ?_)
      refine lv_iload_n hx hb dX4_stands_10 rfl (lv_at hl 1 rfl) ?_
      refine lv_aload_n hx hb dX4_stands_11 rfl (lv_at hl 2 rfl) ?_
      refine lv_iload_n hx hb dX4_stands_12 rfl (lv_at hl 0 rfl) ?_
      refine lv_iconst (v := 3) hx hb dX4_stands_13 (by decide) ?_
      refine k_calli (wc := cM cI a r h) (w' := cM cI a r h) (wn := cM cI a r h) (va_runV (As := [.int (nI i), .int 3]) (rest := [.int sa]) ⟨hx, hb, hml, hown, hts⟩ (mX4_ofPlane l D cI cQ cJ a r h (nI i) i 3 rfl (by omega) (by omega) _) (cwV 2 hts gX4_stands_X4_ofPlane rfl rfl rfl (by decide +kernel) ⟨Nat.le_of_ble_eq_true rfl, Nat.le_of_ble_eq_true rfl⟩) (k_preV (wc := cM cI a r h) hE hK hP hD [0, 1, 2, 3, 4, 5] (by decide) rfl (ci := 4) (q0 := 0) rfl rfl [.int (nI i), .int 3]) rfl rfl hl.1 rfl (lv_room (Nat.le_of_ble_eq_true rfl)) dX4_stands_14 ⟨Nat.zero_le _, Nat.zero_le _⟩) hP hD hS hA [0, 1, 2, 3, 4, 5] rfl rfl rfl (fun H locs hP hD hS => ?_)
      refine lv_aload_n hx hb dX4_stands_17 rfl (lv_at hl 2 rfl) ?_
      refine lv_iload_n hx hb dX4_stands_18 rfl (lv_at hl 0 rfl) ?_
      refine lv_iconst (v := 4) hx hb dX4_stands_19 (by decide) ?_
      refine k_calli (wc := cM cI a r h) (w' := cM cI a r h) (wn := cM cI a r h) (va_runV (As := [.int (nI i), .int 4]) (rest := [.int (r 0 (9 + 4 * i + 3)), .int sa]) ⟨hx, hb, hml, hown, hts⟩ (mX4_of l D cI cQ cJ a r h (nI i) i 4 rfl (by omega) (by omega) _) (cwV 2 hts gX4_stands_X4_of rfl rfl rfl (by decide +kernel) ⟨Nat.le_of_ble_eq_true rfl, Nat.le_of_ble_eq_true rfl⟩) (k_preV (wc := cM cI a r h) hE hK hP hD [0, 1, 2, 3, 4, 5] (by decide) rfl (ci := 4) (q0 := 0) rfl rfl [.int (nI i), .int 4]) rfl rfl hl.1 rfl (lv_room (Nat.le_of_ble_eq_true rfl)) dX4_stands_20 ⟨Nat.zero_le _, Nat.zero_le _⟩) hP hD hS hA [0, 1, 2, 3, 4, 5] rfl rfl rfl (fun H locs hP hD hS => ?_)
      refine lv_iadd hx hb dX4_stands_23 ?_
      refine lv_iadd hx hb dX4_stands_24 ?_
      refine lv_topi (fun v1_1 ev1_1 => ?_)
      refine lv_istore_n (lv' := [(1, .int v1_1), (2, .int (nI i)), (0, .ref (a 0))]) hx hb dX4_stands_25 rfl hl (by decide) rfl (fun ls hl => ?_)
      refine lv_iinc (v := nI (i + 1)) (lv' := [(2, .int (nI (i + 1))), (1, .int v1_1), (0, .ref (a 0))]) hx hb dX4_stands_26 hl (k := 1) rfl (nI_1 i) (by decide) rfl (fun ls hl => ?_)
      refine lv_goto (tgt := 4) hx hb dX4_stands_29 (by decide) ?_
      exact ih (i + 1) v1_1 (by omega) (by replace ev1_1 := ev1_1.symm; subst ev1_1; rw [← hres]; simp only [stM, ↓reduceIte]) H locs hP hD hS ls (lv_sub hl [0, 1, 2] rfl)
  exact Lp4 6 0 0 (by omega) rfl _ _ hP hD hS ls (lv_sub hl [0, 1, 2] rfl)
