set_option maxHeartbeats 4000000 in
set_option maxRecDepth 100000 in
theorem mX1_passMinutes (l : Launch) (D : va_G) (cI cQ cJ : ClassId) (a : Nat → Nat) (r : rB) (x mi : Int32) (k : Nat) (hk : mi.toNatClampNeg = k) : Mv l D (tY cI cQ cJ) yX1_passMinutes wsX1_passMinutes ({ frames := 3, cells := 0, slots := 0, locals := 69 } : Room) [.ref (a 0), .int x, .int mi] (cR cI a r) (cR cI a (minutesC k r x)) := by
  refine M_of (cc := cX1_passMinutes) (maxL := 4) (ret := none) (Qc := fun A => va_Qv (fun (_ : Unit) => True) (fun _ t => Wd D (cR cI a (minutesC k r x)) t) A) (by decide) rfl (Nat.le_of_ble_eq_true rfl) ?_
  intro p e s m below meth c A ls hB hE hP hK hD hA hl
  obtain ⟨hx, hb, hr, hml, hts, hown, hlocks⟩ := hB
  have hS : va_S A s.heap s.heap [] := va_S.rf
  have hl : lv_has ls 4 [(0, .ref (a 0)), (1, .int x), (2, .int mi)] := hl
  refine lv_iconst (v := 0) hx hb dX1_passMinutes_0 (by decide) ?_
  refine lv_istore_n (lv' := [(3, .int 0), (0, .ref (a 0)), (1, .int x), (2, .int mi)]) hx hb dX1_passMinutes_1 rfl hl (by decide) rfl (fun ls hl => ?_)
  have Lp2 : ∀ (n i : Nat) (r1 : rB), i + n = k → i ≤ k → minutesC n r1 x = minutesC k r x → ∀ (H : Heap) (locs : List Loc), va_P D vwCl (cR cI a r1) H → va_D A (cR cI a r1) → va_S A s.heap H locs → ∀ (ls : Array Slot), lv_has ls 4 [(3, .int (nI i)), (0, .ref (a 0)), (1, .int x), (2, .int mi)] → W p l e ({ frames := 3, cells := 0, slots := 0, locals := 69 } : Room) s m ([.ref (a 0), .int x, .int mi] : List Value).toArray below meth c H locs 0 0 (MQ below (va_Qv (fun (_ : Unit) => True) (fun _ t => Wd D (cR cI a (minutesC k r x)) t) A) ([.ref (a 0), .int x, .int mi] : List Value).toArray s 0 0 A) (F0 m 2 ls []) := by
    intro n
    induction n with
    | zero =>
      intro i r1 hin h8 hres H locs hP hD hS ls hl
      have h9r1 : r1 = minutesC k r x := hres
      refine lv_iload_n hx hb dX1_passMinutes_2 rfl (lv_at hl 0 rfl) ?_
      refine lv_iload_n hx hb dX1_passMinutes_3 rfl (lv_at hl 3 rfl) ?_
      refine lv_icmp_ge (tgt := 18) hx hb dX1_passMinutes_4 (by decide) (fun _ => ?_) (fun h9 => absurd (cl_le (i := i) (by omega)) h9)
      have e9 : (r1 : rB) = minutesC k r x := by (replace h9r1 := h9r1.symm; subst h9r1; simp only [↓reduceIte])
      rw [e9] at hP
      exact k_vret hx hb hr hlocks hS hP dX1_passMinutes_18
    | succ n ih =>
      intro i r1 hin h8 hres H locs hP hD hS ls hl
      refine lv_iload_n hx hb dX1_passMinutes_2 rfl (lv_at hl 0 rfl) ?_
      refine lv_iload_n hx hb dX1_passMinutes_3 rfl (lv_at hl 3 rfl) ?_
      refine lv_icmp_ge (tgt := 18) hx hb dX1_passMinutes_4 (by decide) (fun h9 => absurd h9 (cl_nle (i := i) (by omega))) (fun _ => ?_)
      refine lv_aload_n hx hb dX1_passMinutes_7 rfl (lv_at hl 1 rfl) ?_
      refine lv_iload_n hx hb dX1_passMinutes_8 rfl (lv_at hl 2 rfl) ?_
      obtain ⟨r_1, er_1⟩ : ∃ z : rB, z = minuteC r1 x := ⟨_, rfl⟩
      have hm_2 := mX1_passMinute l D cI cQ cJ a r1 x
      rw [← er_1] at hm_2
      refine k_callv (wc := cR cI a r1) (w' := cR cI a r_1) (wn := cR cI a r_1) (va_runV (As := [.int x]) (rest := []) ⟨hx, hb, hml, hown, hts⟩ (hm_2 _) (cwV 1 hts gX1_passMinutes_X1_passMinute rfl rfl rfl (by decide +kernel) ⟨Nat.le_of_ble_eq_true rfl, Nat.le_of_ble_eq_true rfl⟩) (k_preV (wc := cR cI a r1) hE hK hP hD [0, 1, 2, 3, 4, 5, 6, 7, 8, 9, 10, 11, 12] (by decide) rfl (ci := 1) (q0 := 0) rfl rfl [.int x]) rfl rfl hl.1 rfl (lv_room (Nat.le_of_ble_eq_true rfl)) dX1_passMinutes_9 ⟨Nat.zero_le _, Nat.zero_le _⟩) hP hD hS hA [0, 1, 2, 3, 4, 5, 6, 7, 8, 9, 10, 11, 12] rfl rfl rfl (fun H locs hP hD hS => ?_)
      refine lv_iinc (v := nI (i + 1)) (lv' := [(3, .int (nI (i + 1))), (0, .ref (a 0)), (1, .int x), (2, .int mi)]) hx hb dX1_passMinutes_12 hl (k := 0) rfl (nI_1 i) (by decide) rfl (fun ls hl => ?_)
      refine lv_goto (tgt := 2) hx hb dX1_passMinutes_15 (by decide) ?_
      exact ih (i + 1) r_1 (by omega) (by omega) (by replace er_1 := er_1.symm; subst er_1; exact hres) H locs hP hD hS ls (lv_sub hl [0, 1, 2, 3] rfl)
  exact Lp2 k 0 r (by omega) (by omega) rfl _ _ hP hD hS ls (lv_sub hl [0, 1, 2, 3] rfl)
