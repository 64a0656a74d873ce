set_option maxHeartbeats 4000000 in
set_option maxRecDepth 100000 in
theorem mX3_mostRain (l : Launch) (D : va_G) (cI cQ cJ : ClassId) (o s0 x0 : Nat) (a a2 : Nat → Nat) (r q : rB) (mi : Int32) (k : Nat) (hk : mi.toNatClampNeg = k) (hmi : ¬ zW mi 1 60 = 0) : Mi l D (tY cI cQ cJ) yX3_mostRain wsX3_mostRain ({ frames := 4, cells := 0, slots := 0, locals := 104 } : Room) [.ref o, .int mi] ((cO o [.ref (a 0), .ref (a2 0), .ref s0, .ref x0]) ++ (cR cI a r) ++ (cR cI a2 q)) ((cO o [.ref (a 0), .ref (a2 0), .ref s0, .ref x0]) ++ (cR cI a r) ++ (cR cI a2 ((mrC r k 100 r).1))) ((mrC r k 100 r).2) := by
  refine M_of (cc := cX3_mostRain) (maxL := 3) (ret := some .int) (Qc := fun A => va_Qi (fun (x : Int32) (_ : Unit) => x = (mrC r k 100 r).2) (fun _ t => Wd D ((cO o [.ref (a 0), .ref (a2 0), .ref s0, .ref x0]) ++ (cR cI a r) ++ (cR cI a2 ((mrC r k 100 r).1))) t) A) (by decide) rfl (Nat.le_of_ble_eq_true rfl) ?_
  intro p e s m below meth c A ls hB hE hP hK hD hA hl
  obtain ⟨hx, hb, hr, hml, hts, hown, hlocks⟩ := hB
  have hS : va_S A s.heap s.heap [] := va_S.rf
  have hl : lv_has ls 3 [(0, .ref o), (1, .int mi)] := hl
  refine lv_iload_n hx hb dX3_mostRain_0 rfl (lv_at hl 1 rfl) ?_
  refine lv_iconst (v := 1) hx hb dX3_mostRain_1 (by decide) ?_
  refine lv_bipush (v := 60) hx hb dX3_mostRain_2 (by decide) ?_
  refine k_calli (wc := ([] : va_W)) (w' := ([] : va_W)) (wn := (cO o [.ref (a 0), .ref (a2 0), .ref s0, .ref x0]) ++ (cR cI a r) ++ (cR cI a2 q)) (va_runS (As := [.int mi, .int 1, .int 60]) (rest := []) ⟨hx, hb, hml, hown, hts⟩ (mX3_isWithin l D cI cQ cJ mi 1 60 _) (va_cwS 3 hts gX3_mostRain_X3_isWithin rfl rfl rfl (by decide +kernel) ⟨Nat.le_of_ble_eq_true rfl, Nat.le_of_ble_eq_true rfl⟩) (k_preS (wc := ([] : va_W)) hE hK hP hD [] (by decide) rfl [.int mi, .int 1, .int 60]) rfl rfl hl.1 rfl (lv_room (Nat.le_of_ble_eq_true rfl)) dX3_mostRain_4 ⟨Nat.zero_le _, Nat.zero_le _⟩) hP hD hS hA [] rfl rfl rfl (fun H locs hP hD hS => ?_)
  refine lv_if_ne (tgt := 20) hx hb dX3_mostRain_7 (by decide) (fun _ => ?_) (fun h9 => absurd h9 hmi)
  refine lv_bipush (v := 99) hx hb dX3_mostRain_20 (by decide) ?_
  refine lv_istore_n (lv' := [(2, .int 99), (0, .ref o), (1, .int mi)]) hx hb dX3_mostRain_22 rfl hl (by decide) rfl (fun ls hl => ?_)
  have Ld : ∀ (n : Nat) (q1 : rB) (g2 : Int32), n ≤ 100 → g2 + 1 = nI n → mrC r k n q1 = mrC r k 100 r → ∀ (H : Heap) (locs : List Loc), va_P D vwCl ((cO o [.ref (a 0), .ref (a2 0), .ref s0, .ref x0]) ++ (cR cI a r) ++ (cR cI a2 q1)) H → va_D A ((cO o [.ref (a 0), .ref (a2 0), .ref s0, .ref x0]) ++ (cR cI a r) ++ (cR cI a2 q1)) → va_S A s.heap H locs → ∀ (ls : Array Slot), lv_has ls 3 [(2, .int g2), (0, .ref o), (1, .int mi)] → W p l e ({ frames := 4, cells := 0, slots := 0, locals := 104 } : Room) s m ([.ref o, .int mi] : List Value).toArray below meth c H locs 0 0 (MQ below (va_Qi (fun (x : Int32) (_ : Unit) => x = (mrC r k 100 r).2) (fun _ t => Wd D ((cO o [.ref (a 0), .ref (a2 0), .ref s0, .ref x0]) ++ (cR cI a r) ++ (cR cI a2 ((mrC r k 100 r).1))) t) A) ([.ref o, .int mi] : List Value).toArray s 0 0 A) (F0 m 23 ls []) := by
    intro n
    induction n with
    | zero =>
      intro q1 g2 hn hg2 hres H locs hP hD hS ls hl
      have hg := g_m1 hg2
      subst hg
      refine lv_iload_n hx hb dX3_mostRain_23 rfl (lv_at hl 0 rfl) ?_
      refine lv_if_lt (tgt := 44) hx hb dX3_mostRain_24 (by decide) (fun _ => ?_) (fun h9 => absurd (by decide) h9)
      refine lv_iconst (v := (-1)) hx hb dX3_mostRain_44 (by decide) ?_
      have e9 : (q1 : rB) = (mrC r k 100 r).1 := by (rw [← hres]; simp only [mrC, ↓reduceIte])
      rw [e9] at hP
      exact k_iret hx hb hr hlocks hS hP dX3_mostRain_45 (by (rw [← hres]; simp only [mrC, ↓reduceIte]))
    | succ n ih =>
      intro q1 g2 hn hg2 hres H locs hP hD hS ls hl
      have hg := g_nI hg2
      subst hg
      refine lv_iload_n hx hb dX3_mostRain_23 rfl (lv_at hl 0 rfl) ?_
      refine lv_if_lt (tgt := 44) hx hb dX3_mostRain_24 (by decide) (fun h9 => absurd h9 (nI_pos (by omega))) (fun _ => ?_)
      refine lv_aload_n hx hb dX3_mostRain_27 rfl (lv_at hl 1 rfl) ?_
      refine lv_iload_n hx hb dX3_mostRain_28 rfl (lv_at hl 0 rfl) ?_
      refine lv_iload_n hx hb dX3_mostRain_29 rfl (lv_at hl 2 rfl) ?_
      obtain ⟨r_1, er_1⟩ : ∃ z : rB, z = (wsC r (nI n) k r).1 := ⟨_, rfl⟩
      have hm_2 := mX3_wouldSpill l D cI cQ cJ o s0 x0 a a2 r q1 (nI n) mi k hk
      rw [← er_1] at hm_2
      refine k_calli (wc := (cO o [.ref (a 0), .ref (a2 0), .ref s0, .ref x0]) ++ (cR cI a r) ++ (cR cI a2 q1)) (w' := (cO o [.ref (a 0), .ref (a2 0), .ref s0, .ref x0]) ++ (cR cI a r) ++ (cR cI a2 r_1)) (wn := (cO o [.ref (a 0), .ref (a2 0), .ref s0, .ref x0]) ++ (cR cI a r) ++ (cR cI a2 r_1)) (va_runV (As := [.int (nI n), .int mi]) (rest := []) ⟨hx, hb, hml, hown, hts⟩ (hm_2 _) (cwV 2 hts gX3_mostRain_X3_wouldSpill rfl rfl rfl (by decide +kernel) ⟨Nat.le_of_ble_eq_true rfl, Nat.le_of_ble_eq_true rfl⟩) (k_preV (wc := (cO o [.ref (a 0), .ref (a2 0), .ref s0, .ref x0]) ++ (cR cI a r) ++ (cR cI a2 q1)) hE hK hP hD [0, 1, 2, 3, 4, 5, 6, 7, 8, 9, 10, 11, 12, 13, 14, 15, 16, 17, 18, 19, 20, 21, 22, 23, 24, 25, 26] (by decide) rfl (ci := 3) (q0 := 0) rfl rfl [.int (nI n), .int mi]) rfl rfl hl.1 rfl (lv_room (Nat.le_of_ble_eq_true rfl)) dX3_mostRain_30 ⟨Nat.zero_le _, Nat.zero_le _⟩) hP hD hS hA [0, 1, 2, 3, 4, 5, 6, 7, 8, 9, 10, 11, 12, 13, 14, 15, 16, 17, 18, 19, 20, 21, 22, 23, 24, 25, 26] rfl rfl (by rw [show [0, 1, 2, 3, 4, 5, 6, 7, 8, 9, 10, 11, 12, 13, 14, 15, 16, 17, 18, 19, 20, 21, 22, 23, 24, 25, 26] = List.range' 0 27 from rfl, putAt_f 27] <;> rfl) (fun H locs hP hD hS => ?_)
      refine lv_if_ne (tgt := 38) hx hb dX3_mostRain_33 (by decide) (fun c_3 => ?_) (fun c_3 => ?_)
      · skip
        refine lv_iinc (v := (nI n) + (-1)) (lv' := [(2, .int ((nI n) + (-1))), (0, .ref o), (1, .int mi)]) hx hb dX3_mostRain_38 hl (k := 0) rfl rfl (by decide) rfl (fun ls hl => ?_)
        refine lv_goto (tgt := 23) hx hb dX3_mostRain_41 (by decide) ?_
        exact ih r_1 (nI n + (-1)) (by omega) (g_back n) (by replace er_1 := er_1.symm; subst er_1; rw [← hres]; simp only [mrC, if_neg c_3, ↓reduceIte]) H locs hP hD hS ls (lv_sub hl [0, 1, 2] rfl)
      · skip
        refine lv_iload_n hx hb dX3_mostRain_36 rfl (lv_at hl 0 rfl) ?_
        have e9 : (r_1 : rB) = (mrC r k 100 r).1 := by (replace er_1 := er_1.symm; subst er_1; rw [← hres]; simp only [mrC, if_pos c_3, ↓reduceIte])
        rw [e9] at hP
        exact k_iret hx hb hr hlocks hS hP dX3_mostRain_37 (by (replace er_1 := er_1.symm; subst er_1; rw [← hres]; simp only [mrC, if_pos c_3, ↓reduceIte]))
  exact Ld 100 q 99 (by omega) (by decide) (by rfl) _ _ hP hD hS ls (lv_sub hl [0, 1, 2] rfl)
