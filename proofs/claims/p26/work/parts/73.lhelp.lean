set_option maxHeartbeats 4000000 in
set_option maxRecDepth 100000 in
theorem mL_low (l : Launch) (D : va_G) (cI cQ cJ : ClassId) (v n : Int32) (hn : ¬ n = 0) : Mi l D (tY cI cQ cJ) yL_low wsL_low ({ frames := 0, cells := 0, slots := 0, locals := 0 } : Room) [.int v, .int n] (([] : va_W)) (([] : va_W)) (lo v n) := by
  refine M_of (cc := cL_low) (maxL := 2) (ret := some .int) (Qc := fun A => va_Qi (fun (x : Int32) (_ : Unit) => x = lo v n) (fun _ t => Wd D (([] : va_W)) t) A) (by decide) rfl (Nat.le_of_ble_eq_true rfl) ?_
  intro p e s m below meth c A ls hB hE hP hK hD hA hl
  obtain ⟨hx, hb, hr, hml, hts, hown, hlocks⟩ := hB
  have hS : va_S A s.heap s.heap [] := va_S.rf
  have hl : lv_has ls 2 [(0, .int v), (1, .int n)] := hl
  refine lv_iload_n hx hb dL_low_0 rfl (lv_at hl 0 rfl) ?_
  refine lv_ldc (v := 2147483647) hx hb hown (hts (.constant RL 7 2147483647) (by decide +kernel)) dL_low_1 ?_
  refine lv_iand hx hb dL_low_3 ?_
  refine lv_iload_n hx hb dL_low_4 rfl (lv_at hl 1 rfl) ?_
  refine lv_irem hx hb dL_low_5 hn ?_
  exact k_iret hx hb hr hlocks hS hP dL_low_6 (by (first | with_reducible rfl | simp only [lo, ↓reduceIte]))
set_option maxHeartbeats 4000000 in
set_option maxRecDepth 100000 in
theorem mL_leads (l : Launch) (D : va_G) (cI cQ cJ : ClassId) (o s0 x0 : Nat) (a a2 : Nat → Nat) (r : rB) (hv : ∀ i, i < 6 → vg (r 7 i)) (q t : Int32) (hq : vg q) : Mi l D (tY cI cQ cJ) yL_leads wsL_leads ({ frames := 3, cells := 0, slots := 0, locals := 66 } : Room) [.ref o, .int q, .int t] ((cO o [.ref (a 0), .ref (a2 0), .ref s0, .ref x0]) ++ (cR cI a r)) ((cO o [.ref (a 0), .ref (a2 0), .ref s0, .ref x0]) ++ (cR cI a r)) (if ldV r t 6 q = t then 1 else 0) := by
  refine M_of (cc := cL_leads) (maxL := 5) (ret := some .boolean) (Qc := fun A => va_Qi (fun (x : Int32) (_ : Unit) => x = if ldV r t 6 q = t then 1 else 0) (fun _ t => Wd D ((cO o [.ref (a 0), .ref (a2 0), .ref s0, .ref x0]) ++ (cR cI a r)) t) A) (by decide) rfl (Nat.le_of_ble_eq_true rfl) ?_
  intro p e s m below meth c A ls hB hE hP hK hD hA hl
  obtain ⟨hx, hb, hr, hml, hts, hown, hlocks⟩ := hB
  have hS : va_S A s.heap s.heap [] := va_S.rf
  have hl : lv_has ls 5 [(0, .ref o), (1, .int q), (2, .int t)] := hl
  refine lv_iload_n hx hb dL_leads_0 rfl (lv_at hl 1 rfl) ?_
  refine lv_istore_n (lv' := [(3, .int q), (0, .ref o), (1, .int q), (2, .int t)]) hx hb dL_leads_1 rfl hl (by decide) rfl (fun ls hl => ?_)
  refine lv_iconst (v := 0) hx hb dL_leads_2 (by decide) ?_
  refine lv_istore (lv' := [(4, .int 0), (3, .int q), (0, .ref o), (1, .int q), (2, .int t)]) hx hb dL_leads_3 hl (by decide) rfl (fun ls hl => ?_)
  have Lp5 : ∀ (n i : Nat) (aq : Int32), i + n = 6 → vg aq → ldV r t n aq = ldV r t 6 q → ∀ (H : Heap) (locs : List Loc), va_P D vwCl ((cO o [.ref (a 0), .ref (a2 0), .ref s0, .ref x0]) ++ (cR cI a r)) H → va_D A ((cO o [.ref (a 0), .ref (a2 0), .ref s0, .ref x0]) ++ (cR cI a r)) → va_S A s.heap H locs → ∀ (ls : Array Slot), lv_has ls 5 [(4, .int (nI i)), (3, .int aq), (0, .ref o), (1, .int q), (2, .int t)] → W p l e ({ frames := 3, cells := 0, slots := 0, locals := 66 } : Room) s m ([.ref o, .int q, .int t] : List Value).toArray below meth c H locs 0 0 (MQ below (va_Qi (fun (x : Int32) (_ : Unit) => x = if ldV r t 6 q = t then 1 else 0) (fun _ t => Wd D ((cO o [.ref (a 0), .ref (a2 0), .ref s0, .ref x0]) ++ (cR cI a r)) t) A) ([.ref o, .int q, .int t] : List Value).toArray s 0 0 A) (F0 m 5 ls []) := by
    intro n
    induction n with
    | zero =>
      intro i aq hin h8 hres H locs hP hD hS ls hl
      refine lv_iload hx hb dL_leads_5 (lv_at hl 0 rfl) ?_
      refine lv_bipush (v := 6) hx hb dL_leads_7 (by decide) ?_
      refine lv_icmp_ge (tgt := 34) hx hb dL_leads_9 (by decide) (fun _ => ?_) (fun h9 => absurd (nI_le (a := 6) (b := i) (by omega) (by omega)) h9)
      refine lv_iload_n hx hb dL_leads_34 rfl (lv_at hl 1 rfl) ?_
      refine lv_iload_n hx hb dL_leads_35 rfl (lv_at hl 4 rfl) ?_
      refine lv_icmp_ne (tgt := 43) hx hb dL_leads_36 (by decide) (fun c_1 => ?_) (fun c_1 => ?_)
      · skip
        refine lv_iconst (v := 0) hx hb dL_leads_43 (by decide) ?_
        exact k_zret hx hb hr hlocks hS hP dL_leads_44 (by first | rfl | decide | exact rfl) (by (rw [← hres]; simp only [ldV, if_neg c_1, ↓reduceIte] <;> first | exact (if_neg c_1).symm | exact (if_pos c_1).symm))
      · skip
        refine lv_iconst (v := 1) hx hb dL_leads_39 (by decide) ?_
        refine lv_goto (tgt := 44) hx hb dL_leads_40 (by decide) ?_
        exact k_zret hx hb hr hlocks hS hP dL_leads_44 (by first | rfl | decide | exact rfl) (by (rw [← hres]; simp only [ldV, if_pos c_1, ↓reduceIte] <;> first | exact (if_neg c_1).symm | exact (if_pos c_1).symm))
    | succ n ih =>
      intro i aq hin h8 hres H locs hP hD hS ls hl
      refine lv_iload hx hb dL_leads_5 (lv_at hl 0 rfl) ?_
      refine lv_bipush (v := 6) hx hb dL_leads_7 (by decide) ?_
      refine lv_icmp_ge (tgt := 34) hx hb dL_leads_9 (by decide) (fun h9 => absurd h9 (nI_ge (a := i) (b := 6) (by omega) (by omega))) (fun _ => ?_)
      refine lv_iload_n hx hb dL_leads_12 rfl (lv_at hl 1 rfl) ?_
      refine lv_if_lt (tgt := 34) hx hb dL_leads_13 (by decide) (fun c_2 => ?_) (fun c_2 => ?_)
      · skip
        refine lv_iload_n hx hb dL_leads_34 rfl (lv_at hl 1 rfl) ?_
        refine lv_iload_n hx hb dL_leads_35 rfl (lv_at hl 4 rfl) ?_
        refine lv_icmp_ne (tgt := 43) hx hb dL_leads_36 (by decide) (fun c_3 => ?_) (fun c_3 => ?_)
        · skip
          refine lv_iconst (v := 0) hx hb dL_leads_43 (by decide) ?_
          exact k_zret hx hb hr hlocks hS hP dL_leads_44 (by first | rfl | decide | exact rfl) (by (rw [← hres]; simp only [ldV, if_pos c_2, if_neg c_3, ↓reduceIte] <;> first | exact (if_neg c_3).symm | exact (if_pos c_3).symm))
        · skip
          refine lv_iconst (v := 1) hx hb dL_leads_39 (by decide) ?_
          refine lv_goto (tgt := 44) hx hb dL_leads_40 (by decide) ?_
          exact k_zret hx hb hr hlocks hS hP dL_leads_44 (by first | rfl | decide | exact rfl) (by (rw [← hres]; simp only [ldV, if_pos c_2, if_pos c_3, ↓reduceIte] <;> first | exact (if_neg c_3).symm | exact (if_pos c_3).symm))
      · skip
        refine lv_iload_n hx hb dL_leads_16 rfl (lv_at hl 1 rfl) ?_
        refine lv_iload_n hx hb dL_leads_17 rfl (lv_at hl 4 rfl) ?_
        refine lv_icmp_eq (tgt := 34) hx hb dL_leads_18 (by decide) (fun c_4 => ?_) (fun c_4 => ?_)
        · skip
          refine lv_iload_n hx hb dL_leads_34 rfl (lv_at hl 1 rfl) ?_
          refine lv_iload_n hx hb dL_leads_35 rfl (lv_at hl 4 rfl) ?_
          refine lv_icmp_ne (tgt := 43) hx hb dL_leads_36 (by decide) (fun h9 => absurd c_4 h9) (fun _ => ?_)
          refine lv_iconst (v := 1) hx hb dL_leads_39 (by decide) ?_
          refine lv_goto (tgt := 44) hx hb dL_leads_40 (by decide) ?_
          exact k_zret hx hb hr hlocks hS hP dL_leads_44 (by first | rfl | decide | exact rfl) (by (rw [← hres]; simp only [ldV, if_neg c_2, if_pos c_4, ↓reduceIte] <;> first | exact (if_neg c_4).symm | exact (if_pos c_4).symm))
        · skip
          obtain ⟨i9, hi9, e9⟩ := vg_nn h8 c_2
          subst e9
          refine lv_aload_n hx hb dL_leads_21 rfl (lv_at hl 2 rfl) ?_
          refine lv_iload_n hx hb dL_leads_22 rfl (lv_at hl 1 rfl) ?_
          refine lv_iconst (v := 3) hx hb dL_leads_23 (by decide) ?_
          refine k_calli (wc := (cO o [.ref (a 0), .ref (a2 0), .ref s0, .ref x0]) ++ (cR cI a r)) (w' := (cO o [.ref (a 0), .ref (a2 0), .ref s0, .ref x0]) ++ (cR cI a r)) (wn := (cO o [.ref (a 0), .ref (a2 0), .ref s0, .ref x0]) ++ (cR cI a r)) (va_runV (As := [.int (nI i9), .int 3]) (rest := []) ⟨hx, hb, hml, hown, hts⟩ (mX3_gutterOf l D cI cQ cJ o s0 x0 a a2 r i9 3 (by omega) (by omega) _) (cwV 2 hts gL_leads_X3_gutterOf rfl rfl rfl (by decide +kernel) ⟨Nat.le_of_ble_eq_true rfl, Nat.le_of_ble_eq_true rfl⟩) (k_preV (wc := (cO o [.ref (a 0), .ref (a2 0), .ref s0, .ref x0]) ++ (cR cI a r)) hE hK hP hD [0, 1, 2, 3, 4, 5, 6, 7, 8, 9, 10, 11, 12, 13] (by decide) rfl (ci := 3) (q0 := 0) rfl rfl [.int (nI i9), .int 3]) rfl rfl hl.1 rfl (lv_room (Nat.le_of_ble_eq_true rfl)) dL_leads_24 ⟨Nat.zero_le _, Nat.zero_le _⟩) hP hD hS hA [0, 1, 2, 3, 4, 5, 6, 7, 8, 9, 10, 11, 12, 13] rfl rfl (putAt_same _ _ _ rfl) (fun H locs hP hD hS => ?_)
          refine lv_eqi (y := r 7 i9) rfl ?_
          refine lv_istore_n (lv' := [(3, .int (r 7 i9)), (4, .int (nI i)), (0, .ref o), (1, .int q), (2, .int t)]) hx hb dL_leads_27 rfl hl (by decide) rfl (fun ls hl => ?_)
          refine lv_iinc (v := nI (i + 1)) (lv' := [(4, .int (nI (i + 1))), (3, .int (r 7 i9)), (0, .ref o), (1, .int q), (2, .int t)]) hx hb dL_leads_28 hl (k := 1) rfl (nI_1 i) (by decide) rfl (fun ls hl => ?_)
          refine lv_goto (tgt := 5) hx hb dL_leads_31 (by decide) ?_
          exact ih (i + 1) (r 7 i9) (by omega) (hv i9 hi9) (by rw [← hres, ldV_s hi9 c_2 c_4]) H locs hP hD hS ls (lv_sub hl [0, 1, 2, 3, 4] rfl)
  exact Lp5 6 0 q (by omega) hq rfl _ _ hP hD hS ls (lv_sub hl [0, 1, 2, 3, 4] rfl)
set_option maxHeartbeats 4000000 in
set_option maxRecDepth 100000 in
theorem mL_told (l : Launch) (D : va_G) (cI cQ cJ : ClassId) (o s0 x0 : Nat) (a a2 : Nat → Nat) (r : rB) (w0 : Nat) (f : Nat → Option Nat) (vo vh : Int32)  : Ml l D (tY cI cQ cJ) yL_told wsL_told ({ frames := 3, cells := 0, slots := 0, locals := 66 } : Room) [.ref o] ((cO o [.ref (a 0), .ref (a2 0), .ref s0, .ref x0]) ++ (cR cI a r) ++ (cS cQ s0 w0 f vo vh)) ((cO o [.ref (a 0), .ref (a2 0), .ref s0, .ref x0]) ++ (cR cI a r) ++ (cS cQ s0 w0 f vo vh)) (tdV r vh) := by
  refine M_of (cc := cL_told) (maxL := 5) (ret := some .long) (Qc := fun A => va_Ql (fun (x : Int64) (_ : Unit) => x = tdV r vh) (fun _ t => Wd D ((cO o [.ref (a 0), .ref (a2 0), .ref s0, .ref x0]) ++ (cR cI a r) ++ (cS cQ s0 w0 f vo vh)) t) A) (by decide) rfl (Nat.le_of_ble_eq_true rfl) ?_
  intro p e s m below meth c A ls hB hE hP hK hD hA hl
  obtain ⟨hx, hb, hr, hml, hts, hown, hlocks⟩ := hB
  have hS : va_S A s.heap s.heap [] := va_S.rf
  have hl : lv_has ls 5 [(0, .ref o)] := hl
  refine lv_ldc2 (v := 3) hx hb hown (hts (.constantLong RL 8 3) (by decide +kernel)) dL_told_0 ?_
  refine lv_lstore_n (lv' := [(1, .long 3), (0, .ref o)]) hx hb dL_told_3 rfl hl (by decide) rfl (fun ls hl => ?_)
  refine lv_iconst (v := 0) hx hb dL_told_4 (by decide) ?_
  refine lv_istore_n (lv' := [(3, .int 0), (1, .long 3), (0, .ref o)]) hx hb dL_told_5 rfl hl (by decide) rfl (fun ls hl => ?_)
  have Lp6 : ∀ (n1 i1 : Nat) (v1 : Int64), i1 + n1 = 8 → tcH r vh n1 i1 v1 = tcH r vh 8 0 3 → ∀ (H : Heap) (locs : List Loc), va_P D vwCl ((cO o [.ref (a 0), .ref (a2 0), .ref s0, .ref x0]) ++ (cR cI a r) ++ (cS cQ s0 w0 f vo vh)) H → va_D A ((cO o [.ref (a 0), .ref (a2 0), .ref s0, .ref x0]) ++ (cR cI a r) ++ (cS cQ s0 w0 f vo vh)) → va_S A s.heap H locs → ∀ (ls : Array Slot), lv_has ls 5 [(3, .int (nI i1)), (1, .long v1), (0, .ref o)] → W p l e ({ frames := 3, cells := 0, slots := 0, locals := 66 } : Room) s m ([.ref o] : List Value).toArray below meth c H locs 0 0 (MQ below (va_Ql (fun (x : Int64) (_ : Unit) => x = tdV r vh) (fun _ t => Wd D ((cO o [.ref (a 0), .ref (a2 0), .ref s0, .ref x0]) ++ (cR cI a r) ++ (cS cQ s0 w0 f vo vh)) t) A) ([.ref o] : List Value).toArray s 0 0 A) (F0 m 6 ls []) := by
    intro n1
    induction n1 with
    | zero =>
      intro i1 v1 hin6 hres6 H locs hP hD hS ls hl
      have h96 : v1 = tcH r vh 8 0 3 := hres6
      refine lv_iload_n hx hb dL_told_6 rfl (lv_at hl 0 rfl) ?_
      refine lv_bipush (v := 8) hx hb dL_told_7 (by decide) ?_
      refine lv_icmp_ge (tgt := 31) hx hb dL_told_9 (by decide) (fun _ => ?_) (fun h9 => absurd (nI_le (a := 8) (b := i1) (by omega) (by omega)) h9)
      refine lv_iconst (v := 0) hx hb dL_told_31 (by decide) ?_
      refine lv_istore_n (lv' := [(3, .int 0), (1, .long v1), (0, .ref o)]) hx hb dL_told_32 rfl hl (by decide) rfl (fun ls hl => ?_)
      have Lp33 : ∀ (n2 i2 : Nat) (v2 : Int64), i2 + n2 = 3 → tsH r n2 i2 v2 = tsH r 3 0 v1 → ∀ (H : Heap) (locs : List Loc), va_P D vwCl ((cO o [.ref (a 0), .ref (a2 0), .ref s0, .ref x0]) ++ (cR cI a r) ++ (cS cQ s0 w0 f vo vh)) H → va_D A ((cO o [.ref (a 0), .ref (a2 0), .ref s0, .ref x0]) ++ (cR cI a r) ++ (cS cQ s0 w0 f vo vh)) → va_S A s.heap H locs → ∀ (ls : Array Slot), lv_has ls 5 [(3, .int (nI i2)), (1, .long v2), (0, .ref o)] → W p l e ({ frames := 3, cells := 0, slots := 0, locals := 66 } : Room) s m ([.ref o] : List Value).toArray below meth c H locs 0 0 (MQ below (va_Ql (fun (x : Int64) (_ : Unit) => x = tdV r vh) (fun _ t => Wd D ((cO o [.ref (a 0), .ref (a2 0), .ref s0, .ref x0]) ++ (cR cI a r) ++ (cS cQ s0 w0 f vo vh)) t) A) ([.ref o] : List Value).toArray s 0 0 A) (F0 m 33 ls []) := by
        intro n2
        induction n2 with
        | zero =>
          intro i2 v2 hin33 hres33 H locs hP hD hS ls hl
          have h933 : v2 = tsH r 3 0 v1 := hres33
          refine lv_iload_n hx hb dL_told_33 rfl (lv_at hl 0 rfl) ?_
          refine lv_iconst (v := 3) hx hb dL_told_34 (by decide) ?_
          refine lv_icmp_ge (tgt := 57) hx hb dL_told_35 (by decide) (fun _ => ?_) (fun h9 => absurd (nI_le (a := 3) (b := i2) (by omega) (by omega)) h9)
          refine lv_iconst (v := 0) hx hb dL_told_57 (by decide) ?_
          refine lv_istore_n (lv' := [(3, .int 0), (1, .long v2), (0, .ref o)]) hx hb dL_told_58 rfl hl (by decide) rfl (fun ls hl => ?_)
          have Lp59 : ∀ (n3 i3 : Nat) (v3 : Int64), i3 + n3 = 6 → tkH r n3 i3 v3 = tkH r 6 0 v2 → ∀ (H : Heap) (locs : List Loc), va_P D vwCl ((cO o [.ref (a 0), .ref (a2 0), .ref s0, .ref x0]) ++ (cR cI a r) ++ (cS cQ s0 w0 f vo vh)) H → va_D A ((cO o [.ref (a 0), .ref (a2 0), .ref s0, .ref x0]) ++ (cR cI a r) ++ (cS cQ s0 w0 f vo vh)) → va_S A s.heap H locs → ∀ (ls : Array Slot), lv_has ls 5 [(3, .int (nI i3)), (1, .long v3), (0, .ref o)] → W p l e ({ frames := 3, cells := 0, slots := 0, locals := 66 } : Room) s m ([.ref o] : List Value).toArray below meth c H locs 0 0 (MQ below (va_Ql (fun (x : Int64) (_ : Unit) => x = tdV r vh) (fun _ t => Wd D ((cO o [.ref (a 0), .ref (a2 0), .ref s0, .ref x0]) ++ (cR cI a r) ++ (cS cQ s0 w0 f vo vh)) t) A) ([.ref o] : List Value).toArray s 0 0 A) (F0 m 59 ls []) := by
            intro n3
            induction n3 with
            | zero =>
              intro i3 v3 hin59 hres59 H locs hP hD hS ls hl
              have h959 : v3 = tkH r 6 0 v2 := hres59
              refine lv_iload_n hx hb dL_told_59 rfl (lv_at hl 0 rfl) ?_
              refine lv_bipush (v := 6) hx hb dL_told_60 (by decide) ?_
              refine lv_icmp_ge (tgt := 132) hx hb dL_told_62 (by decide) (fun _ => ?_) (fun h9 => absurd (nI_le (a := 6) (b := i3) (by omega) (by omega)) h9)
              refine lv_lload_n hx hb dL_told_132 rfl (lv_at hl 1 rfl) ?_
              exact k_lret hx hb hr hlocks hS hP dL_told_133 (by (replace h959 := h959.symm; subst h959; replace h933 := h933.symm; subst h933; replace h96 := h96.symm; subst h96; first | with_reducible rfl | simp only [tdV, ↓reduceIte]))
            | succ n3 ih59 =>
              intro i3 v3 hin59 hres59 H locs hP hD hS ls hl
              refine lv_iload_n hx hb dL_told_59 rfl (lv_at hl 0 rfl) ?_
              refine lv_bipush (v := 6) hx hb dL_told_60 (by decide) ?_
              refine lv_icmp_ge (tgt := 132) hx hb dL_told_62 (by decide) (fun h9 => absurd h9 (nI_ge (a := i3) (b := 6) (by omega) (by omega))) (fun _ => ?_)
              refine lv_iconst (v := 0) hx hb dL_told_65 (by decide) ?_
              refine lv_istore (lv' := [(4, .int 0), (3, .int (nI i3)), (1, .long v3), (0, .ref o)]) hx hb dL_told_66 hl (by decide) rfl (fun ls hl => ?_)
              have Lp68 : ∀ (n4 i4 : Nat) (v4 : Int64), i4 + n4 = 9 → tgI r i3 n4 i4 v4 = tgI r i3 9 0 v3 → ∀ (H : Heap) (locs : List Loc), va_P D vwCl ((cO o [.ref (a 0), .ref (a2 0), .ref s0, .ref x0]) ++ (cR cI a r) ++ (cS cQ s0 w0 f vo vh)) H → va_D A ((cO o [.ref (a 0), .ref (a2 0), .ref s0, .ref x0]) ++ (cR cI a r) ++ (cS cQ s0 w0 f vo vh)) → va_S A s.heap H locs → ∀ (ls : Array Slot), lv_has ls 5 [(4, .int (nI i4)), (3, .int (nI i3)), (1, .long v4), (0, .ref o)] → W p l e ({ frames := 3, cells := 0, slots := 0, locals := 66 } : Room) s m ([.ref o] : List Value).toArray below meth c H locs 0 0 (MQ below (va_Ql (fun (x : Int64) (_ : Unit) => x = tdV r vh) (fun _ t => Wd D ((cO o [.ref (a 0), .ref (a2 0), .ref s0, .ref x0]) ++ (cR cI a r) ++ (cS cQ s0 w0 f vo vh)) t) A) ([.ref o] : List Value).toArray s 0 0 A) (F0 m 68 ls []) := by
                intro n4
                induction n4 with
                | zero =>
                  intro i4 v4 hin68 hres68 H locs hP hD hS ls hl
                  have h968 : v4 = tgI r i3 9 0 v3 := hres68
                  refine lv_iload hx hb dL_told_68 (lv_at hl 0 rfl) ?_
                  refine lv_bipush (v := 9) hx hb dL_told_70 (by decide) ?_
                  refine lv_icmp_ge (tgt := 96) hx hb dL_told_72 (by decide) (fun _ => ?_) (fun h9 => absurd (nI_le (a := 9) (b := i4) (by omega) (by omega)) h9)
                  refine lv_iconst (v := 0) hx hb dL_told_96 (by decide) ?_
                  refine lv_istore (lv' := [(4, .int 0), (3, .int (nI i3)), (1, .long v4), (0, .ref o)]) hx hb dL_told_97 hl (by decide) rfl (fun ls hl => ?_)
                  have Lp99 : ∀ (n5 i5 : Nat) (v5 : Int64), i5 + n5 = 4 → tpI r i3 n5 i5 v5 = tpI r i3 4 0 v4 → ∀ (H : Heap) (locs : List Loc), va_P D vwCl ((cO o [.ref (a 0), .ref (a2 0), .ref s0, .ref x0]) ++ (cR cI a r) ++ (cS cQ s0 w0 f vo vh)) H → va_D A ((cO o [.ref (a 0), .ref (a2 0), .ref s0, .ref x0]) ++ (cR cI a r) ++ (cS cQ s0 w0 f vo vh)) → va_S A s.heap H locs → ∀ (ls : Array Slot), lv_has ls 5 [(4, .int (nI i5)), (3, .int (nI i3)), (1, .long v5), (0, .ref o)] → W p l e ({ frames := 3, cells := 0, slots := 0, locals := 66 } : Room) s m ([.ref o] : List Value).toArray below meth c H locs 0 0 (MQ below (va_Ql (fun (x : Int64) (_ : Unit) => x = tdV r vh) (fun _ t => Wd D ((cO o [.ref (a 0), .ref (a2 0), .ref s0, .ref x0]) ++ (cR cI a r) ++ (cS cQ s0 w0 f vo vh)) t) A) ([.ref o] : List Value).toArray s 0 0 A) (F0 m 99 ls []) := by
                    intro n5
                    induction n5 with
                    | zero =>
                      intro i5 v5 hin99 hres99 H locs hP hD hS ls hl
                      have h999 : v5 = tpI r i3 4 0 v4 := hres99
                      refine lv_iload hx hb dL_told_99 (lv_at hl 0 rfl) ?_
                      refine lv_iconst (v := 4) hx hb dL_told_101 (by decide) ?_
                      refine lv_icmp_ge (tgt := 126) hx hb dL_told_102 (by decide) (fun _ => ?_) (fun h9 => absurd (nI_le (a := 4) (b := i5) (by omega) (by omega)) h9)
                      refine lv_iinc (v := nI (i3 + 1)) (lv' := [(3, .int (nI (i3 + 1))), (4, .int (nI i5)), (1, .long v5), (0, .ref o)]) hx hb dL_told_126 hl (k := 1) rfl (nI_1 i3) (by decide) rfl (fun ls hl => ?_)
                      refine lv_goto (tgt := 59) hx hb dL_told_129 (by decide) ?_
                      exact ih59 (i3 + 1) v5 (by omega) (by replace h999 := h999.symm; subst h999; replace h968 := h968.symm; subst h968; rw [← hres59]; simp only [tkH, ↓reduceIte]) H locs hP hD hS ls (lv_sub hl [0, 2, 3] rfl)
                    | succ n5 ih99 =>
                      intro i5 v5 hin99 hres99 H locs hP hD hS ls hl
                      refine lv_iload hx hb dL_told_99 (lv_at hl 0 rfl) ?_
                      refine lv_iconst (v := 4) hx hb dL_told_101 (by decide) ?_
                      refine lv_icmp_ge (tgt := 126) hx hb dL_told_102 (by decide) (fun h9 => absurd h9 (nI_ge (a := i5) (b := 4) (by omega) (by omega))) (fun _ => ?_)
                      refine lv_ldc2 (v := 31) hx hb hown (hts (.constantLong RL 10 31) (by decide +kernel)) dL_told_105 ?_
                      refine lv_lload_n hx hb dL_told_108 rfl (lv_at hl 2 rfl) ?_
                      refine lv_lmul hx hb dL_told_109 ?_
                      refine lv_aload_n hx hb dL_told_110 rfl (lv_at hl 3 rfl) ?_
                      refine lv_iload_n hx hb dL_told_111 rfl (lv_at hl 1 rfl) ?_
                      refine lv_iload hx hb dL_told_112 (lv_at hl 0 rfl) ?_
                      refine k_calli (wc := (cO o [.ref (a 0), .ref (a2 0), .ref s0, .ref x0]) ++ (cR cI a r)) (w' := (cO o [.ref (a 0), .ref (a2 0), .ref s0, .ref x0]) ++ (cR cI a r)) (wn := (cO o [.ref (a 0), .ref (a2 0), .ref s0, .ref x0]) ++ (cR cI a r) ++ (cS cQ s0 w0 f vo vh)) (va_runV (As := [.int (nI i3), .int (nI i5)]) (rest := [.long (31 * v5)]) ⟨hx, hb, hml, hown, hts⟩ (mX3_planeOf l D cI cQ cJ o s0 x0 a a2 r i3 i5 (by omega) (by omega) _) (cwV 2 hts gL_told_X3_planeOf rfl rfl rfl (by decide +kernel) ⟨Nat.le_of_ble_eq_true rfl, Nat.le_of_ble_eq_true rfl⟩) (k_preV (wc := (cO o [.ref (a 0), .ref (a2 0), .ref s0, .ref x0]) ++ (cR cI a r)) hE hK hP hD [0, 1, 2, 3, 4, 5, 6, 7, 8, 9, 10, 11, 12, 13] (by decide) rfl (ci := 3) (q0 := 0) rfl rfl [.int (nI i3), .int (nI i5)]) rfl rfl hl.1 rfl (lv_room (Nat.le_of_ble_eq_true rfl)) dL_told_114 ⟨Nat.zero_le _, Nat.zero_le _⟩) hP hD hS hA [0, 1, 2, 3, 4, 5, 6, 7, 8, 9, 10, 11, 12, 13] rfl rfl (putAt_same _ _ _ rfl) (fun H locs hP hD hS => ?_)
                      refine lv_i2l (v := Int32.toInt64 (pnC r i3 i5)) hx hb dL_told_117 rfl ?_
                      refine lv_ladd hx hb dL_told_118 ?_
                      refine lv_lstore_n (lv' := [(1, .long ((31 * v5) + (Int32.toInt64 (pnC r i3 i5)))), (4, .int (nI i5)), (3, .int (nI i3)), (0, .ref o)]) hx hb dL_told_119 rfl hl (by decide) rfl (fun ls hl => ?_)
                      refine lv_iinc (v := nI (i5 + 1)) (lv' := [(4, .int (nI (i5 + 1))), (1, .long ((31 * v5) + (Int32.toInt64 (pnC r i3 i5)))), (3, .int (nI i3)), (0, .ref o)]) hx hb dL_told_120 hl (k := 1) rfl (nI_1 i5) (by decide) rfl (fun ls hl => ?_)
                      refine lv_goto (tgt := 99) hx hb dL_told_123 (by decide) ?_
                      exact ih99 (i5 + 1) ((31 * v5) + (Int32.toInt64 (pnC r i3 i5))) (by omega) (by rw [← hres99]; simp only [tpI, ↓reduceIte]) H locs hP hD hS ls (lv_sub hl [0, 2, 1, 3] rfl)
                  exact Lp99 4 0 v4 (by omega) rfl _ _ hP hD hS ls (lv_sub hl [0, 1, 2, 3] rfl)
                | succ n4 ih68 =>
                  intro i4 v4 hin68 hres68 H locs hP hD hS ls hl
                  refine lv_iload hx hb dL_told_68 (lv_at hl 0 rfl) ?_
                  refine lv_bipush (v := 9) hx hb dL_told_70 (by decide) ?_
                  refine lv_icmp_ge (tgt := 96) hx hb dL_told_72 (by decide) (fun h9 => absurd h9 (nI_ge (a := i4) (b := 9) (by omega) (by omega))) (fun _ => ?_)
                  refine lv_ldc2 (v := 31) hx hb hown (hts (.constantLong RL 10 31) (by decide +kernel)) dL_told_75 ?_
                  refine lv_lload_n hx hb dL_told_78 rfl (lv_at hl 2 rfl) ?_
                  refine lv_lmul hx hb dL_told_79 ?_
                  refine lv_aload_n hx hb dL_told_80 rfl (lv_at hl 3 rfl) ?_
                  refine lv_iload_n hx hb dL_told_81 rfl (lv_at hl 1 rfl) ?_
                  refine lv_iload hx hb dL_told_82 (lv_at hl 0 rfl) ?_
                  refine k_calli (wc := (cO o [.ref (a 0), .ref (a2 0), .ref s0, .ref x0]) ++ (cR cI a r)) (w' := (cO o [.ref (a 0), .ref (a2 0), .ref s0, .ref x0]) ++ (cR cI a r)) (wn := (cO o [.ref (a 0), .ref (a2 0), .ref s0, .ref x0]) ++ (cR cI a r) ++ (cS cQ s0 w0 f vo vh)) (va_runV (As := [.int (nI i3), .int (nI i4)]) (rest := [.long (31 * v4)]) ⟨hx, hb, hml, hown, hts⟩ (mX3_gutterOf l D cI cQ cJ o s0 x0 a a2 r i3 i4 (by omega) (by omega) _) (cwV 2 hts gL_told_X3_gutterOf rfl rfl rfl (by decide +kernel) ⟨Nat.le_of_ble_eq_true rfl, Nat.le_of_ble_eq_true rfl⟩) (k_preV (wc := (cO o [.ref (a 0), .ref (a2 0), .ref s0, .ref x0]) ++ (cR cI a r)) hE hK hP hD [0, 1, 2, 3, 4, 5, 6, 7, 8, 9, 10, 11, 12, 13] (by decide) rfl (ci := 3) (q0 := 0) rfl rfl [.int (nI i3), .int (nI i4)]) rfl rfl hl.1 rfl (lv_room (Nat.le_of_ble_eq_true rfl)) dL_told_84 ⟨Nat.zero_le _, Nat.zero_le _⟩) hP hD hS hA [0, 1, 2, 3, 4, 5, 6, 7, 8, 9, 10, 11, 12, 13] rfl rfl (putAt_same _ _ _ rfl) (fun H locs hP hD hS => ?_)
                  refine lv_i2l (v := Int32.toInt64 (gnC r i3 i4)) hx hb dL_told_87 rfl ?_
                  refine lv_ladd hx hb dL_told_88 ?_
                  refine lv_lstore_n (lv' := [(1, .long ((31 * v4) + (Int32.toInt64 (gnC r i3 i4)))), (4, .int (nI i4)), (3, .int (nI i3)), (0, .ref o)]) hx hb dL_told_89 rfl hl (by decide) rfl (fun ls hl => ?_)
                  refine lv_iinc (v := nI (i4 + 1)) (lv' := [(4, .int (nI (i4 + 1))), (1, .long ((31 * v4) + (Int32.toInt64 (gnC r i3 i4)))), (3, .int (nI i3)), (0, .ref o)]) hx hb dL_told_90 hl (k := 1) rfl (nI_1 i4) (by decide) rfl (fun ls hl => ?_)
                  refine lv_goto (tgt := 68) hx hb dL_told_93 (by decide) ?_
                  exact ih68 (i4 + 1) ((31 * v4) + (Int32.toInt64 (gnC r i3 i4))) (by omega) (by rw [← hres68]; simp only [tgI, ↓reduceIte]) H locs hP hD hS ls (lv_sub hl [0, 2, 1, 3] rfl)
              exact Lp68 9 0 v3 (by omega) rfl _ _ hP hD hS ls (lv_sub hl [0, 1, 2, 3] rfl)
          exact Lp59 6 0 v2 (by omega) rfl _ _ hP hD hS ls (lv_sub hl [0, 1, 2] rfl)
        | succ n2 ih33 =>
          intro i2 v2 hin33 hres33 H locs hP hD hS ls hl
          refine lv_iload_n hx hb dL_told_33 rfl (lv_at hl 0 rfl) ?_
          refine lv_iconst (v := 3) hx hb dL_told_34 (by decide) ?_
          refine lv_icmp_ge (tgt := 57) hx hb dL_told_35 (by decide) (fun h9 => absurd h9 (nI_ge (a := i2) (b := 3) (by omega) (by omega))) (fun _ => ?_)
          refine lv_ldc2 (v := 31) hx hb hown (hts (.constantLong RL 10 31) (by decide +kernel)) dL_told_38 ?_
          refine lv_lload_n hx hb dL_told_41 rfl (lv_at hl 1 rfl) ?_
          refine lv_lmul hx hb dL_told_42 ?_
          refine lv_aload_n hx hb dL_told_43 rfl (lv_at hl 2 rfl) ?_
          refine lv_iload_n hx hb dL_told_44 rfl (lv_at hl 0 rfl) ?_
          refine k_calli (wc := (cO o [.ref (a 0), .ref (a2 0), .ref s0, .ref x0]) ++ (cR cI a r)) (w' := (cO o [.ref (a 0), .ref (a2 0), .ref s0, .ref x0]) ++ (cR cI a r)) (wn := (cO o [.ref (a 0), .ref (a2 0), .ref s0, .ref x0]) ++ (cR cI a r) ++ (cS cQ s0 w0 f vo vh)) (va_runV (As := [.int (nI i2)]) (rest := [.long (31 * v2)]) ⟨hx, hb, hml, hown, hts⟩ (mX3_setting l D cI cQ cJ o s0 x0 a a2 r i2 (by omega) _) (cwV 1 hts gL_told_X3_setting rfl rfl rfl (by decide +kernel) ⟨Nat.le_of_ble_eq_true rfl, Nat.le_of_ble_eq_true rfl⟩) (k_preV (wc := (cO o [.ref (a 0), .ref (a2 0), .ref s0, .ref x0]) ++ (cR cI a r)) hE hK hP hD [0, 1, 2, 3, 4, 5, 6, 7, 8, 9, 10, 11, 12, 13] (by decide) rfl (ci := 3) (q0 := 0) rfl rfl [.int (nI i2)]) rfl rfl hl.1 rfl (lv_room (Nat.le_of_ble_eq_true rfl)) dL_told_45 ⟨Nat.zero_le _, Nat.zero_le _⟩) hP hD hS hA [0, 1, 2, 3, 4, 5, 6, 7, 8, 9, 10, 11, 12, 13] rfl rfl (putAt_same _ _ _ rfl) (fun H locs hP hD hS => ?_)
          refine lv_i2l (v := Int32.toInt64 (r 11 i2)) hx hb dL_told_48 rfl ?_
          refine lv_ladd hx hb dL_told_49 ?_
          refine lv_lstore_n (lv' := [(1, .long ((31 * v2) + (Int32.toInt64 (r 11 i2)))), (3, .int (nI i2)), (0, .ref o)]) hx hb dL_told_50 rfl hl (by decide) rfl (fun ls hl => ?_)
          refine lv_iinc (v := nI (i2 + 1)) (lv' := [(3, .int (nI (i2 + 1))), (1, .long ((31 * v2) + (Int32.toInt64 (r 11 i2)))), (0, .ref o)]) hx hb dL_told_51 hl (k := 1) rfl (nI_1 i2) (by decide) rfl (fun ls hl => ?_)
          refine lv_goto (tgt := 33) hx hb dL_told_54 (by decide) ?_
          exact ih33 (i2 + 1) ((31 * v2) + (Int32.toInt64 (r 11 i2))) (by omega) (by rw [← hres33]; simp only [tsH, ↓reduceIte]) H locs hP hD hS ls (lv_sub hl [0, 1, 2] rfl)
      exact Lp33 3 0 v1 (by omega) rfl _ _ hP hD hS ls (lv_sub hl [0, 1, 2] rfl)
    | succ n1 ih6 =>
      intro i1 v1 hin6 hres6 H locs hP hD hS ls hl
      refine lv_iload_n hx hb dL_told_6 rfl (lv_at hl 0 rfl) ?_
      refine lv_bipush (v := 8) hx hb dL_told_7 (by decide) ?_
      refine lv_icmp_ge (tgt := 31) hx hb dL_told_9 (by decide) (fun h9 => absurd h9 (nI_ge (a := i1) (b := 8) (by omega) (by omega))) (fun _ => ?_)
      refine lv_ldc2 (v := 31) hx hb hown (hts (.constantLong RL 10 31) (by decide +kernel)) dL_told_12 ?_
      refine lv_lload_n hx hb dL_told_15 rfl (lv_at hl 1 rfl) ?_
      refine lv_lmul hx hb dL_told_16 ?_
      refine lv_aload_n hx hb dL_told_17 rfl (lv_at hl 2 rfl) ?_
      refine lv_iload_n hx hb dL_told_18 rfl (lv_at hl 0 rfl) ?_
      refine k_calli (wc := (cO o [.ref (a 0), .ref (a2 0), .ref s0, .ref x0]) ++ (cR cI a r) ++ (cS cQ s0 w0 f vo vh)) (w' := (cO o [.ref (a 0), .ref (a2 0), .ref s0, .ref x0]) ++ (cR cI a r) ++ (cS cQ s0 w0 f vo vh)) (wn := (cO o [.ref (a 0), .ref (a2 0), .ref s0, .ref x0]) ++ (cR cI a r) ++ (cS cQ s0 w0 f vo vh)) (va_runV (As := [.int (nI i1)]) (rest := [.long (31 * v1)]) ⟨hx, hb, hml, hown, hts⟩ (mX3_count l D cI cQ cJ o s0 x0 a a2 r w0 f vo vh i1 (by omega) _) (cwV 1 hts gL_told_X3_count rfl rfl rfl (by decide +kernel) ⟨Nat.le_of_ble_eq_true rfl, Nat.le_of_ble_eq_true rfl⟩) (k_preV (wc := (cO o [.ref (a 0), .ref (a2 0), .ref s0, .ref x0]) ++ (cR cI a r) ++ (cS cQ s0 w0 f vo vh)) hE hK hP hD [0, 1, 2, 3, 4, 5, 6, 7, 8, 9, 10, 11, 12, 13, 14, 15] (by decide) rfl (ci := 3) (q0 := 0) rfl rfl [.int (nI i1)]) rfl rfl hl.1 rfl (lv_room (Nat.le_of_ble_eq_true rfl)) dL_told_19 ⟨Nat.zero_le _, Nat.zero_le _⟩) hP hD hS hA [0, 1, 2, 3, 4, 5, 6, 7, 8, 9, 10, 11, 12, 13, 14, 15] rfl rfl (putAt_same _ _ _ rfl) (fun H locs hP hD hS => ?_)
      refine lv_i2l (v := Int32.toInt64 (cnC r vh i1)) hx hb dL_told_22 rfl ?_
      refine lv_ladd hx hb dL_told_23 ?_
      refine lv_lstore_n (lv' := [(1, .long ((31 * v1) + (Int32.toInt64 (cnC r vh i1)))), (3, .int (nI i1)), (0, .ref o)]) hx hb dL_told_24 rfl hl (by decide) rfl (fun ls hl => ?_)
      refine lv_iinc (v := nI (i1 + 1)) (lv' := [(3, .int (nI (i1 + 1))), (1, .long ((31 * v1) + (Int32.toInt64 (cnC r vh i1)))), (0, .ref o)]) hx hb dL_told_25 hl (k := 1) rfl (nI_1 i1) (by decide) rfl (fun ls hl => ?_)
      refine lv_goto (tgt := 6) hx hb dL_told_28 (by decide) ?_
      exact ih6 (i1 + 1) ((31 * v1) + (Int32.toInt64 (cnC r vh i1))) (by omega) (by rw [← hres6]; simp only [tcH, ↓reduceIte]) H locs hP hD hS ls (lv_sub hl [0, 1, 2] rfl)
  exact Lp6 8 0 3 (by omega) rfl _ _ hP hD hS ls (lv_sub hl [0, 1, 2] rfl)
