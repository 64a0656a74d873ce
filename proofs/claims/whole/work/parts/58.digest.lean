/-! the bits of the share, the hash -/
def BSok (x0 : UInt64) : Prop := (¬ (0 : Int32) < Op.cmpValue (FP.dcmp x0 FP.dconst0) .g ∧ x0.toInt64 = 0) ∨ ((0 : Int32) < Op.cmpValue (FP.dcmp x0 FP.dconst0) .g ∧ ∃ (k : Nat) (sc : Nat → UInt64), k < 1022 ∧ sc 0 = x0 ∧ (∀ j, j < k → ¬ (0 : Int32) ≤ Op.cmpValue (FP.dcmp (sc j) FP.dconst1) .g ∧ vf_n64 (FP.dmul (sc j) 4611686018427387904) ∧ sc (j + 1) = FP.dmul (sc j) 4611686018427387904) ∧ (0 : Int32) ≤ Op.cmpValue (FP.dcmp (sc k) FP.dconst1) .g ∧ vf_n64 (FP.dsub (sc k) FP.dconst1) ∧ vf_n64 (FP.dmul (FP.dsub (sc k) FP.dconst1) 4841369599423283200) ∧ ((1023 - Int64.ofNat k) <<< (Int32.toInt64 52 &&& 63)) + FP.d2l (FP.dmul (FP.dsub (sc k) FP.dconst1) 4841369599423283200) = x0.toInt64)
theorem i64_1 (j : Nat) : Int64.ofNat j + 1 = Int64.ofNat (j + 1) := by
  rw [Int64.ofNat_add]; rfl
theorem lcmp_lt {j : Nat} (h : j < 1022) : ¬ (0 : Int32) ≤ lg_cmp (Int64.ofNat j) 1022 := by
  have h1 : (Int64.ofNat j).toInt = (j : Int) := by rw [Int64.toInt_ofNat_of_lt (by omega)]
  have h2 : (1022 : Int64).toInt = 1022 := by decide
  rw [lg_cmp_ge, Int64.le_iff_toInt_le, h1, h2]
  omega
theorem putAt_same : ∀ (is : List Nat) (w wc : va_W), is.map (fun i => w[i]?) = wc.map some → putAt w is wc = w
  | [], w, wc, _ => by cases wc <;> rfl
  | i :: is, w, wc, h => by
    cases wc with
    | nil => rfl
    | cons e es =>
      simp only [List.map_cons, List.cons.injEq] at h
      have h1 : w.set i e = w := by
        apply List.ext_getElem?
        intro k
        by_cases hk : i = k
        · subst hk
          rw [h.1, List.getElem?_set_self (List.getElem?_eq_some_iff.mp h.1).1]
        · rw [List.getElem?_set_ne hk]
      show putAt (w.set i e) is es = w
      rw [h1]
      exact putAt_same is w es h.2
def idL (r : rB) : Nat → Nat → Int64 → Int64
  | 0, _, h => h
  | n + 1, i, h => idL r n (i + 1) (hsh h (ifC r 20 (nI i)).toInt64)
def dcH (r : rB) (vh : Int32) : Int64 := cgH r 6 0 (cpH r 6 0 (csH r 3 0 (ccH r vh 9 0 3067)))
def dgC (r tb : rB) (vh : Int32) (L : Nat) : Int64 := ctH tb L 0 (hsh (hsh (hsh (hsh (hsh (hsh (hsh (idL r 3 0 (dcH r vh)) (sfC r 0 (61 - 1) 1 r).2.toInt64) (sfC r 1 (61 - 1) 1 r).2.toInt64) (bcC r 6 0 (sfC r 1 (61 - 1) 1 r).1 (-1) 0).2.toInt64) (mrC r 10 100 r).2.toInt64) (dyC 301 0 r).2.toInt64) (shC r).toInt64) (nI L).toInt64)
set_option maxHeartbeats 4000000 in
set_option maxRecDepth 100000 in
theorem mX3_bitsOfShare (l : Launch) (D : va_G) (cI cQ cJ : ClassId) (x0 : UInt64) (hB : BSok x0) : Ml l D (tY cI cQ cJ) yX3_bitsOfShare wsX3_bitsOfShare ({ frames := 0, cells := 0, slots := 0, locals := 0 } : Room) [.double x0] (([] : va_W)) (([] : va_W)) x0.toInt64 := by
  refine M_of (cc := cX3_bitsOfShare) (maxL := 8) (ret := some .long) (Qc := fun A => va_Ql (fun (x : Int64) (_ : Unit) => x = x0.toInt64) (fun _ t => Wd D (([] : va_W)) t) A) (by decide) rfl (Nat.le_of_ble_eq_true rfl) ?_
  intro p e s m below meth c A ls hB hE hP hK hD hA hl
  obtain ⟨hx, hb, hr, hml, hts, hown, hlocks⟩ := hB
  have hS : va_S A s.heap s.heap [] := va_S.rf
  have hl : lv_has ls 8 [(0, .double x0)] := hl
  rcases hB with ⟨h1, h2⟩ | ⟨h1, k, sc, hk, h0, hstep, h5, h6, h7, h8⟩
  · skip
    refine lv_dload_n hx hb dX3_bitsOfShare_0 rfl (lv_at hl 0 rfl) ?_
    refine lv_dconst0 hx hb dX3_bitsOfShare_1 ?_
    refine lv_dcmp hx hb dX3_bitsOfShare_2 ?_
    refine lv_if_gt (tgt := 8) hx hb dX3_bitsOfShare_3 (by decide) (fun h9 => absurd h9 h1) (fun _ => ?_)
    refine lv_lconst (v := 0) hx hb dX3_bitsOfShare_6 (by decide) ?_
    exact k_lret hx hb hr hlocks hS hP dX3_bitsOfShare_7 h2.symm
  · skip
    refine lv_dload_n hx hb dX3_bitsOfShare_0 rfl (lv_at hl 0 rfl) ?_
    refine lv_dconst0 hx hb dX3_bitsOfShare_1 ?_
    refine lv_dcmp hx hb dX3_bitsOfShare_2 ?_
    refine lv_if_gt (tgt := 8) hx hb dX3_bitsOfShare_3 (by decide) (fun _ => ?_) (fun h9 => absurd h1 h9)
    refine lv_dload_n hx hb dX3_bitsOfShare_8 rfl (lv_at hl 0 rfl) ?_
    refine lv_dstore_n (lv' := [(2, .double x0), (0, .double x0)]) hx hb dX3_bitsOfShare_9 rfl hl (by decide) rfl (fun ls hl => ?_)
    refine lv_lconst (v := 0) hx hb dX3_bitsOfShare_10 (by decide) ?_
    refine lv_lstore (lv' := [(4, .long 0), (2, .double x0), (0, .double x0)]) hx hb dX3_bitsOfShare_11 hl (by decide) rfl (fun ls hl => ?_)
    have Lp : ∀ (n j : Nat), j + n = k → ∀ (H : Heap) (locs : List Loc), va_P D vwCl ([] : va_W) H → va_D A ([] : va_W) → va_S A s.heap H locs → ∀ (ls : Array Slot), lv_has ls 8 [(4, .long (Int64.ofNat j)), (2, .double (sc j)), (0, .double x0)] → W p l e ({ frames := 0, cells := 0, slots := 0, locals := 0 } : Room) s m ([.double x0] : List Value).toArray below meth c H locs 0 0 (MQ below (va_Ql (fun (x : Int64) (_ : Unit) => x = x0.toInt64) (fun _ t => Wd D (([] : va_W)) t) A) ([.double x0] : List Value).toArray s 0 0 A) (F0 m 13 ls []) := by
      intro n
      induction n with
      | zero =>
        intro j hj H locs hP hD hS ls hl
        obtain rfl : j = k := by omega
        refine lv_dload_n hx hb dX3_bitsOfShare_13 rfl (lv_at hl 1 rfl) ?_
        refine lv_dconst1 hx hb dX3_bitsOfShare_14 ?_
        refine lv_dcmp hx hb dX3_bitsOfShare_15 ?_
        refine lv_if_ge (tgt := 43) hx hb dX3_bitsOfShare_16 (by decide) (fun _ => ?_) (fun h9 => absurd h5 h9)
        refine lv_dload_n hx hb dX3_bitsOfShare_43 rfl (lv_at hl 1 rfl) ?_
        refine lv_dconst1 hx hb dX3_bitsOfShare_44 ?_
        refine lv_dsub hx hb dX3_bitsOfShare_45 h6 ?_
        refine lv_ldc2d (v := 4841369599423283200) hx hb hown (hts (.constantDouble RX3 270 4841369599423283200) (by decide +kernel)) dX3_bitsOfShare_46 ?_
        refine lv_dmul hx hb dX3_bitsOfShare_49 h7 ?_
        refine lv_dstore (lv' := [(6, .double (FP.dmul (FP.dsub (sc j) FP.dconst1) 4841369599423283200)), (4, .long (Int64.ofNat j)), (2, .double (sc j)), (0, .double x0)]) hx hb dX3_bitsOfShare_50 hl (by decide) rfl (fun ls hl => ?_)
        refine lv_ldc2 (v := 1023) hx hb hown (hts (.constantLong RX3 272 1023) (by decide +kernel)) dX3_bitsOfShare_52 ?_
        refine lv_lload hx hb dX3_bitsOfShare_55 (lv_at hl 1 rfl) ?_
        refine lv_lsub hx hb dX3_bitsOfShare_57 ?_
        refine lv_bipush (v := 52) hx hb dX3_bitsOfShare_58 (by decide) ?_
        refine lv_lshl (v := (1023 - (Int64.ofNat j)) <<< (Int32.toInt64 52 &&& 63)) hx hb dX3_bitsOfShare_60 rfl ?_
        refine lv_dload hx hb dX3_bitsOfShare_61 (lv_at hl 0 rfl) ?_
        refine lv_d2l hx hb dX3_bitsOfShare_63 ?_
        refine lv_ladd hx hb dX3_bitsOfShare_64 ?_
        exact k_lret hx hb hr hlocks hS hP dX3_bitsOfShare_65 h8
      | succ n ih =>
        intro j hj H locs hP hD hS ls hl
        have hs9 := hstep j (by omega)
        refine lv_dload_n hx hb dX3_bitsOfShare_13 rfl (lv_at hl 1 rfl) ?_
        refine lv_dconst1 hx hb dX3_bitsOfShare_14 ?_
        refine lv_dcmp hx hb dX3_bitsOfShare_15 ?_
        refine lv_if_ge (tgt := 43) hx hb dX3_bitsOfShare_16 (by decide) (fun h9 => absurd h9 hs9.1) (fun _ => ?_)
        refine lv_lload hx hb dX3_bitsOfShare_19 (lv_at hl 0 rfl) ?_
        refine lv_ldc2 (v := 1022) hx hb hown (hts (.constantLong RX3 266 1022) (by decide +kernel)) dX3_bitsOfShare_21 ?_
        refine W.lcmp hx hb dX3_bitsOfShare_24 ?_
        refine lv_if_ge (tgt := 43) hx hb dX3_bitsOfShare_25 (by decide) (fun h9 => absurd h9 (lcmp_lt (by omega))) (fun _ => ?_)
        refine lv_dload_n hx hb dX3_bitsOfShare_28 rfl (lv_at hl 1 rfl) ?_
        refine lv_ldc2d (v := 4611686018427387904) hx hb hown (hts (.constantDouble RX3 268 4611686018427387904) (by decide +kernel)) dX3_bitsOfShare_29 ?_
        refine lv_dmul hx hb dX3_bitsOfShare_32 hs9.2.1 ?_
        refine lv_eqv (y := .double (sc (j + 1))) (congrArg Value.double hs9.2.2.symm) ?_
        refine lv_dstore_n (lv' := [(2, .double (sc (j + 1))), (4, .long (Int64.ofNat j)), (0, .double x0)]) hx hb dX3_bitsOfShare_33 rfl hl (by decide) rfl (fun ls hl => ?_)
        refine lv_lload hx hb dX3_bitsOfShare_34 (lv_at hl 1 rfl) ?_
        refine lv_lconst (v := 1) hx hb dX3_bitsOfShare_36 (by decide) ?_
        refine lv_ladd hx hb dX3_bitsOfShare_37 ?_
        refine lv_eqv (y := .long (Int64.ofNat (j + 1))) (congrArg Value.long (i64_1 j)) ?_
        refine lv_lstore (lv' := [(4, .long (Int64.ofNat (j + 1))), (2, .double (sc (j + 1))), (0, .double x0)]) hx hb dX3_bitsOfShare_38 hl (by decide) rfl (fun ls hl => ?_)
        refine lv_goto (tgt := 13) hx hb dX3_bitsOfShare_40 (by decide) ?_
        exact ih (j + 1) (by omega) H locs hP hD hS ls (lv_sub hl [0, 1, 2] rfl)
    exact Lp k 0 (by omega) _ _ hP hD hS ls (by have h9 := lv_sub hl [0, 1, 2] rfl; rw [h0]; exact h9)
set_option maxHeartbeats 4000000 in
set_option maxRecDepth 100000 in
theorem mX3_digest (l : Launch) (D : va_G) (cI cQ cJ : ClassId) (o s0 w0 : Nat) (a a2 x : Nat → Nat) (r q tb : rB) (f : Nat → Option Nat) (vo vh : Int32) (hF : FPok) (hB : BSok (shC r)) (L : Nat) (hL : tb 1 0 = nI L) (hL60 : L ≤ 60)  : Ml l D (tY cI cQ cJ) yX3_digest wsX3_digest ({ frames := 6, cells := 0, slots := 0, locals := 137 } : Room) [.ref o] ((cO o [.ref (a 0), .ref (a2 0), .ref s0, .ref (x 0)]) ++ (cR cI a r) ++ (cR cI a2 q) ++ (cS cQ s0 w0 f vo vh) ++ (cT cI x tb)) ((cO o [.ref (a 0), .ref (a2 0), .ref s0, .ref (x 0)]) ++ (cR cI a r) ++ (cR cI a2 ((dyC 301 0 r).1)) ++ (cS cQ s0 w0 f vo vh) ++ (cT cI x tb)) (dgC r tb vh L) := by
  refine M_of (cc := cX3_digest) (maxL := 4) (ret := some .long) (Qc := fun A => va_Ql (fun (x : Int64) (_ : Unit) => x = dgC r tb vh L) (fun _ t => Wd D ((cO o [.ref (a 0), .ref (a2 0), .ref s0, .ref (x 0)]) ++ (cR cI a r) ++ (cR cI a2 ((dyC 301 0 r).1)) ++ (cS cQ s0 w0 f vo vh) ++ (cT cI x tb)) t) A) (by decide) rfl (Nat.le_of_ble_eq_true rfl) ?_
  intro p e s m below meth c A ls hB hE hP hK hD hA hl
  obtain ⟨hx, hb, hr, hml, hts, hown, hlocks⟩ := hB
  have hS : va_S A s.heap s.heap [] := va_S.rf
  have hl : lv_has ls 4 [(0, .ref o)] := hl
  refine lv_aload_n hx hb dX3_digest_0 rfl (lv_at hl 0 rfl) ?_
  refine lv_aload_n hx hb dX3_digest_1 rfl (lv_at hl 0 rfl) ?_
  refine lv_ldc2 (v := 3067) hx hb hown (hts (.constantLong RX3 219 3067) (by decide +kernel)) dX3_digest_2 ?_
  refine k_calll (wc := (cO o [.ref (a 0), .ref (a2 0), .ref s0, .ref (x 0)]) ++ (cR cI a r) ++ (cS cQ s0 w0 f vo vh)) (w' := (cO o [.ref (a 0), .ref (a2 0), .ref s0, .ref (x 0)]) ++ (cR cI a r) ++ (cS cQ s0 w0 f vo vh)) (wn := (cO o [.ref (a 0), .ref (a2 0), .ref s0, .ref (x 0)]) ++ (cR cI a r) ++ (cR cI a2 q) ++ (cS cQ s0 w0 f vo vh) ++ (cT cI x tb)) (va_runV (As := [.long 3067]) (rest := [.ref o]) ⟨hx, hb, hml, hown, hts⟩ (mX3_hashOfCounts l D cI cQ cJ o s0 (x 0) a a2 r w0 f vo vh 3067 _) (cwV 1 hts gX3_digest_X3_hashOfCounts rfl rfl rfl (by decide +kernel) ⟨Nat.le_of_ble_eq_true rfl, Nat.le_of_ble_eq_true rfl⟩) (k_preV (wc := (cO o [.ref (a 0), .ref (a2 0), .ref s0, .ref (x 0)]) ++ (cR cI a r) ++ (cS cQ s0 w0 f vo vh)) hE hK hP hD [0, 1, 2, 3, 4, 5, 6, 7, 8, 9, 10, 11, 12, 13, 27, 28] (by decide) rfl (ci := 3) (q0 := 0) rfl rfl [.long 3067]) rfl rfl hl.1 rfl (lv_room (Nat.le_of_ble_eq_true rfl)) dX3_digest_5 ⟨Nat.zero_le _, Nat.zero_le _⟩) hP hD hS hA [0, 1, 2, 3, 4, 5, 6, 7, 8, 9, 10, 11, 12, 13, 27, 28] rfl rfl (putAt_same _ _ _ rfl) (fun H locs hP hD hS => ?_)
  refine k_calll (wc := (cO o [.ref (a 0), .ref (a2 0), .ref s0, .ref (x 0)]) ++ (cR cI a r)) (w' := (cO o [.ref (a 0), .ref (a2 0), .ref s0, .ref (x 0)]) ++ (cR cI a r)) (wn := (cO o [.ref (a 0), .ref (a2 0), .ref s0, .ref (x 0)]) ++ (cR cI a r) ++ (cR cI a2 q) ++ (cS cQ s0 w0 f vo vh) ++ (cT cI x tb)) (va_runV (As := [.long (csH r 3 0 (ccH r vh 9 0 3067))]) (rest := []) ⟨hx, hb, hml, hown, hts⟩ (mX3_hashOfRoof l D cI cQ cJ o s0 (x 0) a a2 r (csH r 3 0 (ccH r vh 9 0 3067)) _) (cwV 1 hts gX3_digest_X3_hashOfRoof rfl rfl rfl (by decide +kernel) ⟨Nat.le_of_ble_eq_true rfl, Nat.le_of_ble_eq_true rfl⟩) (k_preV (wc := (cO o [.ref (a 0), .ref (a2 0), .ref s0, .ref (x 0)]) ++ (cR cI a r)) hE hK hP hD [0, 1, 2, 3, 4, 5, 6, 7, 8, 9, 10, 11, 12, 13] (by decide) rfl (ci := 3) (q0 := 0) rfl rfl [.long (csH r 3 0 (ccH r vh 9 0 3067))]) rfl rfl hl.1 rfl (lv_room (Nat.le_of_ble_eq_true rfl)) dX3_digest_8 ⟨Nat.zero_le _, Nat.zero_le _⟩) hP hD hS hA [0, 1, 2, 3, 4, 5, 6, 7, 8, 9, 10, 11, 12, 13] rfl rfl (putAt_same _ _ _ rfl) (fun H locs hP hD hS => ?_)
  refine lv_lstore_n (lv' := [(1, .long (cgH r 6 0 (cpH r 6 0 (csH r 3 0 (ccH r vh 9 0 3067))))), (0, .ref o)]) hx hb dX3_digest_11 rfl hl (by decide) rfl (fun ls hl => ?_)
  refine lv_iconst (v := 0) hx hb dX3_digest_12 (by decide) ?_
  refine lv_istore_n (lv' := [(3, .int 0), (1, .long (cgH r 6 0 (cpH r 6 0 (csH r 3 0 (ccH r vh 9 0 3067))))), (0, .ref o)]) hx hb dX3_digest_13 rfl hl (by decide) rfl (fun ls hl => ?_)
  have Lp14 : ∀ (n1 i1 : Nat) (v1 : Int64) (q1 : rB), i1 + n1 = 3 → idL r n1 i1 v1 = idL r 3 0 (cgH r 6 0 (cpH r 6 0 (csH r 3 0 (ccH r vh 9 0 3067)))) → ∀ (H : Heap) (locs : List Loc), va_P D vwCl ((cO o [.ref (a 0), .ref (a2 0), .ref s0, .ref (x 0)]) ++ (cR cI a r) ++ (cR cI a2 q1) ++ (cS cQ s0 w0 f vo vh) ++ (cT cI x tb)) H → va_D A ((cO o [.ref (a 0), .ref (a2 0), .ref s0, .ref (x 0)]) ++ (cR cI a r) ++ (cR cI a2 q1) ++ (cS cQ s0 w0 f vo vh) ++ (cT cI x tb)) → va_S A s.heap H locs → ∀ (ls : Array Slot), lv_has ls 4 [(3, .int (nI i1)), (1, .long v1), (0, .ref o)] → W p l e ({ frames := 6, cells := 0, slots := 0, locals := 137 } : Room) s m ([.ref o] : List Value).toArray below meth c H locs 0 0 (MQ below (va_Ql (fun (x : Int64) (_ : Unit) => x = dgC r tb vh L) (fun _ t => Wd D ((cO o [.ref (a 0), .ref (a2 0), .ref s0, .ref (x 0)]) ++ (cR cI a r) ++ (cR cI a2 ((dyC 301 0 r).1)) ++ (cS cQ s0 w0 f vo vh) ++ (cT cI x tb)) t) A) ([.ref o] : List Value).toArray s 0 0 A) (F0 m 14 ls []) := by
    intro n1
    induction n1 with
    | zero =>
      intro i1 v1 q1 hin14 hres14 H locs hP hD hS ls hl
      have h914 : v1 = idL r 3 0 (cgH r 6 0 (cpH r 6 0 (csH r 3 0 (ccH r vh 9 0 3067)))) := hres14
      refine lv_iload_n hx hb dX3_digest_14 rfl (lv_at hl 0 rfl) ?_
      refine lv_iconst (v := 2) hx hb dX3_digest_15 (by decide) ?_
      refine lv_icmp_gt (tgt := 38) hx hb dX3_digest_16 (by decide) (fun _ => ?_) (fun h9 => absurd (nI_lt (a := 2) (b := i1) (by omega) (by omega)) h9)
      refine lv_lload_n hx hb dX3_digest_38 rfl (lv_at hl 1 rfl) ?_
      refine lv_aload_n hx hb dX3_digest_39 rfl (lv_at hl 2 rfl) ?_
      refine lv_iconst (v := 0) hx hb dX3_digest_40 (by decide) ?_
      obtain ⟨r_1, er_1⟩ : ∃ z : rB, z = (sfC r 0 (61 - 1) 1 r).1 := ⟨_, rfl⟩
      have hm_2 := mX3_spillsFirst l D cI cQ cJ o s0 (x 0) a a2 r q1 0 (by decide)
      rw [← er_1] at hm_2
      refine k_calli (wc := (cO o [.ref (a 0), .ref (a2 0), .ref s0, .ref (x 0)]) ++ (cR cI a r) ++ (cR cI a2 q1)) (w' := (cO o [.ref (a 0), .ref (a2 0), .ref s0, .ref (x 0)]) ++ (cR cI a r) ++ (cR cI a2 r_1)) (wn := (cO o [.ref (a 0), .ref (a2 0), .ref s0, .ref (x 0)]) ++ (cR cI a r) ++ (cR cI a2 r_1) ++ (cS cQ s0 w0 f vo vh) ++ (cT cI x tb)) (va_runV (As := [.int 0]) (rest := [.long v1]) ⟨hx, hb, hml, hown, hts⟩ (hm_2 _) (cwV 1 hts gX3_digest_X3_spillsFirst rfl rfl rfl (by decide +kernel) ⟨Nat.le_of_ble_eq_true rfl, Nat.le_of_ble_eq_true rfl⟩) (k_preV (wc := (cO o [.ref (a 0), .ref (a2 0), .ref s0, .ref (x 0)]) ++ (cR cI a r) ++ (cR cI a2 q1)) hE hK hP hD [0, 1, 2, 3, 4, 5, 6, 7, 8, 9, 10, 11, 12, 13, 14, 15, 16, 17, 18, 19, 20, 21, 22, 23, 24, 25, 26] (by decide) rfl (ci := 3) (q0 := 0) rfl rfl [.int 0]) rfl rfl hl.1 rfl (lv_room (Nat.le_of_ble_eq_true rfl)) dX3_digest_41 ⟨Nat.zero_le _, Nat.zero_le _⟩) hP hD hS hA [0, 1, 2, 3, 4, 5, 6, 7, 8, 9, 10, 11, 12, 13, 14, 15, 16, 17, 18, 19, 20, 21, 22, 23, 24, 25, 26] rfl rfl (by rw [show [0, 1, 2, 3, 4, 5, 6, 7, 8, 9, 10, 11, 12, 13, 14, 15, 16, 17, 18, 19, 20, 21, 22, 23, 24, 25, 26] = List.range' 0 27 from rfl, putAt_l _ _ _ _ 29, putAt_l _ _ _ _ 27, putAt_f 27] <;> first | rfl | decide) (fun H locs hP hD hS => ?_)
      refine lv_i2l (v := Int32.toInt64 ((sfC r 0 (61 - 1) 1 r).2)) hx hb dX3_digest_44 rfl ?_
      refine k_calll (wc := ([] : va_W)) (w' := ([] : va_W)) (wn := (cO o [.ref (a 0), .ref (a2 0), .ref s0, .ref (x 0)]) ++ (cR cI a r) ++ (cR cI a2 r_1) ++ (cS cQ s0 w0 f vo vh) ++ (cT cI x tb)) (va_runS (As := [.long v1, .long (Int32.toInt64 ((sfC r 0 (61 - 1) 1 r).2))]) (rest := []) ⟨hx, hb, hml, hown, hts⟩ (mX3_hashWith l D cI cQ cJ v1 (Int32.toInt64 ((sfC r 0 (61 - 1) 1 r).2)) _) (va_cwS 2 hts gX3_digest_X3_hashWith rfl rfl rfl (by decide +kernel) ⟨Nat.le_of_ble_eq_true rfl, Nat.le_of_ble_eq_true rfl⟩) (k_preS (wc := ([] : va_W)) hE hK hP hD [] (by decide) rfl [.long v1, .long (Int32.toInt64 ((sfC r 0 (61 - 1) 1 r).2))]) rfl rfl hl.1 rfl (lv_room (Nat.le_of_ble_eq_true rfl)) dX3_digest_45 ⟨Nat.zero_le _, Nat.zero_le _⟩) hP hD hS hA [] rfl rfl (putAt_same _ _ _ rfl) (fun H locs hP hD hS => ?_)
      refine lv_lstore_n (lv' := [(1, .long (hsh v1 (Int32.toInt64 ((sfC r 0 (61 - 1) 1 r).2)))), (3, .int (nI i1)), (0, .ref o)]) hx hb dX3_digest_48 rfl hl (by decide) rfl (fun ls hl => ?_)
      refine lv_lload_n hx hb dX3_digest_49 rfl (lv_at hl 0 rfl) ?_
      refine lv_aload_n hx hb dX3_digest_50 rfl (lv_at hl 2 rfl) ?_
      refine lv_iconst (v := 1) hx hb dX3_digest_51 (by decide) ?_
      obtain ⟨r_3, er_3⟩ : ∃ z : rB, z = (sfC r 1 (61 - 1) 1 r).1 := ⟨_, rfl⟩
      have hm_4 := mX3_spillsFirst l D cI cQ cJ o s0 (x 0) a a2 r r_1 1 (by decide)
      rw [← er_3] at hm_4
      refine k_calli (wc := (cO o [.ref (a 0), .ref (a2 0), .ref s0, .ref (x 0)]) ++ (cR cI a r) ++ (cR cI a2 r_1)) (w' := (cO o [.ref (a 0), .ref (a2 0), .ref s0, .ref (x 0)]) ++ (cR cI a r) ++ (cR cI a2 r_3)) (wn := (cO o [.ref (a 0), .ref (a2 0), .ref s0, .ref (x 0)]) ++ (cR cI a r) ++ (cR cI a2 r_3) ++ (cS cQ s0 w0 f vo vh) ++ (cT cI x tb)) (va_runV (As := [.int 1]) (rest := [.long (hsh v1 (Int32.toInt64 ((sfC r 0 (61 - 1) 1 r).2)))]) ⟨hx, hb, hml, hown, hts⟩ (hm_4 _) (cwV 1 hts gX3_digest_X3_spillsFirst rfl rfl rfl (by decide +kernel) ⟨Nat.le_of_ble_eq_true rfl, Nat.le_of_ble_eq_true rfl⟩) (k_preV (wc := (cO o [.ref (a 0), .ref (a2 0), .ref s0, .ref (x 0)]) ++ (cR cI a r) ++ (cR cI a2 r_1)) hE hK hP hD [0, 1, 2, 3, 4, 5, 6, 7, 8, 9, 10, 11, 12, 13, 14, 15, 16, 17, 18, 19, 20, 21, 22, 23, 24, 25, 26] (by decide) rfl (ci := 3) (q0 := 0) rfl rfl [.int 1]) rfl rfl hl.1 rfl (lv_room (Nat.le_of_ble_eq_true rfl)) dX3_digest_52 ⟨Nat.zero_le _, Nat.zero_le _⟩) hP hD hS hA [0, 1, 2, 3, 4, 5, 6, 7, 8, 9, 10, 11, 12, 13, 14, 15, 16, 17, 18, 19, 20, 21, 22, 23, 24, 25, 26] rfl rfl (by rw [show [0, 1, 2, 3, 4, 5, 6, 7, 8, 9, 10, 11, 12, 13, 14, 15, 16, 17, 18, 19, 20, 21, 22, 23, 24, 25, 26] = List.range' 0 27 from rfl, putAt_l _ _ _ _ 29, putAt_l _ _ _ _ 27, putAt_f 27] <;> first | rfl | decide) (fun H locs hP hD hS => ?_)
      refine lv_i2l (v := Int32.toInt64 ((sfC r 1 (61 - 1) 1 r).2)) hx hb dX3_digest_55 rfl ?_
      refine k_calll (wc := ([] : va_W)) (w' := ([] : va_W)) (wn := (cO o [.ref (a 0), .ref (a2 0), .ref s0, .ref (x 0)]) ++ (cR cI a r) ++ (cR cI a2 r_3) ++ (cS cQ s0 w0 f vo vh) ++ (cT cI x tb)) (va_runS (As := [.long (hsh v1 (Int32.toInt64 ((sfC r 0 (61 - 1) 1 r).2))), .long (Int32.toInt64 ((sfC r 1 (61 - 1) 1 r).2))]) (rest := []) ⟨hx, hb, hml, hown, hts⟩ (mX3_hashWith l D cI cQ cJ (hsh v1 (Int32.toInt64 ((sfC r 0 (61 - 1) 1 r).2))) (Int32.toInt64 ((sfC r 1 (61 - 1) 1 r).2)) _) (va_cwS 2 hts gX3_digest_X3_hashWith rfl rfl rfl (by decide +kernel) ⟨Nat.le_of_ble_eq_true rfl, Nat.le_of_ble_eq_true rfl⟩) (k_preS (wc := ([] : va_W)) hE hK hP hD [] (by decide) rfl [.long (hsh v1 (Int32.toInt64 ((sfC r 0 (61 - 1) 1 r).2))), .long (Int32.toInt64 ((sfC r 1 (61 - 1) 1 r).2))]) rfl rfl hl.1 rfl (lv_room (Nat.le_of_ble_eq_true rfl)) dX3_digest_56 ⟨Nat.zero_le _, Nat.zero_le _⟩) hP hD hS hA [] rfl rfl (putAt_same _ _ _ rfl) (fun H locs hP hD hS => ?_)
      refine lv_lstore_n (lv' := [(1, .long (hsh (hsh v1 (Int32.toInt64 ((sfC r 0 (61 - 1) 1 r).2))) (Int32.toInt64 ((sfC r 1 (61 - 1) 1 r).2)))), (3, .int (nI i1)), (0, .ref o)]) hx hb dX3_digest_59 rfl hl (by decide) rfl (fun ls hl => ?_)
      refine lv_lload_n hx hb dX3_digest_60 rfl (lv_at hl 0 rfl) ?_
      refine lv_aload_n hx hb dX3_digest_61 rfl (lv_at hl 2 rfl) ?_
      obtain ⟨r_5, er_5⟩ : ∃ z : rB, z = (bcC r 6 0 r_3 (-1) 0).1 := ⟨_, rfl⟩
      have hm_6 := mX3_bestClean l D cI cQ cJ o s0 (x 0) a a2 r r_3
      rw [← er_5] at hm_6
      refine k_calli (wc := (cO o [.ref (a 0), .ref (a2 0), .ref s0, .ref (x 0)]) ++ (cR cI a r) ++ (cR cI a2 r_3)) (w' := (cO o [.ref (a 0), .ref (a2 0), .ref s0, .ref (x 0)]) ++ (cR cI a r) ++ (cR cI a2 r_5)) (wn := (cO o [.ref (a 0), .ref (a2 0), .ref s0, .ref (x 0)]) ++ (cR cI a r) ++ (cR cI a2 r_5) ++ (cS cQ s0 w0 f vo vh) ++ (cT cI x tb)) (va_runV (As := []) (rest := [.long (hsh (hsh v1 (Int32.toInt64 ((sfC r 0 (61 - 1) 1 r).2))) (Int32.toInt64 ((sfC r 1 (61 - 1) 1 r).2)))]) ⟨hx, hb, hml, hown, hts⟩ (hm_6 _) (cwV 0 hts gX3_digest_X3_bestClean rfl rfl rfl (by decide +kernel) ⟨Nat.le_of_ble_eq_true rfl, Nat.le_of_ble_eq_true rfl⟩) (k_preV (wc := (cO o [.ref (a 0), .ref (a2 0), .ref s0, .ref (x 0)]) ++ (cR cI a r) ++ (cR cI a2 r_3)) hE hK hP hD [0, 1, 2, 3, 4, 5, 6, 7, 8, 9, 10, 11, 12, 13, 14, 15, 16, 17, 18, 19, 20, 21, 22, 23, 24, 25, 26] (by decide) rfl (ci := 3) (q0 := 0) rfl rfl []) rfl rfl hl.1 rfl (lv_room (Nat.le_of_ble_eq_true rfl)) dX3_digest_62 ⟨Nat.zero_le _, Nat.zero_le _⟩) hP hD hS hA [0, 1, 2, 3, 4, 5, 6, 7, 8, 9, 10, 11, 12, 13, 14, 15, 16, 17, 18, 19, 20, 21, 22, 23, 24, 25, 26] rfl rfl (by rw [show [0, 1, 2, 3, 4, 5, 6, 7, 8, 9, 10, 11, 12, 13, 14, 15, 16, 17, 18, 19, 20, 21, 22, 23, 24, 25, 26] = List.range' 0 27 from rfl, putAt_l _ _ _ _ 29, putAt_l _ _ _ _ 27, putAt_f 27] <;> first | rfl | decide) (fun H locs hP hD hS => ?_)
      refine lv_i2l (v := Int32.toInt64 ((bcC r 6 0 r_3 (-1) 0).2)) hx hb dX3_digest_65 rfl ?_
      refine k_calll (wc := ([] : va_W)) (w' := ([] : va_W)) (wn := (cO o [.ref (a 0), .ref (a2 0), .ref s0, .ref (x 0)]) ++ (cR cI a r) ++ (cR cI a2 r_5) ++ (cS cQ s0 w0 f vo vh) ++ (cT cI x tb)) (va_runS (As := [.long (hsh (hsh v1 (Int32.toInt64 ((sfC r 0 (61 - 1) 1 r).2))) (Int32.toInt64 ((sfC r 1 (61 - 1) 1 r).2))), .long (Int32.toInt64 ((bcC r 6 0 r_3 (-1) 0).2))]) (rest := []) ⟨hx, hb, hml, hown, hts⟩ (mX3_hashWith l D cI cQ cJ (hsh (hsh v1 (Int32.toInt64 ((sfC r 0 (61 - 1) 1 r).2))) (Int32.toInt64 ((sfC r 1 (61 - 1) 1 r).2))) (Int32.toInt64 ((bcC r 6 0 r_3 (-1) 0).2)) _) (va_cwS 2 hts gX3_digest_X3_hashWith rfl rfl rfl (by decide +kernel) ⟨Nat.le_of_ble_eq_true rfl, Nat.le_of_ble_eq_true rfl⟩) (k_preS (wc := ([] : va_W)) hE hK hP hD [] (by decide) rfl [.long (hsh (hsh v1 (Int32.toInt64 ((sfC r 0 (61 - 1) 1 r).2))) (Int32.toInt64 ((sfC r 1 (61 - 1) 1 r).2))), .long (Int32.toInt64 ((bcC r 6 0 r_3 (-1) 0).2))]) rfl rfl hl.1 rfl (lv_room (Nat.le_of_ble_eq_true rfl)) dX3_digest_66 ⟨Nat.zero_le _, Nat.zero_le _⟩) hP hD hS hA [] rfl rfl (putAt_same _ _ _ rfl) (fun H locs hP hD hS => ?_)
      refine lv_lstore_n (lv' := [(1, .long (hsh (hsh (hsh v1 (Int32.toInt64 ((sfC r 0 (61 - 1) 1 r).2))) (Int32.toInt64 ((sfC r 1 (61 - 1) 1 r).2))) (Int32.toInt64 ((bcC r 6 0 r_3 (-1) 0).2)))), (3, .int (nI i1)), (0, .ref o)]) hx hb dX3_digest_69 rfl hl (by decide) rfl (fun ls hl => ?_)
      refine lv_lload_n hx hb dX3_digest_70 rfl (lv_at hl 0 rfl) ?_
      refine lv_aload_n hx hb dX3_digest_71 rfl (lv_at hl 2 rfl) ?_
      refine lv_bipush (v := 10) hx hb dX3_digest_72 (by decide) ?_
      obtain ⟨r_7, er_7⟩ : ∃ z : rB, z = (mrC r 10 100 r).1 := ⟨_, rfl⟩
      have hm_8 := mX3_mostRain l D cI cQ cJ o s0 (x 0) a a2 r r_5 10 10 (nI_clamp (n := 10) (by omega)) (by decide)
      rw [← er_7] at hm_8
      refine k_calli (wc := (cO o [.ref (a 0), .ref (a2 0), .ref s0, .ref (x 0)]) ++ (cR cI a r) ++ (cR cI a2 r_5)) (w' := (cO o [.ref (a 0), .ref (a2 0), .ref s0, .ref (x 0)]) ++ (cR cI a r) ++ (cR cI a2 r_7)) (wn := (cO o [.ref (a 0), .ref (a2 0), .ref s0, .ref (x 0)]) ++ (cR cI a r) ++ (cR cI a2 r_7) ++ (cS cQ s0 w0 f vo vh) ++ (cT cI x tb)) (va_runV (As := [.int 10]) (rest := [.long (hsh (hsh (hsh v1 (Int32.toInt64 ((sfC r 0 (61 - 1) 1 r).2))) (Int32.toInt64 ((sfC r 1 (61 - 1) 1 r).2))) (Int32.toInt64 ((bcC r 6 0 r_3 (-1) 0).2)))]) ⟨hx, hb, hml, hown, hts⟩ (hm_8 _) (cwV 1 hts gX3_digest_X3_mostRain rfl rfl rfl (by decide +kernel) ⟨Nat.le_of_ble_eq_true rfl, Nat.le_of_ble_eq_true rfl⟩) (k_preV (wc := (cO o [.ref (a 0), .ref (a2 0), .ref s0, .ref (x 0)]) ++ (cR cI a r) ++ (cR cI a2 r_5)) hE hK hP hD [0, 1, 2, 3, 4, 5, 6, 7, 8, 9, 10, 11, 12, 13, 14, 15, 16, 17, 18, 19, 20, 21, 22, 23, 24, 25, 26] (by decide) rfl (ci := 3) (q0 := 0) rfl rfl [.int 10]) rfl rfl hl.1 rfl (lv_room (Nat.le_of_ble_eq_true rfl)) dX3_digest_74 ⟨Nat.zero_le _, Nat.zero_le _⟩) hP hD hS hA [0, 1, 2, 3, 4, 5, 6, 7, 8, 9, 10, 11, 12, 13, 14, 15, 16, 17, 18, 19, 20, 21, 22, 23, 24, 25, 26] rfl rfl (by rw [show [0, 1, 2, 3, 4, 5, 6, 7, 8, 9, 10, 11, 12, 13, 14, 15, 16, 17, 18, 19, 20, 21, 22, 23, 24, 25, 26] = List.range' 0 27 from rfl, putAt_l _ _ _ _ 29, putAt_l _ _ _ _ 27, putAt_f 27] <;> first | rfl | decide) (fun H locs hP hD hS => ?_)
      refine lv_i2l (v := Int32.toInt64 ((mrC r 10 100 r).2)) hx hb dX3_digest_77 rfl ?_
      refine k_calll (wc := ([] : va_W)) (w' := ([] : va_W)) (wn := (cO o [.ref (a 0), .ref (a2 0), .ref s0, .ref (x 0)]) ++ (cR cI a r) ++ (cR cI a2 r_7) ++ (cS cQ s0 w0 f vo vh) ++ (cT cI x tb)) (va_runS (As := [.long (hsh (hsh (hsh v1 (Int32.toInt64 ((sfC r 0 (61 - 1) 1 r).2))) (Int32.toInt64 ((sfC r 1 (61 - 1) 1 r).2))) (Int32.toInt64 ((bcC r 6 0 r_3 (-1) 0).2))), .long (Int32.toInt64 ((mrC r 10 100 r).2))]) (rest := []) ⟨hx, hb, hml, hown, hts⟩ (mX3_hashWith l D cI cQ cJ (hsh (hsh (hsh v1 (Int32.toInt64 ((sfC r 0 (61 - 1) 1 r).2))) (Int32.toInt64 ((sfC r 1 (61 - 1) 1 r).2))) (Int32.toInt64 ((bcC r 6 0 r_3 (-1) 0).2))) (Int32.toInt64 ((mrC r 10 100 r).2)) _) (va_cwS 2 hts gX3_digest_X3_hashWith rfl rfl rfl (by decide +kernel) ⟨Nat.le_of_ble_eq_true rfl, Nat.le_of_ble_eq_true rfl⟩) (k_preS (wc := ([] : va_W)) hE hK hP hD [] (by decide) rfl [.long (hsh (hsh (hsh v1 (Int32.toInt64 ((sfC r 0 (61 - 1) 1 r).2))) (Int32.toInt64 ((sfC r 1 (61 - 1) 1 r).2))) (Int32.toInt64 ((bcC r 6 0 r_3 (-1) 0).2))), .long (Int32.toInt64 ((mrC r 10 100 r).2))]) rfl rfl hl.1 rfl (lv_room (Nat.le_of_ble_eq_true rfl)) dX3_digest_78 ⟨Nat.zero_le _, Nat.zero_le _⟩) hP hD hS hA [] rfl rfl (putAt_same _ _ _ rfl) (fun H locs hP hD hS => ?_)
      refine lv_lstore_n (lv' := [(1, .long (hsh (hsh (hsh (hsh v1 (Int32.toInt64 ((sfC r 0 (61 - 1) 1 r).2))) (Int32.toInt64 ((sfC r 1 (61 - 1) 1 r).2))) (Int32.toInt64 ((bcC r 6 0 r_3 (-1) 0).2))) (Int32.toInt64 ((mrC r 10 100 r).2)))), (3, .int (nI i1)), (0, .ref o)]) hx hb dX3_digest_81 rfl hl (by decide) rfl (fun ls hl => ?_)
      refine lv_lload_n hx hb dX3_digest_82 rfl (lv_at hl 0 rfl) ?_
      refine lv_aload_n hx hb dX3_digest_83 rfl (lv_at hl 2 rfl) ?_
      obtain ⟨r_9, er_9⟩ : ∃ z : rB, z = (dyC 301 0 r).1 := ⟨_, rfl⟩
      have hm_10 := mX3_dryIn l D cI cQ cJ o s0 (x 0) a a2 r r_7
      rw [← er_9] at hm_10
      refine k_calli (wc := (cO o [.ref (a 0), .ref (a2 0), .ref s0, .ref (x 0)]) ++ (cR cI a r) ++ (cR cI a2 r_7)) (w' := (cO o [.ref (a 0), .ref (a2 0), .ref s0, .ref (x 0)]) ++ (cR cI a r) ++ (cR cI a2 r_9)) (wn := (cO o [.ref (a 0), .ref (a2 0), .ref s0, .ref (x 0)]) ++ (cR cI a r) ++ (cR cI a2 r_9) ++ (cS cQ s0 w0 f vo vh) ++ (cT cI x tb)) (va_runV (As := []) (rest := [.long (hsh (hsh (hsh (hsh v1 (Int32.toInt64 ((sfC r 0 (61 - 1) 1 r).2))) (Int32.toInt64 ((sfC r 1 (61 - 1) 1 r).2))) (Int32.toInt64 ((bcC r 6 0 r_3 (-1) 0).2))) (Int32.toInt64 ((mrC r 10 100 r).2)))]) ⟨hx, hb, hml, hown, hts⟩ (hm_10 _) (cwV 0 hts gX3_digest_X3_dryIn rfl rfl rfl (by decide +kernel) ⟨Nat.le_of_ble_eq_true rfl, Nat.le_of_ble_eq_true rfl⟩) (k_preV (wc := (cO o [.ref (a 0), .ref (a2 0), .ref s0, .ref (x 0)]) ++ (cR cI a r) ++ (cR cI a2 r_7)) hE hK hP hD [0, 1, 2, 3, 4, 5, 6, 7, 8, 9, 10, 11, 12, 13, 14, 15, 16, 17, 18, 19, 20, 21, 22, 23, 24, 25, 26] (by decide) rfl (ci := 3) (q0 := 0) rfl rfl []) rfl rfl hl.1 rfl (lv_room (Nat.le_of_ble_eq_true rfl)) dX3_digest_84 ⟨Nat.zero_le _, Nat.zero_le _⟩) hP hD hS hA [0, 1, 2, 3, 4, 5, 6, 7, 8, 9, 10, 11, 12, 13, 14, 15, 16, 17, 18, 19, 20, 21, 22, 23, 24, 25, 26] rfl rfl (by rw [show [0, 1, 2, 3, 4, 5, 6, 7, 8, 9, 10, 11, 12, 13, 14, 15, 16, 17, 18, 19, 20, 21, 22, 23, 24, 25, 26] = List.range' 0 27 from rfl, putAt_l _ _ _ _ 29, putAt_l _ _ _ _ 27, putAt_f 27] <;> first | rfl | decide) (fun H locs hP hD hS => ?_)
      refine lv_i2l (v := Int32.toInt64 ((dyC 301 0 r).2)) hx hb dX3_digest_87 rfl ?_
      refine k_calll (wc := ([] : va_W)) (w' := ([] : va_W)) (wn := (cO o [.ref (a 0), .ref (a2 0), .ref s0, .ref (x 0)]) ++ (cR cI a r) ++ (cR cI a2 r_9) ++ (cS cQ s0 w0 f vo vh) ++ (cT cI x tb)) (va_runS (As := [.long (hsh (hsh (hsh (hsh v1 (Int32.toInt64 ((sfC r 0 (61 - 1) 1 r).2))) (Int32.toInt64 ((sfC r 1 (61 - 1) 1 r).2))) (Int32.toInt64 ((bcC r 6 0 r_3 (-1) 0).2))) (Int32.toInt64 ((mrC r 10 100 r).2))), .long (Int32.toInt64 ((dyC 301 0 r).2))]) (rest := []) ⟨hx, hb, hml, hown, hts⟩ (mX3_hashWith l D cI cQ cJ (hsh (hsh (hsh (hsh v1 (Int32.toInt64 ((sfC r 0 (61 - 1) 1 r).2))) (Int32.toInt64 ((sfC r 1 (61 - 1) 1 r).2))) (Int32.toInt64 ((bcC r 6 0 r_3 (-1) 0).2))) (Int32.toInt64 ((mrC r 10 100 r).2))) (Int32.toInt64 ((dyC 301 0 r).2)) _) (va_cwS 2 hts gX3_digest_X3_hashWith rfl rfl rfl (by decide +kernel) ⟨Nat.le_of_ble_eq_true rfl, Nat.le_of_ble_eq_true rfl⟩) (k_preS (wc := ([] : va_W)) hE hK hP hD [] (by decide) rfl [.long (hsh (hsh (hsh (hsh v1 (Int32.toInt64 ((sfC r 0 (61 - 1) 1 r).2))) (Int32.toInt64 ((sfC r 1 (61 - 1) 1 r).2))) (Int32.toInt64 ((bcC r 6 0 r_3 (-1) 0).2))) (Int32.toInt64 ((mrC r 10 100 r).2))), .long (Int32.toInt64 ((dyC 301 0 r).2))]) rfl rfl hl.1 rfl (lv_room (Nat.le_of_ble_eq_true rfl)) dX3_digest_88 ⟨Nat.zero_le _, Nat.zero_le _⟩) hP hD hS hA [] rfl rfl (putAt_same _ _ _ rfl) (fun H locs hP hD hS => ?_)
      refine lv_lstore_n (lv' := [(1, .long (hsh (hsh (hsh (hsh (hsh v1 (Int32.toInt64 ((sfC r 0 (61 - 1) 1 r).2))) (Int32.toInt64 ((sfC r 1 (61 - 1) 1 r).2))) (Int32.toInt64 ((bcC r 6 0 r_3 (-1) 0).2))) (Int32.toInt64 ((mrC r 10 100 r).2))) (Int32.toInt64 ((dyC 301 0 r).2)))), (3, .int (nI i1)), (0, .ref o)]) hx hb dX3_digest_91 rfl hl (by decide) rfl (fun ls hl => ?_)
      refine lv_lload_n hx hb dX3_digest_92 rfl (lv_at hl 0 rfl) ?_
      refine lv_aload_n hx hb dX3_digest_93 rfl (lv_at hl 2 rfl) ?_
      refine k_calld (wc := (cO o [.ref (a 0), .ref (a2 0), .ref s0, .ref (x 0)]) ++ (cR cI a r)) (w' := (cO o [.ref (a 0), .ref (a2 0), .ref s0, .ref (x 0)]) ++ (cR cI a r)) (wn := (cO o [.ref (a 0), .ref (a2 0), .ref s0, .ref (x 0)]) ++ (cR cI a r) ++ (cR cI a2 r_9) ++ (cS cQ s0 w0 f vo vh) ++ (cT cI x tb)) (va_runV (As := []) (rest := [.long (hsh (hsh (hsh (hsh (hsh v1 (Int32.toInt64 ((sfC r 0 (61 - 1) 1 r).2))) (Int32.toInt64 ((sfC r 1 (61 - 1) 1 r).2))) (Int32.toInt64 ((bcC r 6 0 r_3 (-1) 0).2))) (Int32.toInt64 ((mrC r 10 100 r).2))) (Int32.toInt64 ((dyC 301 0 r).2)))]) ⟨hx, hb, hml, hown, hts⟩ (mX3_drainedShare l D cI cQ cJ o s0 (x 0) a a2 r hF _) (cwV 0 hts gX3_digest_X3_drainedShare rfl rfl rfl (by decide +kernel) ⟨Nat.le_of_ble_eq_true rfl, Nat.le_of_ble_eq_true rfl⟩) (k_preV (wc := (cO o [.ref (a 0), .ref (a2 0), .ref s0, .ref (x 0)]) ++ (cR cI a r)) hE hK hP hD [0, 1, 2, 3, 4, 5, 6, 7, 8, 9, 10, 11, 12, 13] (by decide) rfl (ci := 3) (q0 := 0) rfl rfl []) rfl rfl hl.1 rfl (lv_room (Nat.le_of_ble_eq_true rfl)) dX3_digest_94 ⟨Nat.zero_le _, Nat.zero_le _⟩) hP hD hS hA [0, 1, 2, 3, 4, 5, 6, 7, 8, 9, 10, 11, 12, 13] rfl rfl (putAt_same _ _ _ rfl) (fun H locs hP hD hS => ?_)
      refine k_calll (wc := ([] : va_W)) (w' := ([] : va_W)) (wn := (cO o [.ref (a 0), .ref (a2 0), .ref s0, .ref (x 0)]) ++ (cR cI a r) ++ (cR cI a2 r_9) ++ (cS cQ s0 w0 f vo vh) ++ (cT cI x tb)) (va_runS (As := [.double (shC r)]) (rest := [.long (hsh (hsh (hsh (hsh (hsh v1 (Int32.toInt64 ((sfC r 0 (61 - 1) 1 r).2))) (Int32.toInt64 ((sfC r 1 (61 - 1) 1 r).2))) (Int32.toInt64 ((bcC r 6 0 r_3 (-1) 0).2))) (Int32.toInt64 ((mrC r 10 100 r).2))) (Int32.toInt64 ((dyC 301 0 r).2)))]) ⟨hx, hb, hml, hown, hts⟩ (mX3_bitsOfShare l D cI cQ cJ (shC r) hB _) (va_cwS 1 hts gX3_digest_X3_bitsOfShare rfl rfl rfl (by decide +kernel) ⟨Nat.le_of_ble_eq_true rfl, Nat.le_of_ble_eq_true rfl⟩) (k_preS (wc := ([] : va_W)) hE hK hP hD [] (by decide) rfl [.double (shC r)]) rfl rfl hl.1 rfl (lv_room (Nat.le_of_ble_eq_true rfl)) dX3_digest_97 ⟨Nat.zero_le _, Nat.zero_le _⟩) hP hD hS hA [] rfl rfl (putAt_same _ _ _ rfl) (fun H locs hP hD hS => ?_)
      refine k_calll (wc := ([] : va_W)) (w' := ([] : va_W)) (wn := (cO o [.ref (a 0), .ref (a2 0), .ref s0, .ref (x 0)]) ++ (cR cI a r) ++ (cR cI a2 r_9) ++ (cS cQ s0 w0 f vo vh) ++ (cT cI x tb)) (va_runS (As := [.long (hsh (hsh (hsh (hsh (hsh v1 (Int32.toInt64 ((sfC r 0 (61 - 1) 1 r).2))) (Int32.toInt64 ((sfC r 1 (61 - 1) 1 r).2))) (Int32.toInt64 ((bcC r 6 0 r_3 (-1) 0).2))) (Int32.toInt64 ((mrC r 10 100 r).2))) (Int32.toInt64 ((dyC 301 0 r).2))), .long ((shC r).toInt64)]) (rest := []) ⟨hx, hb, hml, hown, hts⟩ (mX3_hashWith l D cI cQ cJ (hsh (hsh (hsh (hsh (hsh v1 (Int32.toInt64 ((sfC r 0 (61 - 1) 1 r).2))) (Int32.toInt64 ((sfC r 1 (61 - 1) 1 r).2))) (Int32.toInt64 ((bcC r 6 0 r_3 (-1) 0).2))) (Int32.toInt64 ((mrC r 10 100 r).2))) (Int32.toInt64 ((dyC 301 0 r).2))) ((shC r).toInt64) _) (va_cwS 2 hts gX3_digest_X3_hashWith rfl rfl rfl (by decide +kernel) ⟨Nat.le_of_ble_eq_true rfl, Nat.le_of_ble_eq_true rfl⟩) (k_preS (wc := ([] : va_W)) hE hK hP hD [] (by decide) rfl [.long (hsh (hsh (hsh (hsh (hsh v1 (Int32.toInt64 ((sfC r 0 (61 - 1) 1 r).2))) (Int32.toInt64 ((sfC r 1 (61 - 1) 1 r).2))) (Int32.toInt64 ((bcC r 6 0 r_3 (-1) 0).2))) (Int32.toInt64 ((mrC r 10 100 r).2))) (Int32.toInt64 ((dyC 301 0 r).2))), .long ((shC r).toInt64)]) rfl rfl hl.1 rfl (lv_room (Nat.le_of_ble_eq_true rfl)) dX3_digest_100 ⟨Nat.zero_le _, Nat.zero_le _⟩) hP hD hS hA [] rfl rfl (putAt_same _ _ _ rfl) (fun H locs hP hD hS => ?_)
      refine lv_lstore_n (lv' := [(1, .long (hsh (hsh (hsh (hsh (hsh (hsh v1 (Int32.toInt64 ((sfC r 0 (61 - 1) 1 r).2))) (Int32.toInt64 ((sfC r 1 (61 - 1) 1 r).2))) (Int32.toInt64 ((bcC r 6 0 r_3 (-1) 0).2))) (Int32.toInt64 ((mrC r 10 100 r).2))) (Int32.toInt64 ((dyC 301 0 r).2))) ((shC r).toInt64))), (3, .int (nI i1)), (0, .ref o)]) hx hb dX3_digest_103 rfl hl (by decide) rfl (fun ls hl => ?_)
      refine lv_aload_n hx hb dX3_digest_104 rfl (lv_at hl 2 rfl) ?_
      refine lv_lload_n hx hb dX3_digest_105 rfl (lv_at hl 0 rfl) ?_
      refine k_calll (wc := (cO o [.ref (a 0), .ref (a2 0), .ref s0, .ref (x 0)]) ++ (cT cI x tb)) (w' := (cO o [.ref (a 0), .ref (a2 0), .ref s0, .ref (x 0)]) ++ (cT cI x tb)) (wn := (cO o [.ref (a 0), .ref (a2 0), .ref s0, .ref (x 0)]) ++ (cR cI a r) ++ (cR cI a2 r_9) ++ (cS cQ s0 w0 f vo vh) ++ (cT cI x tb)) (va_runV (As := [.long (hsh (hsh (hsh (hsh (hsh (hsh v1 (Int32.toInt64 ((sfC r 0 (61 - 1) 1 r).2))) (Int32.toInt64 ((sfC r 1 (61 - 1) 1 r).2))) (Int32.toInt64 ((bcC r 6 0 r_3 (-1) 0).2))) (Int32.toInt64 ((mrC r 10 100 r).2))) (Int32.toInt64 ((dyC 301 0 r).2))) ((shC r).toInt64))]) (rest := []) ⟨hx, hb, hml, hown, hts⟩ (mX3_hashOfText l D cI cQ cJ o s0 a a2 x tb L hL hL60 (hsh (hsh (hsh (hsh (hsh (hsh v1 (Int32.toInt64 ((sfC r 0 (61 - 1) 1 r).2))) (Int32.toInt64 ((sfC r 1 (61 - 1) 1 r).2))) (Int32.toInt64 ((bcC r 6 0 r_3 (-1) 0).2))) (Int32.toInt64 ((mrC r 10 100 r).2))) (Int32.toInt64 ((dyC 301 0 r).2))) ((shC r).toInt64)) _) (cwV 1 hts gX3_digest_X3_hashOfText rfl rfl rfl (by decide +kernel) ⟨Nat.le_of_ble_eq_true rfl, Nat.le_of_ble_eq_true rfl⟩) (k_preV (wc := (cO o [.ref (a 0), .ref (a2 0), .ref s0, .ref (x 0)]) ++ (cT cI x tb)) hE hK hP hD [0, 29, 30] (by decide) rfl (ci := 3) (q0 := 0) rfl rfl [.long (hsh (hsh (hsh (hsh (hsh (hsh v1 (Int32.toInt64 ((sfC r 0 (61 - 1) 1 r).2))) (Int32.toInt64 ((sfC r 1 (61 - 1) 1 r).2))) (Int32.toInt64 ((bcC r 6 0 r_3 (-1) 0).2))) (Int32.toInt64 ((mrC r 10 100 r).2))) (Int32.toInt64 ((dyC 301 0 r).2))) ((shC r).toInt64))]) rfl rfl hl.1 rfl (lv_room (Nat.le_of_ble_eq_true rfl)) dX3_digest_106 ⟨Nat.zero_le _, Nat.zero_le _⟩) hP hD hS hA [0, 29, 30] rfl rfl (putAt_same _ _ _ rfl) (fun H locs hP hD hS => ?_)
      have e9 : (r_9 : rB) = (dyC 301 0 r).1 := by (replace er_9 := er_9.symm; subst er_9; replace er_7 := er_7.symm; subst er_7; replace er_5 := er_5.symm; subst er_5; replace er_3 := er_3.symm; subst er_3; replace er_1 := er_1.symm; subst er_1; replace h914 := h914.symm; subst h914; first | with_reducible rfl | (unfold dgC dcH; with_reducible rfl))
      rw [e9] at hP
      exact k_lret hx hb hr hlocks hS hP dX3_digest_109 (by (replace er_9 := er_9.symm; subst er_9; replace er_7 := er_7.symm; subst er_7; replace er_5 := er_5.symm; subst er_5; replace er_3 := er_3.symm; subst er_3; replace er_1 := er_1.symm; subst er_1; replace h914 := h914.symm; subst h914; first | with_reducible rfl | (unfold dgC dcH; with_reducible rfl)))
    | succ n1 ih14 =>
      intro i1 v1 q1 hin14 hres14 H locs hP hD hS ls hl
      refine lv_iload_n hx hb dX3_digest_14 rfl (lv_at hl 0 rfl) ?_
      refine lv_iconst (v := 2) hx hb dX3_digest_15 (by decide) ?_
      refine lv_icmp_gt (tgt := 38) hx hb dX3_digest_16 (by decide) (fun h9 => absurd h9 (nI_nlt (a := 2) (b := i1) (by omega) (by omega))) (fun _ => ?_)
      refine lv_lload_n hx hb dX3_digest_19 rfl (lv_at hl 1 rfl) ?_
      refine lv_aload_n hx hb dX3_digest_20 rfl (lv_at hl 2 rfl) ?_
      refine lv_bipush (v := 20) hx hb dX3_digest_21 (by decide) ?_
      refine lv_iload_n hx hb dX3_digest_23 rfl (lv_at hl 0 rfl) ?_
      obtain ⟨r_11, er_11⟩ : ∃ z : rB, z = minutesC 20 r (r 11 2) := ⟨_, rfl⟩
      have hm_12 := mX3_ifRained l D cI cQ cJ o s0 (x 0) a a2 r q1 20 (nI i1) 20 (nI_clamp (n := 20) (by omega)) (by decide) (zW_ok (nI_pos (by omega)) (nI_nlt (a := 2) (by omega) (by omega)))
      rw [← er_11] at hm_12
      refine k_calli (wc := (cO o [.ref (a 0), .ref (a2 0), .ref s0, .ref (x 0)]) ++ (cR cI a r) ++ (cR cI a2 q1)) (w' := (cO o [.ref (a 0), .ref (a2 0), .ref s0, .ref (x 0)]) ++ (cR cI a r) ++ (cR cI a2 r_11)) (wn := (cO o [.ref (a 0), .ref (a2 0), .ref s0, .ref (x 0)]) ++ (cR cI a r) ++ (cR cI a2 r_11) ++ (cS cQ s0 w0 f vo vh) ++ (cT cI x tb)) (va_runV (As := [.int 20, .int (nI i1)]) (rest := [.long v1]) ⟨hx, hb, hml, hown, hts⟩ (hm_12 _) (cwV 2 hts gX3_digest_X3_ifRained rfl rfl rfl (by decide +kernel) ⟨Nat.le_of_ble_eq_true rfl, Nat.le_of_ble_eq_true rfl⟩) (k_preV (wc := (cO o [.ref (a 0), .ref (a2 0), .ref s0, .ref (x 0)]) ++ (cR cI a r) ++ (cR cI a2 q1)) hE hK hP hD [0, 1, 2, 3, 4, 5, 6, 7, 8, 9, 10, 11, 12, 13, 14, 15, 16, 17, 18, 19, 20, 21, 22, 23, 24, 25, 26] (by decide) rfl (ci := 3) (q0 := 0) rfl rfl [.int 20, .int (nI i1)]) rfl rfl hl.1 rfl (lv_room (Nat.le_of_ble_eq_true rfl)) dX3_digest_24 ⟨Nat.zero_le _, Nat.zero_le _⟩) hP hD hS hA [0, 1, 2, 3, 4, 5, 6, 7, 8, 9, 10, 11, 12, 13, 14, 15, 16, 17, 18, 19, 20, 21, 22, 23, 24, 25, 26] rfl rfl (by rw [show [0, 1, 2, 3, 4, 5, 6, 7, 8, 9, 10, 11, 12, 13, 14, 15, 16, 17, 18, 19, 20, 21, 22, 23, 24, 25, 26] = List.range' 0 27 from rfl, putAt_l _ _ _ _ 29, putAt_l _ _ _ _ 27, putAt_f 27] <;> first | rfl | decide) (fun H locs hP hD hS => ?_)
      refine lv_i2l (v := Int32.toInt64 (ifC r 20 (nI i1))) hx hb dX3_digest_27 rfl ?_
      refine k_calll (wc := ([] : va_W)) (w' := ([] : va_W)) (wn := (cO o [.ref (a 0), .ref (a2 0), .ref s0, .ref (x 0)]) ++ (cR cI a r) ++ (cR cI a2 r_11) ++ (cS cQ s0 w0 f vo vh) ++ (cT cI x tb)) (va_runS (As := [.long v1, .long (Int32.toInt64 (ifC r 20 (nI i1)))]) (rest := []) ⟨hx, hb, hml, hown, hts⟩ (mX3_hashWith l D cI cQ cJ v1 (Int32.toInt64 (ifC r 20 (nI i1))) _) (va_cwS 2 hts gX3_digest_X3_hashWith rfl rfl rfl (by decide +kernel) ⟨Nat.le_of_ble_eq_true rfl, Nat.le_of_ble_eq_true rfl⟩) (k_preS (wc := ([] : va_W)) hE hK hP hD [] (by decide) rfl [.long v1, .long (Int32.toInt64 (ifC r 20 (nI i1)))]) rfl rfl hl.1 rfl (lv_room (Nat.le_of_ble_eq_true rfl)) dX3_digest_28 ⟨Nat.zero_le _, Nat.zero_le _⟩) hP hD hS hA [] rfl rfl (putAt_same _ _ _ rfl) (fun H locs hP hD hS => ?_)
      refine lv_lstore_n (lv' := [(1, .long (hsh v1 (Int32.toInt64 (ifC r 20 (nI i1))))), (3, .int (nI i1)), (0, .ref o)]) hx hb dX3_digest_31 rfl hl (by decide) rfl (fun ls hl => ?_)
      refine lv_iinc (v := nI (i1 + 1)) (lv' := [(3, .int (nI (i1 + 1))), (1, .long (hsh v1 (Int32.toInt64 (ifC r 20 (nI i1))))), (0, .ref o)]) hx hb dX3_digest_32 hl (k := 1) rfl (nI_1 i1) (by decide) rfl (fun ls hl => ?_)
      refine lv_goto (tgt := 14) hx hb dX3_digest_35 (by decide) ?_
      exact ih14 (i1 + 1) (hsh v1 (Int32.toInt64 (ifC r 20 (nI i1)))) r_11 (by omega) (by replace er_11 := er_11.symm; subst er_11; rw [← hres14]; simp only [idL, ↓reduceIte]) H locs hP hD hS ls (lv_sub hl [0, 1, 2] rfl)
  exact Lp14 3 0 (cgH r 6 0 (cpH r 6 0 (csH r 3 0 (ccH r vh 9 0 3067)))) q (by omega) rfl _ _ hP hD hS ls (lv_sub hl [0, 1, 2] rfl)
