set_option maxHeartbeats 4000000 in
set_option maxRecDepth 100000 in
theorem mX4_saves (l : Launch) (D : va_G) (cI cQ cJ : ClassId) (a : Nat → Nat) (r : rB) (h : Int64) (N : Nat) (hN : r 5 1 = nI N) (hN6 : N ≤ 6) : Mv l D (tY cI cQ cJ) yX4_saves wsX4_saves ({ frames := 0, cells := 0, slots := 0, locals := 0 } : Room) [.ref (a 0)] (cM cI a r h) (cM cI a (svB r N) h) := by
  refine M_of (cc := cX4_saves) (maxL := 2) (ret := none) (Qc := fun A => va_Qv (fun (_ : Unit) => True) (fun _ t => Wd D (cM cI a (svB r N) h) t) A) (by decide) rfl (Nat.le_of_ble_eq_true rfl) ?_
  intro p e s m below meth c A ls hB hE hP hK hD hA hl
  obtain ⟨hx, hb, hr, hml, hts, hown, hlocks⟩ := hB
  have hS : va_S A s.heap s.heap [] := va_S.rf
  have hl : lv_has ls 2 [(0, .ref (a 0))] := hl
  have hinX4 : ∀ w ∈ u_ws RX4 TX4 12, w ∈ wsX4_saves := by decide +kernel
  have fl33 := hts (.fieldLink RX4 33 "RoofDrainsModel" "savedMany" "I") (by decide +kernel)
  have fl16 := hts (.fieldLink RX4 16 "RoofDrainsModel" "saved" "[I") (by decide +kernel)
  have fl7 := hts (.fieldLink RX4 7 "RoofDrainsModel" "s" "[I") (by decide +kernel)
  by_cases hN66 : N = 6
  · skip
    subst hN66
    refine lv_aload_n hx hb dX4_saves_0 rfl (lv_at hl 0 rfl) ?_
    refine va_get (D := D) (ci := 4) (v := .int (nI 6)) (C := RX4) (T := TX4) (N := 12) hx hb hts hinX4 hown hK hP 0 rfl rfl 4 (by decide) fl33 (fun _ h9 => h9) (congrArg (fun z => some (Value.int z)) (((rfl)).trans (hN))) dX4_saves_1 ?_
    refine lv_bipush (v := 6) hx hb dX4_saves_4 (by decide) ?_
    refine lv_icmp_ne (tgt := 49) hx hb dX4_saves_6 (by decide) (fun h9 => absurd rfl h9) (fun _ => ?_)
    refine lv_iconst (v := 0) hx hb dX4_saves_9 (by decide) ?_
    refine lv_istore_n (lv' := [(1, .int 0), (0, .ref (a 0))]) hx hb dX4_saves_10 rfl hl (by decide) rfl (fun ls hl => ?_)
    have hP : va_P D vwCl (cM cI a (sr r 2 (shF r 0)) h) s.heap := by rw [sh_0, sr_self]; exact hP
    have hD : va_D A (cM cI a (sr r 2 (shF r 0)) h) := by rw [sh_0, sr_self]; exact hD
    have Lpa : ∀ (n i : Nat), i + n = 375 → ∀ (H : Heap) (locs : List Loc), va_P D vwCl (cM cI a (sr r 2 (shF r i)) h) H → va_D A (cM cI a (sr r 2 (shF r i)) h) → va_S A s.heap H locs → ∀ (ls : Array Slot), lv_has ls 2 [(1, .int (nI i)), (0, .ref (a 0))] → W p l e ({ frames := 0, cells := 0, slots := 0, locals := 0 } : Room) s m ([.ref (a 0)] : List Value).toArray below meth c H locs 0 0 (MQ below (va_Qv (fun (_ : Unit) => True) (fun _ t => Wd D (cM cI a (svB r 6) h) t) A) ([.ref (a 0)] : List Value).toArray s 0 0 A) (F0 m 11 ls []) := by
      intro n
      induction n with
      | zero =>
        intro i hin H locs hP hD hS ls hl
        obtain rfl : i = 375 := by omega
        refine lv_iload_n hx hb dX4_saves_11 rfl (lv_at hl 0 rfl) ?_
        refine lv_sipush (v := 375) hx hb dX4_saves_12 (by decide) ?_
        refine lv_icmp_ge (tgt := 39) hx hb dX4_saves_15 (by decide) (fun _ => ?_) (fun h9 => absurd (nI_le (a := 375) (b := 375) (by omega) (by omega)) h9)
        refine lv_aload_n hx hb dX4_saves_39 rfl (lv_at hl 1 rfl) ?_
        refine lv_dup hx hb dX4_saves_40 rfl ?_
        refine va_get (D := D) (ci := 4) (v := .int (nI 6)) (C := RX4) (T := TX4) (N := 12) hx hb hts hinX4 hown hK hP 0 rfl rfl 4 (by decide) fl33 (fun _ h9 => h9) (congrArg (fun z => some (Value.int z)) (((rfl)).trans ((congrFun (sr_ne (by decide)) 1).trans hN))) dX4_saves_41 ?_
        refine lv_iconst (v := 1) hx hb dX4_saves_44 (by decide) ?_
        refine lv_isub hx hb dX4_saves_45 ?_
        refine lv_eqi (y := nI (6 - 1)) (pk_sub (a := 6) (b := 1) (by omega)) ?_
        refine k_put (D := D) (ci := 4) (v := .int (nI (6 - 1))) (ty := .int) (C := RX4) (T := TX4) (N := 12) hx hb hts hinX4 tyX4 tyX4_ok nmX4 hown hK hP hD hS 0 rfl rfl 4 (by decide) fl33 (fun _ h9 => h9) rfl (by decide +kernel) rfl rfl (Nat.le_of_ble_eq_true rfl) (ws' := cM cI a (bp (sr r 2 (shF r 375)) 5 1 (nI (6 - 1))) h) rfl dX4_saves_46 (fun H locs hP hD hS => ?_)
        refine lv_iconst (v := 0) hx hb dX4_saves_49 (by decide) ?_
        refine lv_istore_n (lv' := [(1, .int 0), (0, .ref (a 0))]) hx hb dX4_saves_50 rfl hl (by decide) rfl (fun ls hl => ?_)
        obtain ⟨rk, erk⟩ : ∃ z : rB, z = bp (sr r 2 (shF r 375)) 5 1 (nI (6 - 1)) := ⟨_, rfl⟩
        rw [← erk] at hP hD
        have hk : rk 5 1 = nI 5 := by rw [erk]; exact bp_eq
        have hP : va_P D vwCl (cM cI a (sr rk 2 (cpF (rk 2) (rk 0) (75 * (5)) 0)) h) H := by rw [cpF_0, sr_self]; exact hP
        have hD : va_D A (cM cI a (sr rk 2 (cpF (rk 2) (rk 0) (75 * (5)) 0)) h) := by rw [cpF_0, sr_self]; exact hD
        have Lpb : ∀ (n i : Nat), i + n = 75 → ∀ (H : Heap) (locs : List Loc), va_P D vwCl (cM cI a (sr rk 2 (cpF (rk 2) (rk 0) (75 * (5)) i)) h) H → va_D A (cM cI a (sr rk 2 (cpF (rk 2) (rk 0) (75 * (5)) i)) h) → va_S A s.heap H locs → ∀ (ls : Array Slot), lv_has ls 2 [(1, .int (nI i)), (0, .ref (a 0))] → W p l e ({ frames := 0, cells := 0, slots := 0, locals := 0 } : Room) s m ([.ref (a 0)] : List Value).toArray below meth c H locs 0 0 (MQ below (va_Qv (fun (_ : Unit) => True) (fun _ t => Wd D (cM cI a (svB r 6) h) t) A) ([.ref (a 0)] : List Value).toArray s 0 0 A) (F0 m 51 ls []) := by
          intro n
          induction n with
          | zero =>
            intro i hin H locs hP hD hS ls hl
            obtain rfl : i = 75 := by omega
            refine lv_iload_n hx hb dX4_saves_51 rfl (lv_at hl 0 rfl) ?_
            refine lv_bipush (v := 75) hx hb dX4_saves_52 (by decide) ?_
            refine lv_icmp_ge (tgt := 83) hx hb dX4_saves_54 (by decide) (fun _ => ?_) (fun h9 => absurd (nI_le (a := 75) (b := 75) (by omega) (by omega)) h9)
            refine lv_aload_n hx hb dX4_saves_83 rfl (lv_at hl 1 rfl) ?_
            refine lv_dup hx hb dX4_saves_84 rfl ?_
            refine va_get (D := D) (ci := 4) (v := .int (nI 5)) (C := RX4) (T := TX4) (N := 12) hx hb hts hinX4 hown hK hP 0 rfl rfl 4 (by decide) fl33 (fun _ h9 => h9) (congrArg (fun z => some (Value.int z)) (((rfl)).trans ((congrFun (sr_ne (by decide)) 1).trans hk))) dX4_saves_85 ?_
            refine lv_iconst (v := 1) hx hb dX4_saves_88 (by decide) ?_
            refine lv_iadd hx hb dX4_saves_89 ?_
            refine lv_eqi (y := nI (5 + 1)) (nI_add 5 1) ?_
            refine k_put (D := D) (ci := 4) (v := .int (nI (5 + 1))) (ty := .int) (C := RX4) (T := TX4) (N := 12) hx hb hts hinX4 tyX4 tyX4_ok nmX4 hown hK hP hD hS 0 rfl rfl 4 (by decide) fl33 (fun _ h9 => h9) rfl (by decide +kernel) rfl rfl (Nat.le_of_ble_eq_true rfl) (ws' := cM cI a (bp (sr rk 2 (cpF (rk 2) (rk 0) (75 * (5)) 75)) 5 1 (nI (5 + 1))) h) rfl dX4_saves_90 (fun H locs hP hD hS => ?_)
            have e9 : (bp (sr rk 2 (cpF (rk 2) (rk 0) (75 * (5)) 75)) 5 1 (nI (5 + 1)) : rB) = svB r 6 := by rw [erk]; exact svB6
            rw [e9] at hP
            exact k_vret hx hb hr hlocks hS hP dX4_saves_93
          | succ n ih =>
            intro i hin H locs hP hD hS ls hl
            refine lv_iload_n hx hb dX4_saves_51 rfl (lv_at hl 0 rfl) ?_
            refine lv_bipush (v := 75) hx hb dX4_saves_52 (by decide) ?_
            refine lv_icmp_ge (tgt := 83) hx hb dX4_saves_54 (by decide) (fun h9 => absurd h9 (nI_ge (a := i) (b := 75) (by omega) (by omega))) (fun _ => ?_)
            refine lv_aload_n hx hb dX4_saves_57 rfl (lv_at hl 1 rfl) ?_
            refine va_get (D := D) (ci := 4) (v := .ref (a 3)) (C := RX4) (T := TX4) (N := 12) hx hb hts hinX4 hown hK hP 0 rfl rfl 3 (by decide) fl16 (fun _ h9 => h9) rfl dX4_saves_58 ?_
            refine lv_bipush (v := 75) hx hb dX4_saves_61 (by decide) ?_
            refine lv_aload_n hx hb dX4_saves_63 rfl (lv_at hl 1 rfl) ?_
            refine va_get (D := D) (ci := 4) (v := .int (nI 5)) (C := RX4) (T := TX4) (N := 12) hx hb hts hinX4 hown hK hP 0 rfl rfl 4 (by decide) fl33 (fun _ h9 => h9) (congrArg (fun z => some (Value.int z)) (((rfl)).trans ((congrFun (sr_ne (by decide)) 1).trans hk))) dX4_saves_64 ?_
            refine lv_imul hx hb dX4_saves_67 ?_
            refine lv_eqi (y := nI (75 * 5)) (pk_mul 75 5) ?_
            refine lv_iload_n hx hb dX4_saves_68 rfl (lv_at hl 0 rfl) ?_
            refine lv_iadd hx hb dX4_saves_69 ?_
            refine lv_eqi (y := nI ((75 * 5) + i)) (nI_add (75 * 5) i) ?_
            refine lv_aload_n hx hb dX4_saves_70 rfl (lv_at hl 1 rfl) ?_
            refine va_get (D := D) (ci := 4) (v := .ref (a 1)) (C := RX4) (T := TX4) (N := 12) hx hb hts hinX4 hown hK hP 0 rfl rfl 1 (by decide) fl7 (fun _ h9 => h9) rfl dX4_saves_71 ?_
            refine lv_iload_n hx hb dX4_saves_74 rfl (lv_at hl 0 rfl) ?_
            refine k_iald (k := i) (v := (sr rk 2 (cpF (rk 2) (rk 0) (75 * (5)) i)) 0 i) hx hb hK hP 1 0 rfl rfl (vp_in_nI (n := i) (by omega) (by omega)) (nI_clamp (n := i) (by omega)) (rfl) dX4_saves_75 ?_
            refine lv_topi (fun a_1 ea_1 => ?_)
            refine k_iast (k := 75 * 5 + i) (ws' := cM cI a (bp (sr rk 2 (cpF (rk 2) (rk 0) (75 * (5)) i)) 2 (75 * 5 + i) a_1) h) hx hb hK hP hD hS 3 0 rfl rfl (vp_in_nI (n := 75 * 5 + i) (by omega) (by omega)) (nI_clamp (n := 75 * 5 + i) (by omega)) rfl dX4_saves_76 (fun H locs hP hD hS => ?_)
            refine lv_iinc (v := nI (i + 1)) (lv' := [(1, .int (nI (i + 1))), (0, .ref (a 0))]) hx hb dX4_saves_77 hl (k := 0) rfl (nI_1 i) (by decide) rfl (fun ls hl => ?_)
            refine lv_goto (tgt := 51) hx hb dX4_saves_80 (by decide) ?_
            have e9 : bp (sr rk 2 (cpF (rk 2) (rk 0) (75 * (5)) i)) 2 (75 * 5 + i) a_1 = sr rk 2 (cpF (rk 2) (rk 0) (75 * (5)) (i + 1)) := by rw [bp_sr, cpF_step (ea_1.trans (congrFun (sr_ne (by decide)) i))]
            rw [e9] at hP hD
            exact ih (i + 1) (by omega) H locs hP hD hS ls (lv_sub hl [0, 1] rfl)
        exact Lpb 75 0 (by omega) _ _ hP hD hS ls (lv_sub hl [0, 1] rfl)
      | succ n ih =>
        intro i hin H locs hP hD hS ls hl
        refine lv_iload_n hx hb dX4_saves_11 rfl (lv_at hl 0 rfl) ?_
        refine lv_sipush (v := 375) hx hb dX4_saves_12 (by decide) ?_
        refine lv_icmp_ge (tgt := 39) hx hb dX4_saves_15 (by decide) (fun h9 => absurd h9 (nI_ge (a := i) (b := 375) (by omega) (by omega))) (fun _ => ?_)
        refine lv_aload_n hx hb dX4_saves_18 rfl (lv_at hl 1 rfl) ?_
        refine va_get (D := D) (ci := 4) (v := .ref (a 3)) (C := RX4) (T := TX4) (N := 12) hx hb hts hinX4 hown hK hP 0 rfl rfl 3 (by decide) fl16 (fun _ h9 => h9) rfl dX4_saves_19 ?_
        refine lv_iload_n hx hb dX4_saves_22 rfl (lv_at hl 0 rfl) ?_
        refine lv_aload_n hx hb dX4_saves_23 rfl (lv_at hl 1 rfl) ?_
        refine va_get (D := D) (ci := 4) (v := .ref (a 3)) (C := RX4) (T := TX4) (N := 12) hx hb hts hinX4 hown hK hP 0 rfl rfl 3 (by decide) fl16 (fun _ h9 => h9) rfl dX4_saves_24 ?_
        refine lv_iload_n hx hb dX4_saves_27 rfl (lv_at hl 0 rfl) ?_
        refine lv_bipush (v := 75) hx hb dX4_saves_28 (by decide) ?_
        refine lv_iadd hx hb dX4_saves_30 ?_
        refine lv_eqi (y := nI (i + 75)) (nI_add i 75) ?_
        refine k_iald (k := i + 75) (v := (sr r 2 (shF r i)) 2 (i + 75)) hx hb hK hP 3 0 rfl rfl (vp_in_nI (n := i + 75) (by omega) (by omega)) (nI_clamp (n := i + 75) (by omega)) (rfl) dX4_saves_31 ?_
        refine lv_topi (fun a_2 ea_2 => ?_)
        refine k_iast (k := i) (ws' := cM cI a (bp (sr r 2 (shF r i)) 2 i a_2) h) hx hb hK hP hD hS 3 0 rfl rfl (vp_in_nI (n := i) (by omega) (by omega)) (nI_clamp (n := i) (by omega)) rfl dX4_saves_32 (fun H locs hP hD hS => ?_)
        refine lv_iinc (v := nI (i + 1)) (lv' := [(1, .int (nI (i + 1))), (0, .ref (a 0))]) hx hb dX4_saves_33 hl (k := 0) rfl (nI_1 i) (by decide) rfl (fun ls hl => ?_)
        refine lv_goto (tgt := 11) hx hb dX4_saves_36 (by decide) ?_
        have e9 : bp (sr r 2 (shF r i)) 2 i a_2 = sr r 2 (shF r (i + 1)) := by rw [bp_sr, sh_step (ea_2.trans (congrFun sr_eq _))]
        rw [e9] at hP hD
        exact ih (i + 1) (by omega) H locs hP hD hS ls (lv_sub hl [0, 1] rfl)
    exact Lpa 375 0 (by omega) _ _ hP hD hS ls (lv_sub hl [0, 1] rfl)
  · skip
    refine lv_aload_n hx hb dX4_saves_0 rfl (lv_at hl 0 rfl) ?_
    refine va_get (D := D) (ci := 4) (v := .int (nI N)) (C := RX4) (T := TX4) (N := 12) hx hb hts hinX4 hown hK hP 0 rfl rfl 4 (by decide) fl33 (fun _ h9 => h9) (congrArg (fun z => some (Value.int z)) (((rfl)).trans (hN))) dX4_saves_1 ?_
    refine lv_bipush (v := 6) hx hb dX4_saves_4 (by decide) ?_
    refine lv_icmp_ne (tgt := 49) hx hb dX4_saves_6 (by decide) (fun _ => ?_) (fun h9 => absurd h9 (fun q9 => hN66 ((nI_eq (a := N) (b := 6) (by omega) (by decide)).mp q9)))
    refine lv_iconst (v := 0) hx hb dX4_saves_49 (by decide) ?_
    refine lv_istore_n (lv' := [(1, .int 0), (0, .ref (a 0))]) hx hb dX4_saves_50 rfl hl (by decide) rfl (fun ls hl => ?_)
    have hP : va_P D vwCl (cM cI a (sr r 2 (cpF (r 2) (r 0) (75 * (N)) 0)) h) s.heap := by rw [cpF_0, sr_self]; exact hP
    have hD : va_D A (cM cI a (sr r 2 (cpF (r 2) (r 0) (75 * (N)) 0)) h) := by rw [cpF_0, sr_self]; exact hD
    have Lpb : ∀ (n i : Nat), i + n = 75 → ∀ (H : Heap) (locs : List Loc), va_P D vwCl (cM cI a (sr r 2 (cpF (r 2) (r 0) (75 * (N)) i)) h) H → va_D A (cM cI a (sr r 2 (cpF (r 2) (r 0) (75 * (N)) i)) h) → va_S A s.heap H locs → ∀ (ls : Array Slot), lv_has ls 2 [(1, .int (nI i)), (0, .ref (a 0))] → W p l e ({ frames := 0, cells := 0, slots := 0, locals := 0 } : Room) s m ([.ref (a 0)] : List Value).toArray below meth c H locs 0 0 (MQ below (va_Qv (fun (_ : Unit) => True) (fun _ t => Wd D (cM cI a (svB r N) h) t) A) ([.ref (a 0)] : List Value).toArray s 0 0 A) (F0 m 51 ls []) := by
      intro n
      induction n with
      | zero =>
        intro i hin H locs hP hD hS ls hl
        obtain rfl : i = 75 := by omega
        refine lv_iload_n hx hb dX4_saves_51 rfl (lv_at hl 0 rfl) ?_
        refine lv_bipush (v := 75) hx hb dX4_saves_52 (by decide) ?_
        refine lv_icmp_ge (tgt := 83) hx hb dX4_saves_54 (by decide) (fun _ => ?_) (fun h9 => absurd (nI_le (a := 75) (b := 75) (by omega) (by omega)) h9)
        refine lv_aload_n hx hb dX4_saves_83 rfl (lv_at hl 1 rfl) ?_
        refine lv_dup hx hb dX4_saves_84 rfl ?_
        refine va_get (D := D) (ci := 4) (v := .int (nI N)) (C := RX4) (T := TX4) (N := 12) hx hb hts hinX4 hown hK hP 0 rfl rfl 4 (by decide) fl33 (fun _ h9 => h9) (congrArg (fun z => some (Value.int z)) (((rfl)).trans ((congrFun (sr_ne (by decide)) 1).trans hN))) dX4_saves_85 ?_
        refine lv_iconst (v := 1) hx hb dX4_saves_88 (by decide) ?_
        refine lv_iadd hx hb dX4_saves_89 ?_
        refine lv_eqi (y := nI (N + 1)) (nI_add N 1) ?_
        refine k_put (D := D) (ci := 4) (v := .int (nI (N + 1))) (ty := .int) (C := RX4) (T := TX4) (N := 12) hx hb hts hinX4 tyX4 tyX4_ok nmX4 hown hK hP hD hS 0 rfl rfl 4 (by decide) fl33 (fun _ h9 => h9) rfl (by decide +kernel) rfl rfl (Nat.le_of_ble_eq_true rfl) (ws' := cM cI a (bp (sr r 2 (cpF (r 2) (r 0) (75 * (N)) 75)) 5 1 (nI (N + 1))) h) rfl dX4_saves_90 (fun H locs hP hD hS => ?_)
        have e9 : (bp (sr r 2 (cpF (r 2) (r 0) (75 * (N)) 75)) 5 1 (nI (N + 1)) : rB) = svB r N := by simp only [svB, svG, svN, if_neg hN66]
        rw [e9] at hP
        exact k_vret hx hb hr hlocks hS hP dX4_saves_93
      | succ n ih =>
        intro i hin H locs hP hD hS ls hl
        refine lv_iload_n hx hb dX4_saves_51 rfl (lv_at hl 0 rfl) ?_
        refine lv_bipush (v := 75) hx hb dX4_saves_52 (by decide) ?_
        refine lv_icmp_ge (tgt := 83) hx hb dX4_saves_54 (by decide) (fun h9 => absurd h9 (nI_ge (a := i) (b := 75) (by omega) (by omega))) (fun _ => ?_)
        refine lv_aload_n hx hb dX4_saves_57 rfl (lv_at hl 1 rfl) ?_
        refine va_get (D := D) (ci := 4) (v := .ref (a 3)) (C := RX4) (T := TX4) (N := 12) hx hb hts hinX4 hown hK hP 0 rfl rfl 3 (by decide) fl16 (fun _ h9 => h9) rfl dX4_saves_58 ?_
        refine lv_bipush (v := 75) hx hb dX4_saves_61 (by decide) ?_
        refine lv_aload_n hx hb dX4_saves_63 rfl (lv_at hl 1 rfl) ?_
        refine va_get (D := D) (ci := 4) (v := .int (nI N)) (C := RX4) (T := TX4) (N := 12) hx hb hts hinX4 hown hK hP 0 rfl rfl 4 (by decide) fl33 (fun _ h9 => h9) (congrArg (fun z => some (Value.int z)) (((rfl)).trans ((congrFun (sr_ne (by decide)) 1).trans hN))) dX4_saves_64 ?_
        refine lv_imul hx hb dX4_saves_67 ?_
        refine lv_eqi (y := nI (75 * N)) (pk_mul 75 N) ?_
        refine lv_iload_n hx hb dX4_saves_68 rfl (lv_at hl 0 rfl) ?_
        refine lv_iadd hx hb dX4_saves_69 ?_
        refine lv_eqi (y := nI ((75 * N) + i)) (nI_add (75 * N) i) ?_
        refine lv_aload_n hx hb dX4_saves_70 rfl (lv_at hl 1 rfl) ?_
        refine va_get (D := D) (ci := 4) (v := .ref (a 1)) (C := RX4) (T := TX4) (N := 12) hx hb hts hinX4 hown hK hP 0 rfl rfl 1 (by decide) fl7 (fun _ h9 => h9) rfl dX4_saves_71 ?_
        refine lv_iload_n hx hb dX4_saves_74 rfl (lv_at hl 0 rfl) ?_
        refine k_iald (k := i) (v := (sr r 2 (cpF (r 2) (r 0) (75 * (N)) i)) 0 i) hx hb hK hP 1 0 rfl rfl (vp_in_nI (n := i) (by omega) (by omega)) (nI_clamp (n := i) (by omega)) (rfl) dX4_saves_75 ?_
        refine lv_topi (fun a_3 ea_3 => ?_)
        refine k_iast (k := 75 * N + i) (ws' := cM cI a (bp (sr r 2 (cpF (r 2) (r 0) (75 * (N)) i)) 2 (75 * N + i) a_3) h) hx hb hK hP hD hS 3 0 rfl rfl (vp_in_nI (n := 75 * N + i) (by omega) (by omega)) (nI_clamp (n := 75 * N + i) (by omega)) rfl dX4_saves_76 (fun H locs hP hD hS => ?_)
        refine lv_iinc (v := nI (i + 1)) (lv' := [(1, .int (nI (i + 1))), (0, .ref (a 0))]) hx hb dX4_saves_77 hl (k := 0) rfl (nI_1 i) (by decide) rfl (fun ls hl => ?_)
        refine lv_goto (tgt := 51) hx hb dX4_saves_80 (by decide) ?_
        have e9 : bp (sr r 2 (cpF (r 2) (r 0) (75 * (N)) i)) 2 (75 * N + i) a_3 = sr r 2 (cpF (r 2) (r 0) (75 * (N)) (i + 1)) := by rw [bp_sr, cpF_step (ea_3.trans (congrFun (sr_ne (by decide)) i))]
        rw [e9] at hP hD
        exact ih (i + 1) (by omega) H locs hP hD hS ls (lv_sub hl [0, 1] rfl)
    exact Lpb 75 0 (by omega) _ _ hP hD hS ls (lv_sub hl [0, 1] rfl)
