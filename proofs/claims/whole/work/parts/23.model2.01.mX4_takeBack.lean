set_option maxHeartbeats 4000000 in
set_option maxRecDepth 100000 in
theorem mX4_takeBack (l : Launch) (D : va_G) (cI cQ cJ : ClassId) (a : Nat → Nat) (r : rB) (h : Int64)  : Mv l D (tY cI cQ cJ) yX4_takeBack wsX4_takeBack ({ frames := 0, cells := 0, slots := 0, locals := 0 } : Room) [.ref (a 0)] (cM cI a r h) (cM cI a (tkb r) h) := by
  refine M_of (cc := cX4_takeBack) (maxL := 2) (ret := none) (Qc := fun A => va_Qv (fun (_ : Unit) => True) (fun _ t => Wd D (cM cI a (tkb r) h) t) A) (by decide) rfl (Nat.le_of_ble_eq_true rfl) ?_
  intro p e s m below meth c A ls hB hE hP hK hD hA hl
  obtain ⟨hx, hb, hr, hml, hts, hown, hlocks⟩ := hB
  have hS : va_S A s.heap s.heap [] := va_S.rf
  have hl : lv_has ls 2 [(0, .ref (a 0))] := hl
  have hinX4 : ∀ w ∈ u_ws RX4 TX4 12, w ∈ wsX4_takeBack := by decide +kernel
  have fl7 := hts (.fieldLink RX4 7 "RoofDrainsModel" "s" "[I") (by decide +kernel)
  have fl13 := hts (.fieldLink RX4 13 "RoofDrainsModel" "aside" "[I") (by decide +kernel)
  refine lv_iconst (v := 0) hx hb dX4_takeBack_0 (by decide) ?_
  refine lv_istore_n (lv' := [(1, .int 0), (0, .ref (a 0))]) hx hb dX4_takeBack_1 rfl hl (by decide) rfl (fun ls hl => ?_)
  have hP : va_P D vwCl (cM cI a (sr r 0 (r 0)) h) s.heap := by rw [sr_self]; exact hP
  have hD : va_D A (cM cI a (sr r 0 (r 0)) h) := by rw [sr_self]; exact hD
  have Lp : ∀ (n i : Nat) (f : Nat → Int32), i + n = 75 → (∀ j, j < i → f j = r 1 j) → ∀ (H : Heap) (locs : List Loc), va_P D vwCl (cM cI a (sr r 0 f) h) H → va_D A (cM cI a (sr r 0 f) h) → va_S A s.heap H locs → ∀ (ls : Array Slot), lv_has ls 2 [(1, .int (nI i)), (0, .ref (a 0))] → W p l e ({ frames := 0, cells := 0, slots := 0, locals := 0 } : Room) s m ([.ref (a 0)] : List Value).toArray below meth c H locs 0 0 (MQ below (va_Qv (fun (_ : Unit) => True) (fun _ t => Wd D (cM cI a (tkb r) h) t) A) ([.ref (a 0)] : List Value).toArray s 0 0 A) (F0 m 2 ls []) := by
    intro n
    induction n with
    | zero =>
      intro i f hin hc H locs hP hD hS ls hl
      refine lv_iload_n hx hb dX4_takeBack_2 rfl (lv_at hl 0 rfl) ?_
      refine lv_bipush (v := 75) hx hb dX4_takeBack_3 (by decide) ?_
      refine lv_icmp_ge (tgt := 26) hx hb dX4_takeBack_5 (by decide) (fun _ => ?_) (fun h9 => absurd (nI_le (a := 75) (b := i) (by omega) (by omega)) h9)
      obtain ⟨hP, hD⟩ := P_arr hP hD 1 (r 1) rfl (fun j hj => hc j (by omega)) (ws' := cM cI a (tkb r) h) rfl
      exact k_vret hx hb hr hlocks hS hP dX4_takeBack_26
    | succ n ih =>
      intro i f hin hc H locs hP hD hS ls hl
      refine lv_iload_n hx hb dX4_takeBack_2 rfl (lv_at hl 0 rfl) ?_
      refine lv_bipush (v := 75) hx hb dX4_takeBack_3 (by decide) ?_
      refine lv_icmp_ge (tgt := 26) hx hb dX4_takeBack_5 (by decide) (fun h9 => absurd h9 (nI_ge (a := i) (b := 75) (by omega) (by omega))) (fun _ => ?_)
      refine lv_aload_n hx hb dX4_takeBack_8 rfl (lv_at hl 1 rfl) ?_
      refine va_get (D := D) (ci := 4) (v := .ref (a 1)) (C := RX4) (T := TX4) (N := 12) hx hb hts hinX4 hown hK hP 0 rfl rfl 1 (by decide) fl7 (fun _ h9 => h9) rfl dX4_takeBack_9 ?_
      refine lv_iload_n hx hb dX4_takeBack_12 rfl (lv_at hl 0 rfl) ?_
      refine lv_aload_n hx hb dX4_takeBack_13 rfl (lv_at hl 1 rfl) ?_
      refine va_get (D := D) (ci := 4) (v := .ref (a 2)) (C := RX4) (T := TX4) (N := 12) hx hb hts hinX4 hown hK hP 0 rfl rfl 2 (by decide) fl13 (fun _ h9 => h9) rfl dX4_takeBack_14 ?_
      refine lv_iload_n hx hb dX4_takeBack_17 rfl (lv_at hl 0 rfl) ?_
      refine k_iald (k := i) (v := (sr r 0 f) 1 i) hx hb hK hP 2 0 rfl rfl (vp_in_nI (n := i) (by omega) (by omega)) (nI_clamp (n := i) (by omega)) (rfl) dX4_takeBack_18 ?_
      refine lv_topi (fun a_1 ea_1 => ?_)
      refine k_iast (k := i) (ws' := cM cI a (bp (sr r 0 f) 0 i a_1) h) hx hb hK hP hD hS 1 0 rfl rfl (vp_in_nI (n := i) (by omega) (by omega)) (nI_clamp (n := i) (by omega)) rfl dX4_takeBack_19 (fun H locs hP hD hS => ?_)
      refine lv_iinc (v := nI (i + 1)) (lv' := [(1, .int (nI (i + 1))), (0, .ref (a 0))]) hx hb dX4_takeBack_20 hl (k := 0) rfl (nI_1 i) (by decide) rfl (fun ls hl => ?_)
      refine lv_goto (tgt := 2) hx hb dX4_takeBack_23 (by decide) ?_
      have e9 : bp (sr r 0 f) 0 i a_1 = sr r 0 (upd f i a_1) := bp_sr
      rw [e9] at hP hD
      exact ih (i + 1) (upd f i a_1) (by omega) (cp_step hc ea_1) H locs hP hD hS ls (lv_sub hl [0, 1] rfl)
  exact Lp 75 0 (r 0) (by omega) (fun j hj => absurd hj (by omega)) _ _ hP hD hS ls (lv_sub hl [0, 1] rfl)
