set_option maxHeartbeats 4000000 in
set_option maxRecDepth 100000 in
theorem mX4_leads (l : Launch) (D : va_G) (cI cQ cJ : ClassId) (a : Nat → Nat) (r : rB) (h : Int64) (k : Nat) (hk : k < 6) (t : Int32) (hok : okS (r 0)) (hch : chS r 6 (nI k)) : Mi l D (tY cI cQ cJ) yX4_leads wsX4_leads ({ frames := 1, cells := 0, slots := 0, locals := 22 } : Room) [.ref (a 0), .int (nI k), .int t] (cM cI a r h) (cM cI a r h) (ledV r (nI k) t) := by
  refine M_of (cc := cX4_leads) (maxL := 4) (ret := some .boolean) (Qc := fun A => va_Qi (fun (x : Int32) (_ : Unit) => x = ledV r (nI k) t) (fun _ t => Wd D (cM cI a r h) t) A) (by decide) rfl (Nat.le_of_ble_eq_true rfl) ?_
  intro p e s m below meth c A ls hB hE hP hK hD hA hl
  obtain ⟨hx, hb, hr, hml, hts, hown, hlocks⟩ := hB
  have hS : va_S A s.heap s.heap [] := va_S.rf
  have hl : lv_has ls 4 [(0, .ref (a 0)), (1, .int (nI k)), (2, .int t)] := hl
  refine lv_iload_n hx hb dX4_leads_0 rfl (lv_at hl 1 rfl) ?_
  refine lv_istore_n (lv' := [(3, .int (nI k)), (0, .ref (a 0)), (1, .int (nI k)), (2, .int t)]) hx hb dX4_leads_1 rfl hl (by decide) rfl (fun ls hl => ?_)
  have Ld : ∀ (n : Nat) (g3 : Int32), (g3 = -1 ∨ ∃ j, j < 6 ∧ g3 = nI j) → chS r n g3 → ldL r t n g3 = ldL r t 6 (nI k) → ∀ (H : Heap) (locs : List Loc), va_P D vwCl (cM cI a r h) H → va_D A (cM cI a r h) → va_S A s.heap H locs → ∀ (ls : Array Slot), lv_has ls 4 [(3, .int g3), (0, .ref (a 0)), (1, .int (nI k)), (2, .int t)] → W p l e ({ frames := 1, cells := 0, slots := 0, locals := 22 } : Room) s m ([.ref (a 0), .int (nI k), .int t] : List Value).toArray below meth c H locs 0 0 (MQ below (va_Qi (fun (x : Int32) (_ : Unit) => x = ledV r (nI k) t) (fun _ t => Wd D (cM cI a r h) t) A) ([.ref (a 0), .int (nI k), .int t] : List Value).toArray s 0 0 A) (F0 m 2 ls []) := by
    intro n
    induction n with
    | zero =>
      intro g3 hg3 hch3 hres H locs hP hD hS ls hl
      have hg : g3 = -1 := hch3
      subst hg
      refine lv_iload_n hx hb dX4_leads_2 rfl (lv_at hl 0 rfl) ?_
      refine lv_iconst (v := (-1)) hx hb dX4_leads_3 (by decide) ?_
      refine lv_icmp_eq (tgt := 24) hx hb dX4_leads_4 (by decide) (fun _ => ?_) (fun h9 => absurd (by decide) h9)
      refine lv_iload_n hx hb dX4_leads_24 rfl (lv_at hl 0 rfl) ?_
      refine lv_iload_n hx hb dX4_leads_25 rfl (lv_at hl 3 rfl) ?_
      refine lv_icmp_ne (tgt := 33) hx hb dX4_leads_26 (by decide) (fun c_1 => ?_) (fun c_1 => ?_)
      · skip
        refine lv_iconst (v := 0) hx hb dX4_leads_33 (by decide) ?_
        exact k_zret hx hb hr hlocks hS hP dX4_leads_34 (by first | rfl | decide) (by unfold ledV; rw [← hres, ldL_m1, if_neg c_1])
      · skip
        refine lv_iconst (v := 1) hx hb dX4_leads_29 (by decide) ?_
        refine lv_goto (tgt := 34) hx hb dX4_leads_30 (by decide) ?_
        exact k_zret hx hb hr hlocks hS hP dX4_leads_34 (by first | rfl | decide) (by unfold ledV; rw [← hres, ldL_m1, if_pos c_1])
    | succ n ih =>
      intro g3 hg3 hch3 hres H locs hP hD hS ls hl
      rcases hg3 with hg | ⟨j, hj, hg⟩
      · skip
        subst hg
        refine lv_iload_n hx hb dX4_leads_2 rfl (lv_at hl 0 rfl) ?_
        refine lv_iconst (v := (-1)) hx hb dX4_leads_3 (by decide) ?_
        refine lv_icmp_eq (tgt := 24) hx hb dX4_leads_4 (by decide) (fun _ => ?_) (fun h9 => absurd (by decide) h9)
        refine lv_iload_n hx hb dX4_leads_24 rfl (lv_at hl 0 rfl) ?_
        refine lv_iload_n hx hb dX4_leads_25 rfl (lv_at hl 3 rfl) ?_
        refine lv_icmp_ne (tgt := 33) hx hb dX4_leads_26 (by decide) (fun c_2 => ?_) (fun c_2 => ?_)
        · skip
          refine lv_iconst (v := 0) hx hb dX4_leads_33 (by decide) ?_
          exact k_zret hx hb hr hlocks hS hP dX4_leads_34 (by first | rfl | decide) (by unfold ledV; rw [← hres, ldL_m1, if_neg c_2])
        · skip
          refine lv_iconst (v := 1) hx hb dX4_leads_29 (by decide) ?_
          refine lv_goto (tgt := 34) hx hb dX4_leads_30 (by decide) ?_
          exact k_zret hx hb hr hlocks hS hP dX4_leads_34 (by first | rfl | decide) (by unfold ledV; rw [← hres, ldL_m1, if_pos c_2])
      · skip
        subst hg
        have hnm : ¬ nI j = -1 := nI_nm1 (by omega)
        refine lv_iload_n hx hb dX4_leads_2 rfl (lv_at hl 0 rfl) ?_
        refine lv_iconst (v := (-1)) hx hb dX4_leads_3 (by decide) ?_
        refine lv_icmp_eq (tgt := 24) hx hb dX4_leads_4 (by decide) (fun h9 => absurd h9 hnm) (fun _ => ?_)
        refine lv_iload_n hx hb dX4_leads_7 rfl (lv_at hl 0 rfl) ?_
        refine lv_iload_n hx hb dX4_leads_8 rfl (lv_at hl 3 rfl) ?_
        refine lv_icmp_eq (tgt := 24) hx hb dX4_leads_9 (by decide) (fun c_3 => ?_) (fun c_3 => ?_)
        · skip
          refine lv_iload_n hx hb dX4_leads_24 rfl (lv_at hl 0 rfl) ?_
          refine lv_iload_n hx hb dX4_leads_25 rfl (lv_at hl 3 rfl) ?_
          refine lv_icmp_ne (tgt := 33) hx hb dX4_leads_26 (by decide) (fun h9 => absurd c_3 h9) (fun _ => ?_)
          refine lv_iconst (v := 1) hx hb dX4_leads_29 (by decide) ?_
          refine lv_goto (tgt := 34) hx hb dX4_leads_30 (by decide) ?_
          exact k_zret hx hb hr hlocks hS hP dX4_leads_34 (by first | rfl | decide) (by unfold ledV; rw [← hres, show ldL r t (n + 1) (nI j) = nI j from by unfold ldL; rw [if_neg hnm, if_pos c_3], if_pos c_3])
        · skip
          refine lv_aload_n hx hb dX4_leads_12 rfl (lv_at hl 1 rfl) ?_
          refine lv_iload_n hx hb dX4_leads_13 rfl (lv_at hl 0 rfl) ?_
          refine lv_iconst (v := 3) hx hb dX4_leads_14 (by decide) ?_
          refine k_calli (wc := cM cI a r h) (w' := cM cI a r h) (wn := cM cI a r h) (va_runV (As := [.int (nI j), .int 3]) (rest := []) ⟨hx, hb, hml, hown, hts⟩ (mX4_of l D cI cQ cJ a r h (nI j) j 3 rfl (by omega) (by omega) _) (cwV 2 hts gX4_leads_X4_of rfl rfl rfl (by decide +kernel) ⟨Nat.le_of_ble_eq_true rfl, Nat.le_of_ble_eq_true rfl⟩) (k_preV (wc := cM cI a r h) hE hK hP hD [0, 1, 2, 3, 4, 5] (by decide) rfl (ci := 4) (q0 := 0) rfl rfl [.int (nI j), .int 3]) rfl rfl hl.1 rfl (lv_room (Nat.le_of_ble_eq_true rfl)) dX4_leads_15 ⟨Nat.zero_le _, Nat.zero_le _⟩) hP hD hS hA [0, 1, 2, 3, 4, 5] rfl rfl rfl (fun H locs hP hD hS => ?_)
          refine lv_iconst (v := 1) hx hb dX4_leads_18 (by decide) ?_
          refine lv_isub hx hb dX4_leads_19 ?_
          refine lv_topi (fun v3_4 ev3_4 => ?_)
          refine lv_istore_n (lv' := [(3, .int v3_4), (0, .ref (a 0)), (1, .int (nI k)), (2, .int t)]) hx hb dX4_leads_20 rfl hl (by decide) rfl (fun ls hl => ?_)
          refine lv_goto (tgt := 2) hx hb dX4_leads_21 (by decide) ?_
          have hnx : v3_4 = nxM r (nI j) := by rw [ev3_4]; unfold nxM; rw [nI_clamp (by omega)]
          exact ih v3_4 (by rw [hnx]; exact okS_nx hok hj) (by rw [hnx]; exact hch3.resolve_left hnm) (by rw [← hres, hnx]; unfold ldL; rw [if_neg hnm, if_neg c_3]; cases n <;> rfl) H locs hP hD hS ls (lv_sub hl [0, 1, 2, 3] rfl)
  exact Ld 6 (nI k) (Or.inr ⟨k, hk, rfl⟩) hch rfl _ _ hP hD hS ls (lv_sub hl [0, 1, 2, 3] rfl)
