set_option maxHeartbeats 4000000 in
set_option maxRecDepth 100000 in
theorem mX4_digest (l : Launch) (D : va_G) (cI cQ cJ : ClassId) (a : Nat → Nat) (r : rB) (h : Int64) (hok : okS (r 0)) (hF : FPok) (L : Nat) (hL : r 5 2 = nI L) (hL60 : L ≤ 60)  : Ml l D (tY cI cQ cJ) yX4_digest wsX4_digest ({ frames := 7, cells := 0, slots := 0, locals := 166 } : Room) [.ref (a 0)] (cM cI a r h) (cM cI a (dgB r) (dgV r L)) (dgV r L) := by
  refine M_of (cc := cX4_digest) (maxL := 2) (ret := some .long) (Qc := fun A => va_Ql (fun (x : Int64) (_ : Unit) => x = dgV r L) (fun _ t => Wd D (cM cI a (dgB r) (dgV r L)) t) A) (by decide) rfl (Nat.le_of_ble_eq_true rfl) ?_
  intro p e s m below meth c A ls hB hE hP hK hD hA hl
  obtain ⟨hx, hb, hr, hml, hts, hown, hlocks⟩ := hB
  have hS : va_S A s.heap s.heap [] := va_S.rf
  have hl : lv_has ls 2 [(0, .ref (a 0))] := hl
  have hinX4 : ∀ w ∈ u_ws RX4 TX4 12, w ∈ wsX4_digest := by decide +kernel
  have fl25 := hts (.fieldLink RX4 25 "RoofDrainsModel" "thrown" "I") (by decide +kernel)
  have fl157 := hts (.fieldLink RX4 157 "RoofDrainsModel" "hash" "J") (by decide +kernel)
  have fl93 := hts (.fieldLink RX4 93 "RoofDrainsModel" "length" "I") (by decide +kernel)
  have fl19 := hts (.fieldLink RX4 19 "RoofDrainsModel" "buffer" "[I") (by decide +kernel)
  have fl7 := hts (.fieldLink RX4 7 "RoofDrainsModel" "s" "[I") (by decide +kernel)
  refine lv_aload_n hx hb dX4_digest_0 rfl (lv_at hl 0 rfl) ?_
  refine lv_iconst (v := 0) hx hb dX4_digest_1 (by decide) ?_
  refine k_put (D := D) (ci := 4) (v := .int 0) (ty := .int) (C := RX4) (T := TX4) (N := 12) hx hb hts hinX4 tyX4 tyX4_ok nmX4 hown hK hP hD hS 0 rfl rfl 0 (by decide) fl25 (fun _ h9 => h9) rfl (by decide +kernel) rfl rfl (Nat.le_of_ble_eq_true rfl) (ws' := cM cI a (bp r 5 0 0) h) rfl dX4_digest_2 (fun H locs hP hD hS => ?_)
  refine lv_aload_n hx hb dX4_digest_5 rfl (lv_at hl 0 rfl) ?_
  refine lv_ldc2 (v := 3067) hx hb hown (hts (.constantLong RX4 161 3067) (by decide +kernel)) dX4_digest_6 ?_
  refine k_put (D := D) (ci := 4) (v := .long 3067) (ty := .long) (C := RX4) (T := TX4) (N := 12) hx hb hts hinX4 tyX4 tyX4_ok nmX4 hown hK hP hD hS 0 rfl rfl 11 (by decide) fl157 (fun _ h9 => h9) rfl (by decide +kernel) rfl rfl (Nat.le_of_ble_eq_true rfl) (ws' := cM cI a (bp r 5 0 0) 3067) rfl dX4_digest_9 (fun H locs hP hD hS => ?_)
  refine lv_iconst (v := 0) hx hb dX4_digest_12 (by decide) ?_
  refine lv_istore_n (lv' := [(1, .int 0), (0, .ref (a 0))]) hx hb dX4_digest_13 rfl hl (by decide) rfl (fun ls hl => ?_)
  have Lp14 : ∀ (n i : Nat) (hv14 : Int64), i + n = 9 → cnH (bp r 5 0 0) n i hv14 = cnH (bp r 5 0 0) 9 0 3067 → ∀ (H : Heap) (locs : List Loc), va_P D vwCl (cM cI a (bp r 5 0 0) hv14) H → va_D A (cM cI a (bp r 5 0 0) hv14) → va_S A s.heap H locs → ∀ (ls : Array Slot), lv_has ls 2 [(1, .int (nI i)), (0, .ref (a 0))] → W p l e ({ frames := 7, cells := 0, slots := 0, locals := 166 } : Room) s m ([.ref (a 0)] : List Value).toArray below meth c H locs 0 0 (MQ below (va_Ql (fun (x : Int64) (_ : Unit) => x = dgV r L) (fun _ t => Wd D (cM cI a (dgB r) (dgV r L)) t) A) ([.ref (a 0)] : List Value).toArray s 0 0 A) (F0 m 14 ls []) := by
    intro n
    induction n with
    | zero =>
      intro i hv14 hin hres H locs hP hD hS ls hl
      have h914 : hv14 = cnH (bp r 5 0 0) 9 0 3067 := hres
      refine lv_iload_n hx hb dX4_digest_14 rfl (lv_at hl 0 rfl) ?_
      refine lv_bipush (v := 9) hx hb dX4_digest_15 (by decide) ?_
      refine lv_icmp_ge (tgt := 36) hx hb dX4_digest_17 (by decide) (fun _ => ?_) (fun h9 => absurd (nI_le (a := 9) (b := i) (by omega) (by omega)) h9)
      refine lv_iconst (v := 0) hx hb dX4_digest_36 (by decide) ?_
      refine lv_istore_n (lv' := [(1, .int 0), (0, .ref (a 0))]) hx hb dX4_digest_37 rfl hl (by decide) rfl (fun ls hl => ?_)
      have Lp38 : ∀ (n i : Nat) (hv38 : Int64), i + n = 3 → seH r n i hv38 = seH r 3 0 hv14 → ∀ (H : Heap) (locs : List Loc), va_P D vwCl (cM cI a (bp r 5 0 0) hv38) H → va_D A (cM cI a (bp r 5 0 0) hv38) → va_S A s.heap H locs → ∀ (ls : Array Slot), lv_has ls 2 [(1, .int (nI i)), (0, .ref (a 0))] → W p l e ({ frames := 7, cells := 0, slots := 0, locals := 166 } : Room) s m ([.ref (a 0)] : List Value).toArray below meth c H locs 0 0 (MQ below (va_Ql (fun (x : Int64) (_ : Unit) => x = dgV r L) (fun _ t => Wd D (cM cI a (dgB r) (dgV r L)) t) A) ([.ref (a 0)] : List Value).toArray s 0 0 A) (F0 m 38 ls []) := by
        intro n
        induction n with
        | zero =>
          intro i hv38 hin hres H locs hP hD hS ls hl
          have h938 : hv38 = seH r 3 0 hv14 := hres
          refine lv_iload_n hx hb dX4_digest_38 rfl (lv_at hl 0 rfl) ?_
          refine lv_iconst (v := 3) hx hb dX4_digest_39 (by decide) ?_
          refine lv_icmp_ge (tgt := 60) hx hb dX4_digest_40 (by decide) (fun _ => ?_) (fun h9 => absurd (nI_le (a := 3) (b := i) (by omega) (by omega)) h9)
          refine lv_iconst (v := 0) hx hb dX4_digest_60 (by decide) ?_
          refine lv_istore_n (lv' := [(1, .int 0), (0, .ref (a 0))]) hx hb dX4_digest_61 rfl hl (by decide) rfl (fun ls hl => ?_)
          have Lp62 : ∀ (n i : Nat) (hv62 : Int64), i + n = 24 → plH (bp r 5 0 0) n i hv62 = plH (bp r 5 0 0) 24 0 hv38 → ∀ (H : Heap) (locs : List Loc), va_P D vwCl (cM cI a (bp r 5 0 0) hv62) H → va_D A (cM cI a (bp r 5 0 0) hv62) → va_S A s.heap H locs → ∀ (ls : Array Slot), lv_has ls 2 [(1, .int (nI i)), (0, .ref (a 0))] → W p l e ({ frames := 7, cells := 0, slots := 0, locals := 166 } : Room) s m ([.ref (a 0)] : List Value).toArray below meth c H locs 0 0 (MQ below (va_Ql (fun (x : Int64) (_ : Unit) => x = dgV r L) (fun _ t => Wd D (cM cI a (dgB r) (dgV r L)) t) A) ([.ref (a 0)] : List Value).toArray s 0 0 A) (F0 m 62 ls []) := by
            intro n
            induction n with
            | zero =>
              intro i hv62 hin hres H locs hP hD hS ls hl
              have h962 : hv62 = plH (bp r 5 0 0) 24 0 hv38 := hres
              refine lv_iload_n hx hb dX4_digest_62 rfl (lv_at hl 0 rfl) ?_
              refine lv_bipush (v := 24) hx hb dX4_digest_63 (by decide) ?_
              refine lv_icmp_ge (tgt := 89) hx hb dX4_digest_65 (by decide) (fun _ => ?_) (fun h9 => absurd (nI_le (a := 24) (b := i) (by omega) (by omega)) h9)
              refine lv_iconst (v := 0) hx hb dX4_digest_89 (by decide) ?_
              refine lv_istore_n (lv' := [(1, .int 0), (0, .ref (a 0))]) hx hb dX4_digest_90 rfl hl (by decide) rfl (fun ls hl => ?_)
              have Lp91 : ∀ (n i : Nat) (hv91 : Int64), i + n = 54 → gtH (bp r 5 0 0) n i hv91 = gtH (bp r 5 0 0) 54 0 hv62 → ∀ (H : Heap) (locs : List Loc), va_P D vwCl (cM cI a (bp r 5 0 0) hv91) H → va_D A (cM cI a (bp r 5 0 0) hv91) → va_S A s.heap H locs → ∀ (ls : Array Slot), lv_has ls 2 [(1, .int (nI i)), (0, .ref (a 0))] → W p l e ({ frames := 7, cells := 0, slots := 0, locals := 166 } : Room) s m ([.ref (a 0)] : List Value).toArray below meth c H locs 0 0 (MQ below (va_Ql (fun (x : Int64) (_ : Unit) => x = dgV r L) (fun _ t => Wd D (cM cI a (dgB r) (dgV r L)) t) A) ([.ref (a 0)] : List Value).toArray s 0 0 A) (F0 m 91 ls []) := by
                intro n
                induction n with
                | zero =>
                  intro i hv91 hin hres H locs hP hD hS ls hl
                  have h991 : hv91 = gtH (bp r 5 0 0) 54 0 hv62 := hres
                  refine lv_iload_n hx hb dX4_digest_91 rfl (lv_at hl 0 rfl) ?_
                  refine lv_bipush (v := 54) hx hb dX4_digest_92 (by decide) ?_
                  refine lv_icmp_ge (tgt := 120) hx hb dX4_digest_94 (by decide) (fun _ => ?_) (fun h9 => absurd (nI_le (a := 54) (b := i) (by omega) (by omega)) h9)
                  refine lv_iconst (v := 0) hx hb dX4_digest_120 (by decide) ?_
                  refine lv_istore_n (lv' := [(1, .int 0), (0, .ref (a 0))]) hx hb dX4_digest_121 rfl hl (by decide) rfl (fun ls hl => ?_)
                  have Lp122 : ∀ (n i : Nat) (rv122 : rB) (hv122 : Int64), i + n = 3 → okS (rv122 0) → wdL n i rv122 hv122 = wdL 3 0 (bp r 5 0 0) hv91 → ∀ (H : Heap) (locs : List Loc), va_P D vwCl (cM cI a rv122 hv122) H → va_D A (cM cI a rv122 hv122) → va_S A s.heap H locs → ∀ (ls : Array Slot), lv_has ls 2 [(1, .int (nI i)), (0, .ref (a 0))] → W p l e ({ frames := 7, cells := 0, slots := 0, locals := 166 } : Room) s m ([.ref (a 0)] : List Value).toArray below meth c H locs 0 0 (MQ below (va_Ql (fun (x : Int64) (_ : Unit) => x = dgV r L) (fun _ t => Wd D (cM cI a (dgB r) (dgV r L)) t) A) ([.ref (a 0)] : List Value).toArray s 0 0 A) (F0 m 122 ls []) := by
                    intro n
                    induction n with
                    | zero =>
                      intro i rv122 hv122 hin hok122 hres H locs hP hD hS ls hl
                      have h9122 : hv122 = (wdL 3 0 (bp r 5 0 0) hv91).2 := congrArg Prod.snd hres
                      have h8122 : rv122 = (wdL 3 0 (bp r 5 0 0) hv91).1 := congrArg Prod.fst hres
                      refine lv_iload_n hx hb dX4_digest_122 rfl (lv_at hl 0 rfl) ?_
                      refine lv_iconst (v := 3) hx hb dX4_digest_123 (by decide) ?_
                      refine lv_icmp_ge (tgt := 145) hx hb dX4_digest_124 (by decide) (fun _ => ?_) (fun h9 => absurd (nI_le (a := 3) (b := i) (by omega) (by omega)) h9)
                      refine lv_aload_n hx hb dX4_digest_145 rfl (lv_at hl 1 rfl) ?_
                      refine lv_aload_n hx hb dX4_digest_146 rfl (lv_at hl 1 rfl) ?_
                      refine lv_iconst (v := 0) hx hb dX4_digest_147 (by decide) ?_
                      obtain ⟨r_1, er_1⟩ : ∃ z : rB, z = asd rv122 := ⟨_, rfl⟩
                      have hm_2 := mX4_firstSpill l D cI cQ cJ a rv122 hv122 0 hok122
                      rw [← er_1] at hm_2
                      refine k_calli (wc := cM cI a rv122 hv122) (w' := cM cI a r_1 hv122) (wn := cM cI a r_1 hv122) (va_runV (As := [.int 0]) (rest := [.ref (a 0)]) ⟨hx, hb, hml, hown, hts⟩ (hm_2 _) (cwV 1 hts gX4_digest_X4_firstSpill rfl rfl rfl (by decide +kernel) ⟨Nat.le_of_ble_eq_true rfl, Nat.le_of_ble_eq_true rfl⟩) (k_preV (wc := cM cI a rv122 hv122) hE hK hP hD [0, 1, 2, 3, 4, 5] (by decide) rfl (ci := 4) (q0 := 0) rfl rfl [.int 0]) rfl rfl hl.1 rfl (lv_room (Nat.le_of_ble_eq_true rfl)) dX4_digest_148 ⟨Nat.zero_le _, Nat.zero_le _⟩) hP hD hS hA [0, 1, 2, 3, 4, 5] rfl rfl rfl (fun H locs hP hD hS => ?_)
                      refine lv_i2l (v := Int32.toInt64 (fsV rv122 0)) hx hb dX4_digest_151 rfl ?_
                      obtain ⟨h_3, eh_3⟩ : ∃ z : Int64, z = hsh hv122 (Int32.toInt64 (fsV rv122 0)) := ⟨_, rfl⟩
                      have hm_4 := mX4_hashes l D cI cQ cJ a r_1 hv122 (Int32.toInt64 (fsV rv122 0))
                      rw [← eh_3] at hm_4
                      refine k_callv (wc := cM cI a r_1 hv122) (w' := cM cI a r_1 h_3) (wn := cM cI a r_1 h_3) (va_runV (As := [.long (Int32.toInt64 (fsV rv122 0))]) (rest := []) ⟨hx, hb, hml, hown, hts⟩ (hm_4 _) (cwV 1 hts gX4_digest_X4_hashes rfl rfl rfl (by decide +kernel) ⟨Nat.le_of_ble_eq_true rfl, Nat.le_of_ble_eq_true rfl⟩) (k_preV (wc := cM cI a r_1 hv122) hE hK hP hD [0, 1, 2, 3, 4, 5] (by decide) rfl (ci := 4) (q0 := 0) rfl rfl [.long (Int32.toInt64 (fsV rv122 0))]) rfl rfl hl.1 rfl (lv_room (Nat.le_of_ble_eq_true rfl)) dX4_digest_152 ⟨Nat.zero_le _, Nat.zero_le _⟩) hP hD hS hA [0, 1, 2, 3, 4, 5] rfl rfl rfl (fun H locs hP hD hS => ?_)
                      refine lv_aload_n hx hb dX4_digest_155 rfl (lv_at hl 1 rfl) ?_
                      refine lv_aload_n hx hb dX4_digest_156 rfl (lv_at hl 1 rfl) ?_
                      refine lv_iconst (v := 1) hx hb dX4_digest_157 (by decide) ?_
                      obtain ⟨r_5, er_5⟩ : ∃ z : rB, z = asd r_1 := ⟨_, rfl⟩
                      have hm_6 := mX4_firstSpill l D cI cQ cJ a r_1 h_3 1 (by rw [er_1]; exact (asd_ok hok122))
                      rw [← er_5] at hm_6
                      refine k_calli (wc := cM cI a r_1 h_3) (w' := cM cI a r_5 h_3) (wn := cM cI a r_5 h_3) (va_runV (As := [.int 1]) (rest := [.ref (a 0)]) ⟨hx, hb, hml, hown, hts⟩ (hm_6 _) (cwV 1 hts gX4_digest_X4_firstSpill rfl rfl rfl (by decide +kernel) ⟨Nat.le_of_ble_eq_true rfl, Nat.le_of_ble_eq_true rfl⟩) (k_preV (wc := cM cI a r_1 h_3) hE hK hP hD [0, 1, 2, 3, 4, 5] (by decide) rfl (ci := 4) (q0 := 0) rfl rfl [.int 1]) rfl rfl hl.1 rfl (lv_room (Nat.le_of_ble_eq_true rfl)) dX4_digest_158 ⟨Nat.zero_le _, Nat.zero_le _⟩) hP hD hS hA [0, 1, 2, 3, 4, 5] rfl rfl rfl (fun H locs hP hD hS => ?_)
                      refine lv_i2l (v := Int32.toInt64 (fsV r_1 1)) hx hb dX4_digest_161 rfl ?_
                      obtain ⟨h_7, eh_7⟩ : ∃ z : Int64, z = hsh h_3 (Int32.toInt64 (fsV r_1 1)) := ⟨_, rfl⟩
                      have hm_8 := mX4_hashes l D cI cQ cJ a r_5 h_3 (Int32.toInt64 (fsV r_1 1))
                      rw [← eh_7] at hm_8
                      refine k_callv (wc := cM cI a r_5 h_3) (w' := cM cI a r_5 h_7) (wn := cM cI a r_5 h_7) (va_runV (As := [.long (Int32.toInt64 (fsV r_1 1))]) (rest := []) ⟨hx, hb, hml, hown, hts⟩ (hm_8 _) (cwV 1 hts gX4_digest_X4_hashes rfl rfl rfl (by decide +kernel) ⟨Nat.le_of_ble_eq_true rfl, Nat.le_of_ble_eq_true rfl⟩) (k_preV (wc := cM cI a r_5 h_3) hE hK hP hD [0, 1, 2, 3, 4, 5] (by decide) rfl (ci := 4) (q0 := 0) rfl rfl [.long (Int32.toInt64 (fsV r_1 1))]) rfl rfl hl.1 rfl (lv_room (Nat.le_of_ble_eq_true rfl)) dX4_digest_162 ⟨Nat.zero_le _, Nat.zero_le _⟩) hP hD hS hA [0, 1, 2, 3, 4, 5] rfl rfl rfl (fun H locs hP hD hS => ?_)
                      refine lv_aload_n hx hb dX4_digest_165 rfl (lv_at hl 1 rfl) ?_
                      refine lv_aload_n hx hb dX4_digest_166 rfl (lv_at hl 1 rfl) ?_
                      obtain ⟨r_9, er_9⟩ : ∃ z : rB, z = (boL 6 0 r_5 (-1) 0).1 := ⟨_, rfl⟩
                      have hm_10 := mX4_bestOne l D cI cQ cJ a r_5 h_7 (by rw [er_5]; exact (asd_ok (by rw [er_1]; exact (asd_ok hok122))))
                      rw [← er_9] at hm_10
                      refine k_calli (wc := cM cI a r_5 h_7) (w' := cM cI a r_9 h_7) (wn := cM cI a r_9 h_7) (va_runV (As := []) (rest := [.ref (a 0)]) ⟨hx, hb, hml, hown, hts⟩ (hm_10 _) (cwV 0 hts gX4_digest_X4_bestOne rfl rfl rfl (by decide +kernel) ⟨Nat.le_of_ble_eq_true rfl, Nat.le_of_ble_eq_true rfl⟩) (k_preV (wc := cM cI a r_5 h_7) hE hK hP hD [0, 1, 2, 3, 4, 5] (by decide) rfl (ci := 4) (q0 := 0) rfl rfl []) rfl rfl hl.1 rfl (lv_room (Nat.le_of_ble_eq_true rfl)) dX4_digest_167 ⟨Nat.zero_le _, Nat.zero_le _⟩) hP hD hS hA [0, 1, 2, 3, 4, 5] rfl rfl rfl (fun H locs hP hD hS => ?_)
                      refine lv_i2l (v := Int32.toInt64 ((boL 6 0 r_5 (-1) 0).2)) hx hb dX4_digest_170 rfl ?_
                      obtain ⟨h_11, eh_11⟩ : ∃ z : Int64, z = hsh h_7 (Int32.toInt64 ((boL 6 0 r_5 (-1) 0).2)) := ⟨_, rfl⟩
                      have hm_12 := mX4_hashes l D cI cQ cJ a r_9 h_7 (Int32.toInt64 ((boL 6 0 r_5 (-1) 0).2))
                      rw [← eh_11] at hm_12
                      refine k_callv (wc := cM cI a r_9 h_7) (w' := cM cI a r_9 h_11) (wn := cM cI a r_9 h_11) (va_runV (As := [.long (Int32.toInt64 ((boL 6 0 r_5 (-1) 0).2))]) (rest := []) ⟨hx, hb, hml, hown, hts⟩ (hm_12 _) (cwV 1 hts gX4_digest_X4_hashes rfl rfl rfl (by decide +kernel) ⟨Nat.le_of_ble_eq_true rfl, Nat.le_of_ble_eq_true rfl⟩) (k_preV (wc := cM cI a r_9 h_7) hE hK hP hD [0, 1, 2, 3, 4, 5] (by decide) rfl (ci := 4) (q0 := 0) rfl rfl [.long (Int32.toInt64 ((boL 6 0 r_5 (-1) 0).2))]) rfl rfl hl.1 rfl (lv_room (Nat.le_of_ble_eq_true rfl)) dX4_digest_171 ⟨Nat.zero_le _, Nat.zero_le _⟩) hP hD hS hA [0, 1, 2, 3, 4, 5] rfl rfl rfl (fun H locs hP hD hS => ?_)
                      refine lv_aload_n hx hb dX4_digest_174 rfl (lv_at hl 1 rfl) ?_
                      refine lv_aload_n hx hb dX4_digest_175 rfl (lv_at hl 1 rfl) ?_
                      refine lv_bipush (v := 10) hx hb dX4_digest_176 (by decide) ?_
                      obtain ⟨r_13, er_13⟩ : ∃ z : rB, z = asd r_9 := ⟨_, rfl⟩
                      have hm_14 := mX4_greatestRain l D cI cQ cJ a r_9 h_11 10 10 (nI_clamp (n := 10) (by omega)) (by rw [er_9]; exact (boL_ok _ _ _ _ _ (by omega) (by rw [er_5]; exact (asd_ok (by rw [er_1]; exact (asd_ok hok122))))))
                      rw [← er_13] at hm_14
                      refine k_calli (wc := cM cI a r_9 h_11) (w' := cM cI a r_13 h_11) (wn := cM cI a r_13 h_11) (va_runV (As := [.int 10]) (rest := [.ref (a 0)]) ⟨hx, hb, hml, hown, hts⟩ (hm_14 _) (cwV 1 hts gX4_digest_X4_greatestRain rfl rfl rfl (by decide +kernel) ⟨Nat.le_of_ble_eq_true rfl, Nat.le_of_ble_eq_true rfl⟩) (k_preV (wc := cM cI a r_9 h_11) hE hK hP hD [0, 1, 2, 3, 4, 5] (by decide) rfl (ci := 4) (q0 := 0) rfl rfl [.int 10]) rfl rfl hl.1 rfl (lv_room (Nat.le_of_ble_eq_true rfl)) dX4_digest_178 ⟨Nat.zero_le _, Nat.zero_le _⟩) hP hD hS hA [0, 1, 2, 3, 4, 5] rfl rfl rfl (fun H locs hP hD hS => ?_)
                      refine lv_i2l (v := Int32.toInt64 (grL r_9 10 100)) hx hb dX4_digest_181 rfl ?_
                      obtain ⟨h_15, eh_15⟩ : ∃ z : Int64, z = hsh h_11 (Int32.toInt64 (grL r_9 10 100)) := ⟨_, rfl⟩
                      have hm_16 := mX4_hashes l D cI cQ cJ a r_13 h_11 (Int32.toInt64 (grL r_9 10 100))
                      rw [← eh_15] at hm_16
                      refine k_callv (wc := cM cI a r_13 h_11) (w' := cM cI a r_13 h_15) (wn := cM cI a r_13 h_15) (va_runV (As := [.long (Int32.toInt64 (grL r_9 10 100))]) (rest := []) ⟨hx, hb, hml, hown, hts⟩ (hm_16 _) (cwV 1 hts gX4_digest_X4_hashes rfl rfl rfl (by decide +kernel) ⟨Nat.le_of_ble_eq_true rfl, Nat.le_of_ble_eq_true rfl⟩) (k_preV (wc := cM cI a r_13 h_11) hE hK hP hD [0, 1, 2, 3, 4, 5] (by decide) rfl (ci := 4) (q0 := 0) rfl rfl [.long (Int32.toInt64 (grL r_9 10 100))]) rfl rfl hl.1 rfl (lv_room (Nat.le_of_ble_eq_true rfl)) dX4_digest_182 ⟨Nat.zero_le _, Nat.zero_le _⟩) hP hD hS hA [0, 1, 2, 3, 4, 5] rfl rfl rfl (fun H locs hP hD hS => ?_)
                      refine lv_aload_n hx hb dX4_digest_185 rfl (lv_at hl 1 rfl) ?_
                      refine lv_aload_n hx hb dX4_digest_186 rfl (lv_at hl 1 rfl) ?_
                      obtain ⟨r_17, er_17⟩ : ∃ z : rB, z = asd r_13 := ⟨_, rfl⟩
                      have hm_18 := mX4_untilDry l D cI cQ cJ a r_13 h_15 (by rw [er_13]; exact (asd_ok (by rw [er_9]; exact (boL_ok _ _ _ _ _ (by omega) (by rw [er_5]; exact (asd_ok (by rw [er_1]; exact (asd_ok hok122))))))))
                      rw [← er_17] at hm_18
                      refine k_calli (wc := cM cI a r_13 h_15) (w' := cM cI a r_17 h_15) (wn := cM cI a r_17 h_15) (va_runV (As := []) (rest := [.ref (a 0)]) ⟨hx, hb, hml, hown, hts⟩ (hm_18 _) (cwV 0 hts gX4_digest_X4_untilDry rfl rfl rfl (by decide +kernel) ⟨Nat.le_of_ble_eq_true rfl, Nat.le_of_ble_eq_true rfl⟩) (k_preV (wc := cM cI a r_13 h_15) hE hK hP hD [0, 1, 2, 3, 4, 5] (by decide) rfl (ci := 4) (q0 := 0) rfl rfl []) rfl rfl hl.1 rfl (lv_room (Nat.le_of_ble_eq_true rfl)) dX4_digest_187 ⟨Nat.zero_le _, Nat.zero_le _⟩) hP hD hS hA [0, 1, 2, 3, 4, 5] rfl rfl rfl (fun H locs hP hD hS => ?_)
                      refine lv_i2l (v := Int32.toInt64 (udV r_13)) hx hb dX4_digest_190 rfl ?_
                      obtain ⟨h_19, eh_19⟩ : ∃ z : Int64, z = hsh h_15 (Int32.toInt64 (udV r_13)) := ⟨_, rfl⟩
                      have hm_20 := mX4_hashes l D cI cQ cJ a r_17 h_15 (Int32.toInt64 (udV r_13))
                      rw [← eh_19] at hm_20
                      refine k_callv (wc := cM cI a r_17 h_15) (w' := cM cI a r_17 h_19) (wn := cM cI a r_17 h_19) (va_runV (As := [.long (Int32.toInt64 (udV r_13))]) (rest := []) ⟨hx, hb, hml, hown, hts⟩ (hm_20 _) (cwV 1 hts gX4_digest_X4_hashes rfl rfl rfl (by decide +kernel) ⟨Nat.le_of_ble_eq_true rfl, Nat.le_of_ble_eq_true rfl⟩) (k_preV (wc := cM cI a r_17 h_15) hE hK hP hD [0, 1, 2, 3, 4, 5] (by decide) rfl (ci := 4) (q0 := 0) rfl rfl [.long (Int32.toInt64 (udV r_13))]) rfl rfl hl.1 rfl (lv_room (Nat.le_of_ble_eq_true rfl)) dX4_digest_191 ⟨Nat.zero_le _, Nat.zero_le _⟩) hP hD hS hA [0, 1, 2, 3, 4, 5] rfl rfl rfl (fun H locs hP hD hS => ?_)
                      refine lv_aload_n hx hb dX4_digest_194 rfl (lv_at hl 1 rfl) ?_
                      refine lv_aload_n hx hb dX4_digest_195 rfl (lv_at hl 1 rfl) ?_
                      refine k_calld (wc := cM cI a r_17 h_19) (w' := cM cI a r_17 h_19) (wn := cM cI a r_17 h_19) (va_runV (As := []) (rest := [.ref (a 0)]) ⟨hx, hb, hml, hown, hts⟩ (mX4_share l D cI cQ cJ a r_17 h_19 hF _) (cwV 0 hts gX4_digest_X4_share rfl rfl rfl (by decide +kernel) ⟨Nat.le_of_ble_eq_true rfl, Nat.le_of_ble_eq_true rfl⟩) (k_preV (wc := cM cI a r_17 h_19) hE hK hP hD [0, 1, 2, 3, 4, 5] (by decide) rfl (ci := 4) (q0 := 0) rfl rfl []) rfl rfl hl.1 rfl (lv_room (Nat.le_of_ble_eq_true rfl)) dX4_digest_196 ⟨Nat.zero_le _, Nat.zero_le _⟩) hP hD hS hA [0, 1, 2, 3, 4, 5] rfl rfl rfl (fun H locs hP hD hS => ?_)
                      refine k_calll (wc := ([] : va_W)) (w' := ([] : va_W)) (wn := cM cI a r_17 h_19) (va_runS (As := [.double (shM r_17)]) (rest := [.ref (a 0)]) ⟨hx, hb, hml, hown, hts⟩ (mJ_d2l l D cI cQ cJ (shM r_17) (hF.2 _) _) (va_cwS 1 hts gX4_digest_Jxe99ae_doubleToLongBits_ccdee rfl rfl rfl (by decide +kernel) ⟨Nat.le_of_ble_eq_true rfl, Nat.le_of_ble_eq_true rfl⟩) (k_preS (wc := ([] : va_W)) hE hK hP hD [] (by decide) rfl [.double (shM r_17)]) rfl rfl hl.1 rfl (lv_room (Nat.le_of_ble_eq_true rfl)) dX4_digest_199 ⟨Nat.zero_le _, Nat.zero_le _⟩) hP hD hS hA [] rfl rfl rfl (fun H locs hP hD hS => ?_)
                      obtain ⟨h_21, eh_21⟩ : ∃ z : Int64, z = hsh h_19 ((shM r_17).toInt64) := ⟨_, rfl⟩
                      have hm_22 := mX4_hashes l D cI cQ cJ a r_17 h_19 ((shM r_17).toInt64)
                      rw [← eh_21] at hm_22
                      refine k_callv (wc := cM cI a r_17 h_19) (w' := cM cI a r_17 h_21) (wn := cM cI a r_17 h_21) (va_runV (As := [.long ((shM r_17).toInt64)]) (rest := []) ⟨hx, hb, hml, hown, hts⟩ (hm_22 _) (cwV 1 hts gX4_digest_X4_hashes rfl rfl rfl (by decide +kernel) ⟨Nat.le_of_ble_eq_true rfl, Nat.le_of_ble_eq_true rfl⟩) (k_preV (wc := cM cI a r_17 h_19) hE hK hP hD [0, 1, 2, 3, 4, 5] (by decide) rfl (ci := 4) (q0 := 0) rfl rfl [.long ((shM r_17).toInt64)]) rfl rfl hl.1 rfl (lv_room (Nat.le_of_ble_eq_true rfl)) dX4_digest_202 ⟨Nat.zero_le _, Nat.zero_le _⟩) hP hD hS hA [0, 1, 2, 3, 4, 5] rfl rfl rfl (fun H locs hP hD hS => ?_)
                      have eB : (r_17 : rB) = dgB r := by replace eh_21 := eh_21.symm; subst eh_21; replace eh_19 := eh_19.symm; subst eh_19; replace er_17 := er_17.symm; subst er_17; replace eh_15 := eh_15.symm; subst eh_15; replace er_13 := er_13.symm; subst er_13; replace eh_11 := eh_11.symm; subst eh_11; replace er_9 := er_9.symm; subst er_9; replace eh_7 := eh_7.symm; subst eh_7; replace er_5 := er_5.symm; subst er_5; replace eh_3 := eh_3.symm; subst eh_3; replace er_1 := er_1.symm; subst er_1; replace h8122 := h8122.symm; subst h8122; replace h9122 := h9122.symm; subst h9122; replace h991 := h991.symm; subst h991; replace h962 := h962.symm; subst h962; replace h938 := h938.symm; subst h938; replace h914 := h914.symm; subst h914; unfold dgB dgW; with_reducible rfl
                      have eH : (h_21 : Int64) = hsh (dgH r) (shM (dgB r)).toInt64 := by replace eh_21 := eh_21.symm; subst eh_21; replace eh_19 := eh_19.symm; subst eh_19; replace er_17 := er_17.symm; subst er_17; replace eh_15 := eh_15.symm; subst eh_15; replace er_13 := er_13.symm; subst er_13; replace eh_11 := eh_11.symm; subst eh_11; replace er_9 := er_9.symm; subst er_9; replace eh_7 := eh_7.symm; subst eh_7; replace er_5 := er_5.symm; subst er_5; replace eh_3 := eh_3.symm; subst eh_3; replace er_1 := er_1.symm; subst er_1; replace h8122 := h8122.symm; subst h8122; replace h9122 := h9122.symm; subst h9122; replace h991 := h991.symm; subst h991; replace h962 := h962.symm; subst h962; replace h938 := h938.symm; subst h938; replace h914 := h914.symm; subst h914; unfold dgH dgB dgW; with_reducible rfl
                      rw [eB, eH] at hP hD
                      have hLB : dgB r 5 2 = nI L := dgB_5.trans hL
                      refine lv_aload_n hx hb dX4_digest_205 rfl (lv_at hl 1 rfl) ?_
                      refine lv_aload_n hx hb dX4_digest_206 rfl (lv_at hl 1 rfl) ?_
                      refine va_get (D := D) (ci := 4) (v := .int (nI L)) (C := RX4) (T := TX4) (N := 12) hx hb hts hinX4 hown hK hP 0 rfl rfl 6 (by decide) fl93 (fun _ h9 => h9) (congrArg (fun z => some (Value.int z)) (((rfl)).trans (hLB))) dX4_digest_207 ?_
                      refine lv_i2l (v := Int32.toInt64 (nI L)) hx hb dX4_digest_210 rfl ?_
                      obtain ⟨h_23, eh_23⟩ : ∃ z : Int64, z = hsh (hsh (dgH r) (shM (dgB r)).toInt64) (Int32.toInt64 (nI L)) := ⟨_, rfl⟩
                      have hm_24 := mX4_hashes l D cI cQ cJ a (dgB r) (hsh (dgH r) (shM (dgB r)).toInt64) (Int32.toInt64 (nI L))
                      rw [← eh_23] at hm_24
                      refine k_callv (wc := cM cI a (dgB r) (hsh (dgH r) (shM (dgB r)).toInt64)) (w' := cM cI a (dgB r) h_23) (wn := cM cI a (dgB r) h_23) (va_runV (As := [.long (Int32.toInt64 (nI L))]) (rest := []) ⟨hx, hb, hml, hown, hts⟩ (hm_24 _) (cwV 1 hts gX4_digest_X4_hashes rfl rfl rfl (by decide +kernel) ⟨Nat.le_of_ble_eq_true rfl, Nat.le_of_ble_eq_true rfl⟩) (k_preV (wc := cM cI a (dgB r) (hsh (dgH r) (shM (dgB r)).toInt64)) hE hK hP hD [0, 1, 2, 3, 4, 5] (by decide) rfl (ci := 4) (q0 := 0) rfl rfl [.long (Int32.toInt64 (nI L))]) rfl rfl hl.1 rfl (lv_room (Nat.le_of_ble_eq_true rfl)) dX4_digest_211 ⟨Nat.zero_le _, Nat.zero_le _⟩) hP hD hS hA [0, 1, 2, 3, 4, 5] rfl rfl rfl (fun H locs hP hD hS => ?_)
                      refine lv_iconst (v := 0) hx hb dX4_digest_214 (by decide) ?_
                      refine lv_istore_n (lv' := [(1, .int 0), (0, .ref (a 0))]) hx hb dX4_digest_215 rfl hl (by decide) rfl (fun ls hl => ?_)
                      have Lp216 : ∀ (n i : Nat) (hv216 : Int64), i + n = L → bfH (dgB r) n i hv216 = bfH (dgB r) L 0 h_23 → ∀ (H : Heap) (locs : List Loc), va_P D vwCl (cM cI a (dgB r) hv216) H → va_D A (cM cI a (dgB r) hv216) → va_S A s.heap H locs → ∀ (ls : Array Slot), lv_has ls 2 [(1, .int (nI i)), (0, .ref (a 0))] → W p l e ({ frames := 7, cells := 0, slots := 0, locals := 166 } : Room) s m ([.ref (a 0)] : List Value).toArray below meth c H locs 0 0 (MQ below (va_Ql (fun (x : Int64) (_ : Unit) => x = dgV r L) (fun _ t => Wd D (cM cI a (dgB r) (dgV r L)) t) A) ([.ref (a 0)] : List Value).toArray s 0 0 A) (F0 m 216 ls []) := by
                        intro n
                        induction n with
                        | zero =>
                          intro i hv216 hin hres H locs hP hD hS ls hl
                          have h9216 : hv216 = bfH (dgB r) L 0 h_23 := hres
                          refine lv_iload_n hx hb dX4_digest_216 rfl (lv_at hl 0 rfl) ?_
                          refine lv_aload_n hx hb dX4_digest_217 rfl (lv_at hl 1 rfl) ?_
                          refine va_get (D := D) (ci := 4) (v := .int (nI L)) (C := RX4) (T := TX4) (N := 12) hx hb hts hinX4 hown hK hP 0 rfl rfl 6 (by decide) fl93 (fun _ h9 => h9) (congrArg (fun z => some (Value.int z)) (((rfl)).trans (hLB))) dX4_digest_218 ?_
                          refine lv_icmp_ge (tgt := 241) hx hb dX4_digest_221 (by decide) (fun _ => ?_) (fun h9 => absurd (nI_le (a := L) (b := i) (by omega) (by omega)) h9)
                          refine lv_aload_n hx hb dX4_digest_241 rfl (lv_at hl 1 rfl) ?_
                          refine va_get (D := D) (ci := 4) (v := .long hv216) (C := RX4) (T := TX4) (N := 12) hx hb hts hinX4 hown hK hP 0 rfl rfl 11 (by decide) fl157 (fun _ h9 => h9) rfl dX4_digest_242 ?_
                          have e9 : hv216 = dgV r L := by rw [h9216, eh_23]; unfold dgV; with_reducible rfl
                          rw [e9] at hP
                          exact k_lret hx hb hr hlocks hS hP dX4_digest_245 e9
                        | succ n ih =>
                          intro i hv216 hin hres H locs hP hD hS ls hl
                          refine lv_iload_n hx hb dX4_digest_216 rfl (lv_at hl 0 rfl) ?_
                          refine lv_aload_n hx hb dX4_digest_217 rfl (lv_at hl 1 rfl) ?_
                          refine va_get (D := D) (ci := 4) (v := .int (nI L)) (C := RX4) (T := TX4) (N := 12) hx hb hts hinX4 hown hK hP 0 rfl rfl 6 (by decide) fl93 (fun _ h9 => h9) (congrArg (fun z => some (Value.int z)) (((rfl)).trans (hLB))) dX4_digest_218 ?_
                          refine lv_icmp_ge (tgt := 241) hx hb dX4_digest_221 (by decide) (fun h9 => absurd h9 (nI_ge (a := i) (b := L) (by omega) (by omega))) (fun _ => ?_)
                          refine lv_aload_n hx hb dX4_digest_224 rfl (lv_at hl 1 rfl) ?_
                          refine lv_aload_n hx hb dX4_digest_225 rfl (lv_at hl 1 rfl) ?_
                          refine va_get (D := D) (ci := 4) (v := .ref (a 4)) (C := RX4) (T := TX4) (N := 12) hx hb hts hinX4 hown hK hP 0 rfl rfl 5 (by decide) fl19 (fun _ h9 => h9) rfl dX4_digest_226 ?_
                          refine lv_iload_n hx hb dX4_digest_229 rfl (lv_at hl 0 rfl) ?_
                          refine k_iald (k := i) (v := (dgB r) 3 i) hx hb hK hP 4 0 rfl rfl (vp_in_nI (n := i) (by omega) (by omega)) (nI_clamp (n := i) (by omega)) (rfl) dX4_digest_230 ?_
                          refine lv_i2l (v := Int32.toInt64 ((dgB r) 3 i)) hx hb dX4_digest_231 rfl ?_
                          obtain ⟨h_25, eh_25⟩ : ∃ z : Int64, z = hsh hv216 (Int32.toInt64 ((dgB r) 3 i)) := ⟨_, rfl⟩
                          have hm_26 := mX4_hashes l D cI cQ cJ a (dgB r) hv216 (Int32.toInt64 ((dgB r) 3 i))
                          rw [← eh_25] at hm_26
                          refine k_callv (wc := cM cI a (dgB r) hv216) (w' := cM cI a (dgB r) h_25) (wn := cM cI a (dgB r) h_25) (va_runV (As := [.long (Int32.toInt64 ((dgB r) 3 i))]) (rest := []) ⟨hx, hb, hml, hown, hts⟩ (hm_26 _) (cwV 1 hts gX4_digest_X4_hashes rfl rfl rfl (by decide +kernel) ⟨Nat.le_of_ble_eq_true rfl, Nat.le_of_ble_eq_true rfl⟩) (k_preV (wc := cM cI a (dgB r) hv216) hE hK hP hD [0, 1, 2, 3, 4, 5] (by decide) rfl (ci := 4) (q0 := 0) rfl rfl [.long (Int32.toInt64 ((dgB r) 3 i))]) rfl rfl hl.1 rfl (lv_room (Nat.le_of_ble_eq_true rfl)) dX4_digest_232 ⟨Nat.zero_le _, Nat.zero_le _⟩) hP hD hS hA [0, 1, 2, 3, 4, 5] rfl rfl rfl (fun H locs hP hD hS => ?_)
                          refine lv_iinc (v := nI (i + 1)) (lv' := [(1, .int (nI (i + 1))), (0, .ref (a 0))]) hx hb dX4_digest_235 hl (k := 0) rfl (nI_1 i) (by decide) rfl (fun ls hl => ?_)
                          refine lv_goto (tgt := 216) hx hb dX4_digest_238 (by decide) ?_
                          exact ih (i + 1) h_25 (by omega) (by replace eh_25 := eh_25.symm; subst eh_25; rw [← hres]; simp only [bfH, ↓reduceIte]) H locs hP hD hS ls (lv_sub hl [0, 1] rfl)
                      exact Lp216 L 0 h_23 (by omega) rfl _ _ hP hD hS ls (lv_sub hl [0, 1] rfl)
                    | succ n ih =>
                      intro i rv122 hv122 hin hok122 hres H locs hP hD hS ls hl
                      refine lv_iload_n hx hb dX4_digest_122 rfl (lv_at hl 0 rfl) ?_
                      refine lv_iconst (v := 3) hx hb dX4_digest_123 (by decide) ?_
                      refine lv_icmp_ge (tgt := 145) hx hb dX4_digest_124 (by decide) (fun h9 => absurd h9 (nI_ge (a := i) (b := 3) (by omega) (by omega))) (fun _ => ?_)
                      refine lv_aload_n hx hb dX4_digest_127 rfl (lv_at hl 1 rfl) ?_
                      refine lv_aload_n hx hb dX4_digest_128 rfl (lv_at hl 1 rfl) ?_
                      refine lv_bipush (v := 20) hx hb dX4_digest_129 (by decide) ?_
                      refine lv_iload_n hx hb dX4_digest_131 rfl (lv_at hl 0 rfl) ?_
                      obtain ⟨r_27, er_27⟩ : ∃ z : rB, z = asd rv122 := ⟨_, rfl⟩
                      have hm_28 := mX4_would l D cI cQ cJ a rv122 hv122 20 20 (nI_clamp (n := 20) (by omega)) (nI i) hok122
                      rw [← er_27] at hm_28
                      refine k_calli (wc := cM cI a rv122 hv122) (w' := cM cI a r_27 hv122) (wn := cM cI a r_27 hv122) (va_runV (As := [.int 20, .int (nI i)]) (rest := [.ref (a 0)]) ⟨hx, hb, hml, hown, hts⟩ (hm_28 _) (cwV 2 hts gX4_digest_X4_would rfl rfl rfl (by decide +kernel) ⟨Nat.le_of_ble_eq_true rfl, Nat.le_of_ble_eq_true rfl⟩) (k_preV (wc := cM cI a rv122 hv122) hE hK hP hD [0, 1, 2, 3, 4, 5] (by decide) rfl (ci := 4) (q0 := 0) rfl rfl [.int 20, .int (nI i)]) rfl rfl hl.1 rfl (lv_room (Nat.le_of_ble_eq_true rfl)) dX4_digest_132 ⟨Nat.zero_le _, Nat.zero_le _⟩) hP hD hS hA [0, 1, 2, 3, 4, 5] rfl rfl rfl (fun H locs hP hD hS => ?_)
                      refine lv_i2l (v := Int32.toInt64 (wouldV rv122 20 (nI i))) hx hb dX4_digest_135 rfl ?_
                      obtain ⟨h_29, eh_29⟩ : ∃ z : Int64, z = hsh hv122 (Int32.toInt64 (wouldV rv122 20 (nI i))) := ⟨_, rfl⟩
                      have hm_30 := mX4_hashes l D cI cQ cJ a r_27 hv122 (Int32.toInt64 (wouldV rv122 20 (nI i)))
                      rw [← eh_29] at hm_30
                      refine k_callv (wc := cM cI a r_27 hv122) (w' := cM cI a r_27 h_29) (wn := cM cI a r_27 h_29) (va_runV (As := [.long (Int32.toInt64 (wouldV rv122 20 (nI i)))]) (rest := []) ⟨hx, hb, hml, hown, hts⟩ (hm_30 _) (cwV 1 hts gX4_digest_X4_hashes rfl rfl rfl (by decide +kernel) ⟨Nat.le_of_ble_eq_true rfl, Nat.le_of_ble_eq_true rfl⟩) (k_preV (wc := cM cI a r_27 hv122) hE hK hP hD [0, 1, 2, 3, 4, 5] (by decide) rfl (ci := 4) (q0 := 0) rfl rfl [.long (Int32.toInt64 (wouldV rv122 20 (nI i)))]) rfl rfl hl.1 rfl (lv_room (Nat.le_of_ble_eq_true rfl)) dX4_digest_136 ⟨Nat.zero_le _, Nat.zero_le _⟩) hP hD hS hA [0, 1, 2, 3, 4, 5] rfl rfl rfl (fun H locs hP hD hS => ?_)
                      refine lv_iinc (v := nI (i + 1)) (lv' := [(1, .int (nI (i + 1))), (0, .ref (a 0))]) hx hb dX4_digest_139 hl (k := 0) rfl (nI_1 i) (by decide) rfl (fun ls hl => ?_)
                      refine lv_goto (tgt := 122) hx hb dX4_digest_142 (by decide) ?_
                      exact ih (i + 1) r_27 h_29 (by omega) (by rw [er_27]; exact (asd_ok hok122)) (by replace eh_29 := eh_29.symm; subst eh_29; replace er_27 := er_27.symm; subst er_27; rw [← hres]; simp only [wdL, ↓reduceIte]) H locs hP hD hS ls (lv_sub hl [0, 1] rfl)
                  exact Lp122 3 0 (bp r 5 0 0) hv91 (by omega) hok rfl _ _ hP hD hS ls (lv_sub hl [0, 1] rfl)
                | succ n ih =>
                  intro i hv91 hin hres H locs hP hD hS ls hl
                  refine lv_iload_n hx hb dX4_digest_91 rfl (lv_at hl 0 rfl) ?_
                  refine lv_bipush (v := 54) hx hb dX4_digest_92 (by decide) ?_
                  refine lv_icmp_ge (tgt := 120) hx hb dX4_digest_94 (by decide) (fun h9 => absurd h9 (nI_ge (a := i) (b := 54) (by omega) (by omega))) (fun _ => ?_)
                  refine lv_aload_n hx hb dX4_digest_97 rfl (lv_at hl 1 rfl) ?_
                  refine lv_aload_n hx hb dX4_digest_98 rfl (lv_at hl 1 rfl) ?_
                  refine lv_iload_n hx hb dX4_digest_99 rfl (lv_at hl 0 rfl) ?_
                  refine lv_bipush (v := 9) hx hb dX4_digest_100 (by decide) ?_
                  refine lv_idiv hx hb dX4_digest_102 (by decide) ?_
                  refine lv_eqi (y := nI (i / 9)) (pk_div (a := i) (d := 9) (by omega) (by decide) (by decide)) ?_
                  refine lv_iload_n hx hb dX4_digest_103 rfl (lv_at hl 0 rfl) ?_
                  refine lv_bipush (v := 9) hx hb dX4_digest_104 (by decide) ?_
                  refine lv_irem hx hb dX4_digest_106 (by decide) ?_
                  refine lv_eqi (y := nI (i % 9)) (pk_rem (a := i) (d := 9) (by omega) (by decide) (by decide)) ?_
                  refine k_calli (wc := cM cI a (bp r 5 0 0) hv91) (w' := cM cI a (bp r 5 0 0) hv91) (wn := cM cI a (bp r 5 0 0) hv91) (va_runV (As := [.int (nI (i / 9)), .int (nI (i % 9))]) (rest := [.ref (a 0)]) ⟨hx, hb, hml, hown, hts⟩ (mX4_tellsGutter l D cI cQ cJ a (bp r 5 0 0) hv91 (nI (i / 9)) (i / 9) (i % 9) rfl (by omega) (by omega) _) (cwV 2 hts gX4_digest_X4_tellsGutter rfl rfl rfl (by decide +kernel) ⟨Nat.le_of_ble_eq_true rfl, Nat.le_of_ble_eq_true rfl⟩) (k_preV (wc := cM cI a (bp r 5 0 0) hv91) hE hK hP hD [0, 1, 2, 3, 4, 5] (by decide) rfl (ci := 4) (q0 := 0) rfl rfl [.int (nI (i / 9)), .int (nI (i % 9))]) rfl rfl hl.1 rfl (lv_room (Nat.le_of_ble_eq_true rfl)) dX4_digest_107 ⟨Nat.zero_le _, Nat.zero_le _⟩) hP hD hS hA [0, 1, 2, 3, 4, 5] rfl rfl rfl (fun H locs hP hD hS => ?_)
                  refine lv_i2l (v := Int32.toInt64 (tgM (bp r 5 0 0) (i / 9) (i % 9))) hx hb dX4_digest_110 rfl ?_
                  obtain ⟨h_31, eh_31⟩ : ∃ z : Int64, z = hsh hv91 (Int32.toInt64 (tgM (bp r 5 0 0) (i / 9) (i % 9))) := ⟨_, rfl⟩
                  have hm_32 := mX4_hashes l D cI cQ cJ a (bp r 5 0 0) hv91 (Int32.toInt64 (tgM (bp r 5 0 0) (i / 9) (i % 9)))
                  rw [← eh_31] at hm_32
                  refine k_callv (wc := cM cI a (bp r 5 0 0) hv91) (w' := cM cI a (bp r 5 0 0) h_31) (wn := cM cI a (bp r 5 0 0) h_31) (va_runV (As := [.long (Int32.toInt64 (tgM (bp r 5 0 0) (i / 9) (i % 9)))]) (rest := []) ⟨hx, hb, hml, hown, hts⟩ (hm_32 _) (cwV 1 hts gX4_digest_X4_hashes rfl rfl rfl (by decide +kernel) ⟨Nat.le_of_ble_eq_true rfl, Nat.le_of_ble_eq_true rfl⟩) (k_preV (wc := cM cI a (bp r 5 0 0) hv91) hE hK hP hD [0, 1, 2, 3, 4, 5] (by decide) rfl (ci := 4) (q0 := 0) rfl rfl [.long (Int32.toInt64 (tgM (bp r 5 0 0) (i / 9) (i % 9)))]) rfl rfl hl.1 rfl (lv_room (Nat.le_of_ble_eq_true rfl)) dX4_digest_111 ⟨Nat.zero_le _, Nat.zero_le _⟩) hP hD hS hA [0, 1, 2, 3, 4, 5] rfl rfl rfl (fun H locs hP hD hS => ?_)
                  refine lv_iinc (v := nI (i + 1)) (lv' := [(1, .int (nI (i + 1))), (0, .ref (a 0))]) hx hb dX4_digest_114 hl (k := 0) rfl (nI_1 i) (by decide) rfl (fun ls hl => ?_)
                  refine lv_goto (tgt := 91) hx hb dX4_digest_117 (by decide) ?_
                  exact ih (i + 1) h_31 (by omega) (by replace eh_31 := eh_31.symm; subst eh_31; rw [← hres]; simp only [gtH, ↓reduceIte]) H locs hP hD hS ls (lv_sub hl [0, 1] rfl)
              exact Lp91 54 0 hv62 (by omega) rfl _ _ hP hD hS ls (lv_sub hl [0, 1] rfl)
            | succ n ih =>
              intro i hv62 hin hres H locs hP hD hS ls hl
              refine lv_iload_n hx hb dX4_digest_62 rfl (lv_at hl 0 rfl) ?_
              refine lv_bipush (v := 24) hx hb dX4_digest_63 (by decide) ?_
              refine lv_icmp_ge (tgt := 89) hx hb dX4_digest_65 (by decide) (fun h9 => absurd h9 (nI_ge (a := i) (b := 24) (by omega) (by omega))) (fun _ => ?_)
              refine lv_aload_n hx hb dX4_digest_68 rfl (lv_at hl 1 rfl) ?_
              refine lv_aload_n hx hb dX4_digest_69 rfl (lv_at hl 1 rfl) ?_
              refine lv_iload_n hx hb dX4_digest_70 rfl (lv_at hl 0 rfl) ?_
              refine lv_iconst (v := 4) hx hb dX4_digest_71 (by decide) ?_
              refine lv_idiv hx hb dX4_digest_72 (by decide) ?_
              refine lv_eqi (y := nI (i / 4)) (pk_div (a := i) (d := 4) (by omega) (by decide) (by decide)) ?_
              refine lv_iload_n hx hb dX4_digest_73 rfl (lv_at hl 0 rfl) ?_
              refine lv_iconst (v := 4) hx hb dX4_digest_74 (by decide) ?_
              refine lv_irem hx hb dX4_digest_75 (by decide) ?_
              refine lv_eqi (y := nI (i % 4)) (pk_rem (a := i) (d := 4) (by omega) (by decide) (by decide)) ?_
              refine k_calli (wc := cM cI a (bp r 5 0 0) hv62) (w' := cM cI a (bp r 5 0 0) hv62) (wn := cM cI a (bp r 5 0 0) hv62) (va_runV (As := [.int (nI (i / 4)), .int (nI (i % 4))]) (rest := [.ref (a 0)]) ⟨hx, hb, hml, hown, hts⟩ (mX4_ofPlane l D cI cQ cJ a (bp r 5 0 0) hv62 (nI (i / 4)) (i / 4) (i % 4) rfl (by omega) (by omega) _) (cwV 2 hts gX4_digest_X4_ofPlane rfl rfl rfl (by decide +kernel) ⟨Nat.le_of_ble_eq_true rfl, Nat.le_of_ble_eq_true rfl⟩) (k_preV (wc := cM cI a (bp r 5 0 0) hv62) hE hK hP hD [0, 1, 2, 3, 4, 5] (by decide) rfl (ci := 4) (q0 := 0) rfl rfl [.int (nI (i / 4)), .int (nI (i % 4))]) rfl rfl hl.1 rfl (lv_room (Nat.le_of_ble_eq_true rfl)) dX4_digest_76 ⟨Nat.zero_le _, Nat.zero_le _⟩) hP hD hS hA [0, 1, 2, 3, 4, 5] rfl rfl rfl (fun H locs hP hD hS => ?_)
              refine lv_i2l (v := Int32.toInt64 ((bp r 5 0 0) 0 (9 + 4 * (i / 4) + i % 4))) hx hb dX4_digest_79 rfl ?_
              obtain ⟨h_33, eh_33⟩ : ∃ z : Int64, z = hsh hv62 (Int32.toInt64 ((bp r 5 0 0) 0 (9 + 4 * (i / 4) + i % 4))) := ⟨_, rfl⟩
              have hm_34 := mX4_hashes l D cI cQ cJ a (bp r 5 0 0) hv62 (Int32.toInt64 ((bp r 5 0 0) 0 (9 + 4 * (i / 4) + i % 4)))
              rw [← eh_33] at hm_34
              refine k_callv (wc := cM cI a (bp r 5 0 0) hv62) (w' := cM cI a (bp r 5 0 0) h_33) (wn := cM cI a (bp r 5 0 0) h_33) (va_runV (As := [.long (Int32.toInt64 ((bp r 5 0 0) 0 (9 + 4 * (i / 4) + i % 4)))]) (rest := []) ⟨hx, hb, hml, hown, hts⟩ (hm_34 _) (cwV 1 hts gX4_digest_X4_hashes rfl rfl rfl (by decide +kernel) ⟨Nat.le_of_ble_eq_true rfl, Nat.le_of_ble_eq_true rfl⟩) (k_preV (wc := cM cI a (bp r 5 0 0) hv62) hE hK hP hD [0, 1, 2, 3, 4, 5] (by decide) rfl (ci := 4) (q0 := 0) rfl rfl [.long (Int32.toInt64 ((bp r 5 0 0) 0 (9 + 4 * (i / 4) + i % 4)))]) rfl rfl hl.1 rfl (lv_room (Nat.le_of_ble_eq_true rfl)) dX4_digest_80 ⟨Nat.zero_le _, Nat.zero_le _⟩) hP hD hS hA [0, 1, 2, 3, 4, 5] rfl rfl rfl (fun H locs hP hD hS => ?_)
              refine lv_iinc (v := nI (i + 1)) (lv' := [(1, .int (nI (i + 1))), (0, .ref (a 0))]) hx hb dX4_digest_83 hl (k := 0) rfl (nI_1 i) (by decide) rfl (fun ls hl => ?_)
              refine lv_goto (tgt := 62) hx hb dX4_digest_86 (by decide) ?_
              exact ih (i + 1) h_33 (by omega) (by replace eh_33 := eh_33.symm; subst eh_33; rw [← hres]; simp only [plH, ↓reduceIte]) H locs hP hD hS ls (lv_sub hl [0, 1] rfl)
          exact Lp62 24 0 hv38 (by omega) rfl _ _ hP hD hS ls (lv_sub hl [0, 1] rfl)
        | succ n ih =>
          intro i hv38 hin hres H locs hP hD hS ls hl
          refine lv_iload_n hx hb dX4_digest_38 rfl (lv_at hl 0 rfl) ?_
          refine lv_iconst (v := 3) hx hb dX4_digest_39 (by decide) ?_
          refine lv_icmp_ge (tgt := 60) hx hb dX4_digest_40 (by decide) (fun h9 => absurd h9 (nI_ge (a := i) (b := 3) (by omega) (by omega))) (fun _ => ?_)
          refine lv_aload_n hx hb dX4_digest_43 rfl (lv_at hl 1 rfl) ?_
          refine lv_aload_n hx hb dX4_digest_44 rfl (lv_at hl 1 rfl) ?_
          refine va_get (D := D) (ci := 4) (v := .ref (a 1)) (C := RX4) (T := TX4) (N := 12) hx hb hts hinX4 hown hK hP 0 rfl rfl 1 (by decide) fl7 (fun _ h9 => h9) rfl dX4_digest_45 ?_
          refine lv_iload_n hx hb dX4_digest_48 rfl (lv_at hl 0 rfl) ?_
          refine k_iald (k := i) (v := r 0 i) hx hb hK hP 1 0 rfl rfl (vp_in_nI (n := i) (by omega) (by omega)) (nI_clamp (n := i) (by omega)) ((bp_rw (by decide)).trans (rfl)) dX4_digest_49 ?_
          refine lv_i2l (v := Int32.toInt64 (r 0 i)) hx hb dX4_digest_50 rfl ?_
          obtain ⟨h_35, eh_35⟩ : ∃ z : Int64, z = hsh hv38 (Int32.toInt64 (r 0 i)) := ⟨_, rfl⟩
          have hm_36 := mX4_hashes l D cI cQ cJ a (bp r 5 0 0) hv38 (Int32.toInt64 (r 0 i))
          rw [← eh_35] at hm_36
          refine k_callv (wc := cM cI a (bp r 5 0 0) hv38) (w' := cM cI a (bp r 5 0 0) h_35) (wn := cM cI a (bp r 5 0 0) h_35) (va_runV (As := [.long (Int32.toInt64 (r 0 i))]) (rest := []) ⟨hx, hb, hml, hown, hts⟩ (hm_36 _) (cwV 1 hts gX4_digest_X4_hashes rfl rfl rfl (by decide +kernel) ⟨Nat.le_of_ble_eq_true rfl, Nat.le_of_ble_eq_true rfl⟩) (k_preV (wc := cM cI a (bp r 5 0 0) hv38) hE hK hP hD [0, 1, 2, 3, 4, 5] (by decide) rfl (ci := 4) (q0 := 0) rfl rfl [.long (Int32.toInt64 (r 0 i))]) rfl rfl hl.1 rfl (lv_room (Nat.le_of_ble_eq_true rfl)) dX4_digest_51 ⟨Nat.zero_le _, Nat.zero_le _⟩) hP hD hS hA [0, 1, 2, 3, 4, 5] rfl rfl rfl (fun H locs hP hD hS => ?_)
          refine lv_iinc (v := nI (i + 1)) (lv' := [(1, .int (nI (i + 1))), (0, .ref (a 0))]) hx hb dX4_digest_54 hl (k := 0) rfl (nI_1 i) (by decide) rfl (fun ls hl => ?_)
          refine lv_goto (tgt := 38) hx hb dX4_digest_57 (by decide) ?_
          exact ih (i + 1) h_35 (by omega) (by replace eh_35 := eh_35.symm; subst eh_35; rw [← hres]; simp only [seH, ↓reduceIte]) H locs hP hD hS ls (lv_sub hl [0, 1] rfl)
      exact Lp38 3 0 hv14 (by omega) rfl _ _ hP hD hS ls (lv_sub hl [0, 1] rfl)
    | succ n ih =>
      intro i hv14 hin hres H locs hP hD hS ls hl
      refine lv_iload_n hx hb dX4_digest_14 rfl (lv_at hl 0 rfl) ?_
      refine lv_bipush (v := 9) hx hb dX4_digest_15 (by decide) ?_
      refine lv_icmp_ge (tgt := 36) hx hb dX4_digest_17 (by decide) (fun h9 => absurd h9 (nI_ge (a := i) (b := 9) (by omega) (by omega))) (fun _ => ?_)
      refine lv_aload_n hx hb dX4_digest_20 rfl (lv_at hl 1 rfl) ?_
      refine lv_aload_n hx hb dX4_digest_21 rfl (lv_at hl 1 rfl) ?_
      refine lv_iload_n hx hb dX4_digest_22 rfl (lv_at hl 0 rfl) ?_
      refine k_calli (wc := cM cI a (bp r 5 0 0) hv14) (w' := cM cI a (bp r 5 0 0) hv14) (wn := cM cI a (bp r 5 0 0) hv14) (va_runV (As := [.int (nI i)]) (rest := [.ref (a 0)]) ⟨hx, hb, hml, hown, hts⟩ (mX4_counts l D cI cQ cJ a (bp r 5 0 0) hv14 i (by omega) _) (cwV 1 hts gX4_digest_X4_counts rfl rfl rfl (by decide +kernel) ⟨Nat.le_of_ble_eq_true rfl, Nat.le_of_ble_eq_true rfl⟩) (k_preV (wc := cM cI a (bp r 5 0 0) hv14) hE hK hP hD [0, 1, 2, 3, 4, 5] (by decide) rfl (ci := 4) (q0 := 0) rfl rfl [.int (nI i)]) rfl rfl hl.1 rfl (lv_room (Nat.le_of_ble_eq_true rfl)) dX4_digest_23 ⟨Nat.zero_le _, Nat.zero_le _⟩) hP hD hS hA [0, 1, 2, 3, 4, 5] rfl rfl rfl (fun H locs hP hD hS => ?_)
      refine lv_i2l (v := Int32.toInt64 (cnM (bp r 5 0 0) i)) hx hb dX4_digest_26 rfl ?_
      obtain ⟨h_37, eh_37⟩ : ∃ z : Int64, z = hsh hv14 (Int32.toInt64 (cnM (bp r 5 0 0) i)) := ⟨_, rfl⟩
      have hm_38 := mX4_hashes l D cI cQ cJ a (bp r 5 0 0) hv14 (Int32.toInt64 (cnM (bp r 5 0 0) i))
      rw [← eh_37] at hm_38
      refine k_callv (wc := cM cI a (bp r 5 0 0) hv14) (w' := cM cI a (bp r 5 0 0) h_37) (wn := cM cI a (bp r 5 0 0) h_37) (va_runV (As := [.long (Int32.toInt64 (cnM (bp r 5 0 0) i))]) (rest := []) ⟨hx, hb, hml, hown, hts⟩ (hm_38 _) (cwV 1 hts gX4_digest_X4_hashes rfl rfl rfl (by decide +kernel) ⟨Nat.le_of_ble_eq_true rfl, Nat.le_of_ble_eq_true rfl⟩) (k_preV (wc := cM cI a (bp r 5 0 0) hv14) hE hK hP hD [0, 1, 2, 3, 4, 5] (by decide) rfl (ci := 4) (q0 := 0) rfl rfl [.long (Int32.toInt64 (cnM (bp r 5 0 0) i))]) rfl rfl hl.1 rfl (lv_room (Nat.le_of_ble_eq_true rfl)) dX4_digest_27 ⟨Nat.zero_le _, Nat.zero_le _⟩) hP hD hS hA [0, 1, 2, 3, 4, 5] rfl rfl rfl (fun H locs hP hD hS => ?_)
      refine lv_iinc (v := nI (i + 1)) (lv' := [(1, .int (nI (i + 1))), (0, .ref (a 0))]) hx hb dX4_digest_30 hl (k := 0) rfl (nI_1 i) (by decide) rfl (fun ls hl => ?_)
      refine lv_goto (tgt := 14) hx hb dX4_digest_33 (by decide) ?_
      exact ih (i + 1) h_37 (by omega) (by replace eh_37 := eh_37.symm; subst eh_37; rw [← hres]; simp only [cnH, ↓reduceIte]) H locs hP hD hS ls (lv_sub hl [0, 1] rfl)
  exact Lp14 9 0 3067 (by omega) rfl _ _ hP hD hS ls (lv_sub hl [0, 1] rfl)
