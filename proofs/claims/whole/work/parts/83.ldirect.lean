/-! the law's calls that never throw -/
section LD
variable {p : Program} {l : Launch} {e : Env} {s : State} {m : MethodId} {below : List Frame} {meth : Method} {c : Code} {b N : Nat} {xs : Nat → Int32} {D : va_G} {cI cQ cJ : ClassId} {H : Heap} {locs : List Loc} {cells slots : Nat} {Q : State → Prop} {pc : Nat} {ls : Array Slot} {rest : List Value} {am x a a2 : Nat → Nat} {qo o s0 w0 : Nat}
theorem putAt_V {u0 u1 v v' y3 : va_W} (k mN : Nat) (hu : u0.length + u1.length = k) (hv : v.length = mN) (hv' : v'.length = mN) : putAt (u0 ++ (u1 ++ (v ++ y3))) (List.range' k mN) v' = u0 ++ (u1 ++ (v' ++ y3)) := by
  have e : ∀ z : va_W, u0 ++ (u1 ++ (z ++ y3)) = ((u0 ++ u1) ++ z) ++ y3 := fun z => by simp only [List.append_assoc]
  rw [e, e, putAt_l _ _ _ _ (k + mN) (by rw [List.length_append, List.length_append, hu, hv]) (fun i hi => by have := List.mem_range'_1.mp hi; omega), putAt_0 mN _ _ _ k (by rw [List.length_append, hu]) hv hv']
theorem putAt_W {u0 u1 v v' y1 y2 y3 : va_W} (k mN : Nat) (hu : u0.length + u1.length = k) (hv : v.length = mN) (hv' : v'.length = mN) : putAt (u0 ++ (u1 ++ (((v ++ y1) ++ y2) ++ y3))) (List.range' k mN) v' = u0 ++ (u1 ++ (((v' ++ y1) ++ y2) ++ y3)) := by
  rw [List.append_assoc (v ++ y1), List.append_assoc v, List.append_assoc (v' ++ y1), List.append_assoc v']
  exact putAt_V k mN hu hv hv'
theorem l_modi (C : LA p l s m meth c b N xs D cI cQ cJ) {y : MethodName} {ws : List Cond} {rm : Room} {mm mB : rB} {h h2 : Int64} {v : Int32} {w : va_W} {bytes : ByteArray} {maxL index : Nat}
    (hM : Mi l D (tY cI cQ cJ) y ws rm [.ref (am 0)] (cM cI am mm h) (cM cI am mB h2) v) (cw : CallW room_1 s #[Value.ref b] RL RX4 index y bytes maxL (some .int) ws rm 0 0 0)
    (hP : va_P D vwCl (cM cI am mm h ++ w) H) (hD : va_D (AL s) (cM cI am mm h ++ w)) (hS : va_S (AL s) s.heap H locs) (hsize : ls.size = 9) (hrest : (rest.map fun v => v.category).sum ≤ 8) (hdg : decode cL_law pc = .ok (.invokevirtual index, 3)) (hf : cells ≤ 617766 ∧ slots ≤ 7242805)
    (kk : ∀ (H : Heap) (locs : List Loc), va_P D vwCl (cM cI am mB h2 ++ w) H → va_D (AL s) (cM cI am mB h2 ++ w) → va_S (AL s) s.heap H locs → W p l e room_1 s m #[Value.ref b] below meth c H locs cells slots Q (F0 m (pc + 3) ls (.int v :: rest))) :
    W p l e room_1 s m #[Value.ref b] below meth c H locs cells slots Q (F0 m pc ls (.ref (am 0) :: rest)) := by
  obtain ⟨hx, hb, hml, hts, hown, hX, hbl, hE, hEX, hK, hfl, hN⟩ := C
  exact k_calli (wc := cM cI am mm h) (w' := cM cI am mB h2) (wn := cM cI am mB h2 ++ w) (va_runV (As := []) (rest := rest) ⟨hx, hb, hml, hown, hts⟩ (hM _) cw (k_preV (wc := cM cI am mm h) hE hK hP hD [0, 1, 2, 3, 4, 5] (by decide) rfl (ci := 4) (q0 := 0) rfl rfl []) rfl rfl hsize rfl (lv_room hrest) hdg hf) hP hD hS (fun _ h => h) [0, 1, 2, 3, 4, 5] rfl rfl rfl kk
theorem l_modl (C : LA p l s m meth c b N xs D cI cQ cJ) {y : MethodName} {ws : List Cond} {rm : Room} {mm mB : rB} {h h2 : Int64} {v : Int64} {w : va_W} {bytes : ByteArray} {maxL index : Nat}
    (hM : Ml l D (tY cI cQ cJ) y ws rm [.ref (am 0)] (cM cI am mm h) (cM cI am mB h2) v) (cw : CallW room_1 s #[Value.ref b] RL RX4 index y bytes maxL (some .long) ws rm 0 0 0)
    (hP : va_P D vwCl (cM cI am mm h ++ w) H) (hD : va_D (AL s) (cM cI am mm h ++ w)) (hS : va_S (AL s) s.heap H locs) (hsize : ls.size = 9) (hrest : (rest.map fun v => v.category).sum ≤ 8) (hdg : decode cL_law pc = .ok (.invokevirtual index, 3)) (hf : cells ≤ 617766 ∧ slots ≤ 7242805)
    (kk : ∀ (H : Heap) (locs : List Loc), va_P D vwCl (cM cI am mB h2 ++ w) H → va_D (AL s) (cM cI am mB h2 ++ w) → va_S (AL s) s.heap H locs → W p l e room_1 s m #[Value.ref b] below meth c H locs cells slots Q (F0 m (pc + 3) ls (.long v :: rest))) :
    W p l e room_1 s m #[Value.ref b] below meth c H locs cells slots Q (F0 m pc ls (.ref (am 0) :: rest)) := by
  obtain ⟨hx, hb, hml, hts, hown, hX, hbl, hE, hEX, hK, hfl, hN⟩ := C
  exact k_calll (wc := cM cI am mm h) (w' := cM cI am mB h2) (wn := cM cI am mB h2 ++ w) (va_runV (As := []) (rest := rest) ⟨hx, hb, hml, hown, hts⟩ (hM _) cw (k_preV (wc := cM cI am mm h) hE hK hP hD [0, 1, 2, 3, 4, 5] (by decide) rfl (ci := 4) (q0 := 0) rfl rfl []) rfl rfl hsize rfl (lv_room hrest) hdg hf) hP hD hS (fun _ h => h) [0, 1, 2, 3, 4, 5] rfl rfl rfl kk
theorem l_modd (C : LA p l s m meth c b N xs D cI cQ cJ) {y : MethodName} {ws : List Cond} {rm : Room} {mm mB : rB} {h h2 : Int64} {v : UInt64} {w : va_W} {bytes : ByteArray} {maxL index : Nat}
    (hM : Md l D (tY cI cQ cJ) y ws rm [.ref (am 0)] (cM cI am mm h) (cM cI am mB h2) v) (cw : CallW room_1 s #[Value.ref b] RL RX4 index y bytes maxL (some .double) ws rm 0 0 0)
    (hP : va_P D vwCl (cM cI am mm h ++ w) H) (hD : va_D (AL s) (cM cI am mm h ++ w)) (hS : va_S (AL s) s.heap H locs) (hsize : ls.size = 9) (hrest : (rest.map fun v => v.category).sum ≤ 8) (hdg : decode cL_law pc = .ok (.invokevirtual index, 3)) (hf : cells ≤ 617766 ∧ slots ≤ 7242805)
    (kk : ∀ (H : Heap) (locs : List Loc), va_P D vwCl (cM cI am mB h2 ++ w) H → va_D (AL s) (cM cI am mB h2 ++ w) → va_S (AL s) s.heap H locs → W p l e room_1 s m #[Value.ref b] below meth c H locs cells slots Q (F0 m (pc + 3) ls (.double v :: rest))) :
    W p l e room_1 s m #[Value.ref b] below meth c H locs cells slots Q (F0 m pc ls (.ref (am 0) :: rest)) := by
  obtain ⟨hx, hb, hml, hts, hown, hX, hbl, hE, hEX, hK, hfl, hN⟩ := C
  exact k_calld (wc := cM cI am mm h) (w' := cM cI am mB h2) (wn := cM cI am mB h2 ++ w) (va_runV (As := []) (rest := rest) ⟨hx, hb, hml, hown, hts⟩ (hM _) cw (k_preV (wc := cM cI am mm h) hE hK hP hD [0, 1, 2, 3, 4, 5] (by decide) rfl (ci := 4) (q0 := 0) rfl rfl []) rfl rfl hsize rfl (lv_room hrest) hdg hf) hP hD hS (fun _ h => h) [0, 1, 2, 3, 4, 5] rfl rfl rfl kk
set_option maxHeartbeats 4000000 in
set_option maxRecDepth 100000 in
theorem lc_clearBuffer (C : LA p l s m meth c b N xs D cI cQ cJ) {j : Nat} (hj : j < 512) {w : va_W} (hI : LI cI cQ cJ am x a a2 qo o s0 w0 j w) (hP : va_P D vwCl w H) (hD : va_D (AL s) w) (hS : va_S (AL s) s.heap H locs) (hl : lv_has ls 9 (lv0 b o am qo (5 * j))) (kk : ∀ (w : va_W) (H : Heap) (locs : List Loc) (ls : Array Slot), LI cI cQ cJ am x a a2 qo o s0 w0 (j + 1) w → va_P D vwCl w H → va_D (AL s) w → va_S (AL s) s.heap H locs → lv_has ls 9 (lv0 b o am qo (5 * j)) → W p l e room_1 s m #[Value.ref b] below meth c H locs (38 + 14 * (j + 1)) (982 + 91 * (j + 1)) Q (F0 m 1311 ls [])) : W p l e room_1 s m #[Value.ref b] below meth c H locs (38 + 14 * j) (982 + 91 * j) Q (F0 m 688 ls []) := by
  obtain ⟨A, r, q, t, n, old, held, L, B, mm, h, g, hV, rfl⟩ := hI
  have C0 := C
  obtain ⟨hx, hb, hml, hts, hown, hX, hbl, hE, hEX, hK, hfl, hN⟩ := C0
  have hf : 38 + 14 * j ≤ 617766 ∧ 982 + 91 * j ≤ 7242805 := ⟨by omega, by omega⟩
  have ho := o_clear hV
  refine lv_aload_n hx hb dL_law_688 rfl (lv_at hl 1 rfl) ?_
  refine k_calli (wc := (cO o [.ref (a 0), .ref (a2 0), .ref s0, .ref (x 0)]) ++ (cT cI x t)) (w' := (cO o [.ref (a 0), .ref (a2 0), .ref s0, .ref (x 0)]) ++ (cT cI x (bp t 1 0 0))) (wn := WL cI cQ cJ am qo mm h g (WX cI cQ o s0 w0 x a a2 A r q (bp t 1 0 0) n (zF A n) (nI old) (nI held) B)) (va_runV (As := []) (rest := []) ⟨hx, hb, hml, hown, hts⟩ (mX3_clearBuffer l D cI cQ cJ o s0 a a2 x t L hV.2.2.2.1.1 hV.2.2.2.1.2.1 _) (cwV 0 hts gL_law_X3_clearBuffer rfl rfl rfl (by decide +kernel) ⟨Nat.le_of_ble_eq_true rfl, Nat.le_of_ble_eq_true rfl⟩) (k_preV (wc := (cO o [.ref (a 0), .ref (a2 0), .ref s0, .ref (x 0)]) ++ (cT cI x t)) hE hK hP hD [7, 36, 37] (by decide) rfl (ci := 3) (q0 := 7) rfl rfl []) rfl rfl hl.1 rfl (lv_room (Nat.le_of_ble_eq_true rfl)) dL_law_689 hf) hP hD hS (fun _ h9 => h9) [7, 36, 37] rfl rfl rfl (fun H locs hP hD hS => ?_)
  refine lv_aload_n hx hb dL_law_692 rfl (lv_at hl 2 rfl) ?_
  refine l_modi (index := 111) (mB := bp (bp mm 5 0 0) 5 2 0) (v := mm 5 2) C (mX4_clearBuffer l D cI cQ cJ am mm h ) (cwV 0 hts gL_law_X4_clearBuffer rfl rfl rfl (by decide +kernel) ⟨Nat.le_of_ble_eq_true rfl, Nat.le_of_ble_eq_true rfl⟩) hP hD hS hl.1 (Nat.le_of_ble_eq_true rfl) dL_law_693 hf (fun H locs hP hD hS => ?_)
  refine lv_icmp_eq (tgt := 1311) hx hb dL_law_696 (by decide) (fun _ => ?_) (fun h9 => absurd ho.1 h9)
  refine W.widen (k := 38 + 14 * (j + 1)) (n := 982 + 91 * (j + 1)) (by omega) (by omega) ?_
  exact kk _ H locs ls ⟨A, r, q, bp t 1 0 0, n, old, held, 0, B, _, _, g, ho.2, rfl⟩ hP hD hS hl
set_option maxHeartbeats 4000000 in
set_option maxRecDepth 100000 in
theorem lc_firstError (C : LA p l s m meth c b N xs D cI cQ cJ) {j : Nat} (hj : j < 512) {w : va_W} (hI : LI cI cQ cJ am x a a2 qo o s0 w0 j w) (hP : va_P D vwCl w H) (hD : va_D (AL s) w) (hS : va_S (AL s) s.heap H locs) (hl : lv_has ls 9 (lv0 b o am qo (5 * j))) (kk : ∀ (w : va_W) (H : Heap) (locs : List Loc) (ls : Array Slot), LI cI cQ cJ am x a a2 qo o s0 w0 (j + 1) w → va_P D vwCl w H → va_D (AL s) w → va_S (AL s) s.heap H locs → lv_has ls 9 (lv0 b o am qo (5 * j)) → W p l e room_1 s m #[Value.ref b] below meth c H locs (38 + 14 * (j + 1)) (982 + 91 * (j + 1)) Q (F0 m 1311 ls [])) : W p l e room_1 s m #[Value.ref b] below meth c H locs (38 + 14 * j) (982 + 91 * j) Q (F0 m 701 ls []) := by
  obtain ⟨A, r, q, t, n, old, held, L, B, mm, h, g, hV, rfl⟩ := hI
  have C0 := C
  obtain ⟨hx, hb, hml, hts, hown, hX, hbl, hE, hEX, hK, hfl, hN⟩ := C0
  have hf : 38 + 14 * j ≤ 617766 ∧ 982 + 91 * j ≤ 7242805 := ⟨by omega, by omega⟩
  have ho := o_first hV
  refine lv_aload_n hx hb dL_law_701 rfl (lv_at hl 1 rfl) ?_
  refine k_calli (wc := (cO o [.ref (a 0), .ref (a2 0), .ref s0, .ref (x 0)]) ++ (cT cI x t)) (w' := (cO o [.ref (a 0), .ref (a2 0), .ref s0, .ref (x 0)]) ++ (cT cI x t)) (wn := WL cI cQ cJ am qo mm h g (WX cI cQ o s0 w0 x a a2 A r q t n (zF A n) (nI old) (nI held) B)) (va_runV (As := []) (rest := []) ⟨hx, hb, hml, hown, hts⟩ (mX3_firstError l D cI cQ cJ o s0 a a2 x t L hV.2.2.2.1.1 hV.2.2.2.1.2.1 _) (cwV 0 hts gL_law_X3_firstError rfl rfl rfl (by decide +kernel) ⟨Nat.le_of_ble_eq_true rfl, Nat.le_of_ble_eq_true rfl⟩) (k_preV (wc := (cO o [.ref (a 0), .ref (a2 0), .ref s0, .ref (x 0)]) ++ (cT cI x t)) hE hK hP hD [7, 36, 37] (by decide) rfl (ci := 3) (q0 := 7) rfl rfl []) rfl rfl hl.1 rfl (lv_room (Nat.le_of_ble_eq_true rfl)) dL_law_702 hf) hP hD hS (fun _ h9 => h9) [7, 36, 37] rfl rfl rfl (fun H locs hP hD hS => ?_)
  refine lv_aload_n hx hb dL_law_705 rfl (lv_at hl 2 rfl) ?_
  refine l_modi (index := 115) (mB := raB (bp mm 5 0 0) L) (v := raB (bp mm 5 0 0) L 5 3) C (mX4_firstError l D cI cQ cJ am mm h L hV.2.2.2.2.1.1 hV.2.2.2.1.2.1) (cwV 0 hts gL_law_X4_firstError rfl rfl rfl (by decide +kernel) ⟨Nat.le_of_ble_eq_true rfl, Nat.le_of_ble_eq_true rfl⟩) hP hD hS hl.1 (Nat.le_of_ble_eq_true rfl) dL_law_706 hf (fun H locs hP hD hS => ?_)
  refine lv_icmp_eq (tgt := 1311) hx hb dL_law_709 (by decide) (fun _ => ?_) (fun h9 => absurd ho.1 h9)
  refine W.widen (k := 38 + 14 * (j + 1)) (n := 982 + 91 * (j + 1)) (by omega) (by omega) ?_
  exact kk _ H locs ls ⟨A, r, q, t, n, old, held, L, B, _, _, g, ho.2, rfl⟩ hP hD hS hl
set_option maxHeartbeats 4000000 in
set_option maxRecDepth 100000 in
theorem lc_bestClean (C : LA p l s m meth c b N xs D cI cQ cJ) {j : Nat} (hj : j < 512) {w : va_W} (hI : LI cI cQ cJ am x a a2 qo o s0 w0 j w) (hP : va_P D vwCl w H) (hD : va_D (AL s) w) (hS : va_S (AL s) s.heap H locs) (hl : lv_has ls 9 (lv0 b o am qo (5 * j))) (kk : ∀ (w : va_W) (H : Heap) (locs : List Loc) (ls : Array Slot), LI cI cQ cJ am x a a2 qo o s0 w0 (j + 1) w → va_P D vwCl w H → va_D (AL s) w → va_S (AL s) s.heap H locs → lv_has ls 9 (lv0 b o am qo (5 * j)) → W p l e room_1 s m #[Value.ref b] below meth c H locs (38 + 14 * (j + 1)) (982 + 91 * (j + 1)) Q (F0 m 1311 ls [])) : W p l e room_1 s m #[Value.ref b] below meth c H locs (38 + 14 * j) (982 + 91 * j) Q (F0 m 1174 ls []) := by
  obtain ⟨A, r, q, t, n, old, held, L, B, mm, h, g, hV, rfl⟩ := hI
  have C0 := C
  obtain ⟨hx, hb, hml, hts, hown, hX, hbl, hE, hEX, hK, hfl, hN⟩ := C0
  obtain ⟨q9, eq9⟩ : ∃ z : rB, z = (bcC r 6 0 q (-1) 0).1 := ⟨_, rfl⟩
  have hm := mX3_bestClean l D cI cQ cJ o s0 (x 0) a a2 r q
  rw [← eq9] at hm
  have hf : 38 + 14 * j ≤ 617766 ∧ 982 + 91 * j ≤ 7242805 := ⟨by omega, by omega⟩
  have ho := o_best hV q
  refine lv_aload_n hx hb dL_law_1174 rfl (lv_at hl 1 rfl) ?_
  refine k_calli (wc := (cO o [.ref (a 0), .ref (a2 0), .ref s0, .ref (x 0)]) ++ (cR cI a r) ++ (cR cI a2 q)) (w' := (cO o [.ref (a 0), .ref (a2 0), .ref s0, .ref (x 0)]) ++ (cR cI a r) ++ (cR cI a2 q9)) (wn := WL cI cQ cJ am qo mm h g (WX cI cQ o s0 w0 x a a2 A r q9 t n (zF A n) (nI old) (nI held) B)) (va_runV (As := []) (rest := []) ⟨hx, hb, hml, hown, hts⟩ (hm _) (cwV 0 hts gL_law_X3_bestClean rfl rfl rfl (by decide +kernel) ⟨Nat.le_of_ble_eq_true rfl, Nat.le_of_ble_eq_true rfl⟩) (k_preV (wc := (cO o [.ref (a 0), .ref (a2 0), .ref s0, .ref (x 0)]) ++ (cR cI a r) ++ (cR cI a2 q)) hE hK hP hD [7, 8, 9, 10, 11, 12, 13, 14, 15, 16, 17, 18, 19, 20, 21, 22, 23, 24, 25, 26, 27, 28, 29, 30, 31, 32, 33] (by decide) rfl (ci := 3) (q0 := 7) rfl rfl []) rfl rfl hl.1 rfl (lv_room (Nat.le_of_ble_eq_true rfl)) dL_law_1175 hf) hP hD hS (fun _ h9 => h9) [7, 8, 9, 10, 11, 12, 13, 14, 15, 16, 17, 18, 19, 20, 21, 22, 23, 24, 25, 26, 27, 28, 29, 30, 31, 32, 33] rfl rfl (by rw [show [7, 8, 9, 10, 11, 12, 13, 14, 15, 16, 17, 18, 19, 20, 21, 22, 23, 24, 25, 26, 27, 28, 29, 30, 31, 32, 33] = List.range' 7 27 from rfl]; exact putAt_W 7 27 rfl rfl rfl) (fun H locs hP hD hS => ?_)
  refine lv_aload_n hx hb dL_law_1178 rfl (lv_at hl 2 rfl) ?_
  refine l_modi (index := 144) (mB := (boL 6 0 (bp mm 5 0 0) (-1) 0).1) (v := (boL 6 0 (bp mm 5 0 0) (-1) 0).2) C (mX4_bestClean l D cI cQ cJ am mm h (okS_of hV.2.1 hV.2.2.1.1)) (cwV 0 hts gL_law_X4_bestClean rfl rfl rfl (by decide +kernel) ⟨Nat.le_of_ble_eq_true rfl, Nat.le_of_ble_eq_true rfl⟩) hP hD hS hl.1 (Nat.le_of_ble_eq_true rfl) dL_law_1179 hf (fun H locs hP hD hS => ?_)
  refine lv_icmp_eq (tgt := 1311) hx hb dL_law_1182 (by decide) (fun _ => ?_) (fun h9 => absurd ho.1 h9)
  refine W.widen (k := 38 + 14 * (j + 1)) (n := 982 + 91 * (j + 1)) (by omega) (by omega) ?_
  exact kk _ H locs ls ⟨A, r, q9, t, n, old, held, L, B, _, _, g, ho.2, rfl⟩ hP hD hS hl
set_option maxHeartbeats 4000000 in
set_option maxRecDepth 100000 in
theorem lc_dryIn (C : LA p l s m meth c b N xs D cI cQ cJ) {j : Nat} (hj : j < 512) {w : va_W} (hI : LI cI cQ cJ am x a a2 qo o s0 w0 j w) (hP : va_P D vwCl w H) (hD : va_D (AL s) w) (hS : va_S (AL s) s.heap H locs) (hl : lv_has ls 9 (lv0 b o am qo (5 * j))) (kk : ∀ (w : va_W) (H : Heap) (locs : List Loc) (ls : Array Slot), LI cI cQ cJ am x a a2 qo o s0 w0 (j + 1) w → va_P D vwCl w H → va_D (AL s) w → va_S (AL s) s.heap H locs → lv_has ls 9 (lv0 b o am qo (5 * j)) → W p l e room_1 s m #[Value.ref b] below meth c H locs (38 + 14 * (j + 1)) (982 + 91 * (j + 1)) Q (F0 m 1311 ls [])) : W p l e room_1 s m #[Value.ref b] below meth c H locs (38 + 14 * j) (982 + 91 * j) Q (F0 m 1243 ls []) := by
  obtain ⟨A, r, q, t, n, old, held, L, B, mm, h, g, hV, rfl⟩ := hI
  have C0 := C
  obtain ⟨hx, hb, hml, hts, hown, hX, hbl, hE, hEX, hK, hfl, hN⟩ := C0
  obtain ⟨q9, eq9⟩ : ∃ z : rB, z = (dyC 301 0 r).1 := ⟨_, rfl⟩
  have hm := mX3_dryIn l D cI cQ cJ o s0 (x 0) a a2 r q
  rw [← eq9] at hm
  have hf : 38 + 14 * j ≤ 617766 ∧ 982 + 91 * j ≤ 7242805 := ⟨by omega, by omega⟩
  have ho := o_dry hV hj
  refine lv_aload_n hx hb dL_law_1243 rfl (lv_at hl 1 rfl) ?_
  refine k_calli (wc := (cO o [.ref (a 0), .ref (a2 0), .ref s0, .ref (x 0)]) ++ (cR cI a r) ++ (cR cI a2 q)) (w' := (cO o [.ref (a 0), .ref (a2 0), .ref s0, .ref (x 0)]) ++ (cR cI a r) ++ (cR cI a2 q9)) (wn := WL cI cQ cJ am qo mm h g (WX cI cQ o s0 w0 x a a2 A r q9 t n (zF A n) (nI old) (nI held) B)) (va_runV (As := []) (rest := []) ⟨hx, hb, hml, hown, hts⟩ (hm _) (cwV 0 hts gL_law_X3_dryIn rfl rfl rfl (by decide +kernel) ⟨Nat.le_of_ble_eq_true rfl, Nat.le_of_ble_eq_true rfl⟩) (k_preV (wc := (cO o [.ref (a 0), .ref (a2 0), .ref s0, .ref (x 0)]) ++ (cR cI a r) ++ (cR cI a2 q)) hE hK hP hD [7, 8, 9, 10, 11, 12, 13, 14, 15, 16, 17, 18, 19, 20, 21, 22, 23, 24, 25, 26, 27, 28, 29, 30, 31, 32, 33] (by decide) rfl (ci := 3) (q0 := 7) rfl rfl []) rfl rfl hl.1 rfl (lv_room (Nat.le_of_ble_eq_true rfl)) dL_law_1244 hf) hP hD hS (fun _ h9 => h9) [7, 8, 9, 10, 11, 12, 13, 14, 15, 16, 17, 18, 19, 20, 21, 22, 23, 24, 25, 26, 27, 28, 29, 30, 31, 32, 33] rfl rfl (by rw [show [7, 8, 9, 10, 11, 12, 13, 14, 15, 16, 17, 18, 19, 20, 21, 22, 23, 24, 25, 26, 27, 28, 29, 30, 31, 32, 33] = List.range' 7 27 from rfl]; exact putAt_W 7 27 rfl rfl rfl) (fun H locs hP hD hS => ?_)
  refine lv_aload_n hx hb dL_law_1247 rfl (lv_at hl 2 rfl) ?_
  refine l_modi (index := 151) (mB := asd (bp mm 5 0 0)) (v := udV (bp mm 5 0 0)) C (mX4_dryIn l D cI cQ cJ am mm h (okS_of hV.2.1 hV.2.2.1.1)) (cwV 0 hts gL_law_X4_dryIn rfl rfl rfl (by decide +kernel) ⟨Nat.le_of_ble_eq_true rfl, Nat.le_of_ble_eq_true rfl⟩) hP hD hS hl.1 (Nat.le_of_ble_eq_true rfl) dL_law_1248 hf (fun H locs hP hD hS => ?_)
  refine lv_icmp_eq (tgt := 1311) hx hb dL_law_1251 (by decide) (fun _ => ?_) (fun h9 => absurd ho.1 h9)
  refine W.widen (k := 38 + 14 * (j + 1)) (n := 982 + 91 * (j + 1)) (by omega) (by omega) ?_
  exact kk _ H locs ls ⟨A, r, q9, t, n, old, held, L, B, _, _, g, ho.2, rfl⟩ hP hD hS hl
set_option maxHeartbeats 4000000 in
set_option maxRecDepth 100000 in
theorem lc_drainedShare (hF : FPok) (C : LA p l s m meth c b N xs D cI cQ cJ) {j : Nat} (hj : j < 512) {w : va_W} (hI : LI cI cQ cJ am x a a2 qo o s0 w0 j w) (hP : va_P D vwCl w H) (hD : va_D (AL s) w) (hS : va_S (AL s) s.heap H locs) (hl : lv_has ls 9 (lv0 b o am qo (5 * j))) (kk : ∀ (w : va_W) (H : Heap) (locs : List Loc) (ls : Array Slot), LI cI cQ cJ am x a a2 qo o s0 w0 (j + 1) w → va_P D vwCl w H → va_D (AL s) w → va_S (AL s) s.heap H locs → lv_has ls 9 (lv0 b o am qo (5 * j)) → W p l e room_1 s m #[Value.ref b] below meth c H locs (38 + 14 * (j + 1)) (982 + 91 * (j + 1)) Q (F0 m 1311 ls [])) : W p l e room_1 s m #[Value.ref b] below meth c H locs (38 + 14 * j) (982 + 91 * j) Q (F0 m 1256 ls []) := by
  obtain ⟨A, r, q, t, n, old, held, L, B, mm, h, g, hV, rfl⟩ := hI
  have C0 := C
  obtain ⟨hx, hb, hml, hts, hown, hX, hbl, hE, hEX, hK, hfl, hN⟩ := C0
  have hf : 38 + 14 * j ≤ 617766 ∧ 982 + 91 * j ≤ 7242805 := ⟨by omega, by omega⟩
  have ho := o_share hV
  refine lv_aload_n hx hb dL_law_1256 rfl (lv_at hl 1 rfl) ?_
  refine k_calld (wc := (cO o [.ref (a 0), .ref (a2 0), .ref s0, .ref (x 0)]) ++ (cR cI a r)) (w' := (cO o [.ref (a 0), .ref (a2 0), .ref s0, .ref (x 0)]) ++ (cR cI a r)) (wn := WL cI cQ cJ am qo mm h g (WX cI cQ o s0 w0 x a a2 A r q t n (zF A n) (nI old) (nI held) B)) (va_runV (As := []) (rest := []) ⟨hx, hb, hml, hown, hts⟩ (mX3_drainedShare l D cI cQ cJ o s0 (x 0) a a2 r hF _) (cwV 0 hts gL_law_X3_drainedShare rfl rfl rfl (by decide +kernel) ⟨Nat.le_of_ble_eq_true rfl, Nat.le_of_ble_eq_true rfl⟩) (k_preV (wc := (cO o [.ref (a 0), .ref (a2 0), .ref s0, .ref (x 0)]) ++ (cR cI a r)) hE hK hP hD [7, 8, 9, 10, 11, 12, 13, 14, 15, 16, 17, 18, 19, 20] (by decide) rfl (ci := 3) (q0 := 7) rfl rfl []) rfl rfl hl.1 rfl (lv_room (Nat.le_of_ble_eq_true rfl)) dL_law_1257 hf) hP hD hS (fun _ h9 => h9) [7, 8, 9, 10, 11, 12, 13, 14, 15, 16, 17, 18, 19, 20] rfl rfl (putAt_same _ _ _ rfl) (fun H locs hP hD hS => ?_)
  refine lv_eqv (congrArg Value.double ho.1) ?_
  refine lv_dstore (lv' := [(5, .double (shM (bp mm 5 0 0))), (0, .ref b), (1, .ref o), (2, .ref (am 0)), (3, .ref qo), (4, .int (nI (5 * j)))]) hx hb dL_law_1260 hl (by decide) rfl (fun ls hl => ?_)
  refine lv_aload_n hx hb dL_law_1262 rfl (lv_at hl 3 rfl) ?_
  refine l_modd (index := 156) (rest := []) (mB := bp mm 5 0 0) (v := shM (bp mm 5 0 0)) C (mX4_drainedShare l D cI cQ cJ am mm h hF) (cwV 0 hts gL_law_X4_drainedShare rfl rfl rfl (by decide +kernel) ⟨Nat.le_of_ble_eq_true rfl, Nat.le_of_ble_eq_true rfl⟩) hP hD hS hl.1 (Nat.le_of_ble_eq_true rfl) dL_law_1263 hf (fun H locs hP hD hS => ?_)
  refine lv_dstore (lv' := [(7, .double (shM (bp mm 5 0 0))), (5, .double (shM (bp mm 5 0 0))), (0, .ref b), (1, .ref o), (2, .ref (am 0)), (3, .ref qo), (4, .int (nI (5 * j)))]) hx hb dL_law_1266 hl (by decide) rfl (fun ls hl => ?_)
  refine lv_dload hx hb dL_law_1268 (lv_at hl 1 rfl) ?_
  refine lv_dload hx hb dL_law_1270 (lv_at hl 0 rfl) ?_
  refine lv_dcmp hx hb dL_law_1272 ?_
  refine lv_if_eq (tgt := 1294) hx hb dL_law_1273 (by decide) (fun _ => ?_) (fun h9 => absurd (hF.2 _) h9)
  refine lv_goto (tgt := 1311) hx hb dL_law_1294 (by decide) ?_
  refine W.widen (k := 38 + 14 * (j + 1)) (n := 982 + 91 * (j + 1)) (by omega) (by omega) ?_
  exact kk _ H locs ls ⟨A, r, q, t, n, old, held, L, B, _, _, g, ho.2, rfl⟩ hP hD hS (lv_sub hl [2, 3, 4, 5, 6] rfl)
set_option maxHeartbeats 4000000 in
set_option maxRecDepth 100000 in
theorem lc_digest (hF : FPok) (hBS : ∀ (r : rB) (K : Int), Gw K r → K ≤ 2000000000 → BSok (shC r)) (C : LA p l s m meth c b N xs D cI cQ cJ) {j : Nat} (hj : j < 512) {w : va_W} (hI : LI cI cQ cJ am x a a2 qo o s0 w0 j w) (hP : va_P D vwCl w H) (hD : va_D (AL s) w) (hS : va_S (AL s) s.heap H locs) (hl : lv_has ls 9 (lv0 b o am qo (5 * j))) (kk : ∀ (w : va_W) (H : Heap) (locs : List Loc) (ls : Array Slot), LI cI cQ cJ am x a a2 qo o s0 w0 (j + 1) w → va_P D vwCl w H → va_D (AL s) w → va_S (AL s) s.heap H locs → lv_has ls 9 (lv0 b o am qo (5 * j)) → W p l e room_1 s m #[Value.ref b] below meth c H locs (38 + 14 * (j + 1)) (982 + 91 * (j + 1)) Q (F0 m 1311 ls [])) : W p l e room_1 s m #[Value.ref b] below meth c H locs (38 + 14 * j) (982 + 91 * j) Q (F0 m 1297 ls []) := by
  obtain ⟨A, r, q, t, n, old, held, L, B, mm, h, g, hV, rfl⟩ := hI
  have C0 := C
  obtain ⟨hx, hb, hml, hts, hown, hX, hbl, hE, hEX, hK, hfl, hN⟩ := C0
  have hle := KK_le (j := j) (L := L) (by omega)
  obtain ⟨q9, eq9⟩ : ∃ z : rB, z = (dyC 301 0 r).1 := ⟨_, rfl⟩
  have hm := mX3_digest l D cI cQ cJ o s0 w0 a a2 x r q t (zF A n) (nI old) (nI held) hF (hBS r _ hV.2.2.1.2.1 (by omega)) L hV.2.2.2.1.1 hV.2.2.2.1.2.1
  rw [← eq9] at hm
  have hf : 38 + 14 * j ≤ 617766 ∧ 982 + 91 * j ≤ 7242805 := ⟨by omega, by omega⟩
  have ho := o_digest hV hj
  refine lv_aload_n hx hb dL_law_1297 rfl (lv_at hl 1 rfl) ?_
  refine k_calll (wc := (cO o [.ref (a 0), .ref (a2 0), .ref s0, .ref (x 0)]) ++ (cR cI a r) ++ (cR cI a2 q) ++ (cS cQ s0 w0 (zF A n) (nI old) (nI held)) ++ (cT cI x t)) (w' := (cO o [.ref (a 0), .ref (a2 0), .ref s0, .ref (x 0)]) ++ (cR cI a r) ++ (cR cI a2 q9) ++ (cS cQ s0 w0 (zF A n) (nI old) (nI held)) ++ (cT cI x t)) (wn := WL cI cQ cJ am qo mm h g (WX cI cQ o s0 w0 x a a2 A r q9 t n (zF A n) (nI old) (nI held) B)) (va_runV (As := []) (rest := []) ⟨hx, hb, hml, hown, hts⟩ (hm _) (cwV 0 hts gL_law_X3_digest rfl rfl rfl (by decide +kernel) ⟨Nat.le_of_ble_eq_true rfl, Nat.le_of_ble_eq_true rfl⟩) (k_preV (wc := (cO o [.ref (a 0), .ref (a2 0), .ref s0, .ref (x 0)]) ++ (cR cI a r) ++ (cR cI a2 q) ++ (cS cQ s0 w0 (zF A n) (nI old) (nI held)) ++ (cT cI x t)) hE hK hP hD [7, 8, 9, 10, 11, 12, 13, 14, 15, 16, 17, 18, 19, 20, 21, 22, 23, 24, 25, 26, 27, 28, 29, 30, 31, 32, 33, 34, 35, 36, 37] (by decide) rfl (ci := 3) (q0 := 7) rfl rfl []) rfl rfl hl.1 rfl (lv_room (Nat.le_of_ble_eq_true rfl)) dL_law_1298 hf) hP hD hS (fun _ h9 => h9) [7, 8, 9, 10, 11, 12, 13, 14, 15, 16, 17, 18, 19, 20, 21, 22, 23, 24, 25, 26, 27, 28, 29, 30, 31, 32, 33, 34, 35, 36, 37] rfl rfl (by rw [show [7, 8, 9, 10, 11, 12, 13, 14, 15, 16, 17, 18, 19, 20, 21, 22, 23, 24, 25, 26, 27, 28, 29, 30, 31, 32, 33, 34, 35, 36, 37] = List.range' 7 31 from rfl]; exact putAt_V 7 31 rfl rfl rfl) (fun H locs hP hD hS => ?_)
  refine lv_aload_n hx hb dL_law_1301 rfl (lv_at hl 2 rfl) ?_
  refine l_modl (index := 161) (mB := dgB mm) (v := dgV mm L) C (mX4_digest l D cI cQ cJ am mm h (okS_of hV.2.1 hV.2.2.1.1) hF L hV.2.2.2.2.1.1 hV.2.2.2.1.2.1) (cwV 0 hts gL_law_X4_digest rfl rfl rfl (by decide +kernel) ⟨Nat.le_of_ble_eq_true rfl, Nat.le_of_ble_eq_true rfl⟩) hP hD hS hl.1 (Nat.le_of_ble_eq_true rfl) dL_law_1302 hf (fun H locs hP hD hS => ?_)
  refine W.lcmp hx hb dL_law_1305 ?_
  refine lv_if_eq (tgt := 1311) hx hb dL_law_1306 (by decide) (fun _ => ?_) (fun h9 => absurd ((lg_cmp_eq _ _).mpr ho.1) h9)
  refine W.widen (k := 38 + 14 * (j + 1)) (n := 982 + 91 * (j + 1)) (by omega) (by omega) ?_
  exact kk _ H locs ls ⟨A, r, q9, t, n, old, held, L, B, _, _, g, ho.2, rfl⟩ hP hD hS hl
end LD
