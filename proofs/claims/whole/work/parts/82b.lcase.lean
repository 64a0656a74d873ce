/-! the law, a call each time round: weeks, append, play, undo, planeOf, gutterOf -/
section LC
variable {p : Program} {l : Launch} {e : Env} {s : State} {m : MethodId} {below : List Frame} {meth : Method} {c : Code} {b N : Nat} {xs : Nat → Int32} {D : va_G} {cI cQ cJ : ClassId} {H : Heap} {locs : List Loc} {Q : State → Prop} {ls : Array Slot} {am x a a2 : Nat → Nat} {qo o s0 w0 : Nat}
set_option maxHeartbeats 4000000 in
set_option maxRecDepth 100000 in
theorem lc_weeks (C : LA p l s m meth c b N xs D cI cQ cJ) {j : Nat} (hj : j < 512) (hjN : 5 * j + 5 ≤ N) {w : va_W} (hI : LI cI cQ cJ am x a a2 qo o s0 w0 j w) (hP : va_P D vwCl w H) (hD : va_D (AL s) w) (hS : va_S (AL s) s.heap H locs) (hl : lv_has ls 9 (lv0 b o am qo (5 * j))) (kk : ∀ (w : va_W) (H : Heap) (locs : List Loc) (ls : Array Slot), LI cI cQ cJ am x a a2 qo o s0 w0 (j + 1) w → va_P D vwCl w H → va_D (AL s) w → va_S (AL s) s.heap H locs → lv_has ls 9 (lv0 b o am qo (5 * j)) → W p l e room_1 s m #[Value.ref b] below meth c H locs (38 + 14 * (j + 1)) (982 + 91 * (j + 1)) Q (F0 m 1311 ls [])) : W p l e room_1 s m #[Value.ref b] below meth c H locs (38 + 14 * j) (982 + 91 * j) Q (F0 m 576 ls []) := by
  obtain ⟨A, r, q, t, n, old, held, L, B, mm, h, g, hV, rfl⟩ := hI
  have C0 := C
  obtain ⟨hx, hb, hml, hts, hown, hX, hbl, hE, hEX, hK, hfl, hN⟩ := C0
  refine lv_aload_n hx hb dL_law_576 rfl (lv_at hl 1 rfl) ?_
  refine l_arg (d := 1) C hS hjN (by omega) (by decide) (lv_at hl 0 rfl) (lv_at hl 4 rfl) dL_law_577 dL_law_578 dL_law_580 dL_law_581 dL_law_582 ?_
  refine lv_aload_n hx hb dL_law_583 rfl (lv_at hl 3 rfl) ?_
  have hk : cWks (xs (5 * j + 1)) = 0 ∨ cWks (xs (5 * j + 1)) = 2 := by
    unfold cWks
    (repeat' split) <;> omega
  have hkl : ¬ cWks (xs (5 * j + 1)) = 0 → ¬ nI (cWks (xs (5 * j + 1)) - 1) = 0 := by
    intro h9
    rcases hk with e9 | e9
    · exact absurd e9 h9
    · rw [e9]; decide
  have ho := o_weeks hV (xs (5 * j + 1))
  refine l_help (index := 102) (av := [.ref o, .int (xs (5 * j + 1)), .ref qo]) (wr := cM cI am mm h) C 14 91 rfl rfl (hL_weeks l D cI cQ cJ o qo g (WX cI cQ o s0 w0 x a a2 A r q t n (zF A n) (nI old) (nI held) B) _ rfl (xs (5 * j + 1)) _ _ (xX3_weeks l hfl D cI cQ cJ o s0 w0 x a a2 A r q t n old held B (xs (5 * j + 1)) hV.1) hk) (vx_cwSW 3 hts gL_law_L_weeks rfl rfl rfl (by decide +kernel) ⟨Nat.le_of_ble_eq_true rfl, Nat.le_of_ble_eq_true rfl⟩) rfl hP hD hS hl.1 rfl dL_law_584 ⟨by omega, by omega⟩ (fun z y9 w2 g1 H locs hd hg hP hD hS => ?_)
  have hR : HR cI cQ x a a2 o s0 w0 j (wksB mm held (xs (5 * j + 1))) (wksV mm held (xs (5 * j + 1))) z g1 w2 := by
    rcases hd with ⟨h3, h4, h5⟩ | ⟨h3, h4, x9, ⟨u9, e1, e2⟩, h6⟩
    · exact ⟨A, r, q, t, n, old, held, L, B, h5, (ho.1 h3).2, (ho.1 h3).1.trans h4.symm, fun h8 => absurd (h4.symm.trans h8) (hkl h3)⟩
    · have h7 := ho.2 h3
      exact ⟨u9, _, q, _, _, _, _, _, _, e2, h7.2.2, h7.2.1.trans h4.symm, fun _ => (hg h3).trans (h6.trans (by rw [h7.1, e1]))⟩
  obtain ⟨A1, r1, q1, t1, n1, old1, held1, L1, B1, hw, hV1, hz, hv⟩ := hR
  refine lv_istore (lv' := [(5, .int z), (0, .ref b), (1, .ref o), (2, .ref (am 0)), (3, .ref qo), (4, .int (nI (5 * j)))]) hx hb dL_law_587 hl (by decide) rfl (fun ls hl => ?_)
  refine lv_aload_n hx hb dL_law_589 rfl (lv_at hl 3 rfl) ?_
  refine l_arg (d := 1) C hS hjN (by omega) (by decide) (lv_at hl 1 rfl) (lv_at hl 5 rfl) dL_law_590 dL_law_591 dL_law_593 dL_law_594 dL_law_595 ?_
  refine l_model (index := 104) (As := [.int (xs (5 * j + 1))]) (mB := wksB mm held (xs (5 * j + 1))) (v := wksV mm held (xs (5 * j + 1))) C (mX4_weeks l D cI cQ cJ am mm h held hV.2.2.2.2.1.2 hV.1.2.2.1 (xs (5 * j + 1))) (cwV 1 hts gL_law_X4_weeks rfl rfl rfl (by decide +kernel) ⟨Nat.le_of_ble_eq_true rfl, Nat.le_of_ble_eq_true rfl⟩) rfl hP hD hS hl.1 rfl dL_law_596 ⟨by omega, by omega⟩ (fun H locs hP hD hS => ?_)
  refine lv_istore (lv' := [(6, .int (wksV mm held (xs (5 * j + 1)))), (5, .int z), (0, .ref b), (1, .ref o), (2, .ref (am 0)), (3, .ref qo), (4, .int (nI (5 * j)))]) hx hb dL_law_599 hl (by decide) rfl (fun ls hl => ?_)
  refine l_tail (T := 601) C hz hv hP hD hS hl ⟨by omega, by omega⟩ dL_law_601 dL_law_602 dL_law_605 dL_law_607 dL_law_612 dL_law_614 dL_law_617 dL_law_618 dL_law_619 dL_law_620 dL_law_622 dL_law_623 dL_law_624 dL_law_629 (by decide) (fun H locs hP hD hS hl => ?_)
  refine W.widen (k := 38 + 14 * (j + 1)) (n := 982 + 91 * (j + 1)) (by omega) (by omega) ?_
  exact kk _ H locs ls ⟨A1, r1, q1, t1, n1, old1, held1, L1, B1, _, h, g1, hV1, by rw [hw]⟩ hP hD hS hl
set_option maxHeartbeats 4000000 in
set_option maxRecDepth 100000 in
theorem lc_append (C : LA p l s m meth c b N xs D cI cQ cJ) {j : Nat} (hj : j < 512) (hjN : 5 * j + 5 ≤ N) {w : va_W} (hI : LI cI cQ cJ am x a a2 qo o s0 w0 j w) (hP : va_P D vwCl w H) (hD : va_D (AL s) w) (hS : va_S (AL s) s.heap H locs) (hl : lv_has ls 9 (lv0 b o am qo (5 * j))) (kk : ∀ (w : va_W) (H : Heap) (locs : List Loc) (ls : Array Slot), LI cI cQ cJ am x a a2 qo o s0 w0 (j + 1) w → va_P D vwCl w H → va_D (AL s) w → va_S (AL s) s.heap H locs → lv_has ls 9 (lv0 b o am qo (5 * j)) → W p l e room_1 s m #[Value.ref b] below meth c H locs (38 + 14 * (j + 1)) (982 + 91 * (j + 1)) Q (F0 m 1311 ls [])) : W p l e room_1 s m #[Value.ref b] below meth c H locs (38 + 14 * j) (982 + 91 * j) Q (F0 m 632 ls []) := by
  obtain ⟨A, r, q, t, n, old, held, L, B, mm, h, g, hV, rfl⟩ := hI
  have C0 := C
  obtain ⟨hx, hb, hml, hts, hown, hX, hbl, hE, hEX, hK, hfl, hN⟩ := C0
  refine lv_aload_n hx hb dL_law_632 rfl (lv_at hl 1 rfl) ?_
  refine l_arg (d := 1) C hS hjN (by omega) (by decide) (lv_at hl 0 rfl) (lv_at hl 4 rfl) dL_law_633 dL_law_634 dL_law_636 dL_law_637 dL_law_638 ?_
  refine lv_aload_n hx hb dL_law_639 rfl (lv_at hl 3 rfl) ?_
  have hk : cApp t (xs (5 * j + 1)) = 0 ∨ cApp t (xs (5 * j + 1)) = 2 ∨ cApp t (xs (5 * j + 1)) = 3 := by
    unfold cApp
    (repeat' split) <;> omega
  have hkl : ¬ cApp t (xs (5 * j + 1)) = 0 → ¬ nI (cApp t (xs (5 * j + 1)) - 1) = 0 := by
    intro h9
    rcases hk with e9 | e9 | e9
    · exact absurd e9 h9
    · rw [e9]; decide
    · rw [e9]; decide
  have ho := o_append hV (xs (5 * j + 1))
  refine l_help (index := 105) (av := [.ref o, .int (xs (5 * j + 1)), .ref qo]) (wr := cM cI am mm h) C 1 6 rfl rfl (hL_append l D cI cQ cJ o qo g (WX cI cQ o s0 w0 x a a2 A r q t n (zF A n) (nI old) (nI held) B) _ rfl (xs (5 * j + 1)) _ _ (xX3_append l hfl D cI cQ cJ o s0 w0 x a a2 A r q t n old held B (xs (5 * j + 1)) L hV.2.2.2.1.1 hV.2.2.2.1.2.1) hk) (vx_cwSW 3 hts gL_law_L_append rfl rfl rfl (by decide +kernel) ⟨Nat.le_of_ble_eq_true rfl, Nat.le_of_ble_eq_true rfl⟩) rfl hP hD hS hl.1 rfl dL_law_640 ⟨by omega, by omega⟩ (fun z y9 w2 g1 H locs hd hg hP hD hS => ?_)
  have hR : HR cI cQ x a a2 o s0 w0 j (appB mm L (xs (5 * j + 1))) (appV mm L (xs (5 * j + 1))) z g1 w2 := by
    rcases hd with ⟨h3, h4, h5⟩ | ⟨h3, h4, x9, ⟨e1, e2⟩, h6⟩
    · exact ⟨A, r, q, t, n, old, held, L, B, h5, (ho.1 h3).2, (ho.1 h3).1.trans h4.symm, fun h8 => absurd (h4.symm.trans h8) (hkl h3)⟩
    · have h7 := ho.2 h3
      exact ⟨A, _, q, _, _, _, _, _, _, e2, h7.2.2, h7.2.1.trans h4.symm, fun _ => (hg h3).trans (h6.trans (by rw [h7.1, e1]))⟩
  obtain ⟨A1, r1, q1, t1, n1, old1, held1, L1, B1, hw, hV1, hz, hv⟩ := hR
  refine lv_istore (lv' := [(5, .int z), (0, .ref b), (1, .ref o), (2, .ref (am 0)), (3, .ref qo), (4, .int (nI (5 * j)))]) hx hb dL_law_643 hl (by decide) rfl (fun ls hl => ?_)
  refine lv_aload_n hx hb dL_law_645 rfl (lv_at hl 3 rfl) ?_
  refine l_arg (d := 1) C hS hjN (by omega) (by decide) (lv_at hl 1 rfl) (lv_at hl 5 rfl) dL_law_646 dL_law_647 dL_law_649 dL_law_650 dL_law_651 ?_
  refine l_model (index := 107) (As := [.int (xs (5 * j + 1))]) (mB := appB mm L (xs (5 * j + 1))) (v := appV mm L (xs (5 * j + 1))) C (mX4_append l D cI cQ cJ am mm h L hV.2.2.2.2.1.1 hV.2.2.2.1.2.1 (xs (5 * j + 1))) (cwV 1 hts gL_law_X4_append rfl rfl rfl (by decide +kernel) ⟨Nat.le_of_ble_eq_true rfl, Nat.le_of_ble_eq_true rfl⟩) rfl hP hD hS hl.1 rfl dL_law_652 ⟨by omega, by omega⟩ (fun H locs hP hD hS => ?_)
  refine lv_istore (lv' := [(6, .int (appV mm L (xs (5 * j + 1)))), (5, .int z), (0, .ref b), (1, .ref o), (2, .ref (am 0)), (3, .ref qo), (4, .int (nI (5 * j)))]) hx hb dL_law_655 hl (by decide) rfl (fun ls hl => ?_)
  refine l_tail (T := 657) C hz hv hP hD hS hl ⟨by omega, by omega⟩ dL_law_657 dL_law_658 dL_law_661 dL_law_663 dL_law_668 dL_law_670 dL_law_673 dL_law_674 dL_law_675 dL_law_676 dL_law_678 dL_law_679 dL_law_680 dL_law_685 (by decide) (fun H locs hP hD hS hl => ?_)
  refine W.widen (k := 38 + 14 * (j + 1)) (n := 982 + 91 * (j + 1)) (by omega) (by omega) ?_
  exact kk _ H locs ls ⟨A1, r1, q1, t1, n1, old1, held1, L1, B1, _, h, g1, hV1, by rw [hw]⟩ hP hD hS hl
set_option maxHeartbeats 4000000 in
set_option maxRecDepth 100000 in
theorem lc_play (C : LA p l s m meth c b N xs D cI cQ cJ) {j : Nat} (hj : j < 512) (hjN : 5 * j + 5 ≤ N) {w : va_W} (hI : LI cI cQ cJ am x a a2 qo o s0 w0 j w) (hP : va_P D vwCl w H) (hD : va_D (AL s) w) (hS : va_S (AL s) s.heap H locs) (hl : lv_has ls 9 (lv0 b o am qo (5 * j))) (kk : ∀ (w : va_W) (H : Heap) (locs : List Loc) (ls : Array Slot), LI cI cQ cJ am x a a2 qo o s0 w0 (j + 1) w → va_P D vwCl w H → va_D (AL s) w → va_S (AL s) s.heap H locs → lv_has ls 9 (lv0 b o am qo (5 * j)) → W p l e room_1 s m #[Value.ref b] below meth c H locs (38 + 14 * (j + 1)) (982 + 91 * (j + 1)) Q (F0 m 1311 ls [])) : W p l e room_1 s m #[Value.ref b] below meth c H locs (38 + 14 * j) (982 + 91 * j) Q (F0 m 714 ls []) := by
  obtain ⟨A, r, q, t, n, old, held, L, B, mm, h, g, hV, rfl⟩ := hI
  have C0 := C
  obtain ⟨hx, hb, hml, hts, hown, hX, hbl, hE, hEX, hK, hfl, hN⟩ := C0
  refine lv_aload_n hx hb dL_law_714 rfl (lv_at hl 1 rfl) ?_
  refine lv_aload_n hx hb dL_law_715 rfl (lv_at hl 3 rfl) ?_
  have hk : cPly t L = 0 ∨ cPly t L = 2 := by
    unfold cPly
    (repeat' split) <;> omega
  have hkl : ¬ cPly t L = 0 → ¬ nI (cPly t L - 1) = 0 := by
    intro h9
    rcases hk with e9 | e9
    · exact absurd e9 h9
    · rw [e9]; decide
  have ho := o_play hV hj
  refine l_help (index := 116) (av := [.ref o, .ref qo]) (wr := cM cI am mm h) C 14 91 rfl rfl (hL_play l D cI cQ cJ o qo g (WX cI cQ o s0 w0 x a a2 A r q t n (zF A n) (nI old) (nI held) B) _ rfl  _ _ (xX3_play l hfl D cI cQ cJ o s0 w0 x a a2 A r q t n old held B  hV.1 L hV.2.2.2.1.1 hV.2.2.2.1.2.1) hk) (vx_cwSW 2 hts gL_law_L_play rfl rfl rfl (by decide +kernel) ⟨Nat.le_of_ble_eq_true rfl, Nat.le_of_ble_eq_true rfl⟩) rfl hP hD hS hl.1 rfl dL_law_716 ⟨by omega, by omega⟩ (fun z y9 w2 g1 H locs hd hg hP hD hS => ?_)
  have hR : HR cI cQ x a a2 o s0 w0 j (plyB mm held L) (plyV mm held L) z g1 w2 := by
    rcases hd with ⟨h3, h4, h5⟩ | ⟨h3, h4, x9, ⟨u9, e1, e2⟩, h6⟩
    · exact ⟨A, r, q, t, n, old, held, L, B, h5, (ho.1 h3).2, (ho.1 h3).1.trans h4.symm, fun h8 => absurd (h4.symm.trans h8) (hkl h3)⟩
    · have h7 := ho.2 h3
      exact ⟨u9, _, q, _, _, _, _, _, _, e2, h7.2.2, h7.2.1.trans h4.symm, fun _ => (hg h3).trans (h6.trans (by rw [h7.1, e1]))⟩
  obtain ⟨A1, r1, q1, t1, n1, old1, held1, L1, B1, hw, hV1, hz, hv⟩ := hR
  refine lv_istore (lv' := [(5, .int z), (0, .ref b), (1, .ref o), (2, .ref (am 0)), (3, .ref qo), (4, .int (nI (5 * j)))]) hx hb dL_law_719 hl (by decide) rfl (fun ls hl => ?_)
  refine lv_aload_n hx hb dL_law_721 rfl (lv_at hl 3 rfl) ?_
  refine l_model (index := 119) (As := []) (mB := plyB mm held L) (v := plyV mm held L) C (mX4_play l D cI cQ cJ am mm h held hV.2.2.2.2.1.2 hV.1.2.2.1 (okS_of hV.2.1 hV.2.2.1.1) L hV.2.2.2.2.1.1 hV.2.2.2.1.2.1 ) (cwV 0 hts gL_law_X4_play rfl rfl rfl (by decide +kernel) ⟨Nat.le_of_ble_eq_true rfl, Nat.le_of_ble_eq_true rfl⟩) rfl hP hD hS hl.1 rfl dL_law_722 ⟨by omega, by omega⟩ (fun H locs hP hD hS => ?_)
  refine lv_istore (lv' := [(6, .int (plyV mm held L)), (5, .int z), (0, .ref b), (1, .ref o), (2, .ref (am 0)), (3, .ref qo), (4, .int (nI (5 * j)))]) hx hb dL_law_725 hl (by decide) rfl (fun ls hl => ?_)
  refine l_tail (T := 727) C hz hv hP hD hS hl ⟨by omega, by omega⟩ dL_law_727 dL_law_728 dL_law_731 dL_law_733 dL_law_738 dL_law_740 dL_law_743 dL_law_744 dL_law_745 dL_law_746 dL_law_748 dL_law_749 dL_law_750 dL_law_755 (by decide) (fun H locs hP hD hS hl => ?_)
  refine W.widen (k := 38 + 14 * (j + 1)) (n := 982 + 91 * (j + 1)) (by omega) (by omega) ?_
  exact kk _ H locs ls ⟨A1, r1, q1, t1, n1, old1, held1, L1, B1, _, h, g1, hV1, by rw [hw]⟩ hP hD hS hl
set_option maxHeartbeats 4000000 in
set_option maxRecDepth 100000 in
theorem lc_undo (C : LA p l s m meth c b N xs D cI cQ cJ) {j : Nat} (hj : j < 512) (hjN : 5 * j + 5 ≤ N) {w : va_W} (hI : LI cI cQ cJ am x a a2 qo o s0 w0 j w) (hP : va_P D vwCl w H) (hD : va_D (AL s) w) (hS : va_S (AL s) s.heap H locs) (hl : lv_has ls 9 (lv0 b o am qo (5 * j))) (kk : ∀ (w : va_W) (H : Heap) (locs : List Loc) (ls : Array Slot), LI cI cQ cJ am x a a2 qo o s0 w0 (j + 1) w → va_P D vwCl w H → va_D (AL s) w → va_S (AL s) s.heap H locs → lv_has ls 9 (lv0 b o am qo (5 * j)) → W p l e room_1 s m #[Value.ref b] below meth c H locs (38 + 14 * (j + 1)) (982 + 91 * (j + 1)) Q (F0 m 1311 ls [])) : W p l e room_1 s m #[Value.ref b] below meth c H locs (38 + 14 * j) (982 + 91 * j) Q (F0 m 758 ls []) := by
  obtain ⟨A, r, q, t, n, old, held, L, B, mm, h, g, hV, rfl⟩ := hI
  have C0 := C
  obtain ⟨hx, hb, hml, hts, hown, hX, hbl, hE, hEX, hK, hfl, hN⟩ := C0
  refine lv_aload_n hx hb dL_law_758 rfl (lv_at hl 1 rfl) ?_
  refine lv_aload_n hx hb dL_law_759 rfl (lv_at hl 3 rfl) ?_
  have hk : cUnd held = 0 ∨ cUnd held = 3 := by
    unfold cUnd
    (repeat' split) <;> omega
  have hkl : ¬ cUnd held = 0 → ¬ nI (cUnd held - 2) = 0 := by
    intro h9
    rcases hk with e9 | e9
    · exact absurd e9 h9
    · rw [e9]; decide
  have ho := o_undo hV
  refine l_help (index := 120) (av := [.ref o, .ref qo]) (wr := cM cI am mm h) C 1 6 rfl rfl (hL_undo l D cI cQ cJ o qo g (WX cI cQ o s0 w0 x a a2 A r q t n (zF A n) (nI old) (nI held) B) _ rfl  _ _ (xX3_undo l hfl D cI cQ cJ o s0 w0 x a a2 A r q t n old held B  hV.1) hk) (vx_cwSW 2 hts gL_law_L_undo rfl rfl rfl (by decide +kernel) ⟨Nat.le_of_ble_eq_true rfl, Nat.le_of_ble_eq_true rfl⟩) rfl hP hD hS hl.1 rfl dL_law_760 ⟨by omega, by omega⟩ (fun z y9 w2 g1 H locs hd hg hP hD hS => ?_)
  have hR : HR cI cQ x a a2 o s0 w0 j (unB mm held) (unV held) z g1 w2 := by
    rcases hd with ⟨h3, h4, h5⟩ | ⟨h3, h4, x9, ⟨e1, e2⟩, h6⟩
    · exact ⟨A, r, q, t, n, old, held, L, B, h5, (ho.1 h3).2, (ho.1 h3).1.trans h4.symm, fun h8 => absurd (h4.symm.trans h8) (hkl h3)⟩
    · have h7 := ho.2 h3
      exact ⟨A, _, q, _, _, _, _, _, _, e2, h7.2.2, h7.2.1.trans h4.symm, fun _ => (hg h3).trans (h6.trans (by rw [h7.1, e1]))⟩
  obtain ⟨A1, r1, q1, t1, n1, old1, held1, L1, B1, hw, hV1, hz, hv⟩ := hR
  refine lv_istore (lv' := [(5, .int z), (0, .ref b), (1, .ref o), (2, .ref (am 0)), (3, .ref qo), (4, .int (nI (5 * j)))]) hx hb dL_law_763 hl (by decide) rfl (fun ls hl => ?_)
  refine lv_aload_n hx hb dL_law_765 rfl (lv_at hl 3 rfl) ?_
  refine l_model (index := 122) (As := []) (mB := unB mm held) (v := unV held) C (mX4_undo l D cI cQ cJ am mm h held hV.2.2.2.2.1.2 hV.1.2.2.1 ) (cwV 0 hts gL_law_X4_undo rfl rfl rfl (by decide +kernel) ⟨Nat.le_of_ble_eq_true rfl, Nat.le_of_ble_eq_true rfl⟩) rfl hP hD hS hl.1 rfl dL_law_766 ⟨by omega, by omega⟩ (fun H locs hP hD hS => ?_)
  refine lv_istore (lv' := [(6, .int (unV held)), (5, .int z), (0, .ref b), (1, .ref o), (2, .ref (am 0)), (3, .ref qo), (4, .int (nI (5 * j)))]) hx hb dL_law_769 hl (by decide) rfl (fun ls hl => ?_)
  refine l_tail (T := 771) C hz hv hP hD hS hl ⟨by omega, by omega⟩ dL_law_771 dL_law_772 dL_law_775 dL_law_777 dL_law_782 dL_law_784 dL_law_787 dL_law_788 dL_law_789 dL_law_790 dL_law_792 dL_law_793 dL_law_794 dL_law_799 (by decide) (fun H locs hP hD hS hl => ?_)
  refine W.widen (k := 38 + 14 * (j + 1)) (n := 982 + 91 * (j + 1)) (by omega) (by omega) ?_
  exact kk _ H locs ls ⟨A1, r1, q1, t1, n1, old1, held1, L1, B1, _, h, g1, hV1, by rw [hw]⟩ hP hD hS hl
set_option maxHeartbeats 4000000 in
set_option maxRecDepth 100000 in
theorem lc_planeOf (C : LA p l s m meth c b N xs D cI cQ cJ) {j : Nat} (hj : j < 512) (hjN : 5 * j + 5 ≤ N) {w : va_W} (hI : LI cI cQ cJ am x a a2 qo o s0 w0 j w) (hP : va_P D vwCl w H) (hD : va_D (AL s) w) (hS : va_S (AL s) s.heap H locs) (hl : lv_has ls 9 (lv0 b o am qo (5 * j))) (kk : ∀ (w : va_W) (H : Heap) (locs : List Loc) (ls : Array Slot), LI cI cQ cJ am x a a2 qo o s0 w0 (j + 1) w → va_P D vwCl w H → va_D (AL s) w → va_S (AL s) s.heap H locs → lv_has ls 9 (lv0 b o am qo (5 * j)) → W p l e room_1 s m #[Value.ref b] below meth c H locs (38 + 14 * (j + 1)) (982 + 91 * (j + 1)) Q (F0 m 1311 ls [])) : W p l e room_1 s m #[Value.ref b] below meth c H locs (38 + 14 * j) (982 + 91 * j) Q (F0 m 802 ls []) := by
  obtain ⟨A, r, q, t, n, old, held, L, B, mm, h, g, hV, rfl⟩ := hI
  have C0 := C
  obtain ⟨hx, hb, hml, hts, hown, hX, hbl, hE, hEX, hK, hfl, hN⟩ := C0
  refine lv_aload_n hx hb dL_law_802 rfl (lv_at hl 1 rfl) ?_
  refine l_arg (d := 1) C hS hjN (by omega) (by decide) (lv_at hl 0 rfl) (lv_at hl 4 rfl) dL_law_803 dL_law_804 dL_law_806 dL_law_807 dL_law_808 ?_
  refine l_arg (d := 2) C hS hjN (by omega) (by decide) (lv_at hl 0 rfl) (lv_at hl 4 rfl) dL_law_809 dL_law_810 dL_law_812 dL_law_813 dL_law_814 ?_
  refine lv_aload_n hx hb dL_law_815 rfl (lv_at hl 3 rfl) ?_
  have hk : cPof (xs (5 * j + 1)) (xs (5 * j + 2)) = 0 ∨ cPof (xs (5 * j + 1)) (xs (5 * j + 2)) = 1 ∨ cPof (xs (5 * j + 1)) (xs (5 * j + 2)) = 2 := by
    unfold cPof
    (repeat' split) <;> omega
  have hkl : ¬ cPof (xs (5 * j + 1)) (xs (5 * j + 2)) = 0 → ¬ nI (cPof (xs (5 * j + 1)) (xs (5 * j + 2))) = 0 := by
    intro h9
    rcases hk with e9 | e9 | e9
    · exact absurd e9 h9
    · rw [e9]; decide
    · rw [e9]; decide
  have ho := o_planeOf hV (xs (5 * j + 1)) (xs (5 * j + 2))
  refine l_help (index := 123) (av := [.ref o, .int (xs (5 * j + 1)), .int (xs (5 * j + 2)), .ref qo]) (wr := cM cI am mm h) C 1 6 rfl rfl (hL_planeOf l D cI cQ cJ o qo g (WX cI cQ o s0 w0 x a a2 A r q t n (zF A n) (nI old) (nI held) B) _ rfl (xs (5 * j + 1)) (xs (5 * j + 2)) _ _ (xX3_planeOf l hfl D cI cQ cJ o s0 w0 x a a2 A r q t n old held B (xs (5 * j + 1)) (xs (5 * j + 2)) ) hk) (vx_cwSW 4 hts gL_law_L_planeOf rfl rfl rfl (by decide +kernel) ⟨Nat.le_of_ble_eq_true rfl, Nat.le_of_ble_eq_true rfl⟩) rfl hP hD hS hl.1 rfl dL_law_816 ⟨by omega, by omega⟩ (fun z y9 w2 g1 H locs hd hg hP hD hS => ?_)
  have hR : HR cI cQ x a a2 o s0 w0 j (plnB mm (xs (5 * j + 1)) (xs (5 * j + 2))) (plnV mm (xs (5 * j + 1)) (xs (5 * j + 2))) z g1 w2 := by
    rcases hd with ⟨h3, h4, h5⟩ | ⟨h3, h4, x9, ⟨e1, e2⟩, h6⟩
    · exact ⟨A, r, q, t, n, old, held, L, B, h5, (ho.1 h3).2, (ho.1 h3).1.trans h4.symm, fun h8 => absurd (h4.symm.trans h8) (hkl h3)⟩
    · have h7 := ho.2 h3
      exact ⟨A, _, q, _, _, _, _, _, _, e2, h7.2.2, h7.2.1.trans h4.symm, fun _ => (hg h3).trans (h6.trans (by rw [h7.1, e1]))⟩
  obtain ⟨A1, r1, q1, t1, n1, old1, held1, L1, B1, hw, hV1, hz, hv⟩ := hR
  refine lv_istore (lv' := [(5, .int z), (0, .ref b), (1, .ref o), (2, .ref (am 0)), (3, .ref qo), (4, .int (nI (5 * j)))]) hx hb dL_law_819 hl (by decide) rfl (fun ls hl => ?_)
  refine lv_aload_n hx hb dL_law_821 rfl (lv_at hl 3 rfl) ?_
  refine l_arg (d := 1) C hS hjN (by omega) (by decide) (lv_at hl 1 rfl) (lv_at hl 5 rfl) dL_law_822 dL_law_823 dL_law_825 dL_law_826 dL_law_827 ?_
  refine l_arg (d := 2) C hS hjN (by omega) (by decide) (lv_at hl 1 rfl) (lv_at hl 5 rfl) dL_law_828 dL_law_829 dL_law_831 dL_law_832 dL_law_833 ?_
  refine l_model (index := 125) (As := [.int (xs (5 * j + 1)), .int (xs (5 * j + 2))]) (mB := plnB mm (xs (5 * j + 1)) (xs (5 * j + 2))) (v := plnV mm (xs (5 * j + 1)) (xs (5 * j + 2))) C (mX4_planeOf l D cI cQ cJ am mm h  (xs (5 * j + 1)) (xs (5 * j + 2))) (cwV 2 hts gL_law_X4_planeOf rfl rfl rfl (by decide +kernel) ⟨Nat.le_of_ble_eq_true rfl, Nat.le_of_ble_eq_true rfl⟩) rfl hP hD hS hl.1 rfl dL_law_834 ⟨by omega, by omega⟩ (fun H locs hP hD hS => ?_)
  refine lv_istore (lv' := [(6, .int (plnV mm (xs (5 * j + 1)) (xs (5 * j + 2)))), (5, .int z), (0, .ref b), (1, .ref o), (2, .ref (am 0)), (3, .ref qo), (4, .int (nI (5 * j)))]) hx hb dL_law_837 hl (by decide) rfl (fun ls hl => ?_)
  refine l_tail (T := 839) C hz hv hP hD hS hl ⟨by omega, by omega⟩ dL_law_839 dL_law_840 dL_law_843 dL_law_845 dL_law_850 dL_law_852 dL_law_855 dL_law_856 dL_law_857 dL_law_858 dL_law_860 dL_law_861 dL_law_862 dL_law_867 (by decide) (fun H locs hP hD hS hl => ?_)
  refine W.widen (k := 38 + 14 * (j + 1)) (n := 982 + 91 * (j + 1)) (by omega) (by omega) ?_
  exact kk _ H locs ls ⟨A1, r1, q1, t1, n1, old1, held1, L1, B1, _, h, g1, hV1, by rw [hw]⟩ hP hD hS hl
set_option maxHeartbeats 4000000 in
set_option maxRecDepth 100000 in
theorem lc_gutterOf (C : LA p l s m meth c b N xs D cI cQ cJ) {j : Nat} (hj : j < 512) (hjN : 5 * j + 5 ≤ N) {w : va_W} (hI : LI cI cQ cJ am x a a2 qo o s0 w0 j w) (hP : va_P D vwCl w H) (hD : va_D (AL s) w) (hS : va_S (AL s) s.heap H locs) (hl : lv_has ls 9 (lv0 b o am qo (5 * j))) (kk : ∀ (w : va_W) (H : Heap) (locs : List Loc) (ls : Array Slot), LI cI cQ cJ am x a a2 qo o s0 w0 (j + 1) w → va_P D vwCl w H → va_D (AL s) w → va_S (AL s) s.heap H locs → lv_has ls 9 (lv0 b o am qo (5 * j)) → W p l e room_1 s m #[Value.ref b] below meth c H locs (38 + 14 * (j + 1)) (982 + 91 * (j + 1)) Q (F0 m 1311 ls [])) : W p l e room_1 s m #[Value.ref b] below meth c H locs (38 + 14 * j) (982 + 91 * j) Q (F0 m 870 ls []) := by
  obtain ⟨A, r, q, t, n, old, held, L, B, mm, h, g, hV, rfl⟩ := hI
  have C0 := C
  obtain ⟨hx, hb, hml, hts, hown, hX, hbl, hE, hEX, hK, hfl, hN⟩ := C0
  refine lv_aload_n hx hb dL_law_870 rfl (lv_at hl 1 rfl) ?_
  refine l_arg (d := 1) C hS hjN (by omega) (by decide) (lv_at hl 0 rfl) (lv_at hl 4 rfl) dL_law_871 dL_law_872 dL_law_874 dL_law_875 dL_law_876 ?_
  refine l_arg (d := 2) C hS hjN (by omega) (by decide) (lv_at hl 0 rfl) (lv_at hl 4 rfl) dL_law_877 dL_law_878 dL_law_880 dL_law_881 dL_law_882 ?_
  refine lv_aload_n hx hb dL_law_883 rfl (lv_at hl 3 rfl) ?_
  have hk : cGof (xs (5 * j + 1)) (xs (5 * j + 2)) = 0 ∨ cGof (xs (5 * j + 1)) (xs (5 * j + 2)) = 1 ∨ cGof (xs (5 * j + 1)) (xs (5 * j + 2)) = 2 := by
    unfold cGof
    (repeat' split) <;> omega
  have hkl : ¬ cGof (xs (5 * j + 1)) (xs (5 * j + 2)) = 0 → ¬ nI (cGof (xs (5 * j + 1)) (xs (5 * j + 2))) = 0 := by
    intro h9
    rcases hk with e9 | e9 | e9
    · exact absurd e9 h9
    · rw [e9]; decide
    · rw [e9]; decide
  have ho := o_gutterOf hV (xs (5 * j + 1)) (xs (5 * j + 2))
  refine l_help (index := 126) (av := [.ref o, .int (xs (5 * j + 1)), .int (xs (5 * j + 2)), .ref qo]) (wr := cM cI am mm h) C 1 6 rfl rfl (hL_gutterOf l D cI cQ cJ o qo g (WX cI cQ o s0 w0 x a a2 A r q t n (zF A n) (nI old) (nI held) B) _ rfl (xs (5 * j + 1)) (xs (5 * j + 2)) _ _ (xX3_gutterOf l hfl D cI cQ cJ o s0 w0 x a a2 A r q t n old held B (xs (5 * j + 1)) (xs (5 * j + 2)) ) hk) (vx_cwSW 4 hts gL_law_L_gutterOf rfl rfl rfl (by decide +kernel) ⟨Nat.le_of_ble_eq_true rfl, Nat.le_of_ble_eq_true rfl⟩) rfl hP hD hS hl.1 rfl dL_law_884 ⟨by omega, by omega⟩ (fun z y9 w2 g1 H locs hd hg hP hD hS => ?_)
  have hR : HR cI cQ x a a2 o s0 w0 j (gtnB mm (xs (5 * j + 1)) (xs (5 * j + 2))) (gtnV mm (xs (5 * j + 1)) (xs (5 * j + 2))) z g1 w2 := by
    rcases hd with ⟨h3, h4, h5⟩ | ⟨h3, h4, x9, ⟨e1, e2⟩, h6⟩
    · exact ⟨A, r, q, t, n, old, held, L, B, h5, (ho.1 h3).2, (ho.1 h3).1.trans h4.symm, fun h8 => absurd (h4.symm.trans h8) (hkl h3)⟩
    · have h7 := ho.2 h3
      exact ⟨A, _, q, _, _, _, _, _, _, e2, h7.2.2, h7.2.1.trans h4.symm, fun _ => (hg h3).trans (h6.trans (by rw [h7.1, e1]))⟩
  obtain ⟨A1, r1, q1, t1, n1, old1, held1, L1, B1, hw, hV1, hz, hv⟩ := hR
  refine lv_istore (lv' := [(5, .int z), (0, .ref b), (1, .ref o), (2, .ref (am 0)), (3, .ref qo), (4, .int (nI (5 * j)))]) hx hb dL_law_887 hl (by decide) rfl (fun ls hl => ?_)
  refine lv_aload_n hx hb dL_law_889 rfl (lv_at hl 3 rfl) ?_
  refine l_arg (d := 1) C hS hjN (by omega) (by decide) (lv_at hl 1 rfl) (lv_at hl 5 rfl) dL_law_890 dL_law_891 dL_law_893 dL_law_894 dL_law_895 ?_
  refine l_arg (d := 2) C hS hjN (by omega) (by decide) (lv_at hl 1 rfl) (lv_at hl 5 rfl) dL_law_896 dL_law_897 dL_law_899 dL_law_900 dL_law_901 ?_
  refine l_model (index := 128) (As := [.int (xs (5 * j + 1)), .int (xs (5 * j + 2))]) (mB := gtnB mm (xs (5 * j + 1)) (xs (5 * j + 2))) (v := gtnV mm (xs (5 * j + 1)) (xs (5 * j + 2))) C (mX4_gutterOf l D cI cQ cJ am mm h  (xs (5 * j + 1)) (xs (5 * j + 2))) (cwV 2 hts gL_law_X4_gutterOf rfl rfl rfl (by decide +kernel) ⟨Nat.le_of_ble_eq_true rfl, Nat.le_of_ble_eq_true rfl⟩) rfl hP hD hS hl.1 rfl dL_law_902 ⟨by omega, by omega⟩ (fun H locs hP hD hS => ?_)
  refine lv_istore (lv' := [(6, .int (gtnV mm (xs (5 * j + 1)) (xs (5 * j + 2)))), (5, .int z), (0, .ref b), (1, .ref o), (2, .ref (am 0)), (3, .ref qo), (4, .int (nI (5 * j)))]) hx hb dL_law_905 hl (by decide) rfl (fun ls hl => ?_)
  refine l_tail (T := 907) C hz hv hP hD hS hl ⟨by omega, by omega⟩ dL_law_907 dL_law_908 dL_law_911 dL_law_913 dL_law_918 dL_law_920 dL_law_923 dL_law_924 dL_law_925 dL_law_926 dL_law_928 dL_law_929 dL_law_930 dL_law_935 (by decide) (fun H locs hP hD hS hl => ?_)
  refine W.widen (k := 38 + 14 * (j + 1)) (n := 982 + 91 * (j + 1)) (by omega) (by omega) ?_
  exact kk _ H locs ls ⟨A1, r1, q1, t1, n1, old1, held1, L1, B1, _, h, g1, hV1, by rw [hw]⟩ hP hD hS hl
end LC
