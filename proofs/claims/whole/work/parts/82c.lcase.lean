/-! the law, a call each time round: count, setting, ifRained, spillsFirst, mostRain -/
section LC
variable {p : Program} {l : Launch} {e : Env} {s : State} {m : MethodId} {below : List Frame} {meth : Method} {c : Code} {b N : Nat} {xs : Nat → Int32} {D : va_G} {cI cQ cJ : ClassId} {H : Heap} {locs : List Loc} {Q : State → Prop} {ls : Array Slot} {am x a a2 : Nat → Nat} {qo o s0 w0 : Nat}
set_option maxHeartbeats 4000000 in
set_option maxRecDepth 100000 in
theorem lc_count (C : LA p l s m meth c b N xs D cI cQ cJ) {j : Nat} (hj : j < 512) (hjN : 5 * j + 5 ≤ N) {w : va_W} (hI : LI cI cQ cJ am x a a2 qo o s0 w0 j w) (hP : va_P D vwCl w H) (hD : va_D (AL s) w) (hS : va_S (AL s) s.heap H locs) (hl : lv_has ls 9 (lv0 b o am qo (5 * j))) (kk : ∀ (w : va_W) (H : Heap) (locs : List Loc) (ls : Array Slot), LI cI cQ cJ am x a a2 qo o s0 w0 (j + 1) w → va_P D vwCl w H → va_D (AL s) w → va_S (AL s) s.heap H locs → lv_has ls 9 (lv0 b o am qo (5 * j)) → W p l e room_1 s m #[Value.ref b] below meth c H locs (38 + 14 * (j + 1)) (982 + 91 * (j + 1)) Q (F0 m 1311 ls [])) : W p l e room_1 s m #[Value.ref b] below meth c H locs (38 + 14 * j) (982 + 91 * j) Q (F0 m 938 ls []) := by
  obtain ⟨A, r, q, t, n, old, held, L, B, mm, h, g, hV, rfl⟩ := hI
  have C0 := C
  obtain ⟨hx, hb, hml, hts, hown, hX, hbl, hE, hEX, hK, hfl, hN⟩ := C0
  refine lv_aload_n hx hb dL_law_938 rfl (lv_at hl 1 rfl) ?_
  refine l_arg (d := 1) C hS hjN (by omega) (by decide) (lv_at hl 0 rfl) (lv_at hl 4 rfl) dL_law_939 dL_law_940 dL_law_942 dL_law_943 dL_law_944 ?_
  refine lv_aload_n hx hb dL_law_945 rfl (lv_at hl 3 rfl) ?_
  have hk : cCnt (xs (5 * j + 1)) = 0 ∨ cCnt (xs (5 * j + 1)) = 2 := by
    unfold cCnt
    (repeat' split) <;> omega
  have hkl : ¬ cCnt (xs (5 * j + 1)) = 0 → ¬ nI (cCnt (xs (5 * j + 1)) - 1) = 0 := by
    intro h9
    rcases hk with e9 | e9
    · exact absurd e9 h9
    · rw [e9]; decide
  have ho := o_count hV (xs (5 * j + 1))
  refine l_help (index := 129) (av := [.ref o, .int (xs (5 * j + 1)), .ref qo]) (wr := cM cI am mm h) C 1 6 rfl rfl (hL_count l D cI cQ cJ o qo g (WX cI cQ o s0 w0 x a a2 A r q t n (zF A n) (nI old) (nI held) B) _ rfl (xs (5 * j + 1)) _ _ (xX3_count l hfl D cI cQ cJ o s0 w0 x a a2 A r q t n old held B (xs (5 * j + 1)) ) hk) (vx_cwSW 3 hts gL_law_L_count rfl rfl rfl (by decide +kernel) ⟨Nat.le_of_ble_eq_true rfl, Nat.le_of_ble_eq_true rfl⟩) rfl hP hD hS hl.1 rfl dL_law_946 ⟨by omega, by omega⟩ (fun z y9 w2 g1 H locs hd hg hP hD hS => ?_)
  have hR : HR cI cQ x a a2 o s0 w0 j (cntB mm (xs (5 * j + 1))) (cntV mm (xs (5 * j + 1))) z g1 w2 := by
    rcases hd with ⟨h3, h4, h5⟩ | ⟨h3, h4, x9, ⟨e1, e2⟩, h6⟩
    · exact ⟨A, r, q, t, n, old, held, L, B, h5, (ho.1 h3).2, (ho.1 h3).1.trans h4.symm, fun h8 => absurd (h4.symm.trans h8) (hkl h3)⟩
    · have h7 := ho.2 h3
      exact ⟨A, _, q, _, _, _, _, _, _, e2, h7.2.2, h7.2.1.trans h4.symm, fun _ => (hg h3).trans (h6.trans (by rw [h7.1, e1]))⟩
  obtain ⟨A1, r1, q1, t1, n1, old1, held1, L1, B1, hw, hV1, hz, hv⟩ := hR
  refine lv_istore (lv' := [(5, .int z), (0, .ref b), (1, .ref o), (2, .ref (am 0)), (3, .ref qo), (4, .int (nI (5 * j)))]) hx hb dL_law_949 hl (by decide) rfl (fun ls hl => ?_)
  refine lv_aload_n hx hb dL_law_951 rfl (lv_at hl 3 rfl) ?_
  refine l_arg (d := 1) C hS hjN (by omega) (by decide) (lv_at hl 1 rfl) (lv_at hl 5 rfl) dL_law_952 dL_law_953 dL_law_955 dL_law_956 dL_law_957 ?_
  refine l_model (index := 131) (As := [.int (xs (5 * j + 1))]) (mB := cntB mm (xs (5 * j + 1))) (v := cntV mm (xs (5 * j + 1))) C (mX4_count l D cI cQ cJ am mm h  (xs (5 * j + 1))) (cwV 1 hts gL_law_X4_count rfl rfl rfl (by decide +kernel) ⟨Nat.le_of_ble_eq_true rfl, Nat.le_of_ble_eq_true rfl⟩) rfl hP hD hS hl.1 rfl dL_law_958 ⟨by omega, by omega⟩ (fun H locs hP hD hS => ?_)
  refine lv_istore (lv' := [(6, .int (cntV mm (xs (5 * j + 1)))), (5, .int z), (0, .ref b), (1, .ref o), (2, .ref (am 0)), (3, .ref qo), (4, .int (nI (5 * j)))]) hx hb dL_law_961 hl (by decide) rfl (fun ls hl => ?_)
  refine l_tail (T := 963) C hz hv hP hD hS hl ⟨by omega, by omega⟩ dL_law_963 dL_law_964 dL_law_967 dL_law_969 dL_law_974 dL_law_976 dL_law_979 dL_law_980 dL_law_981 dL_law_982 dL_law_984 dL_law_985 dL_law_986 dL_law_991 (by decide) (fun H locs hP hD hS hl => ?_)
  refine W.widen (k := 38 + 14 * (j + 1)) (n := 982 + 91 * (j + 1)) (by omega) (by omega) ?_
  exact kk _ H locs ls ⟨A1, r1, q1, t1, n1, old1, held1, L1, B1, _, h, g1, hV1, by rw [hw]⟩ hP hD hS hl
set_option maxHeartbeats 4000000 in
set_option maxRecDepth 100000 in
theorem lc_setting (C : LA p l s m meth c b N xs D cI cQ cJ) {j : Nat} (hj : j < 512) (hjN : 5 * j + 5 ≤ N) {w : va_W} (hI : LI cI cQ cJ am x a a2 qo o s0 w0 j w) (hP : va_P D vwCl w H) (hD : va_D (AL s) w) (hS : va_S (AL s) s.heap H locs) (hl : lv_has ls 9 (lv0 b o am qo (5 * j))) (kk : ∀ (w : va_W) (H : Heap) (locs : List Loc) (ls : Array Slot), LI cI cQ cJ am x a a2 qo o s0 w0 (j + 1) w → va_P D vwCl w H → va_D (AL s) w → va_S (AL s) s.heap H locs → lv_has ls 9 (lv0 b o am qo (5 * j)) → W p l e room_1 s m #[Value.ref b] below meth c H locs (38 + 14 * (j + 1)) (982 + 91 * (j + 1)) Q (F0 m 1311 ls [])) : W p l e room_1 s m #[Value.ref b] below meth c H locs (38 + 14 * j) (982 + 91 * j) Q (F0 m 994 ls []) := by
  obtain ⟨A, r, q, t, n, old, held, L, B, mm, h, g, hV, rfl⟩ := hI
  have C0 := C
  obtain ⟨hx, hb, hml, hts, hown, hX, hbl, hE, hEX, hK, hfl, hN⟩ := C0
  refine lv_aload_n hx hb dL_law_994 rfl (lv_at hl 1 rfl) ?_
  refine l_arg (d := 1) C hS hjN (by omega) (by decide) (lv_at hl 0 rfl) (lv_at hl 4 rfl) dL_law_995 dL_law_996 dL_law_998 dL_law_999 dL_law_1000 ?_
  refine lv_aload_n hx hb dL_law_1001 rfl (lv_at hl 3 rfl) ?_
  have hk : cStg (xs (5 * j + 1)) = 0 ∨ cStg (xs (5 * j + 1)) = 1 := by
    unfold cStg
    (repeat' split) <;> omega
  have hkl : ¬ cStg (xs (5 * j + 1)) = 0 → ¬ nI (cStg (xs (5 * j + 1))) = 0 := by
    intro h9
    rcases hk with e9 | e9
    · exact absurd e9 h9
    · rw [e9]; decide
  have ho := o_setting hV (xs (5 * j + 1))
  refine l_help (index := 132) (av := [.ref o, .int (xs (5 * j + 1)), .ref qo]) (wr := cM cI am mm h) C 1 6 rfl rfl (hL_setting l D cI cQ cJ o qo g (WX cI cQ o s0 w0 x a a2 A r q t n (zF A n) (nI old) (nI held) B) _ rfl (xs (5 * j + 1)) _ _ (xX3_setting l hfl D cI cQ cJ o s0 w0 x a a2 A r q t n old held B (xs (5 * j + 1)) ) hk) (vx_cwSW 3 hts gL_law_L_setting rfl rfl rfl (by decide +kernel) ⟨Nat.le_of_ble_eq_true rfl, Nat.le_of_ble_eq_true rfl⟩) rfl hP hD hS hl.1 rfl dL_law_1002 ⟨by omega, by omega⟩ (fun z y9 w2 g1 H locs hd hg hP hD hS => ?_)
  have hR : HR cI cQ x a a2 o s0 w0 j (stgB mm (xs (5 * j + 1))) (stgV mm (xs (5 * j + 1))) z g1 w2 := by
    rcases hd with ⟨h3, h4, h5⟩ | ⟨h3, h4, x9, ⟨e1, e2⟩, h6⟩
    · exact ⟨A, r, q, t, n, old, held, L, B, h5, (ho.1 h3).2, (ho.1 h3).1.trans h4.symm, fun h8 => absurd (h4.symm.trans h8) (hkl h3)⟩
    · have h7 := ho.2 h3
      exact ⟨A, _, q, _, _, _, _, _, _, e2, h7.2.2, h7.2.1.trans h4.symm, fun _ => (hg h3).trans (h6.trans (by rw [h7.1, e1]))⟩
  obtain ⟨A1, r1, q1, t1, n1, old1, held1, L1, B1, hw, hV1, hz, hv⟩ := hR
  refine lv_istore (lv' := [(5, .int z), (0, .ref b), (1, .ref o), (2, .ref (am 0)), (3, .ref qo), (4, .int (nI (5 * j)))]) hx hb dL_law_1005 hl (by decide) rfl (fun ls hl => ?_)
  refine lv_aload_n hx hb dL_law_1007 rfl (lv_at hl 3 rfl) ?_
  refine l_arg (d := 1) C hS hjN (by omega) (by decide) (lv_at hl 1 rfl) (lv_at hl 5 rfl) dL_law_1008 dL_law_1009 dL_law_1011 dL_law_1012 dL_law_1013 ?_
  refine l_model (index := 134) (As := [.int (xs (5 * j + 1))]) (mB := stgB mm (xs (5 * j + 1))) (v := stgV mm (xs (5 * j + 1))) C (mX4_setting l D cI cQ cJ am mm h  (xs (5 * j + 1))) (cwV 1 hts gL_law_X4_setting rfl rfl rfl (by decide +kernel) ⟨Nat.le_of_ble_eq_true rfl, Nat.le_of_ble_eq_true rfl⟩) rfl hP hD hS hl.1 rfl dL_law_1014 ⟨by omega, by omega⟩ (fun H locs hP hD hS => ?_)
  refine lv_istore (lv' := [(6, .int (stgV mm (xs (5 * j + 1)))), (5, .int z), (0, .ref b), (1, .ref o), (2, .ref (am 0)), (3, .ref qo), (4, .int (nI (5 * j)))]) hx hb dL_law_1017 hl (by decide) rfl (fun ls hl => ?_)
  refine l_tail (T := 1019) C hz hv hP hD hS hl ⟨by omega, by omega⟩ dL_law_1019 dL_law_1020 dL_law_1023 dL_law_1025 dL_law_1030 dL_law_1032 dL_law_1035 dL_law_1036 dL_law_1037 dL_law_1038 dL_law_1040 dL_law_1041 dL_law_1042 dL_law_1047 (by decide) (fun H locs hP hD hS hl => ?_)
  refine W.widen (k := 38 + 14 * (j + 1)) (n := 982 + 91 * (j + 1)) (by omega) (by omega) ?_
  exact kk _ H locs ls ⟨A1, r1, q1, t1, n1, old1, held1, L1, B1, _, h, g1, hV1, by rw [hw]⟩ hP hD hS hl
set_option maxHeartbeats 4000000 in
set_option maxRecDepth 100000 in
theorem lc_ifRained (C : LA p l s m meth c b N xs D cI cQ cJ) {j : Nat} (hj : j < 512) (hjN : 5 * j + 5 ≤ N) {w : va_W} (hI : LI cI cQ cJ am x a a2 qo o s0 w0 j w) (hP : va_P D vwCl w H) (hD : va_D (AL s) w) (hS : va_S (AL s) s.heap H locs) (hl : lv_has ls 9 (lv0 b o am qo (5 * j))) (kk : ∀ (w : va_W) (H : Heap) (locs : List Loc) (ls : Array Slot), LI cI cQ cJ am x a a2 qo o s0 w0 (j + 1) w → va_P D vwCl w H → va_D (AL s) w → va_S (AL s) s.heap H locs → lv_has ls 9 (lv0 b o am qo (5 * j)) → W p l e room_1 s m #[Value.ref b] below meth c H locs (38 + 14 * (j + 1)) (982 + 91 * (j + 1)) Q (F0 m 1311 ls [])) : W p l e room_1 s m #[Value.ref b] below meth c H locs (38 + 14 * j) (982 + 91 * j) Q (F0 m 1050 ls []) := by
  obtain ⟨A, r, q, t, n, old, held, L, B, mm, h, g, hV, rfl⟩ := hI
  have C0 := C
  obtain ⟨hx, hb, hml, hts, hown, hX, hbl, hE, hEX, hK, hfl, hN⟩ := C0
  refine lv_aload_n hx hb dL_law_1050 rfl (lv_at hl 1 rfl) ?_
  refine l_arg (d := 1) C hS hjN (by omega) (by decide) (lv_at hl 0 rfl) (lv_at hl 4 rfl) dL_law_1051 dL_law_1052 dL_law_1054 dL_law_1055 dL_law_1056 ?_
  refine l_arg (d := 2) C hS hjN (by omega) (by decide) (lv_at hl 0 rfl) (lv_at hl 4 rfl) dL_law_1057 dL_law_1058 dL_law_1060 dL_law_1061 dL_law_1062 ?_
  refine lv_aload_n hx hb dL_law_1063 rfl (lv_at hl 3 rfl) ?_
  have hk : cIfr (xs (5 * j + 1)) (xs (5 * j + 2)) = 0 ∨ cIfr (xs (5 * j + 1)) (xs (5 * j + 2)) = 2 := by
    unfold cIfr
    (repeat' split) <;> omega
  have hkl : ¬ cIfr (xs (5 * j + 1)) (xs (5 * j + 2)) = 0 → ¬ nI (cIfr (xs (5 * j + 1)) (xs (5 * j + 2)) - 1) = 0 := by
    intro h9
    rcases hk with e9 | e9
    · exact absurd e9 h9
    · rw [e9]; decide
  have ho := o_ifRained hV (xs (5 * j + 1)) (xs (5 * j + 2))
  refine l_help (index := 135) (av := [.ref o, .int (xs (5 * j + 1)), .int (xs (5 * j + 2)), .ref qo]) (wr := cM cI am mm h) C 1 6 rfl rfl (hL_ifRained l D cI cQ cJ o qo g (WX cI cQ o s0 w0 x a a2 A r q t n (zF A n) (nI old) (nI held) B) _ rfl (xs (5 * j + 1)) (xs (5 * j + 2)) _ _ (xX3_ifRained l hfl D cI cQ cJ o s0 w0 x a a2 A r q t n old held B (xs (5 * j + 1)) (xs (5 * j + 2)) ) hk) (vx_cwSW 4 hts gL_law_L_ifRained rfl rfl rfl (by decide +kernel) ⟨Nat.le_of_ble_eq_true rfl, Nat.le_of_ble_eq_true rfl⟩) rfl hP hD hS hl.1 rfl dL_law_1064 ⟨by omega, by omega⟩ (fun z y9 w2 g1 H locs hd hg hP hD hS => ?_)
  have hR : HR cI cQ x a a2 o s0 w0 j (ifrB mm (xs (5 * j + 1)) (xs (5 * j + 2))) (ifrV mm (xs (5 * j + 1)) (xs (5 * j + 2))) z g1 w2 := by
    rcases hd with ⟨h3, h4, h5⟩ | ⟨h3, h4, x9, ⟨e1, q9, e2⟩, h6⟩
    · exact ⟨A, r, q, t, n, old, held, L, B, h5, (ho.1 h3).2, (ho.1 h3).1.trans h4.symm, fun h8 => absurd (h4.symm.trans h8) (hkl h3)⟩
    · have h7 := ho.2 h3
      exact ⟨A, _, q9, t, _, _, _, _, _, e2, h7.2.2, h7.2.1.trans h4.symm, fun _ => (hg h3).trans (h6.trans (by rw [h7.1, e1]))⟩
  obtain ⟨A1, r1, q1, t1, n1, old1, held1, L1, B1, hw, hV1, hz, hv⟩ := hR
  refine lv_istore (lv' := [(5, .int z), (0, .ref b), (1, .ref o), (2, .ref (am 0)), (3, .ref qo), (4, .int (nI (5 * j)))]) hx hb dL_law_1067 hl (by decide) rfl (fun ls hl => ?_)
  refine lv_aload_n hx hb dL_law_1069 rfl (lv_at hl 3 rfl) ?_
  refine l_arg (d := 1) C hS hjN (by omega) (by decide) (lv_at hl 1 rfl) (lv_at hl 5 rfl) dL_law_1070 dL_law_1071 dL_law_1073 dL_law_1074 dL_law_1075 ?_
  refine l_arg (d := 2) C hS hjN (by omega) (by decide) (lv_at hl 1 rfl) (lv_at hl 5 rfl) dL_law_1076 dL_law_1077 dL_law_1079 dL_law_1080 dL_law_1081 ?_
  refine l_model (index := 137) (As := [.int (xs (5 * j + 1)), .int (xs (5 * j + 2))]) (mB := ifrB mm (xs (5 * j + 1)) (xs (5 * j + 2))) (v := ifrV mm (xs (5 * j + 1)) (xs (5 * j + 2))) C (mX4_ifRained l D cI cQ cJ am mm h (okS_of hV.2.1 hV.2.2.1.1) (xs (5 * j + 1)) (xs (5 * j + 2))) (cwV 2 hts gL_law_X4_ifRained rfl rfl rfl (by decide +kernel) ⟨Nat.le_of_ble_eq_true rfl, Nat.le_of_ble_eq_true rfl⟩) rfl hP hD hS hl.1 rfl dL_law_1082 ⟨by omega, by omega⟩ (fun H locs hP hD hS => ?_)
  refine lv_istore (lv' := [(6, .int (ifrV mm (xs (5 * j + 1)) (xs (5 * j + 2)))), (5, .int z), (0, .ref b), (1, .ref o), (2, .ref (am 0)), (3, .ref qo), (4, .int (nI (5 * j)))]) hx hb dL_law_1085 hl (by decide) rfl (fun ls hl => ?_)
  refine l_tail (T := 1087) C hz hv hP hD hS hl ⟨by omega, by omega⟩ dL_law_1087 dL_law_1088 dL_law_1091 dL_law_1093 dL_law_1098 dL_law_1100 dL_law_1103 dL_law_1104 dL_law_1105 dL_law_1106 dL_law_1108 dL_law_1109 dL_law_1110 dL_law_1115 (by decide) (fun H locs hP hD hS hl => ?_)
  refine W.widen (k := 38 + 14 * (j + 1)) (n := 982 + 91 * (j + 1)) (by omega) (by omega) ?_
  exact kk _ H locs ls ⟨A1, r1, q1, t1, n1, old1, held1, L1, B1, _, h, g1, hV1, by rw [hw]⟩ hP hD hS hl
set_option maxHeartbeats 4000000 in
set_option maxRecDepth 100000 in
theorem lc_spillsFirst (C : LA p l s m meth c b N xs D cI cQ cJ) {j : Nat} (hj : j < 512) (hjN : 5 * j + 5 ≤ N) {w : va_W} (hI : LI cI cQ cJ am x a a2 qo o s0 w0 j w) (hP : va_P D vwCl w H) (hD : va_D (AL s) w) (hS : va_S (AL s) s.heap H locs) (hl : lv_has ls 9 (lv0 b o am qo (5 * j))) (kk : ∀ (w : va_W) (H : Heap) (locs : List Loc) (ls : Array Slot), LI cI cQ cJ am x a a2 qo o s0 w0 (j + 1) w → va_P D vwCl w H → va_D (AL s) w → va_S (AL s) s.heap H locs → lv_has ls 9 (lv0 b o am qo (5 * j)) → W p l e room_1 s m #[Value.ref b] below meth c H locs (38 + 14 * (j + 1)) (982 + 91 * (j + 1)) Q (F0 m 1311 ls [])) : W p l e room_1 s m #[Value.ref b] below meth c H locs (38 + 14 * j) (982 + 91 * j) Q (F0 m 1118 ls []) := by
  obtain ⟨A, r, q, t, n, old, held, L, B, mm, h, g, hV, rfl⟩ := hI
  have C0 := C
  obtain ⟨hx, hb, hml, hts, hown, hX, hbl, hE, hEX, hK, hfl, hN⟩ := C0
  refine lv_aload_n hx hb dL_law_1118 rfl (lv_at hl 1 rfl) ?_
  refine l_arg (d := 1) C hS hjN (by omega) (by decide) (lv_at hl 0 rfl) (lv_at hl 4 rfl) dL_law_1119 dL_law_1120 dL_law_1122 dL_law_1123 dL_law_1124 ?_
  refine lv_aload_n hx hb dL_law_1125 rfl (lv_at hl 3 rfl) ?_
  have hk : cSfi (xs (5 * j + 1)) = 0 ∨ cSfi (xs (5 * j + 1)) = 2 := by
    unfold cSfi
    (repeat' split) <;> omega
  have hkl : ¬ cSfi (xs (5 * j + 1)) = 0 → ¬ nI (cSfi (xs (5 * j + 1)) - 1) = 0 := by
    intro h9
    rcases hk with e9 | e9
    · exact absurd e9 h9
    · rw [e9]; decide
  have ho := o_spillsFirst hV hj (xs (5 * j + 1))
  refine l_help (index := 138) (av := [.ref o, .int (xs (5 * j + 1)), .ref qo]) (wr := cM cI am mm h) C 1 6 rfl rfl (hL_spillsFirst l D cI cQ cJ o qo g (WX cI cQ o s0 w0 x a a2 A r q t n (zF A n) (nI old) (nI held) B) _ rfl (xs (5 * j + 1)) _ _ (xX3_spillsFirst l hfl D cI cQ cJ o s0 w0 x a a2 A r q t n old held B (xs (5 * j + 1)) ) hk) (vx_cwSW 3 hts gL_law_L_spillsFirst rfl rfl rfl (by decide +kernel) ⟨Nat.le_of_ble_eq_true rfl, Nat.le_of_ble_eq_true rfl⟩) rfl hP hD hS hl.1 rfl dL_law_1126 ⟨by omega, by omega⟩ (fun z y9 w2 g1 H locs hd hg hP hD hS => ?_)
  have hR : HR cI cQ x a a2 o s0 w0 j (sfiB mm (xs (5 * j + 1))) (sfiV mm (xs (5 * j + 1))) z g1 w2 := by
    rcases hd with ⟨h3, h4, h5⟩ | ⟨h3, h4, x9, ⟨e1, q9, e2⟩, h6⟩
    · exact ⟨A, r, q, t, n, old, held, L, B, h5, (ho.1 h3).2, (ho.1 h3).1.trans h4.symm, fun h8 => absurd (h4.symm.trans h8) (hkl h3)⟩
    · have h7 := ho.2 h3
      exact ⟨A, _, q9, t, _, _, _, _, _, e2, h7.2.2, h7.2.1.trans h4.symm, fun _ => (hg h3).trans (h6.trans (by rw [h7.1, e1]))⟩
  obtain ⟨A1, r1, q1, t1, n1, old1, held1, L1, B1, hw, hV1, hz, hv⟩ := hR
  refine lv_istore (lv' := [(5, .int z), (0, .ref b), (1, .ref o), (2, .ref (am 0)), (3, .ref qo), (4, .int (nI (5 * j)))]) hx hb dL_law_1129 hl (by decide) rfl (fun ls hl => ?_)
  refine lv_aload_n hx hb dL_law_1131 rfl (lv_at hl 3 rfl) ?_
  refine l_arg (d := 1) C hS hjN (by omega) (by decide) (lv_at hl 1 rfl) (lv_at hl 5 rfl) dL_law_1132 dL_law_1133 dL_law_1135 dL_law_1136 dL_law_1137 ?_
  refine l_model (index := 140) (As := [.int (xs (5 * j + 1))]) (mB := sfiB mm (xs (5 * j + 1))) (v := sfiV mm (xs (5 * j + 1))) C (mX4_spillsFirst l D cI cQ cJ am mm h (okS_of hV.2.1 hV.2.2.1.1) (xs (5 * j + 1))) (cwV 1 hts gL_law_X4_spillsFirst rfl rfl rfl (by decide +kernel) ⟨Nat.le_of_ble_eq_true rfl, Nat.le_of_ble_eq_true rfl⟩) rfl hP hD hS hl.1 rfl dL_law_1138 ⟨by omega, by omega⟩ (fun H locs hP hD hS => ?_)
  refine lv_istore (lv' := [(6, .int (sfiV mm (xs (5 * j + 1)))), (5, .int z), (0, .ref b), (1, .ref o), (2, .ref (am 0)), (3, .ref qo), (4, .int (nI (5 * j)))]) hx hb dL_law_1141 hl (by decide) rfl (fun ls hl => ?_)
  refine l_tail (T := 1143) C hz hv hP hD hS hl ⟨by omega, by omega⟩ dL_law_1143 dL_law_1144 dL_law_1147 dL_law_1149 dL_law_1154 dL_law_1156 dL_law_1159 dL_law_1160 dL_law_1161 dL_law_1162 dL_law_1164 dL_law_1165 dL_law_1166 dL_law_1171 (by decide) (fun H locs hP hD hS hl => ?_)
  refine W.widen (k := 38 + 14 * (j + 1)) (n := 982 + 91 * (j + 1)) (by omega) (by omega) ?_
  exact kk _ H locs ls ⟨A1, r1, q1, t1, n1, old1, held1, L1, B1, _, h, g1, hV1, by rw [hw]⟩ hP hD hS hl
set_option maxHeartbeats 4000000 in
set_option maxRecDepth 100000 in
theorem lc_mostRain (C : LA p l s m meth c b N xs D cI cQ cJ) {j : Nat} (hj : j < 512) (hjN : 5 * j + 5 ≤ N) {w : va_W} (hI : LI cI cQ cJ am x a a2 qo o s0 w0 j w) (hP : va_P D vwCl w H) (hD : va_D (AL s) w) (hS : va_S (AL s) s.heap H locs) (hl : lv_has ls 9 (lv0 b o am qo (5 * j))) (kk : ∀ (w : va_W) (H : Heap) (locs : List Loc) (ls : Array Slot), LI cI cQ cJ am x a a2 qo o s0 w0 (j + 1) w → va_P D vwCl w H → va_D (AL s) w → va_S (AL s) s.heap H locs → lv_has ls 9 (lv0 b o am qo (5 * j)) → W p l e room_1 s m #[Value.ref b] below meth c H locs (38 + 14 * (j + 1)) (982 + 91 * (j + 1)) Q (F0 m 1311 ls [])) : W p l e room_1 s m #[Value.ref b] below meth c H locs (38 + 14 * j) (982 + 91 * j) Q (F0 m 1187 ls []) := by
  obtain ⟨A, r, q, t, n, old, held, L, B, mm, h, g, hV, rfl⟩ := hI
  have C0 := C
  obtain ⟨hx, hb, hml, hts, hown, hX, hbl, hE, hEX, hK, hfl, hN⟩ := C0
  refine lv_aload_n hx hb dL_law_1187 rfl (lv_at hl 1 rfl) ?_
  refine l_arg (d := 1) C hS hjN (by omega) (by decide) (lv_at hl 0 rfl) (lv_at hl 4 rfl) dL_law_1188 dL_law_1189 dL_law_1191 dL_law_1192 dL_law_1193 ?_
  refine lv_aload_n hx hb dL_law_1194 rfl (lv_at hl 3 rfl) ?_
  have hk : cMra (xs (5 * j + 1)) = 0 ∨ cMra (xs (5 * j + 1)) = 2 := by
    unfold cMra
    (repeat' split) <;> omega
  have hkl : ¬ cMra (xs (5 * j + 1)) = 0 → ¬ nI (cMra (xs (5 * j + 1)) - 1) = 0 := by
    intro h9
    rcases hk with e9 | e9
    · exact absurd e9 h9
    · rw [e9]; decide
  have ho := o_mostRain hV hj (xs (5 * j + 1))
  refine l_help (index := 145) (av := [.ref o, .int (xs (5 * j + 1)), .ref qo]) (wr := cM cI am mm h) C 1 6 rfl rfl (hL_mostRain l D cI cQ cJ o qo g (WX cI cQ o s0 w0 x a a2 A r q t n (zF A n) (nI old) (nI held) B) _ rfl (xs (5 * j + 1)) _ _ (xX3_mostRain l hfl D cI cQ cJ o s0 w0 x a a2 A r q t n old held B (xs (5 * j + 1)) ) hk) (vx_cwSW 3 hts gL_law_L_mostRain rfl rfl rfl (by decide +kernel) ⟨Nat.le_of_ble_eq_true rfl, Nat.le_of_ble_eq_true rfl⟩) rfl hP hD hS hl.1 rfl dL_law_1195 ⟨by omega, by omega⟩ (fun z y9 w2 g1 H locs hd hg hP hD hS => ?_)
  have hR : HR cI cQ x a a2 o s0 w0 j (mraB mm (xs (5 * j + 1))) (mraV mm (xs (5 * j + 1))) z g1 w2 := by
    rcases hd with ⟨h3, h4, h5⟩ | ⟨h3, h4, x9, ⟨e1, q9, e2⟩, h6⟩
    · exact ⟨A, r, q, t, n, old, held, L, B, h5, (ho.1 h3).2, (ho.1 h3).1.trans h4.symm, fun h8 => absurd (h4.symm.trans h8) (hkl h3)⟩
    · have h7 := ho.2 h3
      exact ⟨A, _, q9, t, _, _, _, _, _, e2, h7.2.2, h7.2.1.trans h4.symm, fun _ => (hg h3).trans (h6.trans (by rw [h7.1, e1]))⟩
  obtain ⟨A1, r1, q1, t1, n1, old1, held1, L1, B1, hw, hV1, hz, hv⟩ := hR
  refine lv_istore (lv' := [(5, .int z), (0, .ref b), (1, .ref o), (2, .ref (am 0)), (3, .ref qo), (4, .int (nI (5 * j)))]) hx hb dL_law_1198 hl (by decide) rfl (fun ls hl => ?_)
  refine lv_aload_n hx hb dL_law_1200 rfl (lv_at hl 3 rfl) ?_
  refine l_arg (d := 1) C hS hjN (by omega) (by decide) (lv_at hl 1 rfl) (lv_at hl 5 rfl) dL_law_1201 dL_law_1202 dL_law_1204 dL_law_1205 dL_law_1206 ?_
  refine l_model (index := 147) (As := [.int (xs (5 * j + 1))]) (mB := mraB mm (xs (5 * j + 1))) (v := mraV mm (xs (5 * j + 1))) C (mX4_mostRain l D cI cQ cJ am mm h (okS_of hV.2.1 hV.2.2.1.1) (xs (5 * j + 1))) (cwV 1 hts gL_law_X4_mostRain rfl rfl rfl (by decide +kernel) ⟨Nat.le_of_ble_eq_true rfl, Nat.le_of_ble_eq_true rfl⟩) rfl hP hD hS hl.1 rfl dL_law_1207 ⟨by omega, by omega⟩ (fun H locs hP hD hS => ?_)
  refine lv_istore (lv' := [(6, .int (mraV mm (xs (5 * j + 1)))), (5, .int z), (0, .ref b), (1, .ref o), (2, .ref (am 0)), (3, .ref qo), (4, .int (nI (5 * j)))]) hx hb dL_law_1210 hl (by decide) rfl (fun ls hl => ?_)
  refine l_tail (T := 1212) C hz hv hP hD hS hl ⟨by omega, by omega⟩ dL_law_1212 dL_law_1213 dL_law_1216 dL_law_1218 dL_law_1223 dL_law_1225 dL_law_1228 dL_law_1229 dL_law_1230 dL_law_1231 dL_law_1233 dL_law_1234 dL_law_1235 dL_law_1240 (by decide) (fun H locs hP hD hS hl => ?_)
  refine W.widen (k := 38 + 14 * (j + 1)) (n := 982 + 91 * (j + 1)) (by omega) (by omega) ?_
  exact kk _ H locs ls ⟨A1, r1, q1, t1, n1, old1, held1, L1, B1, _, h, g1, hV1, by rw [hw]⟩ hP hD hS hl
end LC
