/-! the law, a call each time round: plane, gutter, valley, clean, set, rain -/
section LC
variable {p : Program} {l : Launch} {e : Env} {s : State} {m : MethodId} {below : List Frame} {meth : Method} {c : Code} {b N : Nat} {xs : Nat → Int32} {D : va_G} {cI cQ cJ : ClassId} {H : Heap} {locs : List Loc} {Q : State → Prop} {ls : Array Slot} {am x a a2 : Nat → Nat} {qo o s0 w0 : Nat}
set_option maxHeartbeats 4000000 in
set_option maxRecDepth 100000 in
theorem lc_plane (C : LA p l s m meth c b N xs D cI cQ cJ) {j : Nat} (hj : j < 512) (hjN : 5 * j + 5 ≤ N) {w : va_W} (hI : LI cI cQ cJ am x a a2 qo o s0 w0 j w) (hP : va_P D vwCl w H) (hD : va_D (AL s) w) (hS : va_S (AL s) s.heap H locs) (hl : lv_has ls 9 (lv0 b o am qo (5 * j))) (kk : ∀ (w : va_W) (H : Heap) (locs : List Loc) (ls : Array Slot), LI cI cQ cJ am x a a2 qo o s0 w0 (j + 1) w → va_P D vwCl w H → va_D (AL s) w → va_S (AL s) s.heap H locs → lv_has ls 9 (lv0 b o am qo (5 * j)) → W p l e room_1 s m #[Value.ref b] below meth c H locs (38 + 14 * (j + 1)) (982 + 91 * (j + 1)) Q (F0 m 1311 ls [])) : W p l e room_1 s m #[Value.ref b] below meth c H locs (38 + 14 * j) (982 + 91 * j) Q (F0 m 144 ls []) := by
  obtain ⟨A, r, q, t, n, old, held, L, B, mm, h, g, hV, rfl⟩ := hI
  have C0 := C
  obtain ⟨hx, hb, hml, hts, hown, hX, hbl, hE, hEX, hK, hfl, hN⟩ := C0
  refine lv_aload_n hx hb dL_law_144 rfl (lv_at hl 1 rfl) ?_
  refine l_arg (d := 1) C hS hjN (by omega) (by decide) (lv_at hl 0 rfl) (lv_at hl 4 rfl) dL_law_145 dL_law_146 dL_law_148 dL_law_149 dL_law_150 ?_
  refine l_arg (d := 2) C hS hjN (by omega) (by decide) (lv_at hl 0 rfl) (lv_at hl 4 rfl) dL_law_151 dL_law_152 dL_law_154 dL_law_155 dL_law_156 ?_
  refine l_arg (d := 3) C hS hjN (by omega) (by decide) (lv_at hl 0 rfl) (lv_at hl 4 rfl) dL_law_157 dL_law_158 dL_law_160 dL_law_161 dL_law_162 ?_
  refine l_arg (d := 4) C hS hjN (by omega) (by decide) (lv_at hl 0 rfl) (lv_at hl 4 rfl) dL_law_163 dL_law_164 dL_law_166 dL_law_167 dL_law_168 ?_
  refine lv_aload_n hx hb dL_law_169 rfl (lv_at hl 3 rfl) ?_
  have hk : cPla (xs (5 * j + 1)) (xs (5 * j + 2)) (xs (5 * j + 3)) (xs (5 * j + 4)) = 0 ∨ cPla (xs (5 * j + 1)) (xs (5 * j + 2)) (xs (5 * j + 3)) (xs (5 * j + 4)) = 1 ∨ cPla (xs (5 * j + 1)) (xs (5 * j + 2)) (xs (5 * j + 3)) (xs (5 * j + 4)) = 2 := by
    unfold cPla
    (repeat' split) <;> omega
  have hkl : ¬ cPla (xs (5 * j + 1)) (xs (5 * j + 2)) (xs (5 * j + 3)) (xs (5 * j + 4)) = 0 → ¬ nI (cPla (xs (5 * j + 1)) (xs (5 * j + 2)) (xs (5 * j + 3)) (xs (5 * j + 4))) = 0 := by
    intro h9
    rcases hk with e9 | e9 | e9
    · exact absurd e9 h9
    · rw [e9]; decide
    · rw [e9]; decide
  have ho := o_plane hV (xs (5 * j + 1)) (xs (5 * j + 2)) (xs (5 * j + 3)) (xs (5 * j + 4))
  refine l_help (index := 75) (av := [.ref o, .int (xs (5 * j + 1)), .int (xs (5 * j + 2)), .int (xs (5 * j + 3)), .int (xs (5 * j + 4)), .ref qo]) (wr := cM cI am mm h) C 14 91 rfl rfl (hL_plane l D cI cQ cJ o qo g (WX cI cQ o s0 w0 x a a2 A r q t n (zF A n) (nI old) (nI held) B) _ rfl (xs (5 * j + 1)) (xs (5 * j + 2)) (xs (5 * j + 3)) (xs (5 * j + 4)) _ _ (xX3_plane l hfl D cI cQ cJ o s0 w0 x a a2 A r q t n old held B (xs (5 * j + 1)) (xs (5 * j + 2)) (xs (5 * j + 3)) (xs (5 * j + 4)) hV.1) hk) (vx_cwSW 6 hts gL_law_L_plane rfl rfl rfl (by decide +kernel) ⟨Nat.le_of_ble_eq_true rfl, Nat.le_of_ble_eq_true rfl⟩) rfl hP hD hS hl.1 rfl dL_law_170 ⟨by omega, by omega⟩ (fun z y9 w2 g1 H locs hd hg hP hD hS => ?_)
  have hR : HR cI cQ x a a2 o s0 w0 j (plaB mm held (xs (5 * j + 1)) (xs (5 * j + 2)) (xs (5 * j + 3)) (xs (5 * j + 4))) (plaV mm held (xs (5 * j + 1)) (xs (5 * j + 2)) (xs (5 * j + 3)) (xs (5 * j + 4))) z g1 w2 := by
    rcases hd with ⟨h3, h4, h5⟩ | ⟨h3, h4, x9, ⟨u9, e1, e2⟩, h6⟩
    · exact ⟨A, r, q, t, n, old, held, L, B, h5, (ho.1 h3).2, (ho.1 h3).1.trans h4.symm, fun h8 => absurd (h4.symm.trans h8) (hkl h3)⟩
    · have h7 := ho.2 h3
      exact ⟨u9, _, q, _, _, _, _, _, _, e2, h7.2.2, h7.2.1.trans h4.symm, fun _ => (hg h3).trans (h6.trans (by rw [h7.1, e1]))⟩
  obtain ⟨A1, r1, q1, t1, n1, old1, held1, L1, B1, hw, hV1, hz, hv⟩ := hR
  refine lv_istore (lv' := [(5, .int z), (0, .ref b), (1, .ref o), (2, .ref (am 0)), (3, .ref qo), (4, .int (nI (5 * j)))]) hx hb dL_law_173 hl (by decide) rfl (fun ls hl => ?_)
  refine lv_aload_n hx hb dL_law_175 rfl (lv_at hl 3 rfl) ?_
  refine l_arg (d := 1) C hS hjN (by omega) (by decide) (lv_at hl 1 rfl) (lv_at hl 5 rfl) dL_law_176 dL_law_177 dL_law_179 dL_law_180 dL_law_181 ?_
  refine l_arg (d := 2) C hS hjN (by omega) (by decide) (lv_at hl 1 rfl) (lv_at hl 5 rfl) dL_law_182 dL_law_183 dL_law_185 dL_law_186 dL_law_187 ?_
  refine l_arg (d := 3) C hS hjN (by omega) (by decide) (lv_at hl 1 rfl) (lv_at hl 5 rfl) dL_law_188 dL_law_189 dL_law_191 dL_law_192 dL_law_193 ?_
  refine l_arg (d := 4) C hS hjN (by omega) (by decide) (lv_at hl 1 rfl) (lv_at hl 5 rfl) dL_law_194 dL_law_195 dL_law_197 dL_law_198 dL_law_199 ?_
  refine l_model (index := 80) (As := [.int (xs (5 * j + 1)), .int (xs (5 * j + 2)), .int (xs (5 * j + 3)), .int (xs (5 * j + 4))]) (mB := plaB mm held (xs (5 * j + 1)) (xs (5 * j + 2)) (xs (5 * j + 3)) (xs (5 * j + 4))) (v := plaV mm held (xs (5 * j + 1)) (xs (5 * j + 2)) (xs (5 * j + 3)) (xs (5 * j + 4))) C (mX4_plane l D cI cQ cJ am mm h held hV.2.2.2.2.1.2 hV.1.2.2.1 (xs (5 * j + 1)) (xs (5 * j + 2)) (xs (5 * j + 3)) (xs (5 * j + 4))) (cwV 4 hts gL_law_X4_plane rfl rfl rfl (by decide +kernel) ⟨Nat.le_of_ble_eq_true rfl, Nat.le_of_ble_eq_true rfl⟩) rfl hP hD hS hl.1 rfl dL_law_200 ⟨by omega, by omega⟩ (fun H locs hP hD hS => ?_)
  refine lv_istore (lv' := [(6, .int (plaV mm held (xs (5 * j + 1)) (xs (5 * j + 2)) (xs (5 * j + 3)) (xs (5 * j + 4)))), (5, .int z), (0, .ref b), (1, .ref o), (2, .ref (am 0)), (3, .ref qo), (4, .int (nI (5 * j)))]) hx hb dL_law_203 hl (by decide) rfl (fun ls hl => ?_)
  refine l_tail (T := 205) C hz hv hP hD hS hl ⟨by omega, by omega⟩ dL_law_205 dL_law_206 dL_law_209 dL_law_211 dL_law_216 dL_law_218 dL_law_221 dL_law_222 dL_law_223 dL_law_224 dL_law_226 dL_law_227 dL_law_228 dL_law_233 (by decide) (fun H locs hP hD hS hl => ?_)
  refine W.widen (k := 38 + 14 * (j + 1)) (n := 982 + 91 * (j + 1)) (by omega) (by omega) ?_
  exact kk _ H locs ls ⟨A1, r1, q1, t1, n1, old1, held1, L1, B1, _, h, g1, hV1, by rw [hw]⟩ hP hD hS hl
set_option maxHeartbeats 4000000 in
set_option maxRecDepth 100000 in
theorem lc_gutter (C : LA p l s m meth c b N xs D cI cQ cJ) {j : Nat} (hj : j < 512) (hjN : 5 * j + 5 ≤ N) {w : va_W} (hI : LI cI cQ cJ am x a a2 qo o s0 w0 j w) (hP : va_P D vwCl w H) (hD : va_D (AL s) w) (hS : va_S (AL s) s.heap H locs) (hl : lv_has ls 9 (lv0 b o am qo (5 * j))) (kk : ∀ (w : va_W) (H : Heap) (locs : List Loc) (ls : Array Slot), LI cI cQ cJ am x a a2 qo o s0 w0 (j + 1) w → va_P D vwCl w H → va_D (AL s) w → va_S (AL s) s.heap H locs → lv_has ls 9 (lv0 b o am qo (5 * j)) → W p l e room_1 s m #[Value.ref b] below meth c H locs (38 + 14 * (j + 1)) (982 + 91 * (j + 1)) Q (F0 m 1311 ls [])) : W p l e room_1 s m #[Value.ref b] below meth c H locs (38 + 14 * j) (982 + 91 * j) Q (F0 m 236 ls []) := by
  obtain ⟨A, r, q, t, n, old, held, L, B, mm, h, g, hV, rfl⟩ := hI
  have C0 := C
  obtain ⟨hx, hb, hml, hts, hown, hX, hbl, hE, hEX, hK, hfl, hN⟩ := C0
  refine lv_aload_n hx hb dL_law_236 rfl (lv_at hl 1 rfl) ?_
  refine l_arg (d := 1) C hS hjN (by omega) (by decide) (lv_at hl 0 rfl) (lv_at hl 4 rfl) dL_law_237 dL_law_238 dL_law_240 dL_law_241 dL_law_242 ?_
  refine l_arg (d := 2) C hS hjN (by omega) (by decide) (lv_at hl 0 rfl) (lv_at hl 4 rfl) dL_law_243 dL_law_244 dL_law_246 dL_law_247 dL_law_248 ?_
  refine l_arg (d := 3) C hS hjN (by omega) (by decide) (lv_at hl 0 rfl) (lv_at hl 4 rfl) dL_law_249 dL_law_250 dL_law_252 dL_law_253 dL_law_254 ?_
  refine lv_aload_n hx hb dL_law_255 rfl (lv_at hl 3 rfl) ?_
  have hk : cGut (xs (5 * j + 1)) (xs (5 * j + 2)) (xs (5 * j + 3)) = 0 ∨ cGut (xs (5 * j + 1)) (xs (5 * j + 2)) (xs (5 * j + 3)) = 1 ∨ cGut (xs (5 * j + 1)) (xs (5 * j + 2)) (xs (5 * j + 3)) = 2 := by
    unfold cGut
    (repeat' split) <;> omega
  have hkl : ¬ cGut (xs (5 * j + 1)) (xs (5 * j + 2)) (xs (5 * j + 3)) = 0 → ¬ nI (cGut (xs (5 * j + 1)) (xs (5 * j + 2)) (xs (5 * j + 3))) = 0 := by
    intro h9
    rcases hk with e9 | e9 | e9
    · exact absurd e9 h9
    · rw [e9]; decide
    · rw [e9]; decide
  have ho := o_gutter hV (xs (5 * j + 1)) (xs (5 * j + 2)) (xs (5 * j + 3))
  refine l_help (index := 84) (av := [.ref o, .int (xs (5 * j + 1)), .int (xs (5 * j + 2)), .int (xs (5 * j + 3)), .ref qo]) (wr := cM cI am mm h) C 14 91 rfl rfl (hL_gutter l D cI cQ cJ o qo g (WX cI cQ o s0 w0 x a a2 A r q t n (zF A n) (nI old) (nI held) B) _ rfl (xs (5 * j + 1)) (xs (5 * j + 2)) (xs (5 * j + 3)) _ _ (xX3_gutter l hfl D cI cQ cJ o s0 w0 x a a2 A r q t n old held B (xs (5 * j + 1)) (xs (5 * j + 2)) (xs (5 * j + 3)) hV.1) hk) (vx_cwSW 5 hts gL_law_L_gutter rfl rfl rfl (by decide +kernel) ⟨Nat.le_of_ble_eq_true rfl, Nat.le_of_ble_eq_true rfl⟩) rfl hP hD hS hl.1 rfl dL_law_256 ⟨by omega, by omega⟩ (fun z y9 w2 g1 H locs hd hg hP hD hS => ?_)
  have hR : HR cI cQ x a a2 o s0 w0 j (gutB mm held (xs (5 * j + 1)) (xs (5 * j + 2)) (xs (5 * j + 3))) (gutV mm held (xs (5 * j + 1)) (xs (5 * j + 2)) (xs (5 * j + 3))) z g1 w2 := by
    rcases hd with ⟨h3, h4, h5⟩ | ⟨h3, h4, x9, ⟨u9, e1, e2⟩, h6⟩
    · exact ⟨A, r, q, t, n, old, held, L, B, h5, (ho.1 h3).2, (ho.1 h3).1.trans h4.symm, fun h8 => absurd (h4.symm.trans h8) (hkl h3)⟩
    · have h7 := ho.2 h3
      exact ⟨u9, _, q, _, _, _, _, _, _, e2, h7.2.2, h7.2.1.trans h4.symm, fun _ => (hg h3).trans (h6.trans (by rw [h7.1, e1]))⟩
  obtain ⟨A1, r1, q1, t1, n1, old1, held1, L1, B1, hw, hV1, hz, hv⟩ := hR
  refine lv_istore (lv' := [(5, .int z), (0, .ref b), (1, .ref o), (2, .ref (am 0)), (3, .ref qo), (4, .int (nI (5 * j)))]) hx hb dL_law_259 hl (by decide) rfl (fun ls hl => ?_)
  refine lv_aload_n hx hb dL_law_261 rfl (lv_at hl 3 rfl) ?_
  refine l_arg (d := 1) C hS hjN (by omega) (by decide) (lv_at hl 1 rfl) (lv_at hl 5 rfl) dL_law_262 dL_law_263 dL_law_265 dL_law_266 dL_law_267 ?_
  refine l_arg (d := 2) C hS hjN (by omega) (by decide) (lv_at hl 1 rfl) (lv_at hl 5 rfl) dL_law_268 dL_law_269 dL_law_271 dL_law_272 dL_law_273 ?_
  refine l_arg (d := 3) C hS hjN (by omega) (by decide) (lv_at hl 1 rfl) (lv_at hl 5 rfl) dL_law_274 dL_law_275 dL_law_277 dL_law_278 dL_law_279 ?_
  refine l_model (index := 87) (As := [.int (xs (5 * j + 1)), .int (xs (5 * j + 2)), .int (xs (5 * j + 3))]) (mB := gutB mm held (xs (5 * j + 1)) (xs (5 * j + 2)) (xs (5 * j + 3))) (v := gutV mm held (xs (5 * j + 1)) (xs (5 * j + 2)) (xs (5 * j + 3))) C (mX4_gutter l D cI cQ cJ am mm h held hV.2.2.2.2.1.2 hV.1.2.2.1 (xs (5 * j + 1)) (xs (5 * j + 2)) (xs (5 * j + 3))) (cwV 3 hts gL_law_X4_gutter rfl rfl rfl (by decide +kernel) ⟨Nat.le_of_ble_eq_true rfl, Nat.le_of_ble_eq_true rfl⟩) rfl hP hD hS hl.1 rfl dL_law_280 ⟨by omega, by omega⟩ (fun H locs hP hD hS => ?_)
  refine lv_istore (lv' := [(6, .int (gutV mm held (xs (5 * j + 1)) (xs (5 * j + 2)) (xs (5 * j + 3)))), (5, .int z), (0, .ref b), (1, .ref o), (2, .ref (am 0)), (3, .ref qo), (4, .int (nI (5 * j)))]) hx hb dL_law_283 hl (by decide) rfl (fun ls hl => ?_)
  refine l_tail (T := 285) C hz hv hP hD hS hl ⟨by omega, by omega⟩ dL_law_285 dL_law_286 dL_law_289 dL_law_291 dL_law_296 dL_law_298 dL_law_301 dL_law_302 dL_law_303 dL_law_304 dL_law_306 dL_law_307 dL_law_308 dL_law_313 (by decide) (fun H locs hP hD hS hl => ?_)
  refine W.widen (k := 38 + 14 * (j + 1)) (n := 982 + 91 * (j + 1)) (by omega) (by omega) ?_
  exact kk _ H locs ls ⟨A1, r1, q1, t1, n1, old1, held1, L1, B1, _, h, g1, hV1, by rw [hw]⟩ hP hD hS hl
set_option maxHeartbeats 4000000 in
set_option maxRecDepth 100000 in
theorem lc_valley (C : LA p l s m meth c b N xs D cI cQ cJ) {j : Nat} (hj : j < 512) (hjN : 5 * j + 5 ≤ N) {w : va_W} (hI : LI cI cQ cJ am x a a2 qo o s0 w0 j w) (hP : va_P D vwCl w H) (hD : va_D (AL s) w) (hS : va_S (AL s) s.heap H locs) (hl : lv_has ls 9 (lv0 b o am qo (5 * j))) (kk : ∀ (w : va_W) (H : Heap) (locs : List Loc) (ls : Array Slot), LI cI cQ cJ am x a a2 qo o s0 w0 (j + 1) w → va_P D vwCl w H → va_D (AL s) w → va_S (AL s) s.heap H locs → lv_has ls 9 (lv0 b o am qo (5 * j)) → W p l e room_1 s m #[Value.ref b] below meth c H locs (38 + 14 * (j + 1)) (982 + 91 * (j + 1)) Q (F0 m 1311 ls [])) : W p l e room_1 s m #[Value.ref b] below meth c H locs (38 + 14 * j) (982 + 91 * j) Q (F0 m 316 ls []) := by
  obtain ⟨A, r, q, t, n, old, held, L, B, mm, h, g, hV, rfl⟩ := hI
  have C0 := C
  obtain ⟨hx, hb, hml, hts, hown, hX, hbl, hE, hEX, hK, hfl, hN⟩ := C0
  refine lv_aload_n hx hb dL_law_316 rfl (lv_at hl 1 rfl) ?_
  refine l_arg (d := 1) C hS hjN (by omega) (by decide) (lv_at hl 0 rfl) (lv_at hl 4 rfl) dL_law_317 dL_law_318 dL_law_320 dL_law_321 dL_law_322 ?_
  refine l_arg (d := 2) C hS hjN (by omega) (by decide) (lv_at hl 0 rfl) (lv_at hl 4 rfl) dL_law_323 dL_law_324 dL_law_326 dL_law_327 dL_law_328 ?_
  refine lv_aload_n hx hb dL_law_329 rfl (lv_at hl 3 rfl) ?_
  have hk : cVal r (xs (5 * j + 1)) (xs (5 * j + 2)) = 0 ∨ cVal r (xs (5 * j + 1)) (xs (5 * j + 2)) = 1 ∨ cVal r (xs (5 * j + 1)) (xs (5 * j + 2)) = 2 ∨ cVal r (xs (5 * j + 1)) (xs (5 * j + 2)) = 3 := by
    unfold cVal
    (repeat' split) <;> omega
  have hkl : ¬ cVal r (xs (5 * j + 1)) (xs (5 * j + 2)) = 0 → ¬ nI (cVal r (xs (5 * j + 1)) (xs (5 * j + 2))) = 0 := by
    intro h9
    rcases hk with e9 | e9 | e9 | e9
    · exact absurd e9 h9
    · rw [e9]; decide
    · rw [e9]; decide
    · rw [e9]; decide
  have ho := o_valley hV (xs (5 * j + 1)) (xs (5 * j + 2))
  refine l_help (index := 88) (av := [.ref o, .int (xs (5 * j + 1)), .int (xs (5 * j + 2)), .ref qo]) (wr := cM cI am mm h) C 14 91 rfl rfl (hL_valley l D cI cQ cJ o qo g (WX cI cQ o s0 w0 x a a2 A r q t n (zF A n) (nI old) (nI held) B) _ rfl (xs (5 * j + 1)) (xs (5 * j + 2)) _ _ (xX3_valley l hfl D cI cQ cJ o s0 w0 x a a2 A r q t n old held B (xs (5 * j + 1)) (xs (5 * j + 2)) hV.1) hk) (vx_cwSW 4 hts gL_law_L_valley rfl rfl rfl (by decide +kernel) ⟨Nat.le_of_ble_eq_true rfl, Nat.le_of_ble_eq_true rfl⟩) rfl hP hD hS hl.1 rfl dL_law_330 ⟨by omega, by omega⟩ (fun z y9 w2 g1 H locs hd hg hP hD hS => ?_)
  have hR : HR cI cQ x a a2 o s0 w0 j (valB mm held (xs (5 * j + 1)) (xs (5 * j + 2))) (valV mm held (xs (5 * j + 1)) (xs (5 * j + 2))) z g1 w2 := by
    rcases hd with ⟨h3, h4, h5⟩ | ⟨h3, h4, x9, ⟨u9, e1, e2⟩, h6⟩
    · exact ⟨A, r, q, t, n, old, held, L, B, h5, (ho.1 h3).2, (ho.1 h3).1.trans h4.symm, fun h8 => absurd (h4.symm.trans h8) (hkl h3)⟩
    · have h7 := ho.2 h3
      exact ⟨u9, _, q, _, _, _, _, _, _, e2, h7.2.2, h7.2.1.trans h4.symm, fun _ => (hg h3).trans (h6.trans (by rw [h7.1, e1]))⟩
  obtain ⟨A1, r1, q1, t1, n1, old1, held1, L1, B1, hw, hV1, hz, hv⟩ := hR
  refine lv_istore (lv' := [(5, .int z), (0, .ref b), (1, .ref o), (2, .ref (am 0)), (3, .ref qo), (4, .int (nI (5 * j)))]) hx hb dL_law_333 hl (by decide) rfl (fun ls hl => ?_)
  refine lv_aload_n hx hb dL_law_335 rfl (lv_at hl 3 rfl) ?_
  refine l_arg (d := 1) C hS hjN (by omega) (by decide) (lv_at hl 1 rfl) (lv_at hl 5 rfl) dL_law_336 dL_law_337 dL_law_339 dL_law_340 dL_law_341 ?_
  refine l_arg (d := 2) C hS hjN (by omega) (by decide) (lv_at hl 1 rfl) (lv_at hl 5 rfl) dL_law_342 dL_law_343 dL_law_345 dL_law_346 dL_law_347 ?_
  refine l_model (index := 91) (As := [.int (xs (5 * j + 1)), .int (xs (5 * j + 2))]) (mB := valB mm held (xs (5 * j + 1)) (xs (5 * j + 2))) (v := valV mm held (xs (5 * j + 1)) (xs (5 * j + 2))) C (mX4_valley l D cI cQ cJ am mm h held hV.2.2.2.2.1.2 hV.1.2.2.1 (okS_of hV.2.1 hV.2.2.1.1) (fun i hi => ch_eq (m := bp mm 5 0 0) (by rw [bpr (show 0 ≠ 5 by decide)]; exact hV.2.1) hV.2.2.1.1 6 _ (Or.inr ⟨i, hi, rfl⟩) (hV.2.2.1.2.2 i hi)) (xs (5 * j + 1)) (xs (5 * j + 2))) (cwV 2 hts gL_law_X4_valley rfl rfl rfl (by decide +kernel) ⟨Nat.le_of_ble_eq_true rfl, Nat.le_of_ble_eq_true rfl⟩) rfl hP hD hS hl.1 rfl dL_law_348 ⟨by omega, by omega⟩ (fun H locs hP hD hS => ?_)
  refine lv_istore (lv' := [(6, .int (valV mm held (xs (5 * j + 1)) (xs (5 * j + 2)))), (5, .int z), (0, .ref b), (1, .ref o), (2, .ref (am 0)), (3, .ref qo), (4, .int (nI (5 * j)))]) hx hb dL_law_351 hl (by decide) rfl (fun ls hl => ?_)
  refine l_tail (T := 353) C hz hv hP hD hS hl ⟨by omega, by omega⟩ dL_law_353 dL_law_354 dL_law_357 dL_law_359 dL_law_364 dL_law_366 dL_law_369 dL_law_370 dL_law_371 dL_law_372 dL_law_374 dL_law_375 dL_law_376 dL_law_381 (by decide) (fun H locs hP hD hS hl => ?_)
  refine W.widen (k := 38 + 14 * (j + 1)) (n := 982 + 91 * (j + 1)) (by omega) (by omega) ?_
  exact kk _ H locs ls ⟨A1, r1, q1, t1, n1, old1, held1, L1, B1, _, h, g1, hV1, by rw [hw]⟩ hP hD hS hl
set_option maxHeartbeats 4000000 in
set_option maxRecDepth 100000 in
theorem lc_clean (C : LA p l s m meth c b N xs D cI cQ cJ) {j : Nat} (hj : j < 512) (hjN : 5 * j + 5 ≤ N) {w : va_W} (hI : LI cI cQ cJ am x a a2 qo o s0 w0 j w) (hP : va_P D vwCl w H) (hD : va_D (AL s) w) (hS : va_S (AL s) s.heap H locs) (hl : lv_has ls 9 (lv0 b o am qo (5 * j))) (kk : ∀ (w : va_W) (H : Heap) (locs : List Loc) (ls : Array Slot), LI cI cQ cJ am x a a2 qo o s0 w0 (j + 1) w → va_P D vwCl w H → va_D (AL s) w → va_S (AL s) s.heap H locs → lv_has ls 9 (lv0 b o am qo (5 * j)) → W p l e room_1 s m #[Value.ref b] below meth c H locs (38 + 14 * (j + 1)) (982 + 91 * (j + 1)) Q (F0 m 1311 ls [])) : W p l e room_1 s m #[Value.ref b] below meth c H locs (38 + 14 * j) (982 + 91 * j) Q (F0 m 384 ls []) := by
  obtain ⟨A, r, q, t, n, old, held, L, B, mm, h, g, hV, rfl⟩ := hI
  have C0 := C
  obtain ⟨hx, hb, hml, hts, hown, hX, hbl, hE, hEX, hK, hfl, hN⟩ := C0
  refine lv_aload_n hx hb dL_law_384 rfl (lv_at hl 1 rfl) ?_
  refine l_arg (d := 1) C hS hjN (by omega) (by decide) (lv_at hl 0 rfl) (lv_at hl 4 rfl) dL_law_385 dL_law_386 dL_law_388 dL_law_389 dL_law_390 ?_
  refine lv_aload_n hx hb dL_law_391 rfl (lv_at hl 3 rfl) ?_
  have hk : cCle (xs (5 * j + 1)) = 0 ∨ cCle (xs (5 * j + 1)) = 1 := by
    unfold cCle
    (repeat' split) <;> omega
  have hkl : ¬ cCle (xs (5 * j + 1)) = 0 → ¬ nI (cCle (xs (5 * j + 1))) = 0 := by
    intro h9
    rcases hk with e9 | e9
    · exact absurd e9 h9
    · rw [e9]; decide
  have ho := o_clean hV (xs (5 * j + 1))
  refine l_help (index := 92) (av := [.ref o, .int (xs (5 * j + 1)), .ref qo]) (wr := cM cI am mm h) C 14 91 rfl rfl (hL_clean l D cI cQ cJ o qo g (WX cI cQ o s0 w0 x a a2 A r q t n (zF A n) (nI old) (nI held) B) _ rfl (xs (5 * j + 1)) _ _ (xX3_clean l hfl D cI cQ cJ o s0 w0 x a a2 A r q t n old held B (xs (5 * j + 1)) hV.1) hk) (vx_cwSW 3 hts gL_law_L_clean rfl rfl rfl (by decide +kernel) ⟨Nat.le_of_ble_eq_true rfl, Nat.le_of_ble_eq_true rfl⟩) rfl hP hD hS hl.1 rfl dL_law_392 ⟨by omega, by omega⟩ (fun z y9 w2 g1 H locs hd hg hP hD hS => ?_)
  have hR : HR cI cQ x a a2 o s0 w0 j (cleB mm held (xs (5 * j + 1))) (cleV mm held (xs (5 * j + 1))) z g1 w2 := by
    rcases hd with ⟨h3, h4, h5⟩ | ⟨h3, h4, x9, ⟨u9, e1, e2⟩, h6⟩
    · exact ⟨A, r, q, t, n, old, held, L, B, h5, (ho.1 h3).2, (ho.1 h3).1.trans h4.symm, fun h8 => absurd (h4.symm.trans h8) (hkl h3)⟩
    · have h7 := ho.2 h3
      exact ⟨u9, _, q, _, _, _, _, _, _, e2, h7.2.2, h7.2.1.trans h4.symm, fun _ => (hg h3).trans (h6.trans (by rw [h7.1, e1]))⟩
  obtain ⟨A1, r1, q1, t1, n1, old1, held1, L1, B1, hw, hV1, hz, hv⟩ := hR
  refine lv_istore (lv' := [(5, .int z), (0, .ref b), (1, .ref o), (2, .ref (am 0)), (3, .ref qo), (4, .int (nI (5 * j)))]) hx hb dL_law_395 hl (by decide) rfl (fun ls hl => ?_)
  refine lv_aload_n hx hb dL_law_397 rfl (lv_at hl 3 rfl) ?_
  refine l_arg (d := 1) C hS hjN (by omega) (by decide) (lv_at hl 1 rfl) (lv_at hl 5 rfl) dL_law_398 dL_law_399 dL_law_401 dL_law_402 dL_law_403 ?_
  refine l_model (index := 95) (As := [.int (xs (5 * j + 1))]) (mB := cleB mm held (xs (5 * j + 1))) (v := cleV mm held (xs (5 * j + 1))) C (mX4_clean l D cI cQ cJ am mm h held hV.2.2.2.2.1.2 hV.1.2.2.1 (xs (5 * j + 1))) (cwV 1 hts gL_law_X4_clean rfl rfl rfl (by decide +kernel) ⟨Nat.le_of_ble_eq_true rfl, Nat.le_of_ble_eq_true rfl⟩) rfl hP hD hS hl.1 rfl dL_law_404 ⟨by omega, by omega⟩ (fun H locs hP hD hS => ?_)
  refine lv_istore (lv' := [(6, .int (cleV mm held (xs (5 * j + 1)))), (5, .int z), (0, .ref b), (1, .ref o), (2, .ref (am 0)), (3, .ref qo), (4, .int (nI (5 * j)))]) hx hb dL_law_407 hl (by decide) rfl (fun ls hl => ?_)
  refine l_tail (T := 409) C hz hv hP hD hS hl ⟨by omega, by omega⟩ dL_law_409 dL_law_410 dL_law_413 dL_law_415 dL_law_420 dL_law_422 dL_law_425 dL_law_426 dL_law_427 dL_law_428 dL_law_430 dL_law_431 dL_law_432 dL_law_437 (by decide) (fun H locs hP hD hS hl => ?_)
  refine W.widen (k := 38 + 14 * (j + 1)) (n := 982 + 91 * (j + 1)) (by omega) (by omega) ?_
  exact kk _ H locs ls ⟨A1, r1, q1, t1, n1, old1, held1, L1, B1, _, h, g1, hV1, by rw [hw]⟩ hP hD hS hl
set_option maxHeartbeats 4000000 in
set_option maxRecDepth 100000 in
theorem lc_set (C : LA p l s m meth c b N xs D cI cQ cJ) {j : Nat} (hj : j < 512) (hjN : 5 * j + 5 ≤ N) {w : va_W} (hI : LI cI cQ cJ am x a a2 qo o s0 w0 j w) (hP : va_P D vwCl w H) (hD : va_D (AL s) w) (hS : va_S (AL s) s.heap H locs) (hl : lv_has ls 9 (lv0 b o am qo (5 * j))) (kk : ∀ (w : va_W) (H : Heap) (locs : List Loc) (ls : Array Slot), LI cI cQ cJ am x a a2 qo o s0 w0 (j + 1) w → va_P D vwCl w H → va_D (AL s) w → va_S (AL s) s.heap H locs → lv_has ls 9 (lv0 b o am qo (5 * j)) → W p l e room_1 s m #[Value.ref b] below meth c H locs (38 + 14 * (j + 1)) (982 + 91 * (j + 1)) Q (F0 m 1311 ls [])) : W p l e room_1 s m #[Value.ref b] below meth c H locs (38 + 14 * j) (982 + 91 * j) Q (F0 m 440 ls []) := by
  obtain ⟨A, r, q, t, n, old, held, L, B, mm, h, g, hV, rfl⟩ := hI
  have C0 := C
  obtain ⟨hx, hb, hml, hts, hown, hX, hbl, hE, hEX, hK, hfl, hN⟩ := C0
  refine lv_aload_n hx hb dL_law_440 rfl (lv_at hl 1 rfl) ?_
  refine l_arg (d := 1) C hS hjN (by omega) (by decide) (lv_at hl 0 rfl) (lv_at hl 4 rfl) dL_law_441 dL_law_442 dL_law_444 dL_law_445 dL_law_446 ?_
  refine l_arg (d := 2) C hS hjN (by omega) (by decide) (lv_at hl 0 rfl) (lv_at hl 4 rfl) dL_law_447 dL_law_448 dL_law_450 dL_law_451 dL_law_452 ?_
  refine lv_aload_n hx hb dL_law_453 rfl (lv_at hl 3 rfl) ?_
  have hk : cSet (xs (5 * j + 1)) (xs (5 * j + 2)) = 0 ∨ cSet (xs (5 * j + 1)) (xs (5 * j + 2)) = 1 ∨ cSet (xs (5 * j + 1)) (xs (5 * j + 2)) = 2 := by
    unfold cSet
    (repeat' split) <;> omega
  have hkl : ¬ cSet (xs (5 * j + 1)) (xs (5 * j + 2)) = 0 → ¬ nI (cSet (xs (5 * j + 1)) (xs (5 * j + 2))) = 0 := by
    intro h9
    rcases hk with e9 | e9 | e9
    · exact absurd e9 h9
    · rw [e9]; decide
    · rw [e9]; decide
  have ho := o_set hV (xs (5 * j + 1)) (xs (5 * j + 2))
  refine l_help (index := 96) (av := [.ref o, .int (xs (5 * j + 1)), .int (xs (5 * j + 2)), .ref qo]) (wr := cM cI am mm h) C 14 91 rfl rfl (hL_set l D cI cQ cJ o qo g (WX cI cQ o s0 w0 x a a2 A r q t n (zF A n) (nI old) (nI held) B) _ rfl (xs (5 * j + 1)) (xs (5 * j + 2)) _ _ (xX3_set l hfl D cI cQ cJ o s0 w0 x a a2 A r q t n old held B (xs (5 * j + 1)) (xs (5 * j + 2)) hV.1) hk) (vx_cwSW 4 hts gL_law_L_set rfl rfl rfl (by decide +kernel) ⟨Nat.le_of_ble_eq_true rfl, Nat.le_of_ble_eq_true rfl⟩) rfl hP hD hS hl.1 rfl dL_law_454 ⟨by omega, by omega⟩ (fun z y9 w2 g1 H locs hd hg hP hD hS => ?_)
  have hR : HR cI cQ x a a2 o s0 w0 j (setB mm held (xs (5 * j + 1)) (xs (5 * j + 2))) (setV mm held (xs (5 * j + 1)) (xs (5 * j + 2))) z g1 w2 := by
    rcases hd with ⟨h3, h4, h5⟩ | ⟨h3, h4, x9, ⟨u9, e1, e2⟩, h6⟩
    · exact ⟨A, r, q, t, n, old, held, L, B, h5, (ho.1 h3).2, (ho.1 h3).1.trans h4.symm, fun h8 => absurd (h4.symm.trans h8) (hkl h3)⟩
    · have h7 := ho.2 h3
      exact ⟨u9, _, q, _, _, _, _, _, _, e2, h7.2.2, h7.2.1.trans h4.symm, fun _ => (hg h3).trans (h6.trans (by rw [h7.1, e1]))⟩
  obtain ⟨A1, r1, q1, t1, n1, old1, held1, L1, B1, hw, hV1, hz, hv⟩ := hR
  refine lv_istore (lv' := [(5, .int z), (0, .ref b), (1, .ref o), (2, .ref (am 0)), (3, .ref qo), (4, .int (nI (5 * j)))]) hx hb dL_law_457 hl (by decide) rfl (fun ls hl => ?_)
  refine lv_aload_n hx hb dL_law_459 rfl (lv_at hl 3 rfl) ?_
  refine l_arg (d := 1) C hS hjN (by omega) (by decide) (lv_at hl 1 rfl) (lv_at hl 5 rfl) dL_law_460 dL_law_461 dL_law_463 dL_law_464 dL_law_465 ?_
  refine l_arg (d := 2) C hS hjN (by omega) (by decide) (lv_at hl 1 rfl) (lv_at hl 5 rfl) dL_law_466 dL_law_467 dL_law_469 dL_law_470 dL_law_471 ?_
  refine l_model (index := 98) (As := [.int (xs (5 * j + 1)), .int (xs (5 * j + 2))]) (mB := setB mm held (xs (5 * j + 1)) (xs (5 * j + 2))) (v := setV mm held (xs (5 * j + 1)) (xs (5 * j + 2))) C (mX4_set l D cI cQ cJ am mm h held hV.2.2.2.2.1.2 hV.1.2.2.1 (xs (5 * j + 1)) (xs (5 * j + 2))) (cwV 2 hts gL_law_X4_set rfl rfl rfl (by decide +kernel) ⟨Nat.le_of_ble_eq_true rfl, Nat.le_of_ble_eq_true rfl⟩) rfl hP hD hS hl.1 rfl dL_law_472 ⟨by omega, by omega⟩ (fun H locs hP hD hS => ?_)
  refine lv_istore (lv' := [(6, .int (setV mm held (xs (5 * j + 1)) (xs (5 * j + 2)))), (5, .int z), (0, .ref b), (1, .ref o), (2, .ref (am 0)), (3, .ref qo), (4, .int (nI (5 * j)))]) hx hb dL_law_475 hl (by decide) rfl (fun ls hl => ?_)
  refine l_tail (T := 477) C hz hv hP hD hS hl ⟨by omega, by omega⟩ dL_law_477 dL_law_478 dL_law_481 dL_law_483 dL_law_488 dL_law_490 dL_law_493 dL_law_494 dL_law_495 dL_law_496 dL_law_498 dL_law_499 dL_law_500 dL_law_505 (by decide) (fun H locs hP hD hS hl => ?_)
  refine W.widen (k := 38 + 14 * (j + 1)) (n := 982 + 91 * (j + 1)) (by omega) (by omega) ?_
  exact kk _ H locs ls ⟨A1, r1, q1, t1, n1, old1, held1, L1, B1, _, h, g1, hV1, by rw [hw]⟩ hP hD hS hl
set_option maxHeartbeats 4000000 in
set_option maxRecDepth 100000 in
theorem lc_rain (C : LA p l s m meth c b N xs D cI cQ cJ) {j : Nat} (hj : j < 512) (hjN : 5 * j + 5 ≤ N) {w : va_W} (hI : LI cI cQ cJ am x a a2 qo o s0 w0 j w) (hP : va_P D vwCl w H) (hD : va_D (AL s) w) (hS : va_S (AL s) s.heap H locs) (hl : lv_has ls 9 (lv0 b o am qo (5 * j))) (kk : ∀ (w : va_W) (H : Heap) (locs : List Loc) (ls : Array Slot), LI cI cQ cJ am x a a2 qo o s0 w0 (j + 1) w → va_P D vwCl w H → va_D (AL s) w → va_S (AL s) s.heap H locs → lv_has ls 9 (lv0 b o am qo (5 * j)) → W p l e room_1 s m #[Value.ref b] below meth c H locs (38 + 14 * (j + 1)) (982 + 91 * (j + 1)) Q (F0 m 1311 ls [])) : W p l e room_1 s m #[Value.ref b] below meth c H locs (38 + 14 * j) (982 + 91 * j) Q (F0 m 508 ls []) := by
  obtain ⟨A, r, q, t, n, old, held, L, B, mm, h, g, hV, rfl⟩ := hI
  have C0 := C
  obtain ⟨hx, hb, hml, hts, hown, hX, hbl, hE, hEX, hK, hfl, hN⟩ := C0
  refine lv_aload_n hx hb dL_law_508 rfl (lv_at hl 1 rfl) ?_
  refine l_arg (d := 1) C hS hjN (by omega) (by decide) (lv_at hl 0 rfl) (lv_at hl 4 rfl) dL_law_509 dL_law_510 dL_law_512 dL_law_513 dL_law_514 ?_
  refine l_arg (d := 2) C hS hjN (by omega) (by decide) (lv_at hl 0 rfl) (lv_at hl 4 rfl) dL_law_515 dL_law_516 dL_law_518 dL_law_519 dL_law_520 ?_
  refine lv_aload_n hx hb dL_law_521 rfl (lv_at hl 3 rfl) ?_
  have hk : cRai (xs (5 * j + 1)) (xs (5 * j + 2)) = 0 ∨ cRai (xs (5 * j + 1)) (xs (5 * j + 2)) = 2 := by
    unfold cRai
    (repeat' split) <;> omega
  have hkl : ¬ cRai (xs (5 * j + 1)) (xs (5 * j + 2)) = 0 → ¬ nI (cRai (xs (5 * j + 1)) (xs (5 * j + 2)) - 1) = 0 := by
    intro h9
    rcases hk with e9 | e9
    · exact absurd e9 h9
    · rw [e9]; decide
  have ho := o_rain hV hj (xs (5 * j + 1)) (xs (5 * j + 2))
  refine l_help (index := 99) (av := [.ref o, .int (xs (5 * j + 1)), .int (xs (5 * j + 2)), .ref qo]) (wr := cM cI am mm h) C 14 91 rfl rfl (hL_rain l D cI cQ cJ o qo g (WX cI cQ o s0 w0 x a a2 A r q t n (zF A n) (nI old) (nI held) B) _ rfl (xs (5 * j + 1)) (xs (5 * j + 2)) _ _ (xX3_rain l hfl D cI cQ cJ o s0 w0 x a a2 A r q t n old held B (xs (5 * j + 1)) (xs (5 * j + 2)) hV.1) hk) (vx_cwSW 4 hts gL_law_L_rain rfl rfl rfl (by decide +kernel) ⟨Nat.le_of_ble_eq_true rfl, Nat.le_of_ble_eq_true rfl⟩) rfl hP hD hS hl.1 rfl dL_law_522 ⟨by omega, by omega⟩ (fun z y9 w2 g1 H locs hd hg hP hD hS => ?_)
  have hR : HR cI cQ x a a2 o s0 w0 j (raiB mm held (xs (5 * j + 1)) (xs (5 * j + 2))) (raiV mm held (xs (5 * j + 1)) (xs (5 * j + 2))) z g1 w2 := by
    rcases hd with ⟨h3, h4, h5⟩ | ⟨h3, h4, x9, ⟨u9, e1, e2⟩, h6⟩
    · exact ⟨A, r, q, t, n, old, held, L, B, h5, (ho.1 h3).2, (ho.1 h3).1.trans h4.symm, fun h8 => absurd (h4.symm.trans h8) (hkl h3)⟩
    · have h7 := ho.2 h3
      exact ⟨u9, _, q, _, _, _, _, _, _, e2, h7.2.2, h7.2.1.trans h4.symm, fun _ => (hg h3).trans (h6.trans (by rw [h7.1, e1]))⟩
  obtain ⟨A1, r1, q1, t1, n1, old1, held1, L1, B1, hw, hV1, hz, hv⟩ := hR
  refine lv_istore (lv' := [(5, .int z), (0, .ref b), (1, .ref o), (2, .ref (am 0)), (3, .ref qo), (4, .int (nI (5 * j)))]) hx hb dL_law_525 hl (by decide) rfl (fun ls hl => ?_)
  refine lv_aload_n hx hb dL_law_527 rfl (lv_at hl 3 rfl) ?_
  refine l_arg (d := 1) C hS hjN (by omega) (by decide) (lv_at hl 1 rfl) (lv_at hl 5 rfl) dL_law_528 dL_law_529 dL_law_531 dL_law_532 dL_law_533 ?_
  refine l_arg (d := 2) C hS hjN (by omega) (by decide) (lv_at hl 1 rfl) (lv_at hl 5 rfl) dL_law_534 dL_law_535 dL_law_537 dL_law_538 dL_law_539 ?_
  refine l_model (index := 101) (As := [.int (xs (5 * j + 1)), .int (xs (5 * j + 2))]) (mB := raiB mm held (xs (5 * j + 1)) (xs (5 * j + 2))) (v := raiV mm held (xs (5 * j + 1)) (xs (5 * j + 2))) C (mX4_rain l D cI cQ cJ am mm h held hV.2.2.2.2.1.2 hV.1.2.2.1 (okS_of hV.2.1 hV.2.2.1.1) (xs (5 * j + 1)) (xs (5 * j + 2))) (cwV 2 hts gL_law_X4_rain rfl rfl rfl (by decide +kernel) ⟨Nat.le_of_ble_eq_true rfl, Nat.le_of_ble_eq_true rfl⟩) rfl hP hD hS hl.1 rfl dL_law_540 ⟨by omega, by omega⟩ (fun H locs hP hD hS => ?_)
  refine lv_istore (lv' := [(6, .int (raiV mm held (xs (5 * j + 1)) (xs (5 * j + 2)))), (5, .int z), (0, .ref b), (1, .ref o), (2, .ref (am 0)), (3, .ref qo), (4, .int (nI (5 * j)))]) hx hb dL_law_543 hl (by decide) rfl (fun ls hl => ?_)
  refine l_tail (T := 545) C hz hv hP hD hS hl ⟨by omega, by omega⟩ dL_law_545 dL_law_546 dL_law_549 dL_law_551 dL_law_556 dL_law_558 dL_law_561 dL_law_562 dL_law_563 dL_law_564 dL_law_566 dL_law_567 dL_law_568 dL_law_573 (by decide) (fun H locs hP hD hS hl => ?_)
  refine W.widen (k := 38 + 14 * (j + 1)) (n := 982 + 91 * (j + 1)) (by omega) (by omega) ?_
  exact kk _ H locs ls ⟨A1, r1, q1, t1, n1, old1, held1, L1, B1, _, h, g1, hV1, by rw [hw]⟩ hP hD hS hl
end LC
