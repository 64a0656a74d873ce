/-! the law's loop -/
theorem lp_no {N j : Nat} (hN : N ≤ 2560) (hj : j ≤ 512) (h : ¬ (Int32.ofNat N - 5 < nI (5 * j))) : 5 * j + 5 ≤ N := by
  rw [Int32.lt_iff_toInt_lt] at h
  have h1 : (nI (5 * j)).toInt = ((5 * j : Nat) : Int) := nI_toInt (by omega)
  have h2 : (Int32.ofNat N).toInt = (N : Int) := nI_toInt (show N < 2 ^ 31 by omega)
  have h3 : (5 : Int32).toInt = 5 := by decide
  have h4 : (Int32.ofNat N - 5).toInt = (N : Int) - 5 := by
    rw [Int32.toInt_sub, h2, h3]
    exact Int.bmod_eq_of_le (by omega) (by omega)
  omega
section LL
variable {p : Program} {l : Launch} {e : Env} {s : State} {m : MethodId} {below : List Frame} {meth : Method} {c : Code} {b N : Nat} {xs : Nat → Int32} {D : va_G} {cI cQ cJ : ClassId} {Q : State → Prop} {am x a a2 : Nat → Nat} {qo o s0 w0 : Nat}
set_option maxHeartbeats 4000000 in
set_option maxRecDepth 100000 in
theorem law_once (hF : FPok) (hBS : ∀ (r : rB) (K : Int), Gw K r → K ≤ 2000000000 → BSok (shC r)) (C : LA p l s m meth c b N xs D cI cQ cJ) {j : Nat} (hj : j < 512) (hjN : 5 * j + 5 ≤ N) {w : va_W} {H : Heap} {locs : List Loc} {ls : Array Slot} (hI : LI cI cQ cJ am x a a2 qo o s0 w0 j w) (hP : va_P D vwCl w H) (hD : va_D (AL s) w) (hS : va_S (AL s) s.heap H locs) (hl : lv_has ls 9 (lv0 b o am qo (5 * j)))
    (kk : ∀ (w : va_W) (H : Heap) (locs : List Loc) (ls : Array Slot), LI cI cQ cJ am x a a2 qo o s0 w0 (j + 1) w → va_P D vwCl w H → va_D (AL s) w → va_S (AL s) s.heap H locs → lv_has ls 9 (lv0 b o am qo (5 * j)) → W p l e room_1 s m #[Value.ref b] below meth c H locs (38 + 14 * (j + 1)) (982 + 91 * (j + 1)) Q (F0 m 1311 ls [])) : W p l e room_1 s m #[Value.ref b] below meth c H locs (38 + 14 * j) (982 + 91 * j) Q (F0 m 32 ls []) := by
  have C0 := C
  obtain ⟨hx, hb, hml, hts, hown, hX, hbl, hE, hEX, hK, hfl, hN⟩ := C0
  refine lv_aload_n hx hb dL_law_32 rfl (lv_at hl 0 rfl) ?_
  refine lv_iload hx hb dL_law_33 (lv_at hl 4 rfl) ?_
  refine va_sld hx hb hX hbl (Nat.not_le.mpr hbl) hS (vp_in_nI (by omega) (by omega)) dL_law_35 ?_
  refine lv_bipush (v := 31) hx hb dL_law_36 (by decide) ?_
  refine lv_iand hx hb dL_law_38 ?_
  refine lv_topi (fun v _ => ?_)
  have hv : v.toInt < 0 ∨ 22 < v.toInt ∨ v.toInt = 0 ∨ v.toInt = 1 ∨ v.toInt = 2 ∨ v.toInt = 3 ∨ v.toInt = 4 ∨ v.toInt = 5 ∨ v.toInt = 6 ∨ v.toInt = 7 ∨ v.toInt = 8 ∨ v.toInt = 9 ∨ v.toInt = 10 ∨ v.toInt = 11 ∨ v.toInt = 12 ∨ v.toInt = 13 ∨ v.toInt = 14 ∨ v.toInt = 15 ∨ v.toInt = 16 ∨ v.toInt = 17 ∨ v.toInt = 18 ∨ v.toInt = 19 ∨ v.toInt = 20 ∨ v.toInt = 21 ∨ v.toInt = 22 := by omega
  rcases hv with hv | hv | hv | hv | hv | hv | hv | hv | hv | hv | hv | hv | hv | hv | hv | hv | hv | hv | hv | hv | hv | hv | hv | hv | hv
  · refine lv_tableOut (tgt := 1311) hx hb dL_law_39 (Or.inl hv) (by decide) ?_
    obtain ⟨A, r, q, t, n, old, held, L, B, mm, h, g, hV, rfl⟩ := hI
    refine W.widen (k := 38 + 14 * (j + 1)) (n := 982 + 91 * (j + 1)) (by omega) (by omega) ?_
    exact kk _ H locs ls ⟨A, r, q, t, n, old, held, L, B, mm, h, g, inv_frame hV rfl rfl rfl rfl rfl, rfl⟩ hP hD hS hl
  · refine lv_tableOut (tgt := 1311) hx hb dL_law_39 (Or.inr hv) (by decide) ?_
    obtain ⟨A, r, q, t, n, old, held, L, B, mm, h, g, hV, rfl⟩ := hI
    refine W.widen (k := 38 + 14 * (j + 1)) (n := 982 + 91 * (j + 1)) (by omega) (by omega) ?_
    exact kk _ H locs ls ⟨A, r, q, t, n, old, held, L, B, mm, h, g, inv_frame hV rfl rfl rfl rfl rfl, rfl⟩ hP hD hS hl
  · refine lv_tableIn (off := 105) (tgt := 144) hx hb dL_law_39 (by omega) (by omega) (by rw [hv]; rfl) (by decide) ?_
    exact lc_plane C hj hjN hI hP hD hS hl kk
  · refine lv_tableIn (off := 197) (tgt := 236) hx hb dL_law_39 (by omega) (by omega) (by rw [hv]; rfl) (by decide) ?_
    exact lc_gutter C hj hjN hI hP hD hS hl kk
  · refine lv_tableIn (off := 277) (tgt := 316) hx hb dL_law_39 (by omega) (by omega) (by rw [hv]; rfl) (by decide) ?_
    exact lc_valley C hj hjN hI hP hD hS hl kk
  · refine lv_tableIn (off := 345) (tgt := 384) hx hb dL_law_39 (by omega) (by omega) (by rw [hv]; rfl) (by decide) ?_
    exact lc_clean C hj hjN hI hP hD hS hl kk
  · refine lv_tableIn (off := 401) (tgt := 440) hx hb dL_law_39 (by omega) (by omega) (by rw [hv]; rfl) (by decide) ?_
    exact lc_set C hj hjN hI hP hD hS hl kk
  · refine lv_tableIn (off := 469) (tgt := 508) hx hb dL_law_39 (by omega) (by omega) (by rw [hv]; rfl) (by decide) ?_
    exact lc_rain C hj hjN hI hP hD hS hl kk
  · refine lv_tableIn (off := 537) (tgt := 576) hx hb dL_law_39 (by omega) (by omega) (by rw [hv]; rfl) (by decide) ?_
    exact lc_weeks C hj hjN hI hP hD hS hl kk
  · refine lv_tableIn (off := 593) (tgt := 632) hx hb dL_law_39 (by omega) (by omega) (by rw [hv]; rfl) (by decide) ?_
    exact lc_append C hj hjN hI hP hD hS hl kk
  · refine lv_tableIn (off := 649) (tgt := 688) hx hb dL_law_39 (by omega) (by omega) (by rw [hv]; rfl) (by decide) ?_
    exact lc_clearBuffer C hj hI hP hD hS hl kk
  · refine lv_tableIn (off := 662) (tgt := 701) hx hb dL_law_39 (by omega) (by omega) (by rw [hv]; rfl) (by decide) ?_
    exact lc_firstError C hj hI hP hD hS hl kk
  · refine lv_tableIn (off := 675) (tgt := 714) hx hb dL_law_39 (by omega) (by omega) (by rw [hv]; rfl) (by decide) ?_
    exact lc_play C hj hjN hI hP hD hS hl kk
  · refine lv_tableIn (off := 719) (tgt := 758) hx hb dL_law_39 (by omega) (by omega) (by rw [hv]; rfl) (by decide) ?_
    exact lc_undo C hj hjN hI hP hD hS hl kk
  · refine lv_tableIn (off := 763) (tgt := 802) hx hb dL_law_39 (by omega) (by omega) (by rw [hv]; rfl) (by decide) ?_
    exact lc_planeOf C hj hjN hI hP hD hS hl kk
  · refine lv_tableIn (off := 831) (tgt := 870) hx hb dL_law_39 (by omega) (by omega) (by rw [hv]; rfl) (by decide) ?_
    exact lc_gutterOf C hj hjN hI hP hD hS hl kk
  · refine lv_tableIn (off := 899) (tgt := 938) hx hb dL_law_39 (by omega) (by omega) (by rw [hv]; rfl) (by decide) ?_
    exact lc_count C hj hjN hI hP hD hS hl kk
  · refine lv_tableIn (off := 955) (tgt := 994) hx hb dL_law_39 (by omega) (by omega) (by rw [hv]; rfl) (by decide) ?_
    exact lc_setting C hj hjN hI hP hD hS hl kk
  · refine lv_tableIn (off := 1011) (tgt := 1050) hx hb dL_law_39 (by omega) (by omega) (by rw [hv]; rfl) (by decide) ?_
    exact lc_ifRained C hj hjN hI hP hD hS hl kk
  · refine lv_tableIn (off := 1079) (tgt := 1118) hx hb dL_law_39 (by omega) (by omega) (by rw [hv]; rfl) (by decide) ?_
    exact lc_spillsFirst C hj hjN hI hP hD hS hl kk
  · refine lv_tableIn (off := 1135) (tgt := 1174) hx hb dL_law_39 (by omega) (by omega) (by rw [hv]; rfl) (by decide) ?_
    exact lc_bestClean C hj hI hP hD hS hl kk
  · refine lv_tableIn (off := 1148) (tgt := 1187) hx hb dL_law_39 (by omega) (by omega) (by rw [hv]; rfl) (by decide) ?_
    exact lc_mostRain C hj hjN hI hP hD hS hl kk
  · refine lv_tableIn (off := 1204) (tgt := 1243) hx hb dL_law_39 (by omega) (by omega) (by rw [hv]; rfl) (by decide) ?_
    exact lc_dryIn C hj hI hP hD hS hl kk
  · refine lv_tableIn (off := 1217) (tgt := 1256) hx hb dL_law_39 (by omega) (by omega) (by rw [hv]; rfl) (by decide) ?_
    exact lc_drainedShare hF C hj hI hP hD hS hl kk
  · refine lv_tableIn (off := 1258) (tgt := 1297) hx hb dL_law_39 (by omega) (by omega) (by rw [hv]; rfl) (by decide) ?_
    exact lc_digest hF hBS C hj hI hP hD hS hl kk
set_option maxHeartbeats 4000000 in
set_option maxRecDepth 100000 in
theorem law_loop (hF : FPok) (hBS : ∀ (r : rB) (K : Int), Gw K r → K ≤ 2000000000 → BSok (shC r)) (C : LA p l s m meth c b N xs D cI cQ cJ)
    (kend : ∀ (H : Heap) (locs : List Loc) (ls : Array Slot), va_S (AL s) s.heap H locs → W p l e room_1 s m #[Value.ref b] below meth c H locs 617766 7242805 Q (F0 m 1317 ls [])) :
    ∀ (n j : Nat), j + n = 513 → 5 * j ≤ N → ∀ (w : va_W) (H : Heap) (locs : List Loc) (ls : Array Slot), LI cI cQ cJ am x a a2 qo o s0 w0 j w → va_P D vwCl w H → va_D (AL s) w → va_S (AL s) s.heap H locs → lv_has ls 9 (lv0 b o am qo (5 * j)) → W p l e room_1 s m #[Value.ref b] below meth c H locs (38 + 14 * j) (982 + 91 * j) Q (F0 m 23 ls []) := by
  have C0 := C
  obtain ⟨hx, hb, hml, hts, hown, hX, hbl, hE, hEX, hK, hfl, hN⟩ := C0
  intro n
  induction n with
  | zero => intro j h1 h2; exact absurd h2 (by omega)
  | succ n ih =>
    intro j h1 h2 w H locs ls hI hP hD hS hl
    refine lv_iload hx hb dL_law_23 (lv_at hl 4 rfl) ?_
    refine lv_aload_n hx hb dL_law_25 rfl (lv_at hl 0 rfl) ?_
    refine va_slen hx hb hX hbl (Nat.not_le.mpr hbl) hS dL_law_26 ?_
    refine lv_iconst (v := 5) hx hb dL_law_27 (by decide) ?_
    refine lv_isub hx hb dL_law_28 ?_
    refine lv_icmp_gt (tgt := 1317) hx hb dL_law_29 (by decide) (fun _ => ?_) (fun h9 => ?_)
    · refine W.widen (k := 617766) (n := 7242805) (by omega) (by omega) ?_
      exact kend H locs ls hS
    · have hjN := lp_no hN (by omega) h9
      refine law_once hF hBS C (by omega) hjN hI hP hD hS hl (fun w H locs ls hI hP hD hS hl => ?_)
      refine lv_iinc (k := 4) (v := nI (5 * (j + 1))) (lv' := [(4, .int (nI (5 * (j + 1)))), (0, .ref b), (1, .ref o), (2, .ref (am 0)), (3, .ref qo)]) hx hb dL_law_1311 hl rfl (nI_add (5 * j) 5) (by decide) rfl (fun ls hl => ?_)
      refine lv_goto (tgt := 23) hx hb dL_law_1314 (by decide) ?_
      exact ih (j + 1) (by omega) (by omega) w H locs ls hI hP hD hS (lv_sub hl [1, 2, 3, 4, 0] rfl)
end LL
