/-! the law: its loop -/
section LL
variable {p : Program} {l : Launch} {e : Env} {s : State} {m : MethodId} {below : List Frame} {meth : Method} {c : Code} {b N : Nat} {xs : Nat → Int32} {D : va_G} {cI cQ cJ : ClassId} {Q : State → Prop} {o s0 w0 : Nat} {x a a2 : Nat → Nat}
set_option maxHeartbeats 4000000 in
set_option maxRecDepth 100000 in
theorem law_loop (C : LA p l s m meth c b N xs D cI cQ cJ) (hF : FPn) (hQ : ∀ (r : rB) (K : Int), Gw K r → K ≤ 2000000000 → FQ r)
    (kend : ∀ (H : Heap) (locs : List Loc) (ls : Array Slot), va_S (AL s) s.heap H locs → W p l e room_1 s m #[Value.ref b] below meth c H locs 625941 7223801 Q (F0 m 234 ls [])) :
    ∀ (n9 j : Nat), j + n9 = 38 → ∀ (A : Nat → Nat → Nat) (r q t : rB) (n old held : Nat) (B : Nat → rB) (H : Heap) (locs : List Loc) (ls : Array Slot), Jv (712800 * (j : Int)) r n old held B → va_P D vwCl (WX cI cQ o s0 w0 x a a2 A r q t n (zF A n) (nI old) (nI held) B) H → va_D (AL s) (WX cI cQ o s0 w0 x a a2 A r q t n (zF A n) (nI old) (nI held) B) → va_S (AL s) s.heap H locs → lv_has ls 11 [(2, .int (nI j)), (0, .ref b), (1, .ref o)] → W p l e room_1 s m #[Value.ref b] below meth c H locs (31 + 31 * j) (245 + 200 * j) Q (F0 m 10 ls []) := by
  have C0 := C
  obtain ⟨hx, hb, hml, hts, hown, hX, hbl, hE, hEX, hK, hfl, hN⟩ := C0
  intro n9
  induction n9 with
  | zero =>
    intro j hj A r q t n old held B H locs ls hI hP hD hS hl
    refine lv_iload_n hx hb dL_law_10 rfl (lv_at hl 0 rfl) ?_
    refine lv_bipush (v := 38) hx hb dL_law_11 (by decide) ?_
    refine lv_icmp_ge (tgt := 234) hx hb dL_law_13 (by decide) (fun _ => ?_) (fun h9 => absurd (nI_le (a := 38) (b := j) (by omega) (by omega)) h9)
    refine W.widen (k := 625941) (n := 7223801) (by omega) (by omega) ?_
    exact kend H locs ls hS
  | succ n9 ih =>
    intro j hj A r q t n old held B H locs ls hI hP hD hS hl
    refine lv_iload_n hx hb dL_law_10 rfl (lv_at hl 0 rfl) ?_
    refine lv_bipush (v := 38) hx hb dL_law_11 (by decide) ?_
    refine lv_icmp_ge (tgt := 234) hx hb dL_law_13 (by decide) (fun h9 => absurd h9 (nI_ge (a := j) (b := 38) (by omega) (by omega))) (fun _ => ?_)
    have hKj : 712800 * (j : Int) + 712800 = 712800 * ((j + 1 : Nat) : Int) := by omega
    have hK2 : 712800 * (j : Int) + 712800 ≤ 2000000000 := by omega
    refine ls_1 C (by omega) hI hP hD hS hl ⟨by omega, by omega⟩ (fun sv sw r0 h1 hJ h5 H locs hP hD hS ls hl => ?_)
    refine ls_2 C hJ hK2 h5 hP hD hS hl ⟨by omega, by omega⟩ (fun hbk H locs hP hD hS ls hl => ?_) (fun hbk r1 g1 u er1 eg1 H locs hP hD hS ls hl => ?_)
    · have hJ1 := Jv_mono hJ (show 712800 * (j : Int) ≤ 712800 * ((j + 1 : Nat) : Int) by omega)
      refine lv_iload hx hb dL_law_129 (lv_at hl 1 rfl) ?_
      refine lv_bipush (v := -9) hx hb dL_law_131 (by decide) ?_
      refine lv_icmp_le (tgt := 188) hx hb dL_law_133 (by decide) (fun _ => ?_) (fun h9 => absurd (by decide) h9)
      refine ls_4 C hF (hQ r0 _ hJ1.2.1.2.1 (by omega)) hJ1 (by omega) (fun h9 => absurd (by decide) h9) rfl hP hD hS hl ⟨by omega, by omega⟩ (fun q1 H locs hP hD hS ls hl => ?_)
      refine W.widen (k := 31 + 31 * (j + 1)) (n := 245 + 200 * (j + 1)) (by omega) (by omega) ?_
      exact ih (j + 1) (by omega) A r0 q1 t n old h1 B H locs ls hJ1 hP hD hS hl
    · refine ls_3 C hJ hK2 h5 hbk er1 eg1 hP hD hS hl ⟨by omega, by omega⟩ (fun A n1 old1 held1 B1 hJ1 eh H locs hP hD hS => ?_)
      rw [hKj] at hJ1
      refine ls_4 C hF (hQ r1 _ hJ1.2.1.2.1 (by omega)) hJ1 (by omega) (fun _ h9 => ?_) eh hP hD hS hl ⟨by omega, by omega⟩ (fun q1 H locs hP hD hS ls hl => ?_)
      · rw [er1]
        refine h_rained hJ.2.1 hK2 ?_
        obtain ⟨k, hk, ek⟩ := pk_andE sv (m := 15) 4 (by decide)
        have hk : k < 16 := hk
        refine ⟨k, ?_, hk, ek⟩
        rw [ek, Int32.le_iff_toInt_le, nI_toInt (by omega), show (9 : Int32).toInt = 9 by decide] at h9
        omega
      · refine W.widen (k := 31 + 31 * (j + 1)) (n := 245 + 200 * (j + 1)) (by omega) (by omega) ?_
        exact ih (j + 1) (by omega) A r1 q1 t n1 old1 held1 B1 H locs ls hJ1 hP hD hS hl
end LL
