/-! the law: one turn -/
/-- what holds between two turns: the roof is good, and so is each saved one -/
def Jv (K : Int) (r : rB) (n old held : Nat) (B : Nat → rB) : Prop := svOk n old held ∧ Gd K r ∧ ∀ i, i < held → Gd K (B ((old + i) % 6))
theorem Jv_drop {K : Int} {r : rB} {n old held : Nat} {B : Nat → rB} (h : Jv K r n old held B) (h0 : held ≠ 0) : Jv K (B ((old + (held - 1)) % 6)) n old (held - 1) B :=
  ⟨svOk_drop h.1, h.2.2 _ (by omega), fun i hi => h.2.2 i (by omega)⟩
theorem Jv_mono {K J : Int} {r : rB} {n old held : Nat} {B : Nat → rB} (h : Jv K r n old held B) (hk : K ≤ J) : Jv J r n old held B := ⟨h.1, h.2.1.mono hk, fun i hi => (h.2.2 i hi).mono hk⟩
theorem kO5 {old held : Nat} (h5 : held ≤ 5) : kO old held = old := if_neg (by omega)
theorem kH5 {held : Nat} (h5 : held ≤ 5) : kH held = held := if_neg (by omega)
theorem kX5 {old held : Nat} (h5 : held ≤ 5) : kX old held = (old + held) % 6 := by unfold kX; rw [kO5 h5, kH5 h5]
theorem kB_top {old held : Nat} {B : Nat → rB} {r : rB} (h5 : held ≤ 5) : kB B old held r ((kO old held + (kH held + 1 - 1)) % 6) = r := by
  unfold kB
  rw [kO5 h5, kH5 h5, kX5 h5, Nat.add_sub_cancel, if_pos rfl]
theorem Jv_keep {K J : Int} {r r1 : rB} {n old held : Nat} {B : Nat → rB} (h : Jv K r n old held B) (hk : K ≤ J) (h5 : held ≤ 5) (h1 : Gd J r1) : Jv J r1 (kN n old held) (kO old held) (kH held + 1) (kB B old held r) := by
  refine ⟨svOk_keep h.1, h1, fun i hi => ?_⟩
  have ho := h.1.2.1
  rw [kH5 h5] at hi
  unfold kB
  rw [kO5 h5, kX5 h5]
  by_cases hih : i = held
  · subst hih
    rw [if_pos rfl]; exact h.2.1.mono hk
  · rw [if_neg (by omega)]; exact (h.2.2 i (by omega)).mono hk
section LT
variable {p : Program} {l : Launch} {e : Env} {s : State} {m : MethodId} {below : List Frame} {meth : Method} {c : Code} {b N : Nat} {xs : Nat → Int32} {D : va_G} {cI cQ cJ : ClassId} {H : Heap} {locs : List Loc} {cells slots : Nat} {Q : State → Prop} {ls : Array Slot}
variable {o s0 w0 : Nat} {x a a2 : Nat → Nat} {A : Nat → Nat → Nat} {r q t : rB} {n old held : Nat} {B : Nat → rB} {K : Int}
abbrev V5 (b o j : Nat) (sv sw : Int32) (h : Nat) : List (Nat × Value) := [(5, .int (nI h)), (4, .int sw), (3, .int sv), (2, .int (nI j)), (0, .ref b), (1, .ref o)]
set_option maxHeartbeats 4000000 in
set_option maxRecDepth 100000 in
theorem ls_1 (C : LA p l s m meth c b N xs D cI cQ cJ) {j : Nat} (hj : j < 38) (hI : Jv K r n old held B) (hP : va_P D vwCl (WX cI cQ o s0 w0 x a a2 A r q t n (zF A n) (nI old) (nI held) B) H) (hD : va_D (AL s) (WX cI cQ o s0 w0 x a a2 A r q t n (zF A n) (nI old) (nI held) B)) (hS : va_S (AL s) s.heap H locs) (hl : lv_has ls 11 [(2, .int (nI j)), (0, .ref b), (1, .ref o)]) (hf : cells ≤ 620000 ∧ slots ≤ 7200000)
    (kk : ∀ (sv sw : Int32) (r1 : rB) (h1 : Nat), Jv K r1 n old h1 B → h1 ≤ 5 → ∀ (H : Heap) (locs : List Loc), va_P D vwCl (WX cI cQ o s0 w0 x a a2 A r1 q t n (zF A n) (nI old) (nI h1) B) H → va_D (AL s) (WX cI cQ o s0 w0 x a a2 A r1 q t n (zF A n) (nI old) (nI h1) B) → va_S (AL s) s.heap H locs → ∀ (ls : Array Slot), lv_has ls 11 (V5 b o j sv sw h1) → W p l e room_1 s m #[Value.ref b] below meth c H locs (cells + 2) (slots + 12) Q (F0 m 64 ls [])) : W p l e room_1 s m #[Value.ref b] below meth c H locs cells slots Q (F0 m 16 ls []) := by
  have C0 := C
  obtain ⟨hx, hb, hml, hts, hown, hX, hbl, hE, hEX, hK, hfl, hN⟩ := C0
  refine lv_aload_n hx hb dL_law_16 rfl (lv_at hl 1 rfl) ?_
  refine lv_iconst (v := 2) hx hb dL_law_17 (by decide) ?_
  refine lv_iload_n hx hb dL_law_18 rfl (lv_at hl 0 rfl) ?_
  refine lv_imul hx hb dL_law_19 ?_
  refine lv_eqi (y := nI (2 * j)) (pk_mul 2 j) ?_
  refine l_cell C hP hS hl.1 (j := 2 * j) (by omega) dL_law_20 ⟨by omega, by omega⟩ (fun sv H locs hP hS => ?_)
  refine lv_istore_n (lv' := [(3, .int sv), (2, .int (nI j)), (0, .ref b), (1, .ref o)]) hx hb dL_law_23 rfl hl (by decide) rfl (fun ls hl => ?_)
  refine lv_aload_n hx hb dL_law_24 rfl (lv_at hl 2 rfl) ?_
  refine lv_iconst (v := 2) hx hb dL_law_25 (by decide) ?_
  refine lv_iload_n hx hb dL_law_26 rfl (lv_at hl 1 rfl) ?_
  refine lv_imul hx hb dL_law_27 ?_
  refine lv_eqi (y := nI (2 * j)) (pk_mul 2 j) ?_
  refine lv_iconst (v := 1) hx hb dL_law_28 (by decide) ?_
  refine lv_iadd hx hb dL_law_29 ?_
  refine lv_eqi (y := nI (2 * j + 1)) (nI_1 (2 * j)) ?_
  refine l_cell C hP hS hl.1 (j := 2 * j + 1) (by omega) dL_law_30 ⟨by omega, by omega⟩ (fun sw H locs hP hS => ?_)
  refine lv_istore (lv' := [(4, .int sw), (3, .int sv), (2, .int (nI j)), (0, .ref b), (1, .ref o)]) hx hb dL_law_33 hl (by decide) rfl (fun ls hl => ?_)
  have K56 : ∀ (r1 : rB) (h1 : Nat), Jv K r1 n old h1 B → h1 ≤ 5 → ∀ (H : Heap) (locs : List Loc), va_P D vwCl (WX cI cQ o s0 w0 x a a2 A r1 q t n (zF A n) (nI old) (nI h1) B) H → va_D (AL s) (WX cI cQ o s0 w0 x a a2 A r1 q t n (zF A n) (nI old) (nI h1) B) → va_S (AL s) s.heap H locs → W p l e room_1 s m #[Value.ref b] below meth c H locs (cells + 2) (slots + 12) Q (F0 m 56 ls []) := by
    intro r1 h1 hJ h5 H locs hP hD hS
    refine lv_aload_n hx hb dL_law_56 rfl (lv_at hl 4 rfl) ?_
    refine lv_bipush (v := 8) hx hb dL_law_57 (by decide) ?_
    refine l_count C hP hD hS hl.1 dL_law_59 ⟨by omega, by omega⟩ (fun H locs hP hD hS => ?_)
    refine lv_istore (lv' := V5 b o j sv sw h1) hx hb dL_law_62 hl (by decide) rfl (fun ls hl => ?_)
    exact kk sv sw r1 h1 hJ h5 H locs hP hD hS ls hl
  refine lv_aload_n hx hb dL_law_35 rfl (lv_at hl 4 rfl) ?_
  refine lv_bipush (v := 8) hx hb dL_law_36 (by decide) ?_
  refine l_count C hP hD hS hl.1 dL_law_38 ⟨by omega, by omega⟩ (fun H locs hP hD hS => ?_)
  refine lv_bipush (v := 6) hx hb dL_law_41 (by decide) ?_
  have h6 := hI.1.2.2.1
  refine lv_icmp_ne (tgt := 56) hx hb dL_law_43 (by decide) (fun c1 => ?_) (fun c1 => ?_)
  · have h5 : held ≤ 5 := by
      have : held ≠ 6 := fun e => c1 (by rw [e]; rfl)
      omega
    refine W.widen (k := cells + 2) (n := slots + 12) (by omega) (by omega) ?_
    exact K56 r held hI h5 H locs hP hD hS
  · have hh : held = 6 := nI_inj6 h6 c1
    have hJ1 := Jv_drop hI (by omega)
    obtain ⟨r1, er1⟩ : ∃ z : rB, B ((old + (held - 1)) % 6) = z := ⟨_, rfl⟩
    rw [er1] at hJ1
    refine lv_aload_n hx hb dL_law_46 rfl (lv_at hl 4 rfl) ?_
    refine l_undo C hI.1 (by omega) er1 hP hD hS hl.1 dL_law_47 ⟨by omega, by omega⟩ (fun H locs hP hD hS => ?_)
    refine lv_pop hx hb dL_law_50 rfl ?_
    have hJ2 := Jv_drop hJ1 (by omega)
    obtain ⟨r2, er2⟩ : ∃ z : rB, B ((old + (held - 1 - 1)) % 6) = z := ⟨_, rfl⟩
    rw [er2] at hJ2
    refine lv_aload_n hx hb dL_law_51 rfl (lv_at hl 4 rfl) ?_
    refine l_undo C hJ1.1 (by omega) er2 hP hD hS hl.1 dL_law_52 ⟨by omega, by omega⟩ (fun H locs hP hD hS => ?_)
    refine lv_pop hx hb dL_law_55 rfl ?_
    refine W.widen (k := cells + 2) (n := slots + 12) (by omega) (by omega) ?_
    exact K56 r2 (held - 1 - 1) hJ2 (by omega) H locs hP hD hS
set_option maxHeartbeats 4000000 in
set_option maxRecDepth 100000 in
theorem ls_2 (C : LA p l s m meth c b N xs D cI cQ cJ) {j : Nat} {sv sw : Int32} (hI : Jv K r n old held B) (hK2 : K + 712800 ≤ 2000000000) (h5 : held ≤ 5) (hP : va_P D vwCl (WX cI cQ o s0 w0 x a a2 A r q t n (zF A n) (nI old) (nI held) B) H) (hD : va_D (AL s) (WX cI cQ o s0 w0 x a a2 A r q t n (zF A n) (nI old) (nI held) B)) (hS : va_S (AL s) s.heap H locs) (hl : lv_has ls 11 (V5 b o j sv sw held)) (hf : cells ≤ 620000 ∧ slots ≤ 7200000)
    (k1 : blk r sv sw → ∀ (H : Heap) (locs : List Loc), va_P D vwCl (WX cI cQ o s0 w0 x a a2 A r q t n (zF A n) (nI old) (nI held) B) H → va_D (AL s) (WX cI cQ o s0 w0 x a a2 A r q t n (zF A n) (nI old) (nI held) B) → va_S (AL s) s.heap H locs → ∀ (ls : Array Slot), lv_has ls 11 ([(9, .long (tdV r (nI held))), (8, .int (-9)), (6, .long (tdV r (nI held)))] ++ V5 b o j sv sw held) → W p l e room_1 s m #[Value.ref b] below meth c H locs (cells + 14) (slots + 91) Q (F0 m 129 ls []))
    (k2 : ¬ blk r sv sw → ∀ (r1 : rB) (g1 : Int32) (u : Nat → Nat → Nat), r1 = (acC r sv sw).1 → g1 = (acC r sv sw).2 → ∀ (H : Heap) (locs : List Loc), va_P D vwCl (WX cI cQ o s0 w0 x a a2 u r1 q t (kN n old held) (zF u (kN n old held)) (nI (kO old held)) (nI (kH held + 1)) (kB B old held r)) H → va_D (AL s) (WX cI cQ o s0 w0 x a a2 u r1 q t (kN n old held) (zF u (kN n old held)) (nI (kO old held)) (nI (kH held + 1)) (kB B old held r)) → va_S (AL s) s.heap H locs → ∀ (ls : Array Slot), lv_has ls 11 ([(9, .long (tdV r1 (nI (kH held + 1)))), (8, .int g1), (6, .long (tdV r (nI held)))] ++ V5 b o j sv sw held) → W p l e room_1 s m #[Value.ref b] below meth c H locs (cells + 14) (slots + 91) Q (F0 m 129 ls [])) : W p l e room_1 s m #[Value.ref b] below meth c H locs cells slots Q (F0 m 64 ls []) := by
  have C0 := C
  obtain ⟨hx, hb, hml, hts, hown, hX, hbl, hE, hEX, hK, hfl, hN⟩ := C0
  refine lv_aload_n hx hb dL_law_64 rfl (lv_at hl 5 rfl) ?_
  refine l_told C hP hD hS hl.1 dL_law_65 ⟨by omega, by omega⟩ (fun H locs hP hD hS => ?_)
  refine lv_lstore (lv' := [(6, .long (tdV r (nI held)))] ++ V5 b o j sv sw held) hx hb dL_law_68 hl (by decide) rfl (fun ls hl => ?_)
  refine lv_aload_n hx hb dL_law_70 rfl (lv_at hl 6 rfl) ?_
  refine lv_iload_n hx hb dL_law_71 rfl (lv_at hl 3 rfl) ?_
  refine lv_iload hx hb dL_law_72 (lv_at hl 2 rfl) ?_
  refine l_act C hI.1 hI.2.1 hP hD hS hl.1 dL_law_74 ⟨by omega, by omega⟩ (fun hbk H locs hP hD hS => ?_) (fun hbk r1 g1 u er1 eg1 H locs hP hD hS => ?_)
  · refine lv_istore (lv' := [(8, .int (-9)), (6, .long (tdV r (nI held)))] ++ V5 b o j sv sw held) hx hb dL_law_77 hl (by decide) rfl (fun ls hl => ?_)
    refine lv_aload_n hx hb dL_law_79 rfl (lv_at hl 7 rfl) ?_
    refine l_told C hP hD hS hl.1 dL_law_80 ⟨by omega, by omega⟩ (fun H locs hP hD hS => ?_)
    refine lv_lstore (lv' := [(9, .long (tdV r (nI held))), (8, .int (-9)), (6, .long (tdV r (nI held)))] ++ V5 b o j sv sw held) hx hb dL_law_83 hl (by decide) rfl (fun ls hl => ?_)
    refine lv_iload hx hb dL_law_85 (lv_at hl 1 rfl) ?_
    refine lv_bipush (v := -9) hx hb dL_law_87 (by decide) ?_
    refine lv_icmp_ne (tgt := 114) hx hb dL_law_89 (by decide) (fun h9 => absurd rfl h9) (fun _ => ?_)
    refine lv_lload hx hb dL_law_92 (lv_at hl 0 rfl) ?_
    refine lv_lload hx hb dL_law_94 (lv_at hl 2 rfl) ?_
    refine W.lcmp hx hb dL_law_96 ?_
    refine lv_if_ne (tgt := 127) hx hb dL_law_97 (by decide) (fun h9 => absurd ((lg_cmp_eq _ _).mpr rfl) h9) (fun _ => ?_)
    refine lv_aload_n hx hb dL_law_100 rfl (lv_at hl 8 rfl) ?_
    refine lv_bipush (v := 8) hx hb dL_law_101 (by decide) ?_
    refine l_count C hP hD hS hl.1 dL_law_103 ⟨by omega, by omega⟩ (fun H locs hP hD hS => ?_)
    refine lv_iload hx hb dL_law_106 (lv_at hl 3 rfl) ?_
    refine lv_icmp_eq (tgt := 129) hx hb dL_law_108 (by decide) (fun _ => ?_) (fun h9 => absurd rfl h9)
    exact k1 hbk H locs hP hD hS ls hl
  · have hg := (acC_good hI.2.1 hK2 hbk).2
    rw [← eg1] at hg
    refine lv_istore (lv' := [(8, .int g1), (6, .long (tdV r (nI held)))] ++ V5 b o j sv sw held) hx hb dL_law_77 hl (by decide) rfl (fun ls hl => ?_)
    refine lv_aload_n hx hb dL_law_79 rfl (lv_at hl 7 rfl) ?_
    refine l_told C hP hD hS hl.1 dL_law_80 ⟨by omega, by omega⟩ (fun H locs hP hD hS => ?_)
    refine lv_lstore (lv' := [(9, .long (tdV r1 (nI (kH held + 1)))), (8, .int g1), (6, .long (tdV r (nI held)))] ++ V5 b o j sv sw held) hx hb dL_law_83 hl (by decide) rfl (fun ls hl => ?_)
    refine lv_iload hx hb dL_law_85 (lv_at hl 1 rfl) ?_
    refine lv_bipush (v := -9) hx hb dL_law_87 (by decide) ?_
    refine lv_icmp_ne (tgt := 114) hx hb dL_law_89 (by decide) (fun _ => ?_) (fun h9 => absurd hg (by rw [h9]; decide))
    refine lv_aload_n hx hb dL_law_114 rfl (lv_at hl 8 rfl) ?_
    refine lv_bipush (v := 8) hx hb dL_law_115 (by decide) ?_
    refine l_count C hP hD hS hl.1 dL_law_117 ⟨by omega, by omega⟩ (fun H locs hP hD hS => ?_)
    refine lv_iload hx hb dL_law_120 (lv_at hl 3 rfl) ?_
    refine lv_iconst (v := 1) hx hb dL_law_122 (by decide) ?_
    refine lv_iadd hx hb dL_law_123 ?_
    refine lv_icmp_eq (tgt := 129) hx hb dL_law_124 (by decide) (fun _ => ?_) (fun h9 => absurd (by rw [kH5 h5, nI_1]) h9)
    exact k2 hbk r1 g1 u er1 eg1 H locs hP hD hS ls hl
set_option maxHeartbeats 4000000 in
set_option maxRecDepth 100000 in
theorem ls_3 (C : LA p l s m meth c b N xs D cI cQ cJ) {j : Nat} {sv sw g1 : Int32} {r1 : rB} (hI : Jv K r n old held B) (hK2 : K + 712800 ≤ 2000000000) (h5 : held ≤ 5) (hbk : ¬ blk r sv sw) (er1 : r1 = (acC r sv sw).1) (eg1 : g1 = (acC r sv sw).2) (hP : va_P D vwCl (WX cI cQ o s0 w0 x a a2 A r1 q t (kN n old held) (zF A (kN n old held)) (nI (kO old held)) (nI (kH held + 1)) (kB B old held r)) H) (hD : va_D (AL s) (WX cI cQ o s0 w0 x a a2 A r1 q t (kN n old held) (zF A (kN n old held)) (nI (kO old held)) (nI (kH held + 1)) (kB B old held r))) (hS : va_S (AL s) s.heap H locs) (hl : lv_has ls 11 ([(9, .long (tdV r1 (nI (kH held + 1)))), (8, .int g1), (6, .long (tdV r (nI held)))] ++ V5 b o j sv sw held)) (hf : cells ≤ 620000 ∧ slots ≤ 7200000)
    (kk : ∀ (A : Nat → Nat → Nat) (n1 old1 held1 : Nat) (B1 : Nat → rB), Jv (K + 712800) r1 n1 old1 held1 B1 → tdV r1 (nI held1) = tdV r1 (nI (kH held + 1)) → ∀ (H : Heap) (locs : List Loc), va_P D vwCl (WX cI cQ o s0 w0 x a a2 A r1 q t n1 (zF A n1) (nI old1) (nI held1) B1) H → va_D (AL s) (WX cI cQ o s0 w0 x a a2 A r1 q t n1 (zF A n1) (nI old1) (nI held1) B1) → va_S (AL s) s.heap H locs → W p l e room_1 s m #[Value.ref b] below meth c H locs (cells + 15) (slots + 97) Q (F0 m 188 ls [])) : W p l e room_1 s m #[Value.ref b] below meth c H locs cells slots Q (F0 m 129 ls []) := by
  have C0 := C
  obtain ⟨hx, hb, hml, hts, hown, hX, hbl, hE, hEX, hK, hfl, hN⟩ := C0
  have hac := acC_good hI.2.1 hK2 hbk
  rw [← er1, ← eg1] at hac
  have hJ := Jv_keep hI (show K ≤ K + 712800 by omega) h5 hac.1
  refine lv_iload hx hb dL_law_129 (lv_at hl 1 rfl) ?_
  refine lv_bipush (v := -9) hx hb dL_law_131 (by decide) ?_
  refine lv_icmp_le (tgt := 188) hx hb dL_law_133 (by decide) (fun h9 => ?_) (fun _ => ?_)
  · rw [Int32.le_iff_toInt_le, show (-9 : Int32).toInt = -9 by decide] at h9
    exact absurd hac.2 (by omega)
  refine lv_iload_n hx hb dL_law_136 rfl (lv_at hl 5 rfl) ?_
  refine lv_bipush (v := 7) hx hb dL_law_137 (by decide) ?_
  refine lv_ishr hx hb dL_law_139 ?_
  refine lv_iconst (v := 1) hx hb dL_law_140 (by decide) ?_
  refine lv_iand hx hb dL_law_141 ?_
  refine lv_if_ne (tgt := 188) hx hb dL_law_142 (by decide) (fun _ => ?_) (fun _ => ?_)
  · refine W.widen (k := cells + 15) (n := slots + 97) (by omega) (by omega) ?_
    exact kk A _ _ _ _ hJ rfl H locs hP hD hS
  have hJ2 := Jv_drop hJ (by omega)
  rw [kB_top h5] at hJ2
  refine lv_aload_n hx hb dL_law_145 rfl (lv_at hl 8 rfl) ?_
  refine l_undo C hJ.1 (by omega) (kB_top h5) hP hD hS hl.1 dL_law_146 ⟨by omega, by omega⟩ (fun H locs hP hD hS => ?_)
  have e0 : kH held + 1 - 1 = held := by rw [kH5 h5, Nat.add_sub_cancel]
  rw [e0] at hP hD hJ2 ⊢
  refine lv_iload hx hb dL_law_149 (lv_at hl 3 rfl) ?_
  refine lv_icmp_ne (tgt := 186) hx hb dL_law_151 (by decide) (fun h9 => absurd rfl h9) (fun _ => ?_)
  refine lv_aload_n hx hb dL_law_154 rfl (lv_at hl 8 rfl) ?_
  refine l_told C hP hD hS hl.1 dL_law_155 ⟨by omega, by omega⟩ (fun H locs hP hD hS => ?_)
  refine lv_lload hx hb dL_law_158 (lv_at hl 2 rfl) ?_
  refine W.lcmp hx hb dL_law_160 ?_
  refine lv_if_ne (tgt := 186) hx hb dL_law_161 (by decide) (fun h9 => absurd ((lg_cmp_eq _ _).mpr rfl) h9) (fun _ => ?_)
  refine lv_aload_n hx hb dL_law_164 rfl (lv_at hl 8 rfl) ?_
  refine lv_iload_n hx hb dL_law_165 rfl (lv_at hl 5 rfl) ?_
  refine lv_iload hx hb dL_law_166 (lv_at hl 4 rfl) ?_
  refine l_act C hJ2.1 hJ2.2.1 hP hD hS hl.1 dL_law_168 ⟨by omega, by omega⟩ (fun hb9 => absurd hb9 hbk) (fun _ r2 g2 u er2 eg2 H locs hP hD hS => ?_)
  have e9 : r2 = r1 := er2.trans er1.symm
  have e8 : g2 = g1 := eg2.trans eg1.symm
  rw [e9] at hP hD
  refine lv_iload hx hb dL_law_171 (lv_at hl 1 rfl) ?_
  refine lv_icmp_ne (tgt := 186) hx hb dL_law_173 (by decide) (fun h9 => absurd e8 h9) (fun _ => ?_)
  refine lv_aload_n hx hb dL_law_176 rfl (lv_at hl 8 rfl) ?_
  refine l_told C hP hD hS hl.1 dL_law_177 ⟨by omega, by omega⟩ (fun H locs hP hD hS => ?_)
  refine lv_lload hx hb dL_law_180 (lv_at hl 0 rfl) ?_
  refine W.lcmp hx hb dL_law_182 ?_
  refine lv_if_eq (tgt := 188) hx hb dL_law_183 (by decide) (fun _ => ?_) (fun h9 => absurd ((lg_cmp_eq _ _).mpr rfl) h9)
  exact kk u _ _ _ _ (Jv_keep hJ2 (show K + 712800 ≤ K + 712800 by omega) h5 hac.1) rfl H locs hP hD hS
set_option maxHeartbeats 4000000 in
set_option maxRecDepth 100000 in
theorem ls_4 (C : LA p l s m meth c b N xs D cI cQ cJ) (hF : FPn) (hQ : FQ r) {j : Nat} {sv sw g1 : Int32} {h5 : Nat} {bf bh : Int64} (hI : Jv K r n old held B) (hK2 : K ≤ 2000000000) (h6 : ¬ g1 ≤ -9 → ¬ sv &&& 15 ≤ 9 → ∀ i, i < 6 → fdV r i (6 - (i + 1)) (i + 1) 0 = 0 → r 8 i ≤ roomT r i) (eh : tdV r (nI held) = bh) (hP : va_P D vwCl (WX cI cQ o s0 w0 x a a2 A r q t n (zF A n) (nI old) (nI held) B) H) (hD : va_D (AL s) (WX cI cQ o s0 w0 x a a2 A r q t n (zF A n) (nI old) (nI held) B)) (hS : va_S (AL s) s.heap H locs) (hl : lv_has ls 11 ([(9, .long bh), (8, .int g1), (6, .long bf)] ++ V5 b o j sv sw h5)) (hf : cells ≤ 620000 ∧ slots ≤ 7200000)
    (kk : ∀ (q1 : rB) (H : Heap) (locs : List Loc), va_P D vwCl (WX cI cQ o s0 w0 x a a2 A r q1 t n (zF A n) (nI old) (nI held) B) H → va_D (AL s) (WX cI cQ o s0 w0 x a a2 A r q1 t n (zF A n) (nI old) (nI held) B) → va_S (AL s) s.heap H locs → ∀ (ls : Array Slot), lv_has ls 11 [(2, .int (nI (j + 1))), (0, .ref b), (1, .ref o)] → W p l e room_1 s m #[Value.ref b] below meth c H locs cells slots Q (F0 m 10 ls [])) : W p l e room_1 s m #[Value.ref b] below meth c H locs cells slots Q (F0 m 188 ls []) := by
  have C0 := C
  obtain ⟨hx, hb, hml, hts, hown, hX, hbl, hE, hEX, hK, hfl, hN⟩ := C0
  have K213 : ∀ (q1 : rB) (H : Heap) (locs : List Loc), va_P D vwCl (WX cI cQ o s0 w0 x a a2 A r q1 t n (zF A n) (nI old) (nI held) B) H → va_D (AL s) (WX cI cQ o s0 w0 x a a2 A r q1 t n (zF A n) (nI old) (nI held) B) → va_S (AL s) s.heap H locs → W p l e room_1 s m #[Value.ref b] below meth c H locs cells slots Q (F0 m 213 ls [.int 1]) := by
    intro q1 H locs hP hD hS
    refine lv_if_eq (tgt := 226) hx hb dL_law_213 (by decide) (fun h9 => absurd h9 (by decide)) (fun _ => ?_)
    refine lv_aload_n hx hb dL_law_216 rfl (lv_at hl 8 rfl) ?_
    refine l_told C hP hD hS hl.1 dL_law_217 ⟨by omega, by omega⟩ (fun H locs hP hD hS => ?_)
    refine lv_lload hx hb dL_law_220 (lv_at hl 0 rfl) ?_
    refine W.lcmp hx hb dL_law_222 ?_
    refine lv_if_eq (tgt := 228) hx hb dL_law_223 (by decide) (fun _ => ?_) (fun h9 => absurd ((lg_cmp_eq _ _).mpr eh) h9)
    have hl := lv_sub hl [6, 7, 8] (l' := [(2, .int (nI j)), (0, .ref b), (1, .ref o)]) rfl
    refine lv_iinc (v := nI (j + 1)) (lv' := [(2, .int (nI (j + 1))), (0, .ref b), (1, .ref o)]) hx hb dL_law_228 hl (k := 0) rfl (nI_1 j) (by decide) rfl (fun ls hl => ?_)
    refine lv_goto (tgt := 10) hx hb dL_law_231 (by decide) ?_
    exact kk q1 H locs hP hD hS ls hl
  have K209 : W p l e room_1 s m #[Value.ref b] below meth c H locs cells slots Q (F0 m 209 ls [.ref o]) := by
    refine lv_iconst (v := 0) hx hb dL_law_209 (by decide) ?_
    exact lh_holds C hF hQ hI.2.1 hK2 0 (fun h9 => absurd rfl h9) hP hD hS hl.1 dL_law_210 ⟨by omega, by omega⟩ (fun q1 H locs hP hD hS => K213 q1 H locs hP hD hS)
  refine lv_aload_n hx hb dL_law_188 rfl (lv_at hl 8 rfl) ?_
  refine lv_iload hx hb dL_law_189 (lv_at hl 1 rfl) ?_
  refine lv_bipush (v := -9) hx hb dL_law_191 (by decide) ?_
  refine lv_icmp_le (tgt := 209) hx hb dL_law_193 (by decide) (fun _ => K209) (fun c1 => ?_)
  refine lv_iload_n hx hb dL_law_196 rfl (lv_at hl 5 rfl) ?_
  refine lv_bipush (v := 15) hx hb dL_law_197 (by decide) ?_
  refine lv_iand hx hb dL_law_199 ?_
  refine lv_bipush (v := 9) hx hb dL_law_200 (by decide) ?_
  refine lv_icmp_le (tgt := 209) hx hb dL_law_202 (by decide) (fun _ => K209) (fun c2 => ?_)
  refine lv_iconst (v := 1) hx hb dL_law_205 (by decide) ?_
  refine lv_goto (tgt := 210) hx hb dL_law_206 (by decide) ?_
  exact lh_holds C hF hQ hI.2.1 hK2 1 (fun _ => h6 c1 c2) hP hD hS hl.1 dL_law_210 ⟨by omega, by omega⟩ (fun q1 H locs hP hD hS => K213 q1 H locs hP hD hS)
end LT
