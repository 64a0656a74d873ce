/-! the law: what stands all along, and its calls -/
abbrev AL (s : State) : Nat → Prop := fun q => s.heap.size ≤ q
def LA (p : Program) (l : Launch) (s : State) (m : MethodId) (meth : Method) (c : Code) (b N : Nat) (xs : Nat → Int32) (D : va_G) (cI cQ cJ : ClassId) : Prop :=
  p.tables.exec = Jvm.exec ∧ c.code = cL_law ∧ c.maxLocals = 11 ∧ (∀ w ∈ wsL_law, w.before #[Value.ref b] s = true) ∧ s.vm.findClass RL = some m.cls ∧ va_X b N xs s s.heap ∧ b < s.heap.size ∧ EV s ∧ EX (AL s) s ∧ va_K D vwCl (tY cI cQ cJ) s ∧ l.stackTraces = false ∧ N ≤ 260
/-- a number of the script, or of its place -/
def Pcl (b N : Nat) (xs : Nat → Int32) (sz : Nat) (U : State) : Prop := U.heap.size = sz ∧ va_X b N xs U U.heap ∧ b < sz
theorem Pcl.blind {b N : Nat} {xs : Nat → Int32} {sz : Nat} {av : List Value} : FrameBlind (va_Pc av (Pcl b N xs sz)) := fun a U g mk q => by
  obtain ⟨q0, q1, q2, q3⟩ := q
  exact ⟨q0, q1, va_X.moved (u := U) (U := U.calling g mk a) (Vm.Alike.refl U.vm) q2, q3⟩
set_option maxHeartbeats 4000000 in
set_option maxRecDepth 100000 in
theorem mL_cell (l : Launch) (b N : Nat) (xs : Nat → Int32) (hN : N ≤ 260) (j : Nat) (hj : j < 1000) (sz : Nat) : Met l yL_cell wsL_cell ({ frames := 0, cells := 0, slots := 0, locals := 0 } : Room) (va_Pc [.ref b, .int (nI j)] (Pcl b N xs sz)) (va_Qi (fun (_ : Int32) (_ : Unit) => True) (fun _ _ => True) (fun q => sz ≤ q)) 0 0 (fun q => sz ≤ q) := by
  refine Met.ofW (cc := cL_cell) (maxL := 2) (ret := some .int) (by decide) rfl ?_
  intro p e s m args below meth c s₁ B0 hml hv
  obtain ⟨rfl, hsz, hX, hbl⟩ := hv
  subst hsz
  have hl := lv_entry ([.ref b, .int (nI j)]) (n := 2) (Nat.le_of_ble_eq_true rfl)
  rw [lg_entry_eq]
  generalize (lg_sl ([.ref b, .int (nI j)]) ++ List.replicate (2 - (lg_sl ([.ref b, .int (nI j)])).length) Slot.unset).toArray = ls at hl ⊢
  have hl : lv_has ls 2 [(0, .ref b), (1, .int (nI j))] := hl
  have hx := B0.exec
  have hb := B0.bytes
  have hr := B0.returns
  have hlocks := B0.notSynchronized
  have hS : va_S (fun q => s.heap.size ≤ q) s.heap s.heap [] := va_S.rf
  refine lv_iload_n hx hb dL_cell_0 rfl (lv_at hl 1 rfl) ?_
  refine lv_aload_n hx hb dL_cell_1 rfl (lv_at hl 0 rfl) ?_
  refine va_slen hx hb hX hbl (Nat.not_le.mpr hbl) hS dL_cell_2 ?_
  refine lv_icmp_ge (tgt := 12) hx hb dL_cell_3 (by decide) (fun c1 => ?_) (fun c1 => ?_)
  · refine lv_sipush (v := 7919) hx hb dL_cell_12 (by decide) ?_
    refine lv_iload_n hx hb dL_cell_15 rfl (lv_at hl 1 rfl) ?_
    refine lv_iconst (v := 3) hx hb dL_cell_16 (by decide) ?_
    refine lv_iadd hx hb dL_cell_17 ?_
    refine lv_imul hx hb dL_cell_18 ?_
    refine lv_iload_n hx hb dL_cell_19 rfl (lv_at hl 1 rfl) ?_
    refine lv_bipush (v := 11) hx hb dL_cell_20 (by decide) ?_
    refine lv_iadd hx hb dL_cell_22 ?_
    refine lv_imul hx hb dL_cell_23 ?_
    exact W.iret hx hb hr (fun t ht hW => ⟨⟨_, (), rfl, trivial, trivial⟩, hS.F ht⟩) hS.2.2 dL_cell_24 hlocks
  · have hjN : j < N := by
      have h2 : ¬ (nI N ≤ nI j) := c1
      rw [Int32.le_iff_toInt_le, nI_toInt (by omega), nI_toInt (by omega)] at h2
      omega
    refine lv_aload_n hx hb dL_cell_6 rfl (lv_at hl 0 rfl) ?_
    refine lv_iload_n hx hb dL_cell_7 rfl (lv_at hl 1 rfl) ?_
    refine va_sld hx hb hX hbl (Nat.not_le.mpr hbl) hS (vp_in_nI hjN (by omega)) dL_cell_8 ?_
    refine lv_goto (tgt := 24) hx hb dL_cell_9 (by decide) ?_
    exact W.iret hx hb hr (fun t ht hW => ⟨⟨_, (), rfl, trivial, trivial⟩, hS.F ht⟩) hS.2.2 dL_cell_24 hlocks
section LW
variable {p : Program} {l : Launch} {e : Env} {s : State} {m : MethodId} {below : List Frame} {meth : Method} {c : Code} {b N : Nat} {xs : Nat → Int32} {D : va_G} {cI cQ cJ : ClassId} {H : Heap} {locs : List Loc} {cells slots : Nat} {Q : State → Prop} {pc : Nat} {ls : Array Slot} {w : va_W}
variable {o s0 w0 : Nat} {x a a2 : Nat → Nat} {A : Nat → Nat → Nat} {r q t : rB} {n old held : Nat} {B : Nat → rB} {K : Int}
theorem l_cell (C : LA p l s m meth c b N xs D cI cQ cJ) (hP : va_P D vwCl w H) (hS : va_S (AL s) s.heap H locs) (hsize : ls.size = 11) {j : Nat} (hj : j < 1000) (hdg : decode cL_law pc = .ok (.invokestatic 69, 3)) (hf : cells ≤ 625000 ∧ slots ≤ 7220000)
    (kk : ∀ (v : Int32) (H : Heap) (locs : List Loc), va_P D vwCl w H → va_S (AL s) s.heap H locs → W p l e room_1 s m #[Value.ref b] below meth c H locs cells slots Q (F0 m (pc + 3) ls [.int v])) : W p l e room_1 s m #[Value.ref b] below meth c H locs cells slots Q (F0 m pc ls [.int (nI j), .ref b]) := by
  obtain ⟨hx, hb, hml, hts, hown, hX, hbl, hE, hEX, hK, hfl, hN⟩ := C
  have hc0 : cells + 0 ≤ room_1.cells ∧ slots + 0 ≤ room_1.slots := ⟨by show cells ≤ 625941; omega, by show slots ≤ 7223801; omega⟩
  refine va_calli (va_runS (As := [.ref b, .int (nI j)]) (rest := []) ⟨hx, hb, hml, hown, hts⟩ (mL_cell l b N xs hN j hj H.size) (va_cwS 2 hts gL_law_L_cell rfl rfl rfl (by decide +kernel) ⟨Nat.le_of_ble_eq_true rfl, Nat.le_of_ble_eq_true rfl⟩) ⟨Pcl.blind, fun U hU hW => ⟨rfl, by rw [hU], ?_, Nat.lt_of_lt_of_le hbl hS.1⟩⟩ rfl rfl hsize rfl (lv_room (Nat.le_of_ble_eq_true rfl)) hdg hc0) hS (fun q _ h => Nat.le_trans hS.1 h) (fun q h => Nat.le_trans hS.1 h) (fun v u t H1 locs1 ht hvm hp hB hz1 hk1 hS1 => ?_)
  · rw [hU]
    exact va_X.moved hW.alike (hX.kept (hS.2.1 b hbl (Nat.not_le.mpr hbl)))
  · exact kk v H1 locs1 (hP.kept (fun j q hj => hk1 q.1 (hP j q hj).lt (Nat.not_le.mpr (hP j q hj).lt))) hS1
theorem l_count (C : LA p l s m meth c b N xs D cI cQ cJ) (hP : va_P D vwCl (WX cI cQ o s0 w0 x a a2 A r q t n (zF A n) (nI old) (nI held) B) H) (hD : va_D (AL s) (WX cI cQ o s0 w0 x a a2 A r q t n (zF A n) (nI old) (nI held) B)) (hS : va_S (AL s) s.heap H locs) (hsize : ls.size = 11) (hdg : decode cL_law pc = .ok (.invokevirtual 12, 3)) (hf : cells ≤ 625000 ∧ slots ≤ 7220000)
    (kk : ∀ (H : Heap) (locs : List Loc), va_P D vwCl (WX cI cQ o s0 w0 x a a2 A r q t n (zF A n) (nI old) (nI held) B) H → va_D (AL s) (WX cI cQ o s0 w0 x a a2 A r q t n (zF A n) (nI old) (nI held) B) → va_S (AL s) s.heap H locs → W p l e room_1 s m #[Value.ref b] below meth c H locs cells slots Q (F0 m (pc + 3) ls [.int (nI held)])) : W p l e room_1 s m #[Value.ref b] below meth c H locs cells slots Q (F0 m pc ls [.int 8, .ref o]) := by
  obtain ⟨hx, hb, hml, hts, hown, hX, hbl, hE, hEX, hK, hfl, hN⟩ := C
  have hA : ∀ q : Nat, s.heap.size ≤ q → AL s q := fun _ h => h
  have hc0 : cells + 0 ≤ room_1.cells ∧ slots + 0 ≤ room_1.slots := ⟨by show cells ≤ 625941; omega, by show slots ≤ 7223801; omega⟩
  exact k_calli (wc := (cO o [.ref (a 0), .ref (a2 0), .ref s0, .ref (x 0)]) ++ (cR cI a r) ++ (cS cQ s0 w0 (zF A n) (nI old) (nI held))) (w' := (cO o [.ref (a 0), .ref (a2 0), .ref s0, .ref (x 0)]) ++ (cR cI a r) ++ (cS cQ s0 w0 (zF A n) (nI old) (nI held))) (wn := WX cI cQ o s0 w0 x a a2 A r q t n (zF A n) (nI old) (nI held) B) (va_runV (As := [.int 8]) (rest := []) ⟨hx, hb, hml, hown, hts⟩ (mX3_count l D cI cQ cJ o s0 (x 0) a a2 r w0 (zF A n) (nI old) (nI held) 8 (by decide) _) (cwV 1 hts gL_law_X3_count rfl rfl rfl (by decide +kernel) ⟨Nat.le_of_ble_eq_true rfl, Nat.le_of_ble_eq_true rfl⟩) (k_preV (wc := (cO o [.ref (a 0), .ref (a2 0), .ref s0, .ref (x 0)]) ++ (cR cI a r) ++ (cS cQ s0 w0 (zF A n) (nI old) (nI held))) hE hK hP hD [0, 1, 2, 3, 4, 5, 6, 7, 8, 9, 10, 11, 12, 13, 27, 28] (by decide) rfl (ci := 3) (q0 := 0) rfl rfl [.int 8]) rfl rfl hsize rfl (lv_room (Nat.le_of_ble_eq_true rfl)) hdg hc0) hP hD hS hA [0, 1, 2, 3, 4, 5, 6, 7, 8, 9, 10, 11, 12, 13, 27, 28] rfl rfl (putAt_same _ _ _ rfl) kk
theorem l_told (C : LA p l s m meth c b N xs D cI cQ cJ) (hP : va_P D vwCl (WX cI cQ o s0 w0 x a a2 A r q t n (zF A n) (nI old) (nI held) B) H) (hD : va_D (AL s) (WX cI cQ o s0 w0 x a a2 A r q t n (zF A n) (nI old) (nI held) B)) (hS : va_S (AL s) s.heap H locs) (hsize : ls.size = 11) (hdg : decode cL_law pc = .ok (.invokestatic 76, 3)) (hf : cells ≤ 625000 ∧ slots ≤ 7220000)
    (kk : ∀ (H : Heap) (locs : List Loc), va_P D vwCl (WX cI cQ o s0 w0 x a a2 A r q t n (zF A n) (nI old) (nI held) B) H → va_D (AL s) (WX cI cQ o s0 w0 x a a2 A r q t n (zF A n) (nI old) (nI held) B) → va_S (AL s) s.heap H locs → W p l e room_1 s m #[Value.ref b] below meth c H locs cells slots Q (F0 m (pc + 3) ls [.long (tdV r (nI held))])) : W p l e room_1 s m #[Value.ref b] below meth c H locs cells slots Q (F0 m pc ls [.ref o]) := by
  obtain ⟨hx, hb, hml, hts, hown, hX, hbl, hE, hEX, hK, hfl, hN⟩ := C
  have hA : ∀ q : Nat, s.heap.size ≤ q → AL s q := fun _ h => h
  have hc0 : cells + 0 ≤ room_1.cells ∧ slots + 0 ≤ room_1.slots := ⟨by show cells ≤ 625941; omega, by show slots ≤ 7223801; omega⟩
  exact k_calll (wc := (cO o [.ref (a 0), .ref (a2 0), .ref s0, .ref (x 0)]) ++ (cR cI a r) ++ (cS cQ s0 w0 (zF A n) (nI old) (nI held))) (w' := (cO o [.ref (a 0), .ref (a2 0), .ref s0, .ref (x 0)]) ++ (cR cI a r) ++ (cS cQ s0 w0 (zF A n) (nI old) (nI held))) (wn := WX cI cQ o s0 w0 x a a2 A r q t n (zF A n) (nI old) (nI held) B) (va_runS (As := [.ref o]) (rest := []) ⟨hx, hb, hml, hown, hts⟩ (mL_told l D cI cQ cJ o s0 (x 0) a a2 r w0 (zF A n) (nI old) (nI held) _) (va_cwS 1 hts gL_law_L_told rfl rfl rfl (by decide +kernel) ⟨Nat.le_of_ble_eq_true rfl, Nat.le_of_ble_eq_true rfl⟩) (k_preS (wc := (cO o [.ref (a 0), .ref (a2 0), .ref s0, .ref (x 0)]) ++ (cR cI a r) ++ (cS cQ s0 w0 (zF A n) (nI old) (nI held))) hE hK hP hD [0, 1, 2, 3, 4, 5, 6, 7, 8, 9, 10, 11, 12, 13, 27, 28] (by decide) rfl [.ref o]) rfl rfl hsize rfl (lv_room (Nat.le_of_ble_eq_true rfl)) hdg hc0) hP hD hS hA [0, 1, 2, 3, 4, 5, 6, 7, 8, 9, 10, 11, 12, 13, 27, 28] rfl rfl (putAt_same _ _ _ rfl) kk
theorem l_undo (C : LA p l s m meth c b N xs D cI cQ cJ) (hok : svOk n old held) (h0 : held ≠ 0) {r1 : rB} (er1 : B ((old + (held - 1)) % 6) = r1) (hP : va_P D vwCl (WX cI cQ o s0 w0 x a a2 A r q t n (zF A n) (nI old) (nI held) B) H) (hD : va_D (AL s) (WX cI cQ o s0 w0 x a a2 A r q t n (zF A n) (nI old) (nI held) B)) (hS : va_S (AL s) s.heap H locs) (hsize : ls.size = 11) (hdg : decode cL_law pc = .ok (.invokevirtual 73, 3)) (hf : cells ≤ 625000 ∧ slots ≤ 7220000)
    (kk : ∀ (H : Heap) (locs : List Loc), va_P D vwCl (WX cI cQ o s0 w0 x a a2 A r1 q t n (zF A n) (nI old) (nI (held - 1)) B) H → va_D (AL s) (WX cI cQ o s0 w0 x a a2 A r1 q t n (zF A n) (nI old) (nI (held - 1)) B) → va_S (AL s) s.heap H locs → W p l e room_1 s m #[Value.ref b] below meth c H locs (cells + 1) (slots + 6) Q (F0 m (pc + 3) ls [.int (nI (held - 1))])) : W p l e room_1 s m #[Value.ref b] below meth c H locs cells slots Q (F0 m pc ls [.ref o]) := by
  obtain ⟨hx, hb, hml, hts, hown, hX, hbl, hE, hEX, hK, hfl, hN⟩ := C
  have hA : ∀ q : Nat, s.heap.size ≤ q → AL s q := fun _ h => h
  have hc0 : cells + 1 ≤ room_1.cells ∧ slots + 6 ≤ room_1.slots := ⟨by show cells + 1 ≤ 625941; omega, by show slots + 6 ≤ 7223801; omega⟩
  refine k_callY (wc := WX cI cQ o s0 w0 x a a2 A r q t n (zF A n) (nI old) (nI held) B) (va_runV (As := []) (rest := []) ⟨hx, hb, hml, hown, hts⟩ (YM_of (xX3_undo l hfl D cI cQ cJ o s0 w0 x a a2 A r q t n old held B hok) (if_neg h0) _) (cwV 0 hts gL_law_X3_undo rfl rfl rfl (by decide +kernel) ⟨Nat.le_of_ble_eq_true rfl, Nat.le_of_ble_eq_true rfl⟩) (k_preYV (wr := []) (wc := WX cI cQ o s0 w0 x a a2 A r q t n (zF A n) (nI old) (nI held) B) hE hEX hK hP hD hS hA (ci := 3) (q0 := 0) rfl rfl []) rfl rfl hsize rfl (lv_room (Nat.le_of_ble_eq_true rfl)) hdg hc0) hP hD hS hA (fun z9 u9 hp9 H locs hP hD hS => ?_)
  obtain ⟨e1, e2⟩ := hp9
  subst e1
  rw [er1] at e2
  subst e2
  exact kk H locs hP hD hS
theorem l_act (C : LA p l s m meth c b N xs D cI cQ cJ) (hok : svOk n old held) (hG : Gd K r) {sv sw : Int32} (hP : va_P D vwCl (WX cI cQ o s0 w0 x a a2 A r q t n (zF A n) (nI old) (nI held) B) H) (hD : va_D (AL s) (WX cI cQ o s0 w0 x a a2 A r q t n (zF A n) (nI old) (nI held) B)) (hS : va_S (AL s) s.heap H locs) (hsize : ls.size = 11) (hdg : decode cL_law pc = .ok (.invokestatic 80, 3)) (hf : cells ≤ 625000 ∧ slots ≤ 7220000)
    (k1 : blk r sv sw → ∀ (H : Heap) (locs : List Loc), va_P D vwCl (WX cI cQ o s0 w0 x a a2 A r q t n (zF A n) (nI old) (nI held) B) H → va_D (AL s) (WX cI cQ o s0 w0 x a a2 A r q t n (zF A n) (nI old) (nI held) B) → va_S (AL s) s.heap H locs → W p l e room_1 s m #[Value.ref b] below meth c H locs (cells + 14) (slots + 91) Q (F0 m (pc + 3) ls [.int (-9)]))
    (k2 : ¬ blk r sv sw → ∀ (r1 : rB) (g1 : Int32) (u : Nat → Nat → Nat), r1 = (acC r sv sw).1 → g1 = (acC r sv sw).2 → ∀ (H : Heap) (locs : List Loc), va_P D vwCl (WX cI cQ o s0 w0 x a a2 u r1 q t (kN n old held) (zF u (kN n old held)) (nI (kO old held)) (nI (kH held + 1)) (kB B old held r)) H → va_D (AL s) (WX cI cQ o s0 w0 x a a2 u r1 q t (kN n old held) (zF u (kN n old held)) (nI (kO old held)) (nI (kH held + 1)) (kB B old held r)) → va_S (AL s) s.heap H locs → W p l e room_1 s m #[Value.ref b] below meth c H locs (cells + 14) (slots + 91) Q (F0 m (pc + 3) ls [.int g1])) : W p l e room_1 s m #[Value.ref b] below meth c H locs cells slots Q (F0 m pc ls [.int sw, .int sv, .ref o]) := by
  obtain ⟨hx, hb, hml, hts, hown, hX, hbl, hE, hEX, hK, hfl, hN⟩ := C
  have hA : ∀ q : Nat, s.heap.size ≤ q → AL s q := fun _ h => h
  have hc0 : cells + 14 ≤ room_1.cells ∧ slots + 91 ≤ room_1.slots := ⟨by show cells + 14 ≤ 625941; omega, by show slots + 91 ≤ 7223801; omega⟩
  have hM := cL_act_ok l hfl D cI cQ cJ o s0 w0 x a a2 A r q t n old held B sv sw hok K hG
  obtain ⟨r1, er1⟩ : ∃ z : rB, z = (acC r sv sw).1 := ⟨_, rfl⟩
  obtain ⟨g1, eg1⟩ : ∃ z : Int32, z = (acC r sv sw).2 := ⟨_, rfl⟩
  rw [← er1, ← eg1] at hM
  refine k_callY (wc := WX cI cQ o s0 w0 x a a2 A r q t n (zF A n) (nI old) (nI held) B) (va_runS (As := [.ref o, .int sv, .int sw]) (rest := []) ⟨hx, hb, hml, hown, hts⟩ (hM _) (va_cwS 3 hts gL_law_L_act rfl rfl rfl (by decide +kernel) ⟨Nat.le_of_ble_eq_true rfl, Nat.le_of_ble_eq_true rfl⟩) (k_preY (wr := []) (wc := WX cI cQ o s0 w0 x a a2 A r q t n (zF A n) (nI old) (nI held) B) hE hEX hK hP hD hS hA [.ref o, .int sv, .int sw]) rfl rfl hsize rfl (lv_room (Nat.le_of_ble_eq_true rfl)) hdg hc0) hP hD hS hA (fun z9 u9 hp9 H locs hP hD hS => ?_)
  rcases hp9 with ⟨h1, e1, e2⟩ | ⟨h1, e1, u, e2⟩
  · subst e1; subst e2
    exact k1 h1 H locs hP hD hS
  · subst e1; subst e2
    exact k2 h1 r1 z9 u er1 eg1 H locs hP hD hS
theorem lh_holds (C : LA p l s m meth c b N xs D cI cQ cJ) (hF : FPn) (hQ : FQ r) (hG : Gd K r) (hK2 : K ≤ 2000000000) (fl : Int32) (h6 : ¬ fl = 0 → ∀ i, i < 6 → fdV r i (6 - (i + 1)) (i + 1) 0 = 0 → r 8 i ≤ roomT r i) (hP : va_P D vwCl (WX cI cQ o s0 w0 x a a2 A r q t n (zF A n) (nI old) (nI held) B) H) (hD : va_D (AL s) (WX cI cQ o s0 w0 x a a2 A r q t n (zF A n) (nI old) (nI held) B)) (hS : va_S (AL s) s.heap H locs) (hsize : ls.size = 11) (hdg : decode cL_law pc = .ok (.invokestatic 84, 3)) (hf : cells ≤ 625000 ∧ slots ≤ 7220000)
    (kk : ∀ (q1 : rB) (H : Heap) (locs : List Loc), va_P D vwCl (WX cI cQ o s0 w0 x a a2 A r q1 t n (zF A n) (nI old) (nI held) B) H → va_D (AL s) (WX cI cQ o s0 w0 x a a2 A r q1 t n (zF A n) (nI old) (nI held) B) → va_S (AL s) s.heap H locs → W p l e room_1 s m #[Value.ref b] below meth c H locs cells slots Q (F0 m (pc + 3) ls [.int 1])) : W p l e room_1 s m #[Value.ref b] below meth c H locs cells slots Q (F0 m pc ls [.int fl, .ref o]) := by
  obtain ⟨hx, hb, hml, hts, hown, hX, hbl, hE, hEX, hK, hfl, hN⟩ := C
  have hA : ∀ q : Nat, s.heap.size ≤ q → AL s q := fun _ h => h
  have hc0 : cells + 0 ≤ room_1.cells ∧ slots + 0 ≤ room_1.slots := ⟨by show cells ≤ 625941; omega, by show slots ≤ 7223801; omega⟩
  have hM := mL_holds l D cI cQ cJ o s0 (x 0) a a2 r q w0 (zF A n) (nI old) (nI held) hF fl (fun i hi => hG.1.v hi) (h_ring hG) (h_room hG.1) (fun i hi => (h_pipe hG.1 i hi).1) (fun i hi => (h_pipe hG.1 i hi).2) (h_leaf hG.1) (h_in hG.2.1) h6 (h_sum hG.2.1 hK2) (h_dry r) hQ
  obtain ⟨q1, eq1⟩ : ∃ z : rB, z = (dyC 301 0 r).1 := ⟨_, rfl⟩
  rw [← eq1] at hM
  exact k_calli (wc := (cO o [.ref (a 0), .ref (a2 0), .ref s0, .ref (x 0)]) ++ (cR cI a r) ++ (cR cI a2 q) ++ (cS cQ s0 w0 (zF A n) (nI old) (nI held))) (w' := (cO o [.ref (a 0), .ref (a2 0), .ref s0, .ref (x 0)]) ++ (cR cI a r) ++ (cR cI a2 q1) ++ (cS cQ s0 w0 (zF A n) (nI old) (nI held))) (wn := WX cI cQ o s0 w0 x a a2 A r q1 t n (zF A n) (nI old) (nI held) B) (va_runS (As := [.ref o, .int fl]) (rest := []) ⟨hx, hb, hml, hown, hts⟩ (hM _) (va_cwS 2 hts gL_law_L_holds rfl rfl rfl (by decide +kernel) ⟨Nat.le_of_ble_eq_true rfl, Nat.le_of_ble_eq_true rfl⟩) (k_preS (wc := (cO o [.ref (a 0), .ref (a2 0), .ref s0, .ref (x 0)]) ++ (cR cI a r) ++ (cR cI a2 q) ++ (cS cQ s0 w0 (zF A n) (nI old) (nI held))) hE hK hP hD [0, 1, 2, 3, 4, 5, 6, 7, 8, 9, 10, 11, 12, 13, 14, 15, 16, 17, 18, 19, 20, 21, 22, 23, 24, 25, 26, 27, 28] (by decide) rfl [.ref o, .int fl]) rfl rfl hsize rfl (lv_room (Nat.le_of_ble_eq_true rfl)) hdg hc0) hP hD hS hA [0, 1, 2, 3, 4, 5, 6, 7, 8, 9, 10, 11, 12, 13, 14, 15, 16, 17, 18, 19, 20, 21, 22, 23, 24, 25, 26, 27, 28] rfl rfl (by rw [show [0, 1, 2, 3, 4, 5, 6, 7, 8, 9, 10, 11, 12, 13, 14, 15, 16, 17, 18, 19, 20, 21, 22, 23, 24, 25, 26, 27, 28] = List.range' 0 29 from rfl, putAt_l _ _ _ _ 31, putAt_l _ _ _ _ 29, putAt_f 29] <;> first | rfl | decide) (kk q1)
end LW
