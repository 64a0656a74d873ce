/-! the law: what stands all along, and its rows that come again and again -/
abbrev AL (s : State) : Nat → Prop := fun q => s.heap.size ≤ q
def LA (p : Program) (l : Launch) (s : State) (m : MethodId) (meth : Method) (c : Code) (b N : Nat) (xs : Nat → Int32) (D : va_G) (cI cQ cJ : ClassId) : Prop :=
  p.tables.exec = Jvm.exec ∧ c.code = cL_law ∧ c.maxLocals = 9 ∧ (∀ w ∈ wsL_law, w.before #[Value.ref b] s = true) ∧ s.vm.findClass RL = some m.cls ∧ va_X b N xs s s.heap ∧ b < s.heap.size ∧ EV s ∧ EX (AL s) s ∧ va_K D vwCl (tY cI cQ cJ) s ∧ l.stackTraces = false ∧ N ≤ 2560
/-- the world between two calls -/
abbrev WL (cI cQ cJ : ClassId) (am : Nat → Nat) (qo : Nat) (mm : rB) (h : Int64) (g : Nat → Int64) (w : va_W) : va_W := cM cI am mm h ++ ([(qo, .inl (cJ, 1, .inr (.inl g)))] ++ w)
abbrev lv0 (b o : Nat) (am : Nat → Nat) (qo i : Nat) : List (Nat × Value) := [(0, .ref b), (1, .ref o), (2, .ref (am 0)), (3, .ref qo), (4, .int (nI i))]
def LI (cI cQ cJ : ClassId) (am x a a2 : Nat → Nat) (qo o s0 w0 : Nat) (j : Nat) (w : va_W) : Prop := ∃ (A : Nat → Nat → Nat) (r q t : rB) (n old held L : Nat) (B : Nat → rB) (mm : rB) (h : Int64) (g : Nat → Int64), Inv j r t L n old held B mm ∧ w = WL cI cQ cJ am qo mm h g (WX cI cQ o s0 w0 x a a2 A r q t n (zF A n) (nI old) (nI held) B)
/-- what a helper leaves, against what the model will leave and answer -/
def HR (cI cQ : ClassId) (x a a2 : Nat → Nat) (o s0 w0 : Nat) (j : Nat) (mB : rB) (mV z : Int32) (g : Nat → Int64) (w : va_W) : Prop := ∃ (A : Nat → Nat → Nat) (r q t : rB) (n old held L : Nat) (B : Nat → rB), w = WX cI cQ o s0 w0 x a a2 A r q t n (zF A n) (nI old) (nI held) B ∧ Inv (j + 1) r t L n old held B mB ∧ mB 5 0 = z ∧ (z = 0 → g 0 = mV.toInt64)
section LW
variable {p : Program} {l : Launch} {e : Env} {s : State} {m : MethodId} {below : List Frame} {meth : Method} {c : Code} {b N : Nat} {xs : Nat → Int32} {D : va_G} {cI cQ cJ : ClassId} {H : Heap} {locs : List Loc} {cells slots : Nat} {Q : State → Prop} {pc : Nat} {ls : Array Slot} {rest st : List Value}
theorem run_F {R : Room} {args : Array Value} {mc ms : Nat} {g : JFrame} {Qa : State → Outcome → State → Prop} {free : Addr → Prop} (h : vx_Run p l e R s m args below meth c H locs cells slots mc ms g rest Qa (fun _ _ _ => False) free) : vx_Run p l e R s m args below meth c H locs cells slots mc ms g rest Qa (vx_X (fun (_ : Unit) => False) (fun _ _ _ => False) (fun _ => False)) free := fun T hT X => by
  rcases h T hT X with h1 | ⟨q, st₀, t, T', L, E, ce, h0, X', hL, e1, e2, hf, -⟩
  · exact Or.inl h1
  · exact hf.elim
/-- a word of the script -/
theorem l_arg (C : LA p l s m meth c b N xs D cI cQ cJ) (hS : va_S (AL s) s.heap H locs) {j d : Nat} {di : Int} (hj : 5 * j + 5 ≤ N) (hd : d ≤ 4) (hdi : Int32.ofInt di = nI d) (h0 : ls[0]? = some (.val (.ref b))) (h4 : ls[4]? = some (.val (.int (nI (5 * j)))))
    (d0 : decode cL_law pc = .ok (.aload_n 0, 1)) (d1 : decode cL_law (pc + 1) = .ok (.iload 4, 2)) (d3 : decode cL_law (pc + 3) = .ok (.iconst di, 1)) (d4 : decode cL_law (pc + 4) = .ok (.iadd, 1)) (d5 : decode cL_law (pc + 5) = .ok (.iaload, 1))
    (kk : W p l e room_1 s m #[Value.ref b] below meth c H locs cells slots Q (F0 m (pc + 6) ls (.int (xs (5 * j + d)) :: rest))) : W p l e room_1 s m #[Value.ref b] below meth c H locs cells slots Q (F0 m pc ls rest) := by
  obtain ⟨hx, hb, hml, hts, hown, hX, hbl, hE, hEX, hK, hfl, hN⟩ := C
  refine lv_aload_n hx hb d0 rfl h0 ?_
  refine lv_iload hx hb d1 h4 ?_
  refine lv_iconst (v := nI d) hx hb d3 hdi ?_
  refine lv_iadd hx hb d4 ?_
  refine lv_eqi (y := nI (5 * j + d)) (nI_add (5 * j) d) ?_
  refine va_sld hx hb hX hbl (Nat.not_le.mpr hbl) hS (vp_in_nI (by omega) (by omega)) d5 ?_
  rw [nI_clamp (show 5 * j + d < 2 ^ 31 by omega)]
  exact kk
/-- a helper's call -/
theorem l_help (C : LA p l s m meth c b N xs D cI cQ cJ) {y : MethodName} {ws : List Cond} {rm : Room} {av : List Value} {qo : Nat} {g0 : Nat → Int64} {wr w : va_W} {k kl : Nat} {post : Int32 → va_W → Prop} {bytes : ByteArray} {maxL index n : Nat} {hh : List (Nat × Nat × Nat × Nat)} (mc ms : Nat) (hrc : rm.cells = mc) (hrs : rm.slots = ms)
    (hM : HM l D (tY cI cQ cJ) cJ y ws rm av qo g0 w k kl post) (cw : vx_CSW room_1 s #[Value.ref b] RL index y bytes maxL (some .int) hh ws rm mc ms n) (hn : av.length = n)
    (hP : va_P D vwCl (wr ++ ([(qo, .inl (cJ, 1, .inr (.inl g0)))] ++ w)) H) (hD : va_D (AL s) (wr ++ ([(qo, .inl (cJ, 1, .inr (.inl g0)))] ++ w))) (hS : va_S (AL s) s.heap H locs) (hsize : ls.size = 9) (hst : st = av.reverse) (hdg : decode cL_law pc = .ok (.invokestatic index, 3)) (hf : cells + mc ≤ 617766 ∧ slots + ms ≤ 7242805)
    (kk : ∀ (z : Int32) (y9 : Int64) (w2 : va_W) (g : Nat → Int64) (H : Heap) (locs : List Loc), ((k ≠ 0 ∧ z = nI kl ∧ w2 = w) ∨ (k = 0 ∧ z = 0 ∧ ∃ x : Int32, post x w2 ∧ y9 = x.toInt64)) → (k = 0 → g 0 = y9) → va_P D vwCl (wr ++ ([(qo, .inl (cJ, 1, .inr (.inl g)))] ++ w2)) H → va_D (AL s) (wr ++ ([(qo, .inl (cJ, 1, .inr (.inl g)))] ++ w2)) → va_S (AL s) s.heap H locs → W p l e room_1 s m #[Value.ref b] below meth c H locs (cells + mc) (slots + ms) Q (F0 m (pc + 3) ls [.int z])) :
    W p l e room_1 s m #[Value.ref b] below meth c H locs cells slots Q (F0 m pc ls st) := by
  obtain ⟨hx, hb, hml, hts, hown, hX, hbl, hE, hEX, hK, hfl, hN⟩ := C
  have hA : ∀ q : Nat, s.heap.size ≤ q → AL s q := fun _ h => h
  subst hst
  subst hrc
  subst hrs
  refine vx_calli (run_F (vx_runSX (As := av) (rest := []) ⟨hx, hb, hml, hown, hts⟩ (hM _) cw (k_preY hE hEX hK hP hD hS hA av) rfl hn hsize (List.append_nil _).symm (lv_room (Nat.le_of_ble_eq_true rfl)) hdg hf)) hS (fun q9 _ h9 => k_freeR hD hS hA q9 h9) (fun q9 h9 => k_freeR hD hS hA q9 h9) (fun q9 _ h9 => h9.elim) (fun E ce q9 _ t9 H1 locs1 ht hvm hp9 => hp9.elim) (fun z u t9 H1 locs1 ht hvm hp9 hB9 hz hk9 hS1 => ?_)
  obtain ⟨g, hg, hB8, hB7⟩ := hB9
  have hB8 : va_P D vwCl ([(qo, .inl (cJ, 1, .inr (.inl g)))] ++ u.2) t9.heap := hB8
  rw [ht] at hB8
  obtain ⟨hP, hD⟩ := k_join hP hD hk9 hB8 hB7 (fun q h => Nat.le_trans hS.1 h)
  exact kk z u.1 u.2 g H1 locs1 hp9 hg hP hD hS1
/-- a call of the model -/
theorem l_model (C : LA p l s m meth c b N xs D cI cQ cJ) {y : MethodName} {ws : List Cond} {rm : Room} {As : List Value} {am : Nat → Nat} {mm mB : rB} {h : Int64} {v : Int32} {w : va_W} {bytes : ByteArray} {maxL index n : Nat}
    (hM : Mi l D (tY cI cQ cJ) y ws rm (.ref (am 0) :: As) (cM cI am mm h) (cM cI am mB h) v) (cw : CallW room_1 s #[Value.ref b] RL RX4 index y bytes maxL (some .int) ws rm 0 0 n) (hn : As.length = n)
    (hP : va_P D vwCl (cM cI am mm h ++ w) H) (hD : va_D (AL s) (cM cI am mm h ++ w)) (hS : va_S (AL s) s.heap H locs) (hsize : ls.size = 9) (hst : st = As.reverse ++ [.ref (am 0)]) (hdg : decode cL_law pc = .ok (.invokevirtual index, 3)) (hf : cells ≤ 617766 ∧ slots ≤ 7242805)
    (kk : ∀ (H : Heap) (locs : List Loc), va_P D vwCl (cM cI am mB h ++ w) H → va_D (AL s) (cM cI am mB h ++ w) → va_S (AL s) s.heap H locs → W p l e room_1 s m #[Value.ref b] below meth c H locs cells slots Q (F0 m (pc + 3) ls [.int v])) :
    W p l e room_1 s m #[Value.ref b] below meth c H locs cells slots Q (F0 m pc ls st) := by
  obtain ⟨hx, hb, hml, hts, hown, hX, hbl, hE, hEX, hK, hfl, hN⟩ := C
  have hA : ∀ q : Nat, s.heap.size ≤ q → AL s q := fun _ h => h
  subst hst
  exact k_calli (wc := cM cI am mm h) (w' := cM cI am mB h) (wn := cM cI am mB h ++ w) (va_runV (As := As) (rest := []) ⟨hx, hb, hml, hown, hts⟩ (hM _) cw (k_preV (wc := cM cI am mm h) hE hK hP hD [0, 1, 2, 3, 4, 5] (by decide) rfl (ci := 4) (q0 := 0) rfl rfl As) rfl hn hsize rfl (lv_room (Nat.le_of_ble_eq_true rfl)) hdg hf) hP hD hS hA [0, 1, 2, 3, 4, 5] rfl rfl rfl kk
/-- a case's end -/
theorem l_tail (C : LA p l s m meth c b N xs D cI cQ cJ) {T i : Nat} {mB : rB} {h : Int64} {am : Nat → Nat} {w : va_W} {o qo : Nat} {g : Nat → Int64} {zk bv : Int32} (hz : mB 5 0 = zk) (hv : zk = 0 → g 0 = bv.toInt64)
    (hP : va_P D vwCl (WL cI cQ cJ am qo mB h g w) H) (hD : va_D (AL s) (WL cI cQ cJ am qo mB h g w)) (hS : va_S (AL s) s.heap H locs) (hl : lv_has ls 9 [(6, .int bv), (5, .int zk), (0, .ref b), (1, .ref o), (2, .ref (am 0)), (3, .ref qo), (4, .int (nI i))]) (hf : cells ≤ 617766 ∧ slots ≤ 7242805)
    (d0 : decode cL_law T = .ok (.aload_n 2, 1)) (d1 : decode cL_law (T + 1) = .ok (.invokevirtual 81, 3)) (d4 : decode cL_law (T + 4) = .ok (.iload 5, 2)) (d6 : decode cL_law (T + 6) = .ok (.if_icmp .eq 5, 3)) (d11 : decode cL_law (T + 11) = .ok (.iload 5, 2)) (d13 : decode cL_law (T + 13) = .ok (.ifCond .ne 15, 3)) (d16 : decode cL_law (T + 16) = .ok (.aload_n 3, 1)) (d17 : decode cL_law (T + 17) = .ok (.iconst 0, 1)) (d18 : decode cL_law (T + 18) = .ok (.laload, 1)) (d19 : decode cL_law (T + 19) = .ok (.iload 6, 2)) (d21 : decode cL_law (T + 21) = .ok (.i2l, 1)) (d22 : decode cL_law (T + 22) = .ok (.lcmp, 1)) (d23 : decode cL_law (T + 23) = .ok (.ifCond .eq 5, 3)) {off : Int} (d28 : decode cL_law (T + 28) = .ok (.goto off, 3)) (hoff : ((T + 28 : Nat) : Int) + off = ((1311 : Nat) : Int))
    (kk : ∀ (H : Heap) (locs : List Loc), va_P D vwCl (WL cI cQ cJ am qo mB h g w) H → va_D (AL s) (WL cI cQ cJ am qo mB h g w) → va_S (AL s) s.heap H locs → lv_has ls 9 (lv0 b o am qo i) → W p l e room_1 s m #[Value.ref b] below meth c H locs cells slots Q (F0 m 1311 ls [])) :
    W p l e room_1 s m #[Value.ref b] below meth c H locs cells slots Q (F0 m T ls []) := by
  have C0 := C
  obtain ⟨hx, hb, hml, hts, hown, hX, hbl, hE, hEX, hK, hfl, hN⟩ := C0
  have hl0 : lv_has ls 9 (lv0 b o am qo i) := lv_sub hl [2, 3, 4, 5, 6] rfl
  refine lv_aload_n hx hb d0 rfl (lv_at hl 4 rfl) ?_
  refine l_model (As := []) (mB := mB) (v := mB 5 0) C (mX4_thrown l D cI cQ cJ am mB h) (cwV 0 hts gL_law_X4_thrown rfl rfl rfl (by decide +kernel) ⟨Nat.le_of_ble_eq_true rfl, Nat.le_of_ble_eq_true rfl⟩) rfl hP hD hS hl.1 rfl d1 hf (fun H locs hP hD hS => ?_)
  refine lv_iload hx hb d4 (lv_at hl 1 rfl) ?_
  refine lv_icmp_eq (tgt := T + 11) hx hb d6 (by omega) (fun _ => ?_) (fun h9 => absurd hz h9)
  refine lv_iload hx hb d11 (lv_at hl 1 rfl) ?_
  refine lv_if_ne (tgt := T + 28) hx hb d13 (by omega) (fun _ => ?_) (fun hz0 => ?_)
  · exact lv_goto (tgt := 1311) hx hb d28 hoff (kk H locs hP hD hS hl0)
  · refine lv_aload_n hx hb d16 rfl (lv_at hl 5 rfl) ?_
    refine lv_iconst (v := 0) hx hb d17 (by decide) ?_
    refine va_lald hx hb hK hP 6 2 rfl rfl (vp_in_nI (n := 0) (by omega) (by omega)) d18 ?_
    refine lv_eqv (y := .long bv.toInt64) (congrArg Value.long (hv hz0)) ?_
    refine lv_iload hx hb d19 (lv_at hl 0 rfl) ?_
    refine lv_i2l (v := bv.toInt64) hx hb d21 rfl ?_
    refine W.lcmp hx hb d22 ?_
    refine lv_if_eq (tgt := T + 28) hx hb d23 (by omega) (fun _ => ?_) (fun h9 => absurd ((lg_cmp_eq _ _).mpr rfl) h9)
    exact lv_goto (tgt := 1311) hx hb d28 hoff (kk H locs hP hD hS hl0)
end LW
