/-! the law's own calls of the face: caught, told by a number -/
def HQ (cJ : ClassId) (qo : Nat) (D : va_G) (k kl : Nat) (post : Int32 → va_W → Prop) (w : va_W) (A : Nat → Prop) : Array Value → State → Outcome → State → Prop := va_Qi (fun (z : Int32) (u : Int64 × va_W) => (k ≠ 0 ∧ z = nI kl ∧ u.2 = w) ∨ (k = 0 ∧ z = 0 ∧ ∃ x : Int32, post x u.2 ∧ u.1 = x.toInt64)) (fun u t => ∃ g : Nat → Int64, (k = 0 → g 0 = u.1) ∧ Wd D ([(qo, .inl (cJ, 1, .inr (.inl g)))] ++ u.2) t ∧ va_D A ([(qo, .inl (cJ, 1, .inr (.inl g)))] ++ u.2)) A
def HM (l : Launch) (D : va_G) (ty : List (ClassId × FieldType)) (cJ : ClassId) (y : MethodName) (ws : List Cond) (rm : Room) (av : List Value) (qo : Nat) (g0 : Nat → Int64) (w : va_W) (k kl : Nat) (post : Int32 → va_W → Prop) : Prop := ∀ sz : Nat, vx_Met l y ws rm (va_Pc av (Pry D ty sz ([(qo, .inl (cJ, 1, .inr (.inl g0)))] ++ w))) (HQ cJ qo D k kl post w (va_A ([(qo, .inl (cJ, 1, .inr (.inl g0)))] ++ w) sz)) (fun _ _ _ => False) rm.cells rm.slots (va_A ([(qo, .inl (cJ, 1, .inr (.inl g0)))] ++ w) sz)
theorem H_of {l : Launch} {D : va_G} {ty : List (ClassId × FieldType)} {y : MethodName} {ws ws' : List Cond} {rm : Room} {av : List Value} {w : va_W} {cc : ByteArray} {maxL : Nat} {ret : Option FieldType} {hh : List (Nat × Nat × Nat × Nat)} {Qc : (Nat → Prop) → Array Value → State → Outcome → State → Prop} {mc ms : Nat}
    (hy : plainName y.cls = true) (hw : ws = Cond.codeWith y cc maxL ret hh :: ws') (hn : (lg_sl av).length ≤ maxL)
    (body : ∀ (p : Program) (e : Env) (s : State) (m : MethodId) (below : List Frame) (meth : Method) (c : Code) (A : Nat → Prop) (ls : Array Slot), BF p s m av.toArray meth c cc maxL ret ws y.cls → c.exceptionTable.toList = tableOf hh → EV s → EX A s → va_P D vwCl w s.heap → va_K D vwCl ty s → va_D A w → (∀ q, s.heap.size ≤ q → A q) → lv_has ls maxL (lv_args 0 av) →
      W p l e rm s m av.toArray below meth c s.heap [] 0 0 (vx_MQ below (Qc A) (fun _ _ _ => False) av.toArray s mc ms A) (F0 m 0 ls [])) (sz : Nat) : vx_Met l y ws rm (va_Pc av (Pry D ty sz w)) (Qc (va_A w sz)) (fun _ _ _ => False) mc ms (va_A w sz) := by
  refine vx_ofWH (cc := cc) (maxL := maxL) (ret := ret) (hh := hh) hy hw ?_
  intro p e s m args below meth c s₁ B hml hv
  obtain ⟨rfl, hsz, hE, hX, hP, hK, hD0⟩ := hv
  subst hsz
  have hl := lv_entry av (n := maxL) hn
  rw [lg_entry_eq]
  have hts : ∀ w ∈ ws, w.before av.toArray s = true := atoms_spec (ws := ws) B.pre
  exact body p e s m below meth c _ _ ⟨B.exec, B.bytes, B.returns, hml, hts, findClass_of_methodNamed B.named, B.notSynchronized⟩ (vx_table (x := y) B (hts _ (by rw [hw]; exact List.mem_cons_self))) hE hX hP hK hD0.self (fun q h => Or.inr h) hl
theorem k_preYV {s : State} {H : Heap} {A : Nat → Prop} {D : va_G} {tys : List (ClassId × FieldType)} {wr wc : va_W} {locs : List Loc} (hE : EV s) (hX : EX A s) (hK : va_K D vwCl tys s) (hP : va_P D vwCl (wr ++ wc) H) (hD : va_D A (wr ++ wc)) (hS : va_S A s.heap H locs) (hA : ∀ q, s.heap.size ≤ q → A q) {b ci q0 : Nat} {q : vw_C} {fs : List Value} (hc : vwCl[ci]? = some q) (he : (wr ++ wc)[q0]? = some (b, .inr (ci, fs))) (As : List Value) : PreV s H q.1 b (va_Pc (.ref b :: As) (Pry D tys H.size wc)) As :=
  ⟨(k_preY hE hX hK hP hD hS hA (.ref b :: As)).1, va_recv hK hP hc he, (k_preY hE hX hK hP hD hS hA (.ref b :: As)).2⟩
section KH
variable {p : Program} {l : Launch} {e : Env} {R : Room} {s : State} {m : MethodId} {args : Array Value} {below : List Frame} {meth : Method} {c : Code} {H : Heap} {locs : List Loc} {cells slots : Nat} {Q : State → Prop}
variable {cc : ByteArray} {pc : Nat} {ls : Array Slot} {rest st0 : List Value} {D : va_G} {A : Nat → Prop} {tys : List (ClassId × FieldType)} {a : Array Value} {mc ms : Nat}
theorem h_iret {cJ : ClassId} {qo k kl : Nat} {w : va_W} {v : Int32} {post : Int32 → va_W → Prop} {XC : String → State → State → Prop} (g : Nat → Int64) (u : Int64 × va_W) (hx : p.tables.exec = Jvm.exec) (hb : c.code = cc) (hr : meth.sig.returnType = some .int) (hlocks : meth.locks = false) (hS : va_S A s.heap H locs) (hP : va_P D vwCl ([(qo, .inl (cJ, 1, .inr (.inl g)))] ++ u.2) H) (hD : va_D A ([(qo, .inl (cJ, 1, .inr (.inl g)))] ++ u.2)) (hdg : decode cc pc = .ok (.ireturn, 1)) (hq : (k ≠ 0 ∧ v = nI kl ∧ u.2 = w) ∨ (k = 0 ∧ v = 0 ∧ ∃ x : Int32, post x u.2 ∧ u.1 = x.toInt64)) (hg : k = 0 → g 0 = u.1) (hc : cells ≤ mc) (hs : slots ≤ ms) :
    W p l e R s m args below meth c H locs cells slots (vx_MQ below (HQ cJ qo D k kl post w A) XC args s mc ms A) (F0 m pc ls [.int v]) :=
  W.widen hc hs (vx_ret (W.iret hx hb hr (fun t ht hW => ⟨⟨v, u, rfl, hq, g, hg, by show va_P D vwCl _ t.heap; rw [ht]; exact hP, hD⟩, hS.F ht⟩) hS.2.2 hdg hlocks))
end KH
set_option maxHeartbeats 4000000 in
set_option maxRecDepth 100000 in
theorem hL_plane (l : Launch) (D : va_G) (cI cQ cJ : ClassId) (o qo : Nat) (g0 : Nat → Int64) (w : va_W) (fs : List Value) (hw0 : w[0]? = some (o, .inr (3, fs))) (p0 p1 p2 p3 : Int32) (k : Nat) (post : Int32 → va_W → Prop) (hM : XM l D (tY cI cQ cJ) yX3_plane wsX3_plane ({ frames := 6, cells := 14, slots := 91, locals := 112 } : Room) [.ref o, .int p0, .int p1, .int p2, .int p3] w k post) (hk : k = 0 ∨ k = 1 ∨ k = 2) : HM l D (tY cI cQ cJ) cJ yL_plane wsL_plane ({ frames := 7, cells := 14, slots := 91, locals := 144 } : Room) [.ref o, .int p0, .int p1, .int p2, .int p3, .ref qo] qo g0 w k k post := by
  refine H_of (cc := cL_plane) (maxL := 7) (ret := some .int) (Qc := fun A => HQ cJ qo D k k post w A) (by decide) rfl (Nat.le_of_ble_eq_true rfl) ?_
  intro p e s m below meth c A0 ls hB hT hE hX hP hK hD hA0 hl
  obtain ⟨hx, hb, hr, hml, hts, hown, hlocks⟩ := hB
  have hS : va_S A0 s.heap s.heap [] := va_S.rf
  have hl : lv_has ls 7 [(0, .ref o), (1, .int p0), (2, .int p1), (3, .int p2), (4, .int p3), (5, .ref qo)] := hl
  refine lv_aload hx hb dL_plane_0 (lv_at hl 5 rfl) ?_
  refine lv_iconst (v := 0) hx hb dL_plane_2 (by decide) ?_
  refine lv_aload_n hx hb dL_plane_3 rfl (lv_at hl 0 rfl) ?_
  refine lv_iload_n hx hb dL_plane_4 rfl (lv_at hl 1 rfl) ?_
  refine lv_iload_n hx hb dL_plane_5 rfl (lv_at hl 2 rfl) ?_
  refine lv_iload_n hx hb dL_plane_6 rfl (lv_at hl 3 rfl) ?_
  refine lv_iload hx hb dL_plane_7 (lv_at hl 4 rfl) ?_
  refine vx_calli (vx_runV (As := [.int p0, .int p1, .int p2, .int p3]) (rest := [.int 0, .ref qo]) ⟨hx, hb, hml, hown, hts⟩ (hM _) (cwV 4 hts gL_plane_X3_plane rfl rfl rfl (by decide +kernel) ⟨Nat.le_of_ble_eq_true rfl, Nat.le_of_ble_eq_true rfl⟩) (k_preYV (wr := [(qo, .inl (cJ, 1, .inr (.inl g0)))]) (wc := w) hE hX hK hP hD hS hA0 (ci := 3) (q0 := 1) rfl hw0 [.int p0, .int p1, .int p2, .int p3]) rfl rfl hl.1 rfl (lv_room (Nat.le_of_ble_eq_true rfl)) dL_plane_9 ⟨Nat.le_of_ble_eq_true rfl, Nat.le_of_ble_eq_true rfl⟩) hS (fun q9 _ h9 => k_freeR (wr := [(qo, .inl (cJ, 1, .inr (.inl g0)))]) hD hS hA0 q9 h9) (fun q9 h9 => k_freeR (wr := [(qo, .inl (cJ, 1, .inr (.inl g0)))]) hD hS hA0 q9 h9) (fun q9 _ h9 => k_freeR (wr := [(qo, .inl (cJ, 1, .inr (.inl g0)))]) hD hS hA0 q9 h9) (fun E ce q9 _ t9 H1 locs1 ht hvm _ hB9 hz hk9 hS1 hc1 hc2 hc3 => ?_) (fun x9 u9 t9 H1 locs1 ht hvm hp9 hB9 hz hk9 hS1 => ?_)
  · obtain ⟨⟨hk0, hE9⟩, hB8⟩ := hB9
    have hB8 : va_P D vwCl w t9.heap := hB8
    rw [ht] at hB8
    obtain ⟨hP, hD⟩ := k_join (wr := [(qo, .inl (cJ, 1, .inr (.inl g0)))]) (wc := w) hP hD hk9 hB8 (va_D_r hD).self (fun q h => hA0 q (Nat.le_trans hS.1 h))
    rcases hk with hk | hk | hk
    · exact absurd hk hk0
    · subst hk
      have hE9 : E = "java/lang/IndexOutOfBoundsException" := hE9
      subst hE9
      refine vx_catch (own := RL) (name := "java/lang/IndexOutOfBoundsException") hown [] ⟨0, 14, 17, 13⟩ [⟨0, 14, 21, 15⟩] (by rw [hT]; rfl) (fun z hz => nomatch hz) (by decide) (by decide) (hts (.classLink RL 13 "java/lang/IndexOutOfBoundsException") (by decide +kernel)) (va_Nw.use rfl (hX.2.2.2.2.1 eIOB (by simp))) hc1 hc2 hc3 ?_
      refine lv_astore (lv' := [(6, .ref q9), (0, .ref o), (1, .int p0), (2, .int p1), (3, .int p2), (4, .int p3), (5, .ref qo)]) hx hb dL_plane_17 hl (by decide) rfl (fun ls hl => ?_)
      refine lv_iconst (v := 1) hx hb dL_plane_19 (by decide) ?_
      exact h_iret g0 (0, w) hx hb hr hlocks hS1 hP hD dL_plane_20 (Or.inl ⟨by decide, rfl, rfl⟩) (fun h9 => absurd h9 (by decide)) (Nat.le_of_ble_eq_true rfl) (Nat.le_of_ble_eq_true rfl)
    · subst hk
      have hE9 : E = "java/lang/IllegalArgumentException" := hE9
      subst hE9
      refine vx_catch (own := RL) (name := "java/lang/IllegalArgumentException") hown [⟨0, 14, 17, 13⟩] ⟨0, 14, 21, 15⟩ [] (by rw [hT]; rfl) (fun z hz => by simp only [List.mem_cons, List.not_mem_nil, or_false] at hz; rcases hz with rfl <;> first | (exact Or.inr ⟨by decide, "java/lang/IndexOutOfBoundsException", hts (.classLink RL 13 "java/lang/IndexOutOfBoundsException") (by decide +kernel), hX.2.2.2.2.2.1 (eIAE, eIOB) (by simp)⟩)) (by decide) (by decide) (hts (.classLink RL 15 "java/lang/IllegalArgumentException") (by decide +kernel)) (va_Nw.use rfl (hX.2.2.2.2.1 eIAE (by simp))) hc1 hc2 hc3 ?_
      refine lv_astore (lv' := [(6, .ref q9), (0, .ref o), (1, .int p0), (2, .int p1), (3, .int p2), (4, .int p3), (5, .ref qo)]) hx hb dL_plane_21 hl (by decide) rfl (fun ls hl => ?_)
      refine lv_iconst (v := 2) hx hb dL_plane_23 (by decide) ?_
      exact h_iret g0 (0, w) hx hb hr hlocks hS1 hP hD dL_plane_24 (Or.inl ⟨by decide, rfl, rfl⟩) (fun h9 => absurd h9 (by decide)) (Nat.le_of_ble_eq_true rfl) (Nat.le_of_ble_eq_true rfl)
  · obtain ⟨hB8, hB7⟩ := hB9
    have hB8 : va_P D vwCl u9 t9.heap := hB8
    rw [ht] at hB8
    obtain ⟨hP, hD⟩ := k_join (wr := [(qo, .inl (cJ, 1, .inr (.inl g0)))]) (wc := w) hP hD hk9 hB8 hB7 (fun q h => hA0 q (Nat.le_trans hS.1 h))
    refine lv_i2l (v := x9.toInt64) hx hb dL_plane_12 rfl ?_
    refine va_last hx hb hK hP hD hS1 0 2 rfl rfl (vp_in_nI (n := 0) (by omega) (by omega)) dL_plane_13 (fun H locs hP hD hS => ?_)
    refine lv_goto (tgt := 25) hx hb dL_plane_14 (by decide) ?_
    refine lv_iconst (v := 0) hx hb dL_plane_25 (by decide) ?_
    exact h_iret _ (x9.toInt64, u9) hx hb hr hlocks hS hP hD dL_plane_26 (Or.inr ⟨hp9.1, rfl, x9, hp9.2, rfl⟩) (fun _ => rfl) (Nat.le_of_ble_eq_true rfl) (Nat.le_of_ble_eq_true rfl)
set_option maxHeartbeats 4000000 in
set_option maxRecDepth 100000 in
theorem hL_gutter (l : Launch) (D : va_G) (cI cQ cJ : ClassId) (o qo : Nat) (g0 : Nat → Int64) (w : va_W) (fs : List Value) (hw0 : w[0]? = some (o, .inr (3, fs))) (p0 p1 p2 : Int32) (k : Nat) (post : Int32 → va_W → Prop) (hM : XM l D (tY cI cQ cJ) yX3_gutter wsX3_gutter ({ frames := 6, cells := 14, slots := 91, locals := 112 } : Room) [.ref o, .int p0, .int p1, .int p2] w k post) (hk : k = 0 ∨ k = 1 ∨ k = 2) : HM l D (tY cI cQ cJ) cJ yL_gutter wsL_gutter ({ frames := 7, cells := 14, slots := 91, locals := 142 } : Room) [.ref o, .int p0, .int p1, .int p2, .ref qo] qo g0 w k k post := by
  refine H_of (cc := cL_gutter) (maxL := 6) (ret := some .int) (Qc := fun A => HQ cJ qo D k k post w A) (by decide) rfl (Nat.le_of_ble_eq_true rfl) ?_
  intro p e s m below meth c A0 ls hB hT hE hX hP hK hD hA0 hl
  obtain ⟨hx, hb, hr, hml, hts, hown, hlocks⟩ := hB
  have hS : va_S A0 s.heap s.heap [] := va_S.rf
  have hl : lv_has ls 6 [(0, .ref o), (1, .int p0), (2, .int p1), (3, .int p2), (4, .ref qo)] := hl
  refine lv_aload hx hb dL_gutter_0 (lv_at hl 4 rfl) ?_
  refine lv_iconst (v := 0) hx hb dL_gutter_2 (by decide) ?_
  refine lv_aload_n hx hb dL_gutter_3 rfl (lv_at hl 0 rfl) ?_
  refine lv_iload_n hx hb dL_gutter_4 rfl (lv_at hl 1 rfl) ?_
  refine lv_iload_n hx hb dL_gutter_5 rfl (lv_at hl 2 rfl) ?_
  refine lv_iload_n hx hb dL_gutter_6 rfl (lv_at hl 3 rfl) ?_
  refine vx_calli (vx_runV (As := [.int p0, .int p1, .int p2]) (rest := [.int 0, .ref qo]) ⟨hx, hb, hml, hown, hts⟩ (hM _) (cwV 3 hts gL_gutter_X3_gutter rfl rfl rfl (by decide +kernel) ⟨Nat.le_of_ble_eq_true rfl, Nat.le_of_ble_eq_true rfl⟩) (k_preYV (wr := [(qo, .inl (cJ, 1, .inr (.inl g0)))]) (wc := w) hE hX hK hP hD hS hA0 (ci := 3) (q0 := 1) rfl hw0 [.int p0, .int p1, .int p2]) rfl rfl hl.1 rfl (lv_room (Nat.le_of_ble_eq_true rfl)) dL_gutter_7 ⟨Nat.le_of_ble_eq_true rfl, Nat.le_of_ble_eq_true rfl⟩) hS (fun q9 _ h9 => k_freeR (wr := [(qo, .inl (cJ, 1, .inr (.inl g0)))]) hD hS hA0 q9 h9) (fun q9 h9 => k_freeR (wr := [(qo, .inl (cJ, 1, .inr (.inl g0)))]) hD hS hA0 q9 h9) (fun q9 _ h9 => k_freeR (wr := [(qo, .inl (cJ, 1, .inr (.inl g0)))]) hD hS hA0 q9 h9) (fun E ce q9 _ t9 H1 locs1 ht hvm _ hB9 hz hk9 hS1 hc1 hc2 hc3 => ?_) (fun x9 u9 t9 H1 locs1 ht hvm hp9 hB9 hz hk9 hS1 => ?_)
  · obtain ⟨⟨hk0, hE9⟩, hB8⟩ := hB9
    have hB8 : va_P D vwCl w t9.heap := hB8
    rw [ht] at hB8
    obtain ⟨hP, hD⟩ := k_join (wr := [(qo, .inl (cJ, 1, .inr (.inl g0)))]) (wc := w) hP hD hk9 hB8 (va_D_r hD).self (fun q h => hA0 q (Nat.le_trans hS.1 h))
    rcases hk with hk | hk | hk
    · exact absurd hk hk0
    · subst hk
      have hE9 : E = "java/lang/IndexOutOfBoundsException" := hE9
      subst hE9
      refine vx_catch (own := RL) (name := "java/lang/IndexOutOfBoundsException") hown [] ⟨0, 12, 15, 13⟩ [⟨0, 12, 19, 15⟩] (by rw [hT]; rfl) (fun z hz => nomatch hz) (by decide) (by decide) (hts (.classLink RL 13 "java/lang/IndexOutOfBoundsException") (by decide +kernel)) (va_Nw.use rfl (hX.2.2.2.2.1 eIOB (by simp))) hc1 hc2 hc3 ?_
      refine lv_astore (lv' := [(5, .ref q9), (0, .ref o), (1, .int p0), (2, .int p1), (3, .int p2), (4, .ref qo)]) hx hb dL_gutter_15 hl (by decide) rfl (fun ls hl => ?_)
      refine lv_iconst (v := 1) hx hb dL_gutter_17 (by decide) ?_
      exact h_iret g0 (0, w) hx hb hr hlocks hS1 hP hD dL_gutter_18 (Or.inl ⟨by decide, rfl, rfl⟩) (fun h9 => absurd h9 (by decide)) (Nat.le_of_ble_eq_true rfl) (Nat.le_of_ble_eq_true rfl)
    · subst hk
      have hE9 : E = "java/lang/IllegalArgumentException" := hE9
      subst hE9
      refine vx_catch (own := RL) (name := "java/lang/IllegalArgumentException") hown [⟨0, 12, 15, 13⟩] ⟨0, 12, 19, 15⟩ [] (by rw [hT]; rfl) (fun z hz => by simp only [List.mem_cons, List.not_mem_nil, or_false] at hz; rcases hz with rfl <;> first | (exact Or.inr ⟨by decide, "java/lang/IndexOutOfBoundsException", hts (.classLink RL 13 "java/lang/IndexOutOfBoundsException") (by decide +kernel), hX.2.2.2.2.2.1 (eIAE, eIOB) (by simp)⟩)) (by decide) (by decide) (hts (.classLink RL 15 "java/lang/IllegalArgumentException") (by decide +kernel)) (va_Nw.use rfl (hX.2.2.2.2.1 eIAE (by simp))) hc1 hc2 hc3 ?_
      refine lv_astore (lv' := [(5, .ref q9), (0, .ref o), (1, .int p0), (2, .int p1), (3, .int p2), (4, .ref qo)]) hx hb dL_gutter_19 hl (by decide) rfl (fun ls hl => ?_)
      refine lv_iconst (v := 2) hx hb dL_gutter_21 (by decide) ?_
      exact h_iret g0 (0, w) hx hb hr hlocks hS1 hP hD dL_gutter_22 (Or.inl ⟨by decide, rfl, rfl⟩) (fun h9 => absurd h9 (by decide)) (Nat.le_of_ble_eq_true rfl) (Nat.le_of_ble_eq_true rfl)
  · obtain ⟨hB8, hB7⟩ := hB9
    have hB8 : va_P D vwCl u9 t9.heap := hB8
    rw [ht] at hB8
    obtain ⟨hP, hD⟩ := k_join (wr := [(qo, .inl (cJ, 1, .inr (.inl g0)))]) (wc := w) hP hD hk9 hB8 hB7 (fun q h => hA0 q (Nat.le_trans hS.1 h))
    refine lv_i2l (v := x9.toInt64) hx hb dL_gutter_10 rfl ?_
    refine va_last hx hb hK hP hD hS1 0 2 rfl rfl (vp_in_nI (n := 0) (by omega) (by omega)) dL_gutter_11 (fun H locs hP hD hS => ?_)
    refine lv_goto (tgt := 23) hx hb dL_gutter_12 (by decide) ?_
    refine lv_iconst (v := 0) hx hb dL_gutter_23 (by decide) ?_
    exact h_iret _ (x9.toInt64, u9) hx hb hr hlocks hS hP hD dL_gutter_24 (Or.inr ⟨hp9.1, rfl, x9, hp9.2, rfl⟩) (fun _ => rfl) (Nat.le_of_ble_eq_true rfl) (Nat.le_of_ble_eq_true rfl)
set_option maxHeartbeats 4000000 in
set_option maxRecDepth 100000 in
theorem hL_valley (l : Launch) (D : va_G) (cI cQ cJ : ClassId) (o qo : Nat) (g0 : Nat → Int64) (w : va_W) (fs : List Value) (hw0 : w[0]? = some (o, .inr (3, fs))) (p0 p1 : Int32) (k : Nat) (post : Int32 → va_W → Prop) (hM : XM l D (tY cI cQ cJ) yX3_valley wsX3_valley ({ frames := 6, cells := 14, slots := 91, locals := 112 } : Room) [.ref o, .int p0, .int p1] w k post) (hk : k = 0 ∨ k = 1 ∨ k = 2 ∨ k = 3) : HM l D (tY cI cQ cJ) cJ yL_valley wsL_valley ({ frames := 7, cells := 14, slots := 91, locals := 140 } : Room) [.ref o, .int p0, .int p1, .ref qo] qo g0 w k k post := by
  refine H_of (cc := cL_valley) (maxL := 5) (ret := some .int) (Qc := fun A => HQ cJ qo D k k post w A) (by decide) rfl (Nat.le_of_ble_eq_true rfl) ?_
  intro p e s m below meth c A0 ls hB hT hE hX hP hK hD hA0 hl
  obtain ⟨hx, hb, hr, hml, hts, hown, hlocks⟩ := hB
  have hS : va_S A0 s.heap s.heap [] := va_S.rf
  have hl : lv_has ls 5 [(0, .ref o), (1, .int p0), (2, .int p1), (3, .ref qo)] := hl
  refine lv_aload_n hx hb dL_valley_0 rfl (lv_at hl 3 rfl) ?_
  refine lv_iconst (v := 0) hx hb dL_valley_1 (by decide) ?_
  refine lv_aload_n hx hb dL_valley_2 rfl (lv_at hl 0 rfl) ?_
  refine lv_iload_n hx hb dL_valley_3 rfl (lv_at hl 1 rfl) ?_
  refine lv_iload_n hx hb dL_valley_4 rfl (lv_at hl 2 rfl) ?_
  refine vx_calli (vx_runV (As := [.int p0, .int p1]) (rest := [.int 0, .ref qo]) ⟨hx, hb, hml, hown, hts⟩ (hM _) (cwV 2 hts gL_valley_X3_valley rfl rfl rfl (by decide +kernel) ⟨Nat.le_of_ble_eq_true rfl, Nat.le_of_ble_eq_true rfl⟩) (k_preYV (wr := [(qo, .inl (cJ, 1, .inr (.inl g0)))]) (wc := w) hE hX hK hP hD hS hA0 (ci := 3) (q0 := 1) rfl hw0 [.int p0, .int p1]) rfl rfl hl.1 rfl (lv_room (Nat.le_of_ble_eq_true rfl)) dL_valley_5 ⟨Nat.le_of_ble_eq_true rfl, Nat.le_of_ble_eq_true rfl⟩) hS (fun q9 _ h9 => k_freeR (wr := [(qo, .inl (cJ, 1, .inr (.inl g0)))]) hD hS hA0 q9 h9) (fun q9 h9 => k_freeR (wr := [(qo, .inl (cJ, 1, .inr (.inl g0)))]) hD hS hA0 q9 h9) (fun q9 _ h9 => k_freeR (wr := [(qo, .inl (cJ, 1, .inr (.inl g0)))]) hD hS hA0 q9 h9) (fun E ce q9 _ t9 H1 locs1 ht hvm _ hB9 hz hk9 hS1 hc1 hc2 hc3 => ?_) (fun x9 u9 t9 H1 locs1 ht hvm hp9 hB9 hz hk9 hS1 => ?_)
  · obtain ⟨⟨hk0, hE9⟩, hB8⟩ := hB9
    have hB8 : va_P D vwCl w t9.heap := hB8
    rw [ht] at hB8
    obtain ⟨hP, hD⟩ := k_join (wr := [(qo, .inl (cJ, 1, .inr (.inl g0)))]) (wc := w) hP hD hk9 hB8 (va_D_r hD).self (fun q h => hA0 q (Nat.le_trans hS.1 h))
    rcases hk with hk | hk | hk | hk
    · exact absurd hk hk0
    · subst hk
      have hE9 : E = "java/lang/IndexOutOfBoundsException" := hE9
      subst hE9
      refine vx_catch (own := RL) (name := "java/lang/IndexOutOfBoundsException") hown [] ⟨0, 10, 13, 13⟩ [⟨0, 10, 17, 15⟩, ⟨0, 10, 21, 25⟩] (by rw [hT]; rfl) (fun z hz => nomatch hz) (by decide) (by decide) (hts (.classLink RL 13 "java/lang/IndexOutOfBoundsException") (by decide +kernel)) (va_Nw.use rfl (hX.2.2.2.2.1 eIOB (by simp))) hc1 hc2 hc3 ?_
      refine lv_astore (lv' := [(4, .ref q9), (0, .ref o), (1, .int p0), (2, .int p1), (3, .ref qo)]) hx hb dL_valley_13 hl (by decide) rfl (fun ls hl => ?_)
      refine lv_iconst (v := 1) hx hb dL_valley_15 (by decide) ?_
      exact h_iret g0 (0, w) hx hb hr hlocks hS1 hP hD dL_valley_16 (Or.inl ⟨by decide, rfl, rfl⟩) (fun h9 => absurd h9 (by decide)) (Nat.le_of_ble_eq_true rfl) (Nat.le_of_ble_eq_true rfl)
    · subst hk
      have hE9 : E = "java/lang/IllegalArgumentException" := hE9
      subst hE9
      refine vx_catch (own := RL) (name := "java/lang/IllegalArgumentException") hown [⟨0, 10, 13, 13⟩] ⟨0, 10, 17, 15⟩ [⟨0, 10, 21, 25⟩] (by rw [hT]; rfl) (fun z hz => by simp only [List.mem_cons, List.not_mem_nil, or_false] at hz; rcases hz with rfl <;> first | (exact Or.inr ⟨by decide, "java/lang/IndexOutOfBoundsException", hts (.classLink RL 13 "java/lang/IndexOutOfBoundsException") (by decide +kernel), hX.2.2.2.2.2.1 (eIAE, eIOB) (by simp)⟩)) (by decide) (by decide) (hts (.classLink RL 15 "java/lang/IllegalArgumentException") (by decide +kernel)) (va_Nw.use rfl (hX.2.2.2.2.1 eIAE (by simp))) hc1 hc2 hc3 ?_
      refine lv_astore (lv' := [(4, .ref q9), (0, .ref o), (1, .int p0), (2, .int p1), (3, .ref qo)]) hx hb dL_valley_17 hl (by decide) rfl (fun ls hl => ?_)
      refine lv_iconst (v := 2) hx hb dL_valley_19 (by decide) ?_
      exact h_iret g0 (0, w) hx hb hr hlocks hS1 hP hD dL_valley_20 (Or.inl ⟨by decide, rfl, rfl⟩) (fun h9 => absurd h9 (by decide)) (Nat.le_of_ble_eq_true rfl) (Nat.le_of_ble_eq_true rfl)
    · subst hk
      have hE9 : E = "java/lang/IllegalStateException" := hE9
      subst hE9
      refine vx_catch (own := RL) (name := "java/lang/IllegalStateException") hown [⟨0, 10, 13, 13⟩, ⟨0, 10, 17, 15⟩] ⟨0, 10, 21, 25⟩ [] (by rw [hT]; rfl) (fun z hz => by simp only [List.mem_cons, List.not_mem_nil, or_false] at hz; rcases hz with rfl | rfl <;> first | (exact Or.inr ⟨by decide, "java/lang/IndexOutOfBoundsException", hts (.classLink RL 13 "java/lang/IndexOutOfBoundsException") (by decide +kernel), hX.2.2.2.2.2.1 (eISE, eIOB) (by simp)⟩) | (exact Or.inr ⟨by decide, "java/lang/IllegalArgumentException", hts (.classLink RL 15 "java/lang/IllegalArgumentException") (by decide +kernel), hX.2.2.2.2.2.1 (eISE, eIAE) (by simp)⟩)) (by decide) (by decide) (hts (.classLink RL 25 "java/lang/IllegalStateException") (by decide +kernel)) (va_Nw.use rfl (hX.2.2.2.2.1 eISE (by simp))) hc1 hc2 hc3 ?_
      refine lv_astore (lv' := [(4, .ref q9), (0, .ref o), (1, .int p0), (2, .int p1), (3, .ref qo)]) hx hb dL_valley_21 hl (by decide) rfl (fun ls hl => ?_)
      refine lv_iconst (v := 3) hx hb dL_valley_23 (by decide) ?_
      exact h_iret g0 (0, w) hx hb hr hlocks hS1 hP hD dL_valley_24 (Or.inl ⟨by decide, rfl, rfl⟩) (fun h9 => absurd h9 (by decide)) (Nat.le_of_ble_eq_true rfl) (Nat.le_of_ble_eq_true rfl)
  · obtain ⟨hB8, hB7⟩ := hB9
    have hB8 : va_P D vwCl u9 t9.heap := hB8
    rw [ht] at hB8
    obtain ⟨hP, hD⟩ := k_join (wr := [(qo, .inl (cJ, 1, .inr (.inl g0)))]) (wc := w) hP hD hk9 hB8 hB7 (fun q h => hA0 q (Nat.le_trans hS.1 h))
    refine lv_i2l (v := x9.toInt64) hx hb dL_valley_8 rfl ?_
    refine va_last hx hb hK hP hD hS1 0 2 rfl rfl (vp_in_nI (n := 0) (by omega) (by omega)) dL_valley_9 (fun H locs hP hD hS => ?_)
    refine lv_goto (tgt := 25) hx hb dL_valley_10 (by decide) ?_
    refine lv_iconst (v := 0) hx hb dL_valley_25 (by decide) ?_
    exact h_iret _ (x9.toInt64, u9) hx hb hr hlocks hS hP hD dL_valley_26 (Or.inr ⟨hp9.1, rfl, x9, hp9.2, rfl⟩) (fun _ => rfl) (Nat.le_of_ble_eq_true rfl) (Nat.le_of_ble_eq_true rfl)
set_option maxHeartbeats 4000000 in
set_option maxRecDepth 100000 in
theorem hL_clean (l : Launch) (D : va_G) (cI cQ cJ : ClassId) (o qo : Nat) (g0 : Nat → Int64) (w : va_W) (fs : List Value) (hw0 : w[0]? = some (o, .inr (3, fs))) (p0 : Int32) (k : Nat) (post : Int32 → va_W → Prop) (hM : XM l D (tY cI cQ cJ) yX3_clean wsX3_clean ({ frames := 6, cells := 14, slots := 91, locals := 112 } : Room) [.ref o, .int p0] w k post) (hk : k = 0 ∨ k = 1) : HM l D (tY cI cQ cJ) cJ yL_clean wsL_clean ({ frames := 7, cells := 14, slots := 91, locals := 138 } : Room) [.ref o, .int p0, .ref qo] qo g0 w k k post := by
  refine H_of (cc := cL_clean) (maxL := 4) (ret := some .int) (Qc := fun A => HQ cJ qo D k k post w A) (by decide) rfl (Nat.le_of_ble_eq_true rfl) ?_
  intro p e s m below meth c A0 ls hB hT hE hX hP hK hD hA0 hl
  obtain ⟨hx, hb, hr, hml, hts, hown, hlocks⟩ := hB
  have hS : va_S A0 s.heap s.heap [] := va_S.rf
  have hl : lv_has ls 4 [(0, .ref o), (1, .int p0), (2, .ref qo)] := hl
  refine lv_aload_n hx hb dL_clean_0 rfl (lv_at hl 2 rfl) ?_
  refine lv_iconst (v := 0) hx hb dL_clean_1 (by decide) ?_
  refine lv_aload_n hx hb dL_clean_2 rfl (lv_at hl 0 rfl) ?_
  refine lv_iload_n hx hb dL_clean_3 rfl (lv_at hl 1 rfl) ?_
  refine vx_calli (vx_runV (As := [.int p0]) (rest := [.int 0, .ref qo]) ⟨hx, hb, hml, hown, hts⟩ (hM _) (cwV 1 hts gL_clean_X3_clean rfl rfl rfl (by decide +kernel) ⟨Nat.le_of_ble_eq_true rfl, Nat.le_of_ble_eq_true rfl⟩) (k_preYV (wr := [(qo, .inl (cJ, 1, .inr (.inl g0)))]) (wc := w) hE hX hK hP hD hS hA0 (ci := 3) (q0 := 1) rfl hw0 [.int p0]) rfl rfl hl.1 rfl (lv_room (Nat.le_of_ble_eq_true rfl)) dL_clean_4 ⟨Nat.le_of_ble_eq_true rfl, Nat.le_of_ble_eq_true rfl⟩) hS (fun q9 _ h9 => k_freeR (wr := [(qo, .inl (cJ, 1, .inr (.inl g0)))]) hD hS hA0 q9 h9) (fun q9 h9 => k_freeR (wr := [(qo, .inl (cJ, 1, .inr (.inl g0)))]) hD hS hA0 q9 h9) (fun q9 _ h9 => k_freeR (wr := [(qo, .inl (cJ, 1, .inr (.inl g0)))]) hD hS hA0 q9 h9) (fun E ce q9 _ t9 H1 locs1 ht hvm _ hB9 hz hk9 hS1 hc1 hc2 hc3 => ?_) (fun x9 u9 t9 H1 locs1 ht hvm hp9 hB9 hz hk9 hS1 => ?_)
  · obtain ⟨⟨hk0, hE9⟩, hB8⟩ := hB9
    have hB8 : va_P D vwCl w t9.heap := hB8
    rw [ht] at hB8
    obtain ⟨hP, hD⟩ := k_join (wr := [(qo, .inl (cJ, 1, .inr (.inl g0)))]) (wc := w) hP hD hk9 hB8 (va_D_r hD).self (fun q h => hA0 q (Nat.le_trans hS.1 h))
    rcases hk with hk | hk
    · exact absurd hk hk0
    · subst hk
      have hE9 : E = "java/lang/IndexOutOfBoundsException" := hE9
      subst hE9
      refine vx_catch (own := RL) (name := "java/lang/IndexOutOfBoundsException") hown [] ⟨0, 9, 12, 13⟩ [] (by rw [hT]; rfl) (fun z hz => nomatch hz) (by decide) (by decide) (hts (.classLink RL 13 "java/lang/IndexOutOfBoundsException") (by decide +kernel)) (va_Nw.use rfl (hX.2.2.2.2.1 eIOB (by simp))) hc1 hc2 hc3 ?_
      refine lv_astore_n (lv' := [(3, .ref q9), (0, .ref o), (1, .int p0), (2, .ref qo)]) hx hb dL_clean_12 rfl hl (by decide) rfl (fun ls hl => ?_)
      refine lv_iconst (v := 1) hx hb dL_clean_13 (by decide) ?_
      exact h_iret g0 (0, w) hx hb hr hlocks hS1 hP hD dL_clean_14 (Or.inl ⟨by decide, rfl, rfl⟩) (fun h9 => absurd h9 (by decide)) (Nat.le_of_ble_eq_true rfl) (Nat.le_of_ble_eq_true rfl)
  · obtain ⟨hB8, hB7⟩ := hB9
    have hB8 : va_P D vwCl u9 t9.heap := hB8
    rw [ht] at hB8
    obtain ⟨hP, hD⟩ := k_join (wr := [(qo, .inl (cJ, 1, .inr (.inl g0)))]) (wc := w) hP hD hk9 hB8 hB7 (fun q h => hA0 q (Nat.le_trans hS.1 h))
    refine lv_i2l (v := x9.toInt64) hx hb dL_clean_7 rfl ?_
    refine va_last hx hb hK hP hD hS1 0 2 rfl rfl (vp_in_nI (n := 0) (by omega) (by omega)) dL_clean_8 (fun H locs hP hD hS => ?_)
    refine lv_goto (tgt := 15) hx hb dL_clean_9 (by decide) ?_
    refine lv_iconst (v := 0) hx hb dL_clean_15 (by decide) ?_
    exact h_iret _ (x9.toInt64, u9) hx hb hr hlocks hS hP hD dL_clean_16 (Or.inr ⟨hp9.1, rfl, x9, hp9.2, rfl⟩) (fun _ => rfl) (Nat.le_of_ble_eq_true rfl) (Nat.le_of_ble_eq_true rfl)
set_option maxHeartbeats 4000000 in
set_option maxRecDepth 100000 in
theorem hL_set (l : Launch) (D : va_G) (cI cQ cJ : ClassId) (o qo : Nat) (g0 : Nat → Int64) (w : va_W) (fs : List Value) (hw0 : w[0]? = some (o, .inr (3, fs))) (p0 p1 : Int32) (k : Nat) (post : Int32 → va_W → Prop) (hM : XM l D (tY cI cQ cJ) yX3_set wsX3_set ({ frames := 6, cells := 14, slots := 91, locals := 112 } : Room) [.ref o, .int p0, .int p1] w k post) (hk : k = 0 ∨ k = 1 ∨ k = 2) : HM l D (tY cI cQ cJ) cJ yL_set wsL_set ({ frames := 7, cells := 14, slots := 91, locals := 140 } : Room) [.ref o, .int p0, .int p1, .ref qo] qo g0 w k k post := by
  refine H_of (cc := cL_set) (maxL := 5) (ret := some .int) (Qc := fun A => HQ cJ qo D k k post w A) (by decide) rfl (Nat.le_of_ble_eq_true rfl) ?_
  intro p e s m below meth c A0 ls hB hT hE hX hP hK hD hA0 hl
  obtain ⟨hx, hb, hr, hml, hts, hown, hlocks⟩ := hB
  have hS : va_S A0 s.heap s.heap [] := va_S.rf
  have hl : lv_has ls 5 [(0, .ref o), (1, .int p0), (2, .int p1), (3, .ref qo)] := hl
  refine lv_aload_n hx hb dL_set_0 rfl (lv_at hl 3 rfl) ?_
  refine lv_iconst (v := 0) hx hb dL_set_1 (by decide) ?_
  refine lv_aload_n hx hb dL_set_2 rfl (lv_at hl 0 rfl) ?_
  refine lv_iload_n hx hb dL_set_3 rfl (lv_at hl 1 rfl) ?_
  refine lv_iload_n hx hb dL_set_4 rfl (lv_at hl 2 rfl) ?_
  refine vx_calli (vx_runV (As := [.int p0, .int p1]) (rest := [.int 0, .ref qo]) ⟨hx, hb, hml, hown, hts⟩ (hM _) (cwV 2 hts gL_set_X3_set rfl rfl rfl (by decide +kernel) ⟨Nat.le_of_ble_eq_true rfl, Nat.le_of_ble_eq_true rfl⟩) (k_preYV (wr := [(qo, .inl (cJ, 1, .inr (.inl g0)))]) (wc := w) hE hX hK hP hD hS hA0 (ci := 3) (q0 := 1) rfl hw0 [.int p0, .int p1]) rfl rfl hl.1 rfl (lv_room (Nat.le_of_ble_eq_true rfl)) dL_set_5 ⟨Nat.le_of_ble_eq_true rfl, Nat.le_of_ble_eq_true rfl⟩) hS (fun q9 _ h9 => k_freeR (wr := [(qo, .inl (cJ, 1, .inr (.inl g0)))]) hD hS hA0 q9 h9) (fun q9 h9 => k_freeR (wr := [(qo, .inl (cJ, 1, .inr (.inl g0)))]) hD hS hA0 q9 h9) (fun q9 _ h9 => k_freeR (wr := [(qo, .inl (cJ, 1, .inr (.inl g0)))]) hD hS hA0 q9 h9) (fun E ce q9 _ t9 H1 locs1 ht hvm _ hB9 hz hk9 hS1 hc1 hc2 hc3 => ?_) (fun x9 u9 t9 H1 locs1 ht hvm hp9 hB9 hz hk9 hS1 => ?_)
  · obtain ⟨⟨hk0, hE9⟩, hB8⟩ := hB9
    have hB8 : va_P D vwCl w t9.heap := hB8
    rw [ht] at hB8
    obtain ⟨hP, hD⟩ := k_join (wr := [(qo, .inl (cJ, 1, .inr (.inl g0)))]) (wc := w) hP hD hk9 hB8 (va_D_r hD).self (fun q h => hA0 q (Nat.le_trans hS.1 h))
    rcases hk with hk | hk | hk
    · exact absurd hk hk0
    · subst hk
      have hE9 : E = "java/lang/IndexOutOfBoundsException" := hE9
      subst hE9
      refine vx_catch (own := RL) (name := "java/lang/IndexOutOfBoundsException") hown [] ⟨0, 10, 13, 13⟩ [⟨0, 10, 17, 15⟩] (by rw [hT]; rfl) (fun z hz => nomatch hz) (by decide) (by decide) (hts (.classLink RL 13 "java/lang/IndexOutOfBoundsException") (by decide +kernel)) (va_Nw.use rfl (hX.2.2.2.2.1 eIOB (by simp))) hc1 hc2 hc3 ?_
      refine lv_astore (lv' := [(4, .ref q9), (0, .ref o), (1, .int p0), (2, .int p1), (3, .ref qo)]) hx hb dL_set_13 hl (by decide) rfl (fun ls hl => ?_)
      refine lv_iconst (v := 1) hx hb dL_set_15 (by decide) ?_
      exact h_iret g0 (0, w) hx hb hr hlocks hS1 hP hD dL_set_16 (Or.inl ⟨by decide, rfl, rfl⟩) (fun h9 => absurd h9 (by decide)) (Nat.le_of_ble_eq_true rfl) (Nat.le_of_ble_eq_true rfl)
    · subst hk
      have hE9 : E = "java/lang/IllegalArgumentException" := hE9
      subst hE9
      refine vx_catch (own := RL) (name := "java/lang/IllegalArgumentException") hown [⟨0, 10, 13, 13⟩] ⟨0, 10, 17, 15⟩ [] (by rw [hT]; rfl) (fun z hz => by simp only [List.mem_cons, List.not_mem_nil, or_false] at hz; rcases hz with rfl <;> first | (exact Or.inr ⟨by decide, "java/lang/IndexOutOfBoundsException", hts (.classLink RL 13 "java/lang/IndexOutOfBoundsException") (by decide +kernel), hX.2.2.2.2.2.1 (eIAE, eIOB) (by simp)⟩)) (by decide) (by decide) (hts (.classLink RL 15 "java/lang/IllegalArgumentException") (by decide +kernel)) (va_Nw.use rfl (hX.2.2.2.2.1 eIAE (by simp))) hc1 hc2 hc3 ?_
      refine lv_astore (lv' := [(4, .ref q9), (0, .ref o), (1, .int p0), (2, .int p1), (3, .ref qo)]) hx hb dL_set_17 hl (by decide) rfl (fun ls hl => ?_)
      refine lv_iconst (v := 2) hx hb dL_set_19 (by decide) ?_
      exact h_iret g0 (0, w) hx hb hr hlocks hS1 hP hD dL_set_20 (Or.inl ⟨by decide, rfl, rfl⟩) (fun h9 => absurd h9 (by decide)) (Nat.le_of_ble_eq_true rfl) (Nat.le_of_ble_eq_true rfl)
  · obtain ⟨hB8, hB7⟩ := hB9
    have hB8 : va_P D vwCl u9 t9.heap := hB8
    rw [ht] at hB8
    obtain ⟨hP, hD⟩ := k_join (wr := [(qo, .inl (cJ, 1, .inr (.inl g0)))]) (wc := w) hP hD hk9 hB8 hB7 (fun q h => hA0 q (Nat.le_trans hS.1 h))
    refine lv_i2l (v := x9.toInt64) hx hb dL_set_8 rfl ?_
    refine va_last hx hb hK hP hD hS1 0 2 rfl rfl (vp_in_nI (n := 0) (by omega) (by omega)) dL_set_9 (fun H locs hP hD hS => ?_)
    refine lv_goto (tgt := 21) hx hb dL_set_10 (by decide) ?_
    refine lv_iconst (v := 0) hx hb dL_set_21 (by decide) ?_
    exact h_iret _ (x9.toInt64, u9) hx hb hr hlocks hS hP hD dL_set_22 (Or.inr ⟨hp9.1, rfl, x9, hp9.2, rfl⟩) (fun _ => rfl) (Nat.le_of_ble_eq_true rfl) (Nat.le_of_ble_eq_true rfl)
set_option maxHeartbeats 4000000 in
set_option maxRecDepth 100000 in
theorem hL_rain (l : Launch) (D : va_G) (cI cQ cJ : ClassId) (o qo : Nat) (g0 : Nat → Int64) (w : va_W) (fs : List Value) (hw0 : w[0]? = some (o, .inr (3, fs))) (p0 p1 : Int32) (k : Nat) (post : Int32 → va_W → Prop) (hM : XM l D (tY cI cQ cJ) yX3_rain wsX3_rain ({ frames := 6, cells := 14, slots := 91, locals := 112 } : Room) [.ref o, .int p0, .int p1] w k post) (hk : k = 0 ∨ k = 2) : HM l D (tY cI cQ cJ) cJ yL_rain wsL_rain ({ frames := 7, cells := 14, slots := 91, locals := 141 } : Room) [.ref o, .int p0, .int p1, .ref qo] qo g0 w k (k - 1) post := by
  refine H_of (cc := cL_rain) (maxL := 5) (ret := some .int) (Qc := fun A => HQ cJ qo D k (k - 1) post w A) (by decide) rfl (Nat.le_of_ble_eq_true rfl) ?_
  intro p e s m below meth c A0 ls hB hT hE hX hP hK hD hA0 hl
  obtain ⟨hx, hb, hr, hml, hts, hown, hlocks⟩ := hB
  have hS : va_S A0 s.heap s.heap [] := va_S.rf
  have hl : lv_has ls 5 [(0, .ref o), (1, .int p0), (2, .int p1), (3, .ref qo)] := hl
  refine lv_aload_n hx hb dL_rain_0 rfl (lv_at hl 3 rfl) ?_
  refine lv_iconst (v := 0) hx hb dL_rain_1 (by decide) ?_
  refine lv_aload_n hx hb dL_rain_2 rfl (lv_at hl 0 rfl) ?_
  refine lv_iload_n hx hb dL_rain_3 rfl (lv_at hl 1 rfl) ?_
  refine lv_iload_n hx hb dL_rain_4 rfl (lv_at hl 2 rfl) ?_
  refine vx_calli (vx_runV (As := [.int p0, .int p1]) (rest := [.int 0, .ref qo]) ⟨hx, hb, hml, hown, hts⟩ (hM _) (cwV 2 hts gL_rain_X3_rain rfl rfl rfl (by decide +kernel) ⟨Nat.le_of_ble_eq_true rfl, Nat.le_of_ble_eq_true rfl⟩) (k_preYV (wr := [(qo, .inl (cJ, 1, .inr (.inl g0)))]) (wc := w) hE hX hK hP hD hS hA0 (ci := 3) (q0 := 1) rfl hw0 [.int p0, .int p1]) rfl rfl hl.1 rfl (lv_room (Nat.le_of_ble_eq_true rfl)) dL_rain_5 ⟨Nat.le_of_ble_eq_true rfl, Nat.le_of_ble_eq_true rfl⟩) hS (fun q9 _ h9 => k_freeR (wr := [(qo, .inl (cJ, 1, .inr (.inl g0)))]) hD hS hA0 q9 h9) (fun q9 h9 => k_freeR (wr := [(qo, .inl (cJ, 1, .inr (.inl g0)))]) hD hS hA0 q9 h9) (fun q9 _ h9 => k_freeR (wr := [(qo, .inl (cJ, 1, .inr (.inl g0)))]) hD hS hA0 q9 h9) (fun E ce q9 _ t9 H1 locs1 ht hvm _ hB9 hz hk9 hS1 hc1 hc2 hc3 => ?_) (fun x9 u9 t9 H1 locs1 ht hvm hp9 hB9 hz hk9 hS1 => ?_)
  · obtain ⟨⟨hk0, hE9⟩, hB8⟩ := hB9
    have hB8 : va_P D vwCl w t9.heap := hB8
    rw [ht] at hB8
    obtain ⟨hP, hD⟩ := k_join (wr := [(qo, .inl (cJ, 1, .inr (.inl g0)))]) (wc := w) hP hD hk9 hB8 (va_D_r hD).self (fun q h => hA0 q (Nat.le_trans hS.1 h))
    rcases hk with hk | hk
    · exact absurd hk hk0
    · subst hk
      have hE9 : E = "java/lang/IllegalArgumentException" := hE9
      subst hE9
      refine vx_catch (own := RL) (name := "java/lang/IllegalArgumentException") hown [] ⟨0, 10, 13, 15⟩ [] (by rw [hT]; rfl) (fun z hz => nomatch hz) (by decide) (by decide) (hts (.classLink RL 15 "java/lang/IllegalArgumentException") (by decide +kernel)) (va_Nw.use rfl (hX.2.2.2.2.1 eIAE (by simp))) hc1 hc2 hc3 ?_
      refine lv_astore (lv' := [(4, .ref q9), (0, .ref o), (1, .int p0), (2, .int p1), (3, .ref qo)]) hx hb dL_rain_13 hl (by decide) rfl (fun ls hl => ?_)
      refine lv_iconst (v := 1) hx hb dL_rain_15 (by decide) ?_
      exact h_iret g0 (0, w) hx hb hr hlocks hS1 hP hD dL_rain_16 (Or.inl ⟨by decide, rfl, rfl⟩) (fun h9 => absurd h9 (by decide)) (Nat.le_of_ble_eq_true rfl) (Nat.le_of_ble_eq_true rfl)
  · obtain ⟨hB8, hB7⟩ := hB9
    have hB8 : va_P D vwCl u9 t9.heap := hB8
    rw [ht] at hB8
    obtain ⟨hP, hD⟩ := k_join (wr := [(qo, .inl (cJ, 1, .inr (.inl g0)))]) (wc := w) hP hD hk9 hB8 hB7 (fun q h => hA0 q (Nat.le_trans hS.1 h))
    refine lv_i2l (v := x9.toInt64) hx hb dL_rain_8 rfl ?_
    refine va_last hx hb hK hP hD hS1 0 2 rfl rfl (vp_in_nI (n := 0) (by omega) (by omega)) dL_rain_9 (fun H locs hP hD hS => ?_)
    refine lv_goto (tgt := 17) hx hb dL_rain_10 (by decide) ?_
    refine lv_iconst (v := 0) hx hb dL_rain_17 (by decide) ?_
    exact h_iret _ (x9.toInt64, u9) hx hb hr hlocks hS hP hD dL_rain_18 (Or.inr ⟨hp9.1, rfl, x9, hp9.2, rfl⟩) (fun _ => rfl) (Nat.le_of_ble_eq_true rfl) (Nat.le_of_ble_eq_true rfl)
set_option maxHeartbeats 4000000 in
set_option maxRecDepth 100000 in
theorem hL_weeks (l : Launch) (D : va_G) (cI cQ cJ : ClassId) (o qo : Nat) (g0 : Nat → Int64) (w : va_W) (fs : List Value) (hw0 : w[0]? = some (o, .inr (3, fs))) (p0 : Int32) (k : Nat) (post : Int32 → va_W → Prop) (hM : XM l D (tY cI cQ cJ) yX3_weeks wsX3_weeks ({ frames := 6, cells := 14, slots := 91, locals := 112 } : Room) [.ref o, .int p0] w k post) (hk : k = 0 ∨ k = 2) : HM l D (tY cI cQ cJ) cJ yL_weeks wsL_weeks ({ frames := 7, cells := 14, slots := 91, locals := 139 } : Room) [.ref o, .int p0, .ref qo] qo g0 w k (k - 1) post := by
  refine H_of (cc := cL_weeks) (maxL := 4) (ret := some .int) (Qc := fun A => HQ cJ qo D k (k - 1) post w A) (by decide) rfl (Nat.le_of_ble_eq_true rfl) ?_
  intro p e s m below meth c A0 ls hB hT hE hX hP hK hD hA0 hl
  obtain ⟨hx, hb, hr, hml, hts, hown, hlocks⟩ := hB
  have hS : va_S A0 s.heap s.heap [] := va_S.rf
  have hl : lv_has ls 4 [(0, .ref o), (1, .int p0), (2, .ref qo)] := hl
  refine lv_aload_n hx hb dL_weeks_0 rfl (lv_at hl 2 rfl) ?_
  refine lv_iconst (v := 0) hx hb dL_weeks_1 (by decide) ?_
  refine lv_aload_n hx hb dL_weeks_2 rfl (lv_at hl 0 rfl) ?_
  refine lv_iload_n hx hb dL_weeks_3 rfl (lv_at hl 1 rfl) ?_
  refine vx_calli (vx_runV (As := [.int p0]) (rest := [.int 0, .ref qo]) ⟨hx, hb, hml, hown, hts⟩ (hM _) (cwV 1 hts gL_weeks_X3_weeks rfl rfl rfl (by decide +kernel) ⟨Nat.le_of_ble_eq_true rfl, Nat.le_of_ble_eq_true rfl⟩) (k_preYV (wr := [(qo, .inl (cJ, 1, .inr (.inl g0)))]) (wc := w) hE hX hK hP hD hS hA0 (ci := 3) (q0 := 1) rfl hw0 [.int p0]) rfl rfl hl.1 rfl (lv_room (Nat.le_of_ble_eq_true rfl)) dL_weeks_4 ⟨Nat.le_of_ble_eq_true rfl, Nat.le_of_ble_eq_true rfl⟩) hS (fun q9 _ h9 => k_freeR (wr := [(qo, .inl (cJ, 1, .inr (.inl g0)))]) hD hS hA0 q9 h9) (fun q9 h9 => k_freeR (wr := [(qo, .inl (cJ, 1, .inr (.inl g0)))]) hD hS hA0 q9 h9) (fun q9 _ h9 => k_freeR (wr := [(qo, .inl (cJ, 1, .inr (.inl g0)))]) hD hS hA0 q9 h9) (fun E ce q9 _ t9 H1 locs1 ht hvm _ hB9 hz hk9 hS1 hc1 hc2 hc3 => ?_) (fun x9 u9 t9 H1 locs1 ht hvm hp9 hB9 hz hk9 hS1 => ?_)
  · obtain ⟨⟨hk0, hE9⟩, hB8⟩ := hB9
    have hB8 : va_P D vwCl w t9.heap := hB8
    rw [ht] at hB8
    obtain ⟨hP, hD⟩ := k_join (wr := [(qo, .inl (cJ, 1, .inr (.inl g0)))]) (wc := w) hP hD hk9 hB8 (va_D_r hD).self (fun q h => hA0 q (Nat.le_trans hS.1 h))
    rcases hk with hk | hk
    · exact absurd hk hk0
    · subst hk
      have hE9 : E = "java/lang/IllegalArgumentException" := hE9
      subst hE9
      refine vx_catch (own := RL) (name := "java/lang/IllegalArgumentException") hown [] ⟨0, 9, 12, 15⟩ [] (by rw [hT]; rfl) (fun z hz => nomatch hz) (by decide) (by decide) (hts (.classLink RL 15 "java/lang/IllegalArgumentException") (by decide +kernel)) (va_Nw.use rfl (hX.2.2.2.2.1 eIAE (by simp))) hc1 hc2 hc3 ?_
      refine lv_astore_n (lv' := [(3, .ref q9), (0, .ref o), (1, .int p0), (2, .ref qo)]) hx hb dL_weeks_12 rfl hl (by decide) rfl (fun ls hl => ?_)
      refine lv_iconst (v := 1) hx hb dL_weeks_13 (by decide) ?_
      exact h_iret g0 (0, w) hx hb hr hlocks hS1 hP hD dL_weeks_14 (Or.inl ⟨by decide, rfl, rfl⟩) (fun h9 => absurd h9 (by decide)) (Nat.le_of_ble_eq_true rfl) (Nat.le_of_ble_eq_true rfl)
  · obtain ⟨hB8, hB7⟩ := hB9
    have hB8 : va_P D vwCl u9 t9.heap := hB8
    rw [ht] at hB8
    obtain ⟨hP, hD⟩ := k_join (wr := [(qo, .inl (cJ, 1, .inr (.inl g0)))]) (wc := w) hP hD hk9 hB8 hB7 (fun q h => hA0 q (Nat.le_trans hS.1 h))
    refine lv_i2l (v := x9.toInt64) hx hb dL_weeks_7 rfl ?_
    refine va_last hx hb hK hP hD hS1 0 2 rfl rfl (vp_in_nI (n := 0) (by omega) (by omega)) dL_weeks_8 (fun H locs hP hD hS => ?_)
    refine lv_goto (tgt := 15) hx hb dL_weeks_9 (by decide) ?_
    refine lv_iconst (v := 0) hx hb dL_weeks_15 (by decide) ?_
    exact h_iret _ (x9.toInt64, u9) hx hb hr hlocks hS hP hD dL_weeks_16 (Or.inr ⟨hp9.1, rfl, x9, hp9.2, rfl⟩) (fun _ => rfl) (Nat.le_of_ble_eq_true rfl) (Nat.le_of_ble_eq_true rfl)
set_option maxHeartbeats 4000000 in
set_option maxRecDepth 100000 in
theorem hL_append (l : Launch) (D : va_G) (cI cQ cJ : ClassId) (o qo : Nat) (g0 : Nat → Int64) (w : va_W) (fs : List Value) (hw0 : w[0]? = some (o, .inr (3, fs))) (p0 : Int32) (k : Nat) (post : Int32 → va_W → Prop) (hM : XM l D (tY cI cQ cJ) yX3_append wsX3_append ({ frames := 6, cells := 1, slots := 6, locals := 90 } : Room) [.ref o, .int p0] w k post) (hk : k = 0 ∨ k = 2 ∨ k = 3) : HM l D (tY cI cQ cJ) cJ yL_append wsL_append ({ frames := 7, cells := 1, slots := 6, locals := 116 } : Room) [.ref o, .int p0, .ref qo] qo g0 w k (k - 1) post := by
  refine H_of (cc := cL_append) (maxL := 4) (ret := some .int) (Qc := fun A => HQ cJ qo D k (k - 1) post w A) (by decide) rfl (Nat.le_of_ble_eq_true rfl) ?_
  intro p e s m below meth c A0 ls hB hT hE hX hP hK hD hA0 hl
  obtain ⟨hx, hb, hr, hml, hts, hown, hlocks⟩ := hB
  have hS : va_S A0 s.heap s.heap [] := va_S.rf
  have hl : lv_has ls 4 [(0, .ref o), (1, .int p0), (2, .ref qo)] := hl
  refine lv_aload_n hx hb dL_append_0 rfl (lv_at hl 2 rfl) ?_
  refine lv_iconst (v := 0) hx hb dL_append_1 (by decide) ?_
  refine lv_aload_n hx hb dL_append_2 rfl (lv_at hl 0 rfl) ?_
  refine lv_iload_n hx hb dL_append_3 rfl (lv_at hl 1 rfl) ?_
  refine vx_calli (vx_runV (As := [.int p0]) (rest := [.int 0, .ref qo]) ⟨hx, hb, hml, hown, hts⟩ (hM _) (cwV 1 hts gL_append_X3_append rfl rfl rfl (by decide +kernel) ⟨Nat.le_of_ble_eq_true rfl, Nat.le_of_ble_eq_true rfl⟩) (k_preYV (wr := [(qo, .inl (cJ, 1, .inr (.inl g0)))]) (wc := w) hE hX hK hP hD hS hA0 (ci := 3) (q0 := 1) rfl hw0 [.int p0]) rfl rfl hl.1 rfl (lv_room (Nat.le_of_ble_eq_true rfl)) dL_append_4 ⟨Nat.le_of_ble_eq_true rfl, Nat.le_of_ble_eq_true rfl⟩) hS (fun q9 _ h9 => k_freeR (wr := [(qo, .inl (cJ, 1, .inr (.inl g0)))]) hD hS hA0 q9 h9) (fun q9 h9 => k_freeR (wr := [(qo, .inl (cJ, 1, .inr (.inl g0)))]) hD hS hA0 q9 h9) (fun q9 _ h9 => k_freeR (wr := [(qo, .inl (cJ, 1, .inr (.inl g0)))]) hD hS hA0 q9 h9) (fun E ce q9 _ t9 H1 locs1 ht hvm _ hB9 hz hk9 hS1 hc1 hc2 hc3 => ?_) (fun x9 u9 t9 H1 locs1 ht hvm hp9 hB9 hz hk9 hS1 => ?_)
  · obtain ⟨⟨hk0, hE9⟩, hB8⟩ := hB9
    have hB8 : va_P D vwCl w t9.heap := hB8
    rw [ht] at hB8
    obtain ⟨hP, hD⟩ := k_join (wr := [(qo, .inl (cJ, 1, .inr (.inl g0)))]) (wc := w) hP hD hk9 hB8 (va_D_r hD).self (fun q h => hA0 q (Nat.le_trans hS.1 h))
    rcases hk with hk | hk | hk
    · exact absurd hk hk0
    · subst hk
      have hE9 : E = "java/lang/IllegalArgumentException" := hE9
      subst hE9
      refine vx_catch (own := RL) (name := "java/lang/IllegalArgumentException") hown [] ⟨0, 9, 12, 15⟩ [⟨0, 9, 15, 25⟩] (by rw [hT]; rfl) (fun z hz => nomatch hz) (by decide) (by decide) (hts (.classLink RL 15 "java/lang/IllegalArgumentException") (by decide +kernel)) (va_Nw.use rfl (hX.2.2.2.2.1 eIAE (by simp))) hc1 hc2 hc3 ?_
      refine lv_astore_n (lv' := [(3, .ref q9), (0, .ref o), (1, .int p0), (2, .ref qo)]) hx hb dL_append_12 rfl hl (by decide) rfl (fun ls hl => ?_)
      refine lv_iconst (v := 1) hx hb dL_append_13 (by decide) ?_
      exact h_iret g0 (0, w) hx hb hr hlocks hS1 hP hD dL_append_14 (Or.inl ⟨by decide, rfl, rfl⟩) (fun h9 => absurd h9 (by decide)) (Nat.le_of_ble_eq_true rfl) (Nat.le_of_ble_eq_true rfl)
    · subst hk
      have hE9 : E = "java/lang/IllegalStateException" := hE9
      subst hE9
      refine vx_catch (own := RL) (name := "java/lang/IllegalStateException") hown [⟨0, 9, 12, 15⟩] ⟨0, 9, 15, 25⟩ [] (by rw [hT]; rfl) (fun z hz => by simp only [List.mem_cons, List.not_mem_nil, or_false] at hz; rcases hz with rfl <;> first | (exact Or.inr ⟨by decide, "java/lang/IllegalArgumentException", hts (.classLink RL 15 "java/lang/IllegalArgumentException") (by decide +kernel), hX.2.2.2.2.2.1 (eISE, eIAE) (by simp)⟩)) (by decide) (by decide) (hts (.classLink RL 25 "java/lang/IllegalStateException") (by decide +kernel)) (va_Nw.use rfl (hX.2.2.2.2.1 eISE (by simp))) hc1 hc2 hc3 ?_
      refine lv_astore_n (lv' := [(3, .ref q9), (0, .ref o), (1, .int p0), (2, .ref qo)]) hx hb dL_append_15 rfl hl (by decide) rfl (fun ls hl => ?_)
      refine lv_iconst (v := 2) hx hb dL_append_16 (by decide) ?_
      exact h_iret g0 (0, w) hx hb hr hlocks hS1 hP hD dL_append_17 (Or.inl ⟨by decide, rfl, rfl⟩) (fun h9 => absurd h9 (by decide)) (Nat.le_of_ble_eq_true rfl) (Nat.le_of_ble_eq_true rfl)
  · obtain ⟨hB8, hB7⟩ := hB9
    have hB8 : va_P D vwCl u9 t9.heap := hB8
    rw [ht] at hB8
    obtain ⟨hP, hD⟩ := k_join (wr := [(qo, .inl (cJ, 1, .inr (.inl g0)))]) (wc := w) hP hD hk9 hB8 hB7 (fun q h => hA0 q (Nat.le_trans hS.1 h))
    refine lv_i2l (v := x9.toInt64) hx hb dL_append_7 rfl ?_
    refine va_last hx hb hK hP hD hS1 0 2 rfl rfl (vp_in_nI (n := 0) (by omega) (by omega)) dL_append_8 (fun H locs hP hD hS => ?_)
    refine lv_goto (tgt := 18) hx hb dL_append_9 (by decide) ?_
    refine lv_iconst (v := 0) hx hb dL_append_18 (by decide) ?_
    exact h_iret _ (x9.toInt64, u9) hx hb hr hlocks hS hP hD dL_append_19 (Or.inr ⟨hp9.1, rfl, x9, hp9.2, rfl⟩) (fun _ => rfl) (Nat.le_of_ble_eq_true rfl) (Nat.le_of_ble_eq_true rfl)
set_option maxHeartbeats 4000000 in
set_option maxRecDepth 100000 in
theorem hL_play (l : Launch) (D : va_G) (cI cQ cJ : ClassId) (o qo : Nat) (g0 : Nat → Int64) (w : va_W) (fs : List Value) (hw0 : w[0]? = some (o, .inr (3, fs))) (k : Nat) (post : Int32 → va_W → Prop) (hM : XM l D (tY cI cQ cJ) yX3_play wsX3_play ({ frames := 6, cells := 14, slots := 91, locals := 141 } : Room) [.ref o] w k post) (hk : k = 0 ∨ k = 2) : HM l D (tY cI cQ cJ) cJ yL_play wsL_play ({ frames := 7, cells := 14, slots := 91, locals := 166 } : Room) [.ref o, .ref qo] qo g0 w k (k - 1) post := by
  refine H_of (cc := cL_play) (maxL := 3) (ret := some .int) (Qc := fun A => HQ cJ qo D k (k - 1) post w A) (by decide) rfl (Nat.le_of_ble_eq_true rfl) ?_
  intro p e s m below meth c A0 ls hB hT hE hX hP hK hD hA0 hl
  obtain ⟨hx, hb, hr, hml, hts, hown, hlocks⟩ := hB
  have hS : va_S A0 s.heap s.heap [] := va_S.rf
  have hl : lv_has ls 3 [(0, .ref o), (1, .ref qo)] := hl
  refine lv_aload_n hx hb dL_play_0 rfl (lv_at hl 1 rfl) ?_
  refine lv_iconst (v := 0) hx hb dL_play_1 (by decide) ?_
  refine lv_aload_n hx hb dL_play_2 rfl (lv_at hl 0 rfl) ?_
  refine vx_calli (vx_runV (As := []) (rest := [.int 0, .ref qo]) ⟨hx, hb, hml, hown, hts⟩ (hM _) (cwV 0 hts gL_play_X3_play rfl rfl rfl (by decide +kernel) ⟨Nat.le_of_ble_eq_true rfl, Nat.le_of_ble_eq_true rfl⟩) (k_preYV (wr := [(qo, .inl (cJ, 1, .inr (.inl g0)))]) (wc := w) hE hX hK hP hD hS hA0 (ci := 3) (q0 := 1) rfl hw0 []) rfl rfl hl.1 rfl (lv_room (Nat.le_of_ble_eq_true rfl)) dL_play_3 ⟨Nat.le_of_ble_eq_true rfl, Nat.le_of_ble_eq_true rfl⟩) hS (fun q9 _ h9 => k_freeR (wr := [(qo, .inl (cJ, 1, .inr (.inl g0)))]) hD hS hA0 q9 h9) (fun q9 h9 => k_freeR (wr := [(qo, .inl (cJ, 1, .inr (.inl g0)))]) hD hS hA0 q9 h9) (fun q9 _ h9 => k_freeR (wr := [(qo, .inl (cJ, 1, .inr (.inl g0)))]) hD hS hA0 q9 h9) (fun E ce q9 _ t9 H1 locs1 ht hvm _ hB9 hz hk9 hS1 hc1 hc2 hc3 => ?_) (fun x9 u9 t9 H1 locs1 ht hvm hp9 hB9 hz hk9 hS1 => ?_)
  · obtain ⟨⟨hk0, hE9⟩, hB8⟩ := hB9
    have hB8 : va_P D vwCl w t9.heap := hB8
    rw [ht] at hB8
    obtain ⟨hP, hD⟩ := k_join (wr := [(qo, .inl (cJ, 1, .inr (.inl g0)))]) (wc := w) hP hD hk9 hB8 (va_D_r hD).self (fun q h => hA0 q (Nat.le_trans hS.1 h))
    rcases hk with hk | hk
    · exact absurd hk hk0
    · subst hk
      have hE9 : E = "java/lang/IllegalArgumentException" := hE9
      subst hE9
      refine vx_catch (own := RL) (name := "java/lang/IllegalArgumentException") hown [] ⟨0, 8, 11, 15⟩ [] (by rw [hT]; rfl) (fun z hz => nomatch hz) (by decide) (by decide) (hts (.classLink RL 15 "java/lang/IllegalArgumentException") (by decide +kernel)) (va_Nw.use rfl (hX.2.2.2.2.1 eIAE (by simp))) hc1 hc2 hc3 ?_
      refine lv_astore_n (lv' := [(2, .ref q9), (0, .ref o), (1, .ref qo)]) hx hb dL_play_11 rfl hl (by decide) rfl (fun ls hl => ?_)
      refine lv_iconst (v := 1) hx hb dL_play_12 (by decide) ?_
      exact h_iret g0 (0, w) hx hb hr hlocks hS1 hP hD dL_play_13 (Or.inl ⟨by decide, rfl, rfl⟩) (fun h9 => absurd h9 (by decide)) (Nat.le_of_ble_eq_true rfl) (Nat.le_of_ble_eq_true rfl)
  · obtain ⟨hB8, hB7⟩ := hB9
    have hB8 : va_P D vwCl u9 t9.heap := hB8
    rw [ht] at hB8
    obtain ⟨hP, hD⟩ := k_join (wr := [(qo, .inl (cJ, 1, .inr (.inl g0)))]) (wc := w) hP hD hk9 hB8 hB7 (fun q h => hA0 q (Nat.le_trans hS.1 h))
    refine lv_i2l (v := x9.toInt64) hx hb dL_play_6 rfl ?_
    refine va_last hx hb hK hP hD hS1 0 2 rfl rfl (vp_in_nI (n := 0) (by omega) (by omega)) dL_play_7 (fun H locs hP hD hS => ?_)
    refine lv_goto (tgt := 14) hx hb dL_play_8 (by decide) ?_
    refine lv_iconst (v := 0) hx hb dL_play_14 (by decide) ?_
    exact h_iret _ (x9.toInt64, u9) hx hb hr hlocks hS hP hD dL_play_15 (Or.inr ⟨hp9.1, rfl, x9, hp9.2, rfl⟩) (fun _ => rfl) (Nat.le_of_ble_eq_true rfl) (Nat.le_of_ble_eq_true rfl)
set_option maxHeartbeats 4000000 in
set_option maxRecDepth 100000 in
theorem hL_undo (l : Launch) (D : va_G) (cI cQ cJ : ClassId) (o qo : Nat) (g0 : Nat → Int64) (w : va_W) (fs : List Value) (hw0 : w[0]? = some (o, .inr (3, fs))) (k : Nat) (post : Int32 → va_W → Prop) (hM : XM l D (tY cI cQ cJ) yX3_undo wsX3_undo ({ frames := 6, cells := 1, slots := 6, locals := 90 } : Room) [.ref o] w k post) (hk : k = 0 ∨ k = 3) : HM l D (tY cI cQ cJ) cJ yL_undo wsL_undo ({ frames := 7, cells := 1, slots := 6, locals := 115 } : Room) [.ref o, .ref qo] qo g0 w k (k - 2) post := by
  refine H_of (cc := cL_undo) (maxL := 3) (ret := some .int) (Qc := fun A => HQ cJ qo D k (k - 2) post w A) (by decide) rfl (Nat.le_of_ble_eq_true rfl) ?_
  intro p e s m below meth c A0 ls hB hT hE hX hP hK hD hA0 hl
  obtain ⟨hx, hb, hr, hml, hts, hown, hlocks⟩ := hB
  have hS : va_S A0 s.heap s.heap [] := va_S.rf
  have hl : lv_has ls 3 [(0, .ref o), (1, .ref qo)] := hl
  refine lv_aload_n hx hb dL_undo_0 rfl (lv_at hl 1 rfl) ?_
  refine lv_iconst (v := 0) hx hb dL_undo_1 (by decide) ?_
  refine lv_aload_n hx hb dL_undo_2 rfl (lv_at hl 0 rfl) ?_
  refine vx_calli (vx_runV (As := []) (rest := [.int 0, .ref qo]) ⟨hx, hb, hml, hown, hts⟩ (hM _) (cwV 0 hts gL_undo_X3_undo rfl rfl rfl (by decide +kernel) ⟨Nat.le_of_ble_eq_true rfl, Nat.le_of_ble_eq_true rfl⟩) (k_preYV (wr := [(qo, .inl (cJ, 1, .inr (.inl g0)))]) (wc := w) hE hX hK hP hD hS hA0 (ci := 3) (q0 := 1) rfl hw0 []) rfl rfl hl.1 rfl (lv_room (Nat.le_of_ble_eq_true rfl)) dL_undo_3 ⟨Nat.le_of_ble_eq_true rfl, Nat.le_of_ble_eq_true rfl⟩) hS (fun q9 _ h9 => k_freeR (wr := [(qo, .inl (cJ, 1, .inr (.inl g0)))]) hD hS hA0 q9 h9) (fun q9 h9 => k_freeR (wr := [(qo, .inl (cJ, 1, .inr (.inl g0)))]) hD hS hA0 q9 h9) (fun q9 _ h9 => k_freeR (wr := [(qo, .inl (cJ, 1, .inr (.inl g0)))]) hD hS hA0 q9 h9) (fun E ce q9 _ t9 H1 locs1 ht hvm _ hB9 hz hk9 hS1 hc1 hc2 hc3 => ?_) (fun x9 u9 t9 H1 locs1 ht hvm hp9 hB9 hz hk9 hS1 => ?_)
  · obtain ⟨⟨hk0, hE9⟩, hB8⟩ := hB9
    have hB8 : va_P D vwCl w t9.heap := hB8
    rw [ht] at hB8
    obtain ⟨hP, hD⟩ := k_join (wr := [(qo, .inl (cJ, 1, .inr (.inl g0)))]) (wc := w) hP hD hk9 hB8 (va_D_r hD).self (fun q h => hA0 q (Nat.le_trans hS.1 h))
    rcases hk with hk | hk
    · exact absurd hk hk0
    · subst hk
      have hE9 : E = "java/lang/IllegalStateException" := hE9
      subst hE9
      refine vx_catch (own := RL) (name := "java/lang/IllegalStateException") hown [] ⟨0, 8, 11, 25⟩ [] (by rw [hT]; rfl) (fun z hz => nomatch hz) (by decide) (by decide) (hts (.classLink RL 25 "java/lang/IllegalStateException") (by decide +kernel)) (va_Nw.use rfl (hX.2.2.2.2.1 eISE (by simp))) hc1 hc2 hc3 ?_
      refine lv_astore_n (lv' := [(2, .ref q9), (0, .ref o), (1, .ref qo)]) hx hb dL_undo_11 rfl hl (by decide) rfl (fun ls hl => ?_)
      refine lv_iconst (v := 1) hx hb dL_undo_12 (by decide) ?_
      exact h_iret g0 (0, w) hx hb hr hlocks hS1 hP hD dL_undo_13 (Or.inl ⟨by decide, rfl, rfl⟩) (fun h9 => absurd h9 (by decide)) (Nat.le_of_ble_eq_true rfl) (Nat.le_of_ble_eq_true rfl)
  · obtain ⟨hB8, hB7⟩ := hB9
    have hB8 : va_P D vwCl u9 t9.heap := hB8
    rw [ht] at hB8
    obtain ⟨hP, hD⟩ := k_join (wr := [(qo, .inl (cJ, 1, .inr (.inl g0)))]) (wc := w) hP hD hk9 hB8 hB7 (fun q h => hA0 q (Nat.le_trans hS.1 h))
    refine lv_i2l (v := x9.toInt64) hx hb dL_undo_6 rfl ?_
    refine va_last hx hb hK hP hD hS1 0 2 rfl rfl (vp_in_nI (n := 0) (by omega) (by omega)) dL_undo_7 (fun H locs hP hD hS => ?_)
    refine lv_goto (tgt := 14) hx hb dL_undo_8 (by decide) ?_
    refine lv_iconst (v := 0) hx hb dL_undo_14 (by decide) ?_
    exact h_iret _ (x9.toInt64, u9) hx hb hr hlocks hS hP hD dL_undo_15 (Or.inr ⟨hp9.1, rfl, x9, hp9.2, rfl⟩) (fun _ => rfl) (Nat.le_of_ble_eq_true rfl) (Nat.le_of_ble_eq_true rfl)
set_option maxHeartbeats 4000000 in
set_option maxRecDepth 100000 in
theorem hL_planeOf (l : Launch) (D : va_G) (cI cQ cJ : ClassId) (o qo : Nat) (g0 : Nat → Int64) (w : va_W) (fs : List Value) (hw0 : w[0]? = some (o, .inr (3, fs))) (p0 p1 : Int32) (k : Nat) (post : Int32 → va_W → Prop) (hM : XM l D (tY cI cQ cJ) yX3_planeOf wsX3_planeOf ({ frames := 6, cells := 1, slots := 6, locals := 90 } : Room) [.ref o, .int p0, .int p1] w k post) (hk : k = 0 ∨ k = 1 ∨ k = 2) : HM l D (tY cI cQ cJ) cJ yL_planeOf wsL_planeOf ({ frames := 7, cells := 1, slots := 6, locals := 118 } : Room) [.ref o, .int p0, .int p1, .ref qo] qo g0 w k k post := by
  refine H_of (cc := cL_planeOf) (maxL := 5) (ret := some .int) (Qc := fun A => HQ cJ qo D k k post w A) (by decide) rfl (Nat.le_of_ble_eq_true rfl) ?_
  intro p e s m below meth c A0 ls hB hT hE hX hP hK hD hA0 hl
  obtain ⟨hx, hb, hr, hml, hts, hown, hlocks⟩ := hB
  have hS : va_S A0 s.heap s.heap [] := va_S.rf
  have hl : lv_has ls 5 [(0, .ref o), (1, .int p0), (2, .int p1), (3, .ref qo)] := hl
  refine lv_aload_n hx hb dL_planeOf_0 rfl (lv_at hl 3 rfl) ?_
  refine lv_iconst (v := 0) hx hb dL_planeOf_1 (by decide) ?_
  refine lv_aload_n hx hb dL_planeOf_2 rfl (lv_at hl 0 rfl) ?_
  refine lv_iload_n hx hb dL_planeOf_3 rfl (lv_at hl 1 rfl) ?_
  refine lv_iload_n hx hb dL_planeOf_4 rfl (lv_at hl 2 rfl) ?_
  refine vx_calli (vx_runV (As := [.int p0, .int p1]) (rest := [.int 0, .ref qo]) ⟨hx, hb, hml, hown, hts⟩ (hM _) (cwV 2 hts gL_planeOf_X3_planeOf rfl rfl rfl (by decide +kernel) ⟨Nat.le_of_ble_eq_true rfl, Nat.le_of_ble_eq_true rfl⟩) (k_preYV (wr := [(qo, .inl (cJ, 1, .inr (.inl g0)))]) (wc := w) hE hX hK hP hD hS hA0 (ci := 3) (q0 := 1) rfl hw0 [.int p0, .int p1]) rfl rfl hl.1 rfl (lv_room (Nat.le_of_ble_eq_true rfl)) dL_planeOf_5 ⟨Nat.le_of_ble_eq_true rfl, Nat.le_of_ble_eq_true rfl⟩) hS (fun q9 _ h9 => k_freeR (wr := [(qo, .inl (cJ, 1, .inr (.inl g0)))]) hD hS hA0 q9 h9) (fun q9 h9 => k_freeR (wr := [(qo, .inl (cJ, 1, .inr (.inl g0)))]) hD hS hA0 q9 h9) (fun q9 _ h9 => k_freeR (wr := [(qo, .inl (cJ, 1, .inr (.inl g0)))]) hD hS hA0 q9 h9) (fun E ce q9 _ t9 H1 locs1 ht hvm _ hB9 hz hk9 hS1 hc1 hc2 hc3 => ?_) (fun x9 u9 t9 H1 locs1 ht hvm hp9 hB9 hz hk9 hS1 => ?_)
  · obtain ⟨⟨hk0, hE9⟩, hB8⟩ := hB9
    have hB8 : va_P D vwCl w t9.heap := hB8
    rw [ht] at hB8
    obtain ⟨hP, hD⟩ := k_join (wr := [(qo, .inl (cJ, 1, .inr (.inl g0)))]) (wc := w) hP hD hk9 hB8 (va_D_r hD).self (fun q h => hA0 q (Nat.le_trans hS.1 h))
    rcases hk with hk | hk | hk
    · exact absurd hk hk0
    · subst hk
      have hE9 : E = "java/lang/IndexOutOfBoundsException" := hE9
      subst hE9
      refine vx_catch (own := RL) (name := "java/lang/IndexOutOfBoundsException") hown [] ⟨0, 10, 13, 13⟩ [⟨0, 10, 17, 15⟩] (by rw [hT]; rfl) (fun z hz => nomatch hz) (by decide) (by decide) (hts (.classLink RL 13 "java/lang/IndexOutOfBoundsException") (by decide +kernel)) (va_Nw.use rfl (hX.2.2.2.2.1 eIOB (by simp))) hc1 hc2 hc3 ?_
      refine lv_astore (lv' := [(4, .ref q9), (0, .ref o), (1, .int p0), (2, .int p1), (3, .ref qo)]) hx hb dL_planeOf_13 hl (by decide) rfl (fun ls hl => ?_)
      refine lv_iconst (v := 1) hx hb dL_planeOf_15 (by decide) ?_
      exact h_iret g0 (0, w) hx hb hr hlocks hS1 hP hD dL_planeOf_16 (Or.inl ⟨by decide, rfl, rfl⟩) (fun h9 => absurd h9 (by decide)) (Nat.le_of_ble_eq_true rfl) (Nat.le_of_ble_eq_true rfl)
    · subst hk
      have hE9 : E = "java/lang/IllegalArgumentException" := hE9
      subst hE9
      refine vx_catch (own := RL) (name := "java/lang/IllegalArgumentException") hown [⟨0, 10, 13, 13⟩] ⟨0, 10, 17, 15⟩ [] (by rw [hT]; rfl) (fun z hz => by simp only [List.mem_cons, List.not_mem_nil, or_false] at hz; rcases hz with rfl <;> first | (exact Or.inr ⟨by decide, "java/lang/IndexOutOfBoundsException", hts (.classLink RL 13 "java/lang/IndexOutOfBoundsException") (by decide +kernel), hX.2.2.2.2.2.1 (eIAE, eIOB) (by simp)⟩)) (by decide) (by decide) (hts (.classLink RL 15 "java/lang/IllegalArgumentException") (by decide +kernel)) (va_Nw.use rfl (hX.2.2.2.2.1 eIAE (by simp))) hc1 hc2 hc3 ?_
      refine lv_astore (lv' := [(4, .ref q9), (0, .ref o), (1, .int p0), (2, .int p1), (3, .ref qo)]) hx hb dL_planeOf_17 hl (by decide) rfl (fun ls hl => ?_)
      refine lv_iconst (v := 2) hx hb dL_planeOf_19 (by decide) ?_
      exact h_iret g0 (0, w) hx hb hr hlocks hS1 hP hD dL_planeOf_20 (Or.inl ⟨by decide, rfl, rfl⟩) (fun h9 => absurd h9 (by decide)) (Nat.le_of_ble_eq_true rfl) (Nat.le_of_ble_eq_true rfl)
  · obtain ⟨hB8, hB7⟩ := hB9
    have hB8 : va_P D vwCl u9 t9.heap := hB8
    rw [ht] at hB8
    obtain ⟨hP, hD⟩ := k_join (wr := [(qo, .inl (cJ, 1, .inr (.inl g0)))]) (wc := w) hP hD hk9 hB8 hB7 (fun q h => hA0 q (Nat.le_trans hS.1 h))
    refine lv_i2l (v := x9.toInt64) hx hb dL_planeOf_8 rfl ?_
    refine va_last hx hb hK hP hD hS1 0 2 rfl rfl (vp_in_nI (n := 0) (by omega) (by omega)) dL_planeOf_9 (fun H locs hP hD hS => ?_)
    refine lv_goto (tgt := 21) hx hb dL_planeOf_10 (by decide) ?_
    refine lv_iconst (v := 0) hx hb dL_planeOf_21 (by decide) ?_
    exact h_iret _ (x9.toInt64, u9) hx hb hr hlocks hS hP hD dL_planeOf_22 (Or.inr ⟨hp9.1, rfl, x9, hp9.2, rfl⟩) (fun _ => rfl) (Nat.le_of_ble_eq_true rfl) (Nat.le_of_ble_eq_true rfl)
set_option maxHeartbeats 4000000 in
set_option maxRecDepth 100000 in
theorem hL_gutterOf (l : Launch) (D : va_G) (cI cQ cJ : ClassId) (o qo : Nat) (g0 : Nat → Int64) (w : va_W) (fs : List Value) (hw0 : w[0]? = some (o, .inr (3, fs))) (p0 p1 : Int32) (k : Nat) (post : Int32 → va_W → Prop) (hM : XM l D (tY cI cQ cJ) yX3_gutterOf wsX3_gutterOf ({ frames := 6, cells := 1, slots := 6, locals := 90 } : Room) [.ref o, .int p0, .int p1] w k post) (hk : k = 0 ∨ k = 1 ∨ k = 2) : HM l D (tY cI cQ cJ) cJ yL_gutterOf wsL_gutterOf ({ frames := 7, cells := 1, slots := 6, locals := 118 } : Room) [.ref o, .int p0, .int p1, .ref qo] qo g0 w k k post := by
  refine H_of (cc := cL_gutterOf) (maxL := 5) (ret := some .int) (Qc := fun A => HQ cJ qo D k k post w A) (by decide) rfl (Nat.le_of_ble_eq_true rfl) ?_
  intro p e s m below meth c A0 ls hB hT hE hX hP hK hD hA0 hl
  obtain ⟨hx, hb, hr, hml, hts, hown, hlocks⟩ := hB
  have hS : va_S A0 s.heap s.heap [] := va_S.rf
  have hl : lv_has ls 5 [(0, .ref o), (1, .int p0), (2, .int p1), (3, .ref qo)] := hl
  refine lv_aload_n hx hb dL_gutterOf_0 rfl (lv_at hl 3 rfl) ?_
  refine lv_iconst (v := 0) hx hb dL_gutterOf_1 (by decide) ?_
  refine lv_aload_n hx hb dL_gutterOf_2 rfl (lv_at hl 0 rfl) ?_
  refine lv_iload_n hx hb dL_gutterOf_3 rfl (lv_at hl 1 rfl) ?_
  refine lv_iload_n hx hb dL_gutterOf_4 rfl (lv_at hl 2 rfl) ?_
  refine vx_calli (vx_runV (As := [.int p0, .int p1]) (rest := [.int 0, .ref qo]) ⟨hx, hb, hml, hown, hts⟩ (hM _) (cwV 2 hts gL_gutterOf_X3_gutterOf rfl rfl rfl (by decide +kernel) ⟨Nat.le_of_ble_eq_true rfl, Nat.le_of_ble_eq_true rfl⟩) (k_preYV (wr := [(qo, .inl (cJ, 1, .inr (.inl g0)))]) (wc := w) hE hX hK hP hD hS hA0 (ci := 3) (q0 := 1) rfl hw0 [.int p0, .int p1]) rfl rfl hl.1 rfl (lv_room (Nat.le_of_ble_eq_true rfl)) dL_gutterOf_5 ⟨Nat.le_of_ble_eq_true rfl, Nat.le_of_ble_eq_true rfl⟩) hS (fun q9 _ h9 => k_freeR (wr := [(qo, .inl (cJ, 1, .inr (.inl g0)))]) hD hS hA0 q9 h9) (fun q9 h9 => k_freeR (wr := [(qo, .inl (cJ, 1, .inr (.inl g0)))]) hD hS hA0 q9 h9) (fun q9 _ h9 => k_freeR (wr := [(qo, .inl (cJ, 1, .inr (.inl g0)))]) hD hS hA0 q9 h9) (fun E ce q9 _ t9 H1 locs1 ht hvm _ hB9 hz hk9 hS1 hc1 hc2 hc3 => ?_) (fun x9 u9 t9 H1 locs1 ht hvm hp9 hB9 hz hk9 hS1 => ?_)
  · obtain ⟨⟨hk0, hE9⟩, hB8⟩ := hB9
    have hB8 : va_P D vwCl w t9.heap := hB8
    rw [ht] at hB8
    obtain ⟨hP, hD⟩ := k_join (wr := [(qo, .inl (cJ, 1, .inr (.inl g0)))]) (wc := w) hP hD hk9 hB8 (va_D_r hD).self (fun q h => hA0 q (Nat.le_trans hS.1 h))
    rcases hk with hk | hk | hk
    · exact absurd hk hk0
    · subst hk
      have hE9 : E = "java/lang/IndexOutOfBoundsException" := hE9
      subst hE9
      refine vx_catch (own := RL) (name := "java/lang/IndexOutOfBoundsException") hown [] ⟨0, 10, 13, 13⟩ [⟨0, 10, 17, 15⟩] (by rw [hT]; rfl) (fun z hz => nomatch hz) (by decide) (by decide) (hts (.classLink RL 13 "java/lang/IndexOutOfBoundsException") (by decide +kernel)) (va_Nw.use rfl (hX.2.2.2.2.1 eIOB (by simp))) hc1 hc2 hc3 ?_
      refine lv_astore (lv' := [(4, .ref q9), (0, .ref o), (1, .int p0), (2, .int p1), (3, .ref qo)]) hx hb dL_gutterOf_13 hl (by decide) rfl (fun ls hl => ?_)
      refine lv_iconst (v := 1) hx hb dL_gutterOf_15 (by decide) ?_
      exact h_iret g0 (0, w) hx hb hr hlocks hS1 hP hD dL_gutterOf_16 (Or.inl ⟨by decide, rfl, rfl⟩) (fun h9 => absurd h9 (by decide)) (Nat.le_of_ble_eq_true rfl) (Nat.le_of_ble_eq_true rfl)
    · subst hk
      have hE9 : E = "java/lang/IllegalArgumentException" := hE9
      subst hE9
      refine vx_catch (own := RL) (name := "java/lang/IllegalArgumentException") hown [⟨0, 10, 13, 13⟩] ⟨0, 10, 17, 15⟩ [] (by rw [hT]; rfl) (fun z hz => by simp only [List.mem_cons, List.not_mem_nil, or_false] at hz; rcases hz with rfl <;> first | (exact Or.inr ⟨by decide, "java/lang/IndexOutOfBoundsException", hts (.classLink RL 13 "java/lang/IndexOutOfBoundsException") (by decide +kernel), hX.2.2.2.2.2.1 (eIAE, eIOB) (by simp)⟩)) (by decide) (by decide) (hts (.classLink RL 15 "java/lang/IllegalArgumentException") (by decide +kernel)) (va_Nw.use rfl (hX.2.2.2.2.1 eIAE (by simp))) hc1 hc2 hc3 ?_
      refine lv_astore (lv' := [(4, .ref q9), (0, .ref o), (1, .int p0), (2, .int p1), (3, .ref qo)]) hx hb dL_gutterOf_17 hl (by decide) rfl (fun ls hl => ?_)
      refine lv_iconst (v := 2) hx hb dL_gutterOf_19 (by decide) ?_
      exact h_iret g0 (0, w) hx hb hr hlocks hS1 hP hD dL_gutterOf_20 (Or.inl ⟨by decide, rfl, rfl⟩) (fun h9 => absurd h9 (by decide)) (Nat.le_of_ble_eq_true rfl) (Nat.le_of_ble_eq_true rfl)
  · obtain ⟨hB8, hB7⟩ := hB9
    have hB8 : va_P D vwCl u9 t9.heap := hB8
    rw [ht] at hB8
    obtain ⟨hP, hD⟩ := k_join (wr := [(qo, .inl (cJ, 1, .inr (.inl g0)))]) (wc := w) hP hD hk9 hB8 hB7 (fun q h => hA0 q (Nat.le_trans hS.1 h))
    refine lv_i2l (v := x9.toInt64) hx hb dL_gutterOf_8 rfl ?_
    refine va_last hx hb hK hP hD hS1 0 2 rfl rfl (vp_in_nI (n := 0) (by omega) (by omega)) dL_gutterOf_9 (fun H locs hP hD hS => ?_)
    refine lv_goto (tgt := 21) hx hb dL_gutterOf_10 (by decide) ?_
    refine lv_iconst (v := 0) hx hb dL_gutterOf_21 (by decide) ?_
    exact h_iret _ (x9.toInt64, u9) hx hb hr hlocks hS hP hD dL_gutterOf_22 (Or.inr ⟨hp9.1, rfl, x9, hp9.2, rfl⟩) (fun _ => rfl) (Nat.le_of_ble_eq_true rfl) (Nat.le_of_ble_eq_true rfl)
set_option maxHeartbeats 4000000 in
set_option maxRecDepth 100000 in
theorem hL_count (l : Launch) (D : va_G) (cI cQ cJ : ClassId) (o qo : Nat) (g0 : Nat → Int64) (w : va_W) (fs : List Value) (hw0 : w[0]? = some (o, .inr (3, fs))) (p0 : Int32) (k : Nat) (post : Int32 → va_W → Prop) (hM : XM l D (tY cI cQ cJ) yX3_count wsX3_count ({ frames := 6, cells := 1, slots := 6, locals := 90 } : Room) [.ref o, .int p0] w k post) (hk : k = 0 ∨ k = 2) : HM l D (tY cI cQ cJ) cJ yL_count wsL_count ({ frames := 7, cells := 1, slots := 6, locals := 116 } : Room) [.ref o, .int p0, .ref qo] qo g0 w k (k - 1) post := by
  refine H_of (cc := cL_count) (maxL := 4) (ret := some .int) (Qc := fun A => HQ cJ qo D k (k - 1) post w A) (by decide) rfl (Nat.le_of_ble_eq_true rfl) ?_
  intro p e s m below meth c A0 ls hB hT hE hX hP hK hD hA0 hl
  obtain ⟨hx, hb, hr, hml, hts, hown, hlocks⟩ := hB
  have hS : va_S A0 s.heap s.heap [] := va_S.rf
  have hl : lv_has ls 4 [(0, .ref o), (1, .int p0), (2, .ref qo)] := hl
  refine lv_aload_n hx hb dL_count_0 rfl (lv_at hl 2 rfl) ?_
  refine lv_iconst (v := 0) hx hb dL_count_1 (by decide) ?_
  refine lv_aload_n hx hb dL_count_2 rfl (lv_at hl 0 rfl) ?_
  refine lv_iload_n hx hb dL_count_3 rfl (lv_at hl 1 rfl) ?_
  refine vx_calli (vx_runV (As := [.int p0]) (rest := [.int 0, .ref qo]) ⟨hx, hb, hml, hown, hts⟩ (hM _) (cwV 1 hts gL_count_X3_count rfl rfl rfl (by decide +kernel) ⟨Nat.le_of_ble_eq_true rfl, Nat.le_of_ble_eq_true rfl⟩) (k_preYV (wr := [(qo, .inl (cJ, 1, .inr (.inl g0)))]) (wc := w) hE hX hK hP hD hS hA0 (ci := 3) (q0 := 1) rfl hw0 [.int p0]) rfl rfl hl.1 rfl (lv_room (Nat.le_of_ble_eq_true rfl)) dL_count_4 ⟨Nat.le_of_ble_eq_true rfl, Nat.le_of_ble_eq_true rfl⟩) hS (fun q9 _ h9 => k_freeR (wr := [(qo, .inl (cJ, 1, .inr (.inl g0)))]) hD hS hA0 q9 h9) (fun q9 h9 => k_freeR (wr := [(qo, .inl (cJ, 1, .inr (.inl g0)))]) hD hS hA0 q9 h9) (fun q9 _ h9 => k_freeR (wr := [(qo, .inl (cJ, 1, .inr (.inl g0)))]) hD hS hA0 q9 h9) (fun E ce q9 _ t9 H1 locs1 ht hvm _ hB9 hz hk9 hS1 hc1 hc2 hc3 => ?_) (fun x9 u9 t9 H1 locs1 ht hvm hp9 hB9 hz hk9 hS1 => ?_)
  · obtain ⟨⟨hk0, hE9⟩, hB8⟩ := hB9
    have hB8 : va_P D vwCl w t9.heap := hB8
    rw [ht] at hB8
    obtain ⟨hP, hD⟩ := k_join (wr := [(qo, .inl (cJ, 1, .inr (.inl g0)))]) (wc := w) hP hD hk9 hB8 (va_D_r hD).self (fun q h => hA0 q (Nat.le_trans hS.1 h))
    rcases hk with hk | hk
    · exact absurd hk hk0
    · subst hk
      have hE9 : E = "java/lang/IllegalArgumentException" := hE9
      subst hE9
      refine vx_catch (own := RL) (name := "java/lang/IllegalArgumentException") hown [] ⟨0, 9, 12, 15⟩ [] (by rw [hT]; rfl) (fun z hz => nomatch hz) (by decide) (by decide) (hts (.classLink RL 15 "java/lang/IllegalArgumentException") (by decide +kernel)) (va_Nw.use rfl (hX.2.2.2.2.1 eIAE (by simp))) hc1 hc2 hc3 ?_
      refine lv_astore_n (lv' := [(3, .ref q9), (0, .ref o), (1, .int p0), (2, .ref qo)]) hx hb dL_count_12 rfl hl (by decide) rfl (fun ls hl => ?_)
      refine lv_iconst (v := 1) hx hb dL_count_13 (by decide) ?_
      exact h_iret g0 (0, w) hx hb hr hlocks hS1 hP hD dL_count_14 (Or.inl ⟨by decide, rfl, rfl⟩) (fun h9 => absurd h9 (by decide)) (Nat.le_of_ble_eq_true rfl) (Nat.le_of_ble_eq_true rfl)
  · obtain ⟨hB8, hB7⟩ := hB9
    have hB8 : va_P D vwCl u9 t9.heap := hB8
    rw [ht] at hB8
    obtain ⟨hP, hD⟩ := k_join (wr := [(qo, .inl (cJ, 1, .inr (.inl g0)))]) (wc := w) hP hD hk9 hB8 hB7 (fun q h => hA0 q (Nat.le_trans hS.1 h))
    refine lv_i2l (v := x9.toInt64) hx hb dL_count_7 rfl ?_
    refine va_last hx hb hK hP hD hS1 0 2 rfl rfl (vp_in_nI (n := 0) (by omega) (by omega)) dL_count_8 (fun H locs hP hD hS => ?_)
    refine lv_goto (tgt := 15) hx hb dL_count_9 (by decide) ?_
    refine lv_iconst (v := 0) hx hb dL_count_15 (by decide) ?_
    exact h_iret _ (x9.toInt64, u9) hx hb hr hlocks hS hP hD dL_count_16 (Or.inr ⟨hp9.1, rfl, x9, hp9.2, rfl⟩) (fun _ => rfl) (Nat.le_of_ble_eq_true rfl) (Nat.le_of_ble_eq_true rfl)
set_option maxHeartbeats 4000000 in
set_option maxRecDepth 100000 in
theorem hL_setting (l : Launch) (D : va_G) (cI cQ cJ : ClassId) (o qo : Nat) (g0 : Nat → Int64) (w : va_W) (fs : List Value) (hw0 : w[0]? = some (o, .inr (3, fs))) (p0 : Int32) (k : Nat) (post : Int32 → va_W → Prop) (hM : XM l D (tY cI cQ cJ) yX3_setting wsX3_setting ({ frames := 6, cells := 1, slots := 6, locals := 90 } : Room) [.ref o, .int p0] w k post) (hk : k = 0 ∨ k = 1) : HM l D (tY cI cQ cJ) cJ yL_setting wsL_setting ({ frames := 7, cells := 1, slots := 6, locals := 116 } : Room) [.ref o, .int p0, .ref qo] qo g0 w k k post := by
  refine H_of (cc := cL_setting) (maxL := 4) (ret := some .int) (Qc := fun A => HQ cJ qo D k k post w A) (by decide) rfl (Nat.le_of_ble_eq_true rfl) ?_
  intro p e s m below meth c A0 ls hB hT hE hX hP hK hD hA0 hl
  obtain ⟨hx, hb, hr, hml, hts, hown, hlocks⟩ := hB
  have hS : va_S A0 s.heap s.heap [] := va_S.rf
  have hl : lv_has ls 4 [(0, .ref o), (1, .int p0), (2, .ref qo)] := hl
  refine lv_aload_n hx hb dL_setting_0 rfl (lv_at hl 2 rfl) ?_
  refine lv_iconst (v := 0) hx hb dL_setting_1 (by decide) ?_
  refine lv_aload_n hx hb dL_setting_2 rfl (lv_at hl 0 rfl) ?_
  refine lv_iload_n hx hb dL_setting_3 rfl (lv_at hl 1 rfl) ?_
  refine vx_calli (vx_runV (As := [.int p0]) (rest := [.int 0, .ref qo]) ⟨hx, hb, hml, hown, hts⟩ (hM _) (cwV 1 hts gL_setting_X3_setting rfl rfl rfl (by decide +kernel) ⟨Nat.le_of_ble_eq_true rfl, Nat.le_of_ble_eq_true rfl⟩) (k_preYV (wr := [(qo, .inl (cJ, 1, .inr (.inl g0)))]) (wc := w) hE hX hK hP hD hS hA0 (ci := 3) (q0 := 1) rfl hw0 [.int p0]) rfl rfl hl.1 rfl (lv_room (Nat.le_of_ble_eq_true rfl)) dL_setting_4 ⟨Nat.le_of_ble_eq_true rfl, Nat.le_of_ble_eq_true rfl⟩) hS (fun q9 _ h9 => k_freeR (wr := [(qo, .inl (cJ, 1, .inr (.inl g0)))]) hD hS hA0 q9 h9) (fun q9 h9 => k_freeR (wr := [(qo, .inl (cJ, 1, .inr (.inl g0)))]) hD hS hA0 q9 h9) (fun q9 _ h9 => k_freeR (wr := [(qo, .inl (cJ, 1, .inr (.inl g0)))]) hD hS hA0 q9 h9) (fun E ce q9 _ t9 H1 locs1 ht hvm _ hB9 hz hk9 hS1 hc1 hc2 hc3 => ?_) (fun x9 u9 t9 H1 locs1 ht hvm hp9 hB9 hz hk9 hS1 => ?_)
  · obtain ⟨⟨hk0, hE9⟩, hB8⟩ := hB9
    have hB8 : va_P D vwCl w t9.heap := hB8
    rw [ht] at hB8
    obtain ⟨hP, hD⟩ := k_join (wr := [(qo, .inl (cJ, 1, .inr (.inl g0)))]) (wc := w) hP hD hk9 hB8 (va_D_r hD).self (fun q h => hA0 q (Nat.le_trans hS.1 h))
    rcases hk with hk | hk
    · exact absurd hk hk0
    · subst hk
      have hE9 : E = "java/lang/IndexOutOfBoundsException" := hE9
      subst hE9
      refine vx_catch (own := RL) (name := "java/lang/IndexOutOfBoundsException") hown [] ⟨0, 9, 12, 13⟩ [] (by rw [hT]; rfl) (fun z hz => nomatch hz) (by decide) (by decide) (hts (.classLink RL 13 "java/lang/IndexOutOfBoundsException") (by decide +kernel)) (va_Nw.use rfl (hX.2.2.2.2.1 eIOB (by simp))) hc1 hc2 hc3 ?_
      refine lv_astore_n (lv' := [(3, .ref q9), (0, .ref o), (1, .int p0), (2, .ref qo)]) hx hb dL_setting_12 rfl hl (by decide) rfl (fun ls hl => ?_)
      refine lv_iconst (v := 1) hx hb dL_setting_13 (by decide) ?_
      exact h_iret g0 (0, w) hx hb hr hlocks hS1 hP hD dL_setting_14 (Or.inl ⟨by decide, rfl, rfl⟩) (fun h9 => absurd h9 (by decide)) (Nat.le_of_ble_eq_true rfl) (Nat.le_of_ble_eq_true rfl)
  · obtain ⟨hB8, hB7⟩ := hB9
    have hB8 : va_P D vwCl u9 t9.heap := hB8
    rw [ht] at hB8
    obtain ⟨hP, hD⟩ := k_join (wr := [(qo, .inl (cJ, 1, .inr (.inl g0)))]) (wc := w) hP hD hk9 hB8 hB7 (fun q h => hA0 q (Nat.le_trans hS.1 h))
    refine lv_i2l (v := x9.toInt64) hx hb dL_setting_7 rfl ?_
    refine va_last hx hb hK hP hD hS1 0 2 rfl rfl (vp_in_nI (n := 0) (by omega) (by omega)) dL_setting_8 (fun H locs hP hD hS => ?_)
    refine lv_goto (tgt := 15) hx hb dL_setting_9 (by decide) ?_
    refine lv_iconst (v := 0) hx hb dL_setting_15 (by decide) ?_
    exact h_iret _ (x9.toInt64, u9) hx hb hr hlocks hS hP hD dL_setting_16 (Or.inr ⟨hp9.1, rfl, x9, hp9.2, rfl⟩) (fun _ => rfl) (Nat.le_of_ble_eq_true rfl) (Nat.le_of_ble_eq_true rfl)
set_option maxHeartbeats 4000000 in
set_option maxRecDepth 100000 in
theorem hL_ifRained (l : Launch) (D : va_G) (cI cQ cJ : ClassId) (o qo : Nat) (g0 : Nat → Int64) (w : va_W) (fs : List Value) (hw0 : w[0]? = some (o, .inr (3, fs))) (p0 p1 : Int32) (k : Nat) (post : Int32 → va_W → Prop) (hM : XM l D (tY cI cQ cJ) yX3_ifRained wsX3_ifRained ({ frames := 6, cells := 1, slots := 6, locals := 92 } : Room) [.ref o, .int p0, .int p1] w k post) (hk : k = 0 ∨ k = 2) : HM l D (tY cI cQ cJ) cJ yL_ifRained wsL_ifRained ({ frames := 7, cells := 1, slots := 6, locals := 120 } : Room) [.ref o, .int p0, .int p1, .ref qo] qo g0 w k (k - 1) post := by
  refine H_of (cc := cL_ifRained) (maxL := 5) (ret := some .int) (Qc := fun A => HQ cJ qo D k (k - 1) post w A) (by decide) rfl (Nat.le_of_ble_eq_true rfl) ?_
  intro p e s m below meth c A0 ls hB hT hE hX hP hK hD hA0 hl
  obtain ⟨hx, hb, hr, hml, hts, hown, hlocks⟩ := hB
  have hS : va_S A0 s.heap s.heap [] := va_S.rf
  have hl : lv_has ls 5 [(0, .ref o), (1, .int p0), (2, .int p1), (3, .ref qo)] := hl
  refine lv_aload_n hx hb dL_ifRained_0 rfl (lv_at hl 3 rfl) ?_
  refine lv_iconst (v := 0) hx hb dL_ifRained_1 (by decide) ?_
  refine lv_aload_n hx hb dL_ifRained_2 rfl (lv_at hl 0 rfl) ?_
  refine lv_iload_n hx hb dL_ifRained_3 rfl (lv_at hl 1 rfl) ?_
  refine lv_iload_n hx hb dL_ifRained_4 rfl (lv_at hl 2 rfl) ?_
  refine vx_calli (vx_runV (As := [.int p0, .int p1]) (rest := [.int 0, .ref qo]) ⟨hx, hb, hml, hown, hts⟩ (hM _) (cwV 2 hts gL_ifRained_X3_ifRained rfl rfl rfl (by decide +kernel) ⟨Nat.le_of_ble_eq_true rfl, Nat.le_of_ble_eq_true rfl⟩) (k_preYV (wr := [(qo, .inl (cJ, 1, .inr (.inl g0)))]) (wc := w) hE hX hK hP hD hS hA0 (ci := 3) (q0 := 1) rfl hw0 [.int p0, .int p1]) rfl rfl hl.1 rfl (lv_room (Nat.le_of_ble_eq_true rfl)) dL_ifRained_5 ⟨Nat.le_of_ble_eq_true rfl, Nat.le_of_ble_eq_true rfl⟩) hS (fun q9 _ h9 => k_freeR (wr := [(qo, .inl (cJ, 1, .inr (.inl g0)))]) hD hS hA0 q9 h9) (fun q9 h9 => k_freeR (wr := [(qo, .inl (cJ, 1, .inr (.inl g0)))]) hD hS hA0 q9 h9) (fun q9 _ h9 => k_freeR (wr := [(qo, .inl (cJ, 1, .inr (.inl g0)))]) hD hS hA0 q9 h9) (fun E ce q9 _ t9 H1 locs1 ht hvm _ hB9 hz hk9 hS1 hc1 hc2 hc3 => ?_) (fun x9 u9 t9 H1 locs1 ht hvm hp9 hB9 hz hk9 hS1 => ?_)
  · obtain ⟨⟨hk0, hE9⟩, hB8⟩ := hB9
    have hB8 : va_P D vwCl w t9.heap := hB8
    rw [ht] at hB8
    obtain ⟨hP, hD⟩ := k_join (wr := [(qo, .inl (cJ, 1, .inr (.inl g0)))]) (wc := w) hP hD hk9 hB8 (va_D_r hD).self (fun q h => hA0 q (Nat.le_trans hS.1 h))
    rcases hk with hk | hk
    · exact absurd hk hk0
    · subst hk
      have hE9 : E = "java/lang/IllegalArgumentException" := hE9
      subst hE9
      refine vx_catch (own := RL) (name := "java/lang/IllegalArgumentException") hown [] ⟨0, 10, 13, 15⟩ [] (by rw [hT]; rfl) (fun z hz => nomatch hz) (by decide) (by decide) (hts (.classLink RL 15 "java/lang/IllegalArgumentException") (by decide +kernel)) (va_Nw.use rfl (hX.2.2.2.2.1 eIAE (by simp))) hc1 hc2 hc3 ?_
      refine lv_astore (lv' := [(4, .ref q9), (0, .ref o), (1, .int p0), (2, .int p1), (3, .ref qo)]) hx hb dL_ifRained_13 hl (by decide) rfl (fun ls hl => ?_)
      refine lv_iconst (v := 1) hx hb dL_ifRained_15 (by decide) ?_
      exact h_iret g0 (0, w) hx hb hr hlocks hS1 hP hD dL_ifRained_16 (Or.inl ⟨by decide, rfl, rfl⟩) (fun h9 => absurd h9 (by decide)) (Nat.le_of_ble_eq_true rfl) (Nat.le_of_ble_eq_true rfl)
  · obtain ⟨hB8, hB7⟩ := hB9
    have hB8 : va_P D vwCl u9 t9.heap := hB8
    rw [ht] at hB8
    obtain ⟨hP, hD⟩ := k_join (wr := [(qo, .inl (cJ, 1, .inr (.inl g0)))]) (wc := w) hP hD hk9 hB8 hB7 (fun q h => hA0 q (Nat.le_trans hS.1 h))
    refine lv_i2l (v := x9.toInt64) hx hb dL_ifRained_8 rfl ?_
    refine va_last hx hb hK hP hD hS1 0 2 rfl rfl (vp_in_nI (n := 0) (by omega) (by omega)) dL_ifRained_9 (fun H locs hP hD hS => ?_)
    refine lv_goto (tgt := 17) hx hb dL_ifRained_10 (by decide) ?_
    refine lv_iconst (v := 0) hx hb dL_ifRained_17 (by decide) ?_
    exact h_iret _ (x9.toInt64, u9) hx hb hr hlocks hS hP hD dL_ifRained_18 (Or.inr ⟨hp9.1, rfl, x9, hp9.2, rfl⟩) (fun _ => rfl) (Nat.le_of_ble_eq_true rfl) (Nat.le_of_ble_eq_true rfl)
set_option maxHeartbeats 4000000 in
set_option maxRecDepth 100000 in
theorem hL_spillsFirst (l : Launch) (D : va_G) (cI cQ cJ : ClassId) (o qo : Nat) (g0 : Nat → Int64) (w : va_W) (fs : List Value) (hw0 : w[0]? = some (o, .inr (3, fs))) (p0 : Int32) (k : Nat) (post : Int32 → va_W → Prop) (hM : XM l D (tY cI cQ cJ) yX3_spillsFirst wsX3_spillsFirst ({ frames := 6, cells := 1, slots := 6, locals := 90 } : Room) [.ref o, .int p0] w k post) (hk : k = 0 ∨ k = 2) : HM l D (tY cI cQ cJ) cJ yL_spillsFirst wsL_spillsFirst ({ frames := 7, cells := 1, slots := 6, locals := 118 } : Room) [.ref o, .int p0, .ref qo] qo g0 w k (k - 1) post := by
  refine H_of (cc := cL_spillsFirst) (maxL := 4) (ret := some .int) (Qc := fun A => HQ cJ qo D k (k - 1) post w A) (by decide) rfl (Nat.le_of_ble_eq_true rfl) ?_
  intro p e s m below meth c A0 ls hB hT hE hX hP hK hD hA0 hl
  obtain ⟨hx, hb, hr, hml, hts, hown, hlocks⟩ := hB
  have hS : va_S A0 s.heap s.heap [] := va_S.rf
  have hl : lv_has ls 4 [(0, .ref o), (1, .int p0), (2, .ref qo)] := hl
  refine lv_aload_n hx hb dL_spillsFirst_0 rfl (lv_at hl 2 rfl) ?_
  refine lv_iconst (v := 0) hx hb dL_spillsFirst_1 (by decide) ?_
  refine lv_aload_n hx hb dL_spillsFirst_2 rfl (lv_at hl 0 rfl) ?_
  refine lv_iload_n hx hb dL_spillsFirst_3 rfl (lv_at hl 1 rfl) ?_
  refine vx_calli (vx_runV (As := [.int p0]) (rest := [.int 0, .ref qo]) ⟨hx, hb, hml, hown, hts⟩ (hM _) (cwV 1 hts gL_spillsFirst_X3_spillsFirst rfl rfl rfl (by decide +kernel) ⟨Nat.le_of_ble_eq_true rfl, Nat.le_of_ble_eq_true rfl⟩) (k_preYV (wr := [(qo, .inl (cJ, 1, .inr (.inl g0)))]) (wc := w) hE hX hK hP hD hS hA0 (ci := 3) (q0 := 1) rfl hw0 [.int p0]) rfl rfl hl.1 rfl (lv_room (Nat.le_of_ble_eq_true rfl)) dL_spillsFirst_4 ⟨Nat.le_of_ble_eq_true rfl, Nat.le_of_ble_eq_true rfl⟩) hS (fun q9 _ h9 => k_freeR (wr := [(qo, .inl (cJ, 1, .inr (.inl g0)))]) hD hS hA0 q9 h9) (fun q9 h9 => k_freeR (wr := [(qo, .inl (cJ, 1, .inr (.inl g0)))]) hD hS hA0 q9 h9) (fun q9 _ h9 => k_freeR (wr := [(qo, .inl (cJ, 1, .inr (.inl g0)))]) hD hS hA0 q9 h9) (fun E ce q9 _ t9 H1 locs1 ht hvm _ hB9 hz hk9 hS1 hc1 hc2 hc3 => ?_) (fun x9 u9 t9 H1 locs1 ht hvm hp9 hB9 hz hk9 hS1 => ?_)
  · obtain ⟨⟨hk0, hE9⟩, hB8⟩ := hB9
    have hB8 : va_P D vwCl w t9.heap := hB8
    rw [ht] at hB8
    obtain ⟨hP, hD⟩ := k_join (wr := [(qo, .inl (cJ, 1, .inr (.inl g0)))]) (wc := w) hP hD hk9 hB8 (va_D_r hD).self (fun q h => hA0 q (Nat.le_trans hS.1 h))
    rcases hk with hk | hk
    · exact absurd hk hk0
    · subst hk
      have hE9 : E = "java/lang/IllegalArgumentException" := hE9
      subst hE9
      refine vx_catch (own := RL) (name := "java/lang/IllegalArgumentException") hown [] ⟨0, 9, 12, 15⟩ [] (by rw [hT]; rfl) (fun z hz => nomatch hz) (by decide) (by decide) (hts (.classLink RL 15 "java/lang/IllegalArgumentException") (by decide +kernel)) (va_Nw.use rfl (hX.2.2.2.2.1 eIAE (by simp))) hc1 hc2 hc3 ?_
      refine lv_astore_n (lv' := [(3, .ref q9), (0, .ref o), (1, .int p0), (2, .ref qo)]) hx hb dL_spillsFirst_12 rfl hl (by decide) rfl (fun ls hl => ?_)
      refine lv_iconst (v := 1) hx hb dL_spillsFirst_13 (by decide) ?_
      exact h_iret g0 (0, w) hx hb hr hlocks hS1 hP hD dL_spillsFirst_14 (Or.inl ⟨by decide, rfl, rfl⟩) (fun h9 => absurd h9 (by decide)) (Nat.le_of_ble_eq_true rfl) (Nat.le_of_ble_eq_true rfl)
  · obtain ⟨hB8, hB7⟩ := hB9
    have hB8 : va_P D vwCl u9 t9.heap := hB8
    rw [ht] at hB8
    obtain ⟨hP, hD⟩ := k_join (wr := [(qo, .inl (cJ, 1, .inr (.inl g0)))]) (wc := w) hP hD hk9 hB8 hB7 (fun q h => hA0 q (Nat.le_trans hS.1 h))
    refine lv_i2l (v := x9.toInt64) hx hb dL_spillsFirst_7 rfl ?_
    refine va_last hx hb hK hP hD hS1 0 2 rfl rfl (vp_in_nI (n := 0) (by omega) (by omega)) dL_spillsFirst_8 (fun H locs hP hD hS => ?_)
    refine lv_goto (tgt := 15) hx hb dL_spillsFirst_9 (by decide) ?_
    refine lv_iconst (v := 0) hx hb dL_spillsFirst_15 (by decide) ?_
    exact h_iret _ (x9.toInt64, u9) hx hb hr hlocks hS hP hD dL_spillsFirst_16 (Or.inr ⟨hp9.1, rfl, x9, hp9.2, rfl⟩) (fun _ => rfl) (Nat.le_of_ble_eq_true rfl) (Nat.le_of_ble_eq_true rfl)
set_option maxHeartbeats 4000000 in
set_option maxRecDepth 100000 in
theorem hL_mostRain (l : Launch) (D : va_G) (cI cQ cJ : ClassId) (o qo : Nat) (g0 : Nat → Int64) (w : va_W) (fs : List Value) (hw0 : w[0]? = some (o, .inr (3, fs))) (p0 : Int32) (k : Nat) (post : Int32 → va_W → Prop) (hM : XM l D (tY cI cQ cJ) yX3_mostRain wsX3_mostRain ({ frames := 6, cells := 1, slots := 6, locals := 104 } : Room) [.ref o, .int p0] w k post) (hk : k = 0 ∨ k = 2) : HM l D (tY cI cQ cJ) cJ yL_mostRain wsL_mostRain ({ frames := 7, cells := 1, slots := 6, locals := 131 } : Room) [.ref o, .int p0, .ref qo] qo g0 w k (k - 1) post := by
  refine H_of (cc := cL_mostRain) (maxL := 4) (ret := some .int) (Qc := fun A => HQ cJ qo D k (k - 1) post w A) (by decide) rfl (Nat.le_of_ble_eq_true rfl) ?_
  intro p e s m below meth c A0 ls hB hT hE hX hP hK hD hA0 hl
  obtain ⟨hx, hb, hr, hml, hts, hown, hlocks⟩ := hB
  have hS : va_S A0 s.heap s.heap [] := va_S.rf
  have hl : lv_has ls 4 [(0, .ref o), (1, .int p0), (2, .ref qo)] := hl
  refine lv_aload_n hx hb dL_mostRain_0 rfl (lv_at hl 2 rfl) ?_
  refine lv_iconst (v := 0) hx hb dL_mostRain_1 (by decide) ?_
  refine lv_aload_n hx hb dL_mostRain_2 rfl (lv_at hl 0 rfl) ?_
  refine lv_iload_n hx hb dL_mostRain_3 rfl (lv_at hl 1 rfl) ?_
  refine vx_calli (vx_runV (As := [.int p0]) (rest := [.int 0, .ref qo]) ⟨hx, hb, hml, hown, hts⟩ (hM _) (cwV 1 hts gL_mostRain_X3_mostRain rfl rfl rfl (by decide +kernel) ⟨Nat.le_of_ble_eq_true rfl, Nat.le_of_ble_eq_true rfl⟩) (k_preYV (wr := [(qo, .inl (cJ, 1, .inr (.inl g0)))]) (wc := w) hE hX hK hP hD hS hA0 (ci := 3) (q0 := 1) rfl hw0 [.int p0]) rfl rfl hl.1 rfl (lv_room (Nat.le_of_ble_eq_true rfl)) dL_mostRain_4 ⟨Nat.le_of_ble_eq_true rfl, Nat.le_of_ble_eq_true rfl⟩) hS (fun q9 _ h9 => k_freeR (wr := [(qo, .inl (cJ, 1, .inr (.inl g0)))]) hD hS hA0 q9 h9) (fun q9 h9 => k_freeR (wr := [(qo, .inl (cJ, 1, .inr (.inl g0)))]) hD hS hA0 q9 h9) (fun q9 _ h9 => k_freeR (wr := [(qo, .inl (cJ, 1, .inr (.inl g0)))]) hD hS hA0 q9 h9) (fun E ce q9 _ t9 H1 locs1 ht hvm _ hB9 hz hk9 hS1 hc1 hc2 hc3 => ?_) (fun x9 u9 t9 H1 locs1 ht hvm hp9 hB9 hz hk9 hS1 => ?_)
  · obtain ⟨⟨hk0, hE9⟩, hB8⟩ := hB9
    have hB8 : va_P D vwCl w t9.heap := hB8
    rw [ht] at hB8
    obtain ⟨hP, hD⟩ := k_join (wr := [(qo, .inl (cJ, 1, .inr (.inl g0)))]) (wc := w) hP hD hk9 hB8 (va_D_r hD).self (fun q h => hA0 q (Nat.le_trans hS.1 h))
    rcases hk with hk | hk
    · exact absurd hk hk0
    · subst hk
      have hE9 : E = "java/lang/IllegalArgumentException" := hE9
      subst hE9
      refine vx_catch (own := RL) (name := "java/lang/IllegalArgumentException") hown [] ⟨0, 9, 12, 15⟩ [] (by rw [hT]; rfl) (fun z hz => nomatch hz) (by decide) (by decide) (hts (.classLink RL 15 "java/lang/IllegalArgumentException") (by decide +kernel)) (va_Nw.use rfl (hX.2.2.2.2.1 eIAE (by simp))) hc1 hc2 hc3 ?_
      refine lv_astore_n (lv' := [(3, .ref q9), (0, .ref o), (1, .int p0), (2, .ref qo)]) hx hb dL_mostRain_12 rfl hl (by decide) rfl (fun ls hl => ?_)
      refine lv_iconst (v := 1) hx hb dL_mostRain_13 (by decide) ?_
      exact h_iret g0 (0, w) hx hb hr hlocks hS1 hP hD dL_mostRain_14 (Or.inl ⟨by decide, rfl, rfl⟩) (fun h9 => absurd h9 (by decide)) (Nat.le_of_ble_eq_true rfl) (Nat.le_of_ble_eq_true rfl)
  · obtain ⟨hB8, hB7⟩ := hB9
    have hB8 : va_P D vwCl u9 t9.heap := hB8
    rw [ht] at hB8
    obtain ⟨hP, hD⟩ := k_join (wr := [(qo, .inl (cJ, 1, .inr (.inl g0)))]) (wc := w) hP hD hk9 hB8 hB7 (fun q h => hA0 q (Nat.le_trans hS.1 h))
    refine lv_i2l (v := x9.toInt64) hx hb dL_mostRain_7 rfl ?_
    refine va_last hx hb hK hP hD hS1 0 2 rfl rfl (vp_in_nI (n := 0) (by omega) (by omega)) dL_mostRain_8 (fun H locs hP hD hS => ?_)
    refine lv_goto (tgt := 15) hx hb dL_mostRain_9 (by decide) ?_
    refine lv_iconst (v := 0) hx hb dL_mostRain_15 (by decide) ?_
    exact h_iret _ (x9.toInt64, u9) hx hb hr hlocks hS hP hD dL_mostRain_16 (Or.inr ⟨hp9.1, rfl, x9, hp9.2, rfl⟩) (fun _ => rfl) (Nat.le_of_ble_eq_true rfl) (Nat.le_of_ble_eq_true rfl)
