/-! rows of my own: banks of ints, contracts whose end is one world and one answer, calls put back in place -/
abbrev rB : Type := Nat → Nat → Int32
def bp (r : rB) (k i : Nat) (x : Int32) : rB := fun a => if a = k then upd (r a) i x else r a
def EV (s : State) : Prop := va_Nw (.methodLinkNest RX1 67 yX3_isGutter RX3) s ∧ True
theorem EV.warm {s U : State} (hW : s.WarmedH U.vm) (h : EV s) : EV U := ⟨va_Nw.warmM hW h.1, trivial⟩
theorem EV.same {s U : State} (hW : s.vm = U.vm) (h : EV s) : EV U := ⟨va_Nw.same rfl hW h.1, trivial⟩
abbrev tY (cI cQ _cJ : ClassId) : List (ClassId × FieldType) := [(cI, .int), (cQ, .object "RoofDrains$Roof")]
def Prx (D : va_G) (ty : List (ClassId × FieldType)) (sz : Nat) (w : va_W) (U : State) : Prop := U.heap.size = sz ∧ EV U ∧ va_P D vwCl w U.heap ∧ va_K D vwCl ty U ∧ va_D (fun _ => True) w
theorem Prx.blind {D : va_G} {ty : List (ClassId × FieldType)} {sz : Nat} {w : va_W} {av : List Value} : FrameBlind (va_Pc av (Prx D ty sz w)) := fun a U g mk q => by
  obtain ⟨q0, q1, q2, q3, q4, q5⟩ := q
  exact ⟨q0, q1, EV.same (s := U) (U := U.calling g mk a) rfl q2, q3, va_K.moved (u := U) (U := U.calling g mk a) (Vm.Alike.refl U.vm) q4, q5⟩
/-- the world behind a method -/
abbrev Wd (D : va_G) (w : va_W) (t : State) : Prop := va_P D vwCl w t.heap
/-- contracts: from the world w to the world w', answer r; nothing new -/
def Mi (l : Launch) (D : va_G) (ty : List (ClassId × FieldType)) (y : MethodName) (ws : List Cond) (rm : Room) (av : List Value) (w w' : va_W) (r : Int32) : Prop := ∀ sz : Nat, Met l y ws rm (va_Pc av (Prx D ty sz w)) (va_Qi (fun (x : Int32) (_ : Unit) => x = r) (fun _ t => Wd D w' t) (va_A w sz)) 0 0 (va_A w sz)
def Ml (l : Launch) (D : va_G) (ty : List (ClassId × FieldType)) (y : MethodName) (ws : List Cond) (rm : Room) (av : List Value) (w w' : va_W) (r : Int64) : Prop := ∀ sz : Nat, Met l y ws rm (va_Pc av (Prx D ty sz w)) (va_Ql (fun (x : Int64) (_ : Unit) => x = r) (fun _ t => Wd D w' t) (va_A w sz)) 0 0 (va_A w sz)
def Md (l : Launch) (D : va_G) (ty : List (ClassId × FieldType)) (y : MethodName) (ws : List Cond) (rm : Room) (av : List Value) (w w' : va_W) (r : UInt64) : Prop := ∀ sz : Nat, Met l y ws rm (va_Pc av (Prx D ty sz w)) (va_Qd (fun (x : UInt64) (_ : Unit) => x = r) (fun _ t => Wd D w' t) (va_A w sz)) 0 0 (va_A w sz)
def Mv (l : Launch) (D : va_G) (ty : List (ClassId × FieldType)) (y : MethodName) (ws : List Cond) (rm : Room) (av : List Value) (w w' : va_W) : Prop := ∀ sz : Nat, Met l y ws rm (va_Pc av (Prx D ty sz w)) (va_Qv (fun (_ : Unit) => True) (fun _ t => Wd D w' t) (va_A w sz)) 0 0 (va_A w sz)
/-- what a body has at its entry -/
def BF (p : Program) (s : State) (m : MethodId) (args : Array Value) (meth : Method) (c : Code) (cc : ByteArray) (maxL : Nat) (ret : Option FieldType) (Ts : List Cond) (own : String) : Prop :=
  p.tables.exec = Jvm.exec ∧ c.code = cc ∧ meth.sig.returnType = ret ∧ c.maxLocals = maxL ∧ (∀ w ∈ Ts, w.before args s = true) ∧ s.vm.findClass own = some m.cls ∧ meth.locks = false
theorem M_of {l : Launch} {D : va_G} {ty : List (ClassId × FieldType)} {y : MethodName} {ws ws' : List Cond} {rm : Room} {av : List Value} {w : va_W} {cc : ByteArray} {maxL : Nat} {ret : Option FieldType} {Qc : (Nat → Prop) → Array Value → State → Outcome → State → Prop} {mc ms : Nat}
    (hy : plainName y.cls = true) (hw : ws = Cond.code y cc maxL ret :: ws') (hn : (lg_sl av).length ≤ maxL)
    (body : ∀ (p : Program) (e : Env) (s : State) (m : MethodId) (below : List Frame) (meth : Method) (c : Code) (A : Nat → Prop) (ls : Array Slot), BF p s m av.toArray meth c cc maxL ret ws y.cls → EV s → va_P D vwCl w s.heap → va_K D vwCl ty s → va_D A w → (∀ q, s.heap.size ≤ q → A q) → lv_has ls maxL (lv_args 0 av) →
      W p l e rm s m av.toArray below meth c s.heap [] 0 0 (MQ below (Qc A) av.toArray s mc ms A) (F0 m 0 ls [])) (sz : Nat) : Met l y ws rm (va_Pc av (Prx D ty sz w)) (Qc (va_A w sz)) mc ms (va_A w sz) := by
  refine Met.ofW (cc := cc) (maxL := maxL) (ret := ret) hy hw ?_
  intro p e s m args below meth c s₁ B hml hv
  obtain ⟨rfl, hsz, hE, hP, hK, hD0⟩ := hv
  subst hsz
  have hl := lv_entry av (n := maxL) hn
  rw [lg_entry_eq]
  exact body p e s m below meth c _ _ ⟨B.exec, B.bytes, B.returns, hml, atoms_spec (ws := ws) B.pre, findClass_of_methodNamed B.named, B.notSynchronized⟩ hE hP hK hD0.self (fun q h => Or.inr h) hl
section KR
variable {p : Program} {l : Launch} {e : Env} {R : Room} {s : State} {m : MethodId} {args : Array Value} {below : List Frame} {meth : Method} {c : Code} {H : Heap} {locs : List Loc} {cells slots : Nat} {Q : State → Prop}
variable {cc : ByteArray} {pc : Nat} {ls : Array Slot} {rest st0 : List Value} {D : va_G} {A : Nat → Prop} {a : Nat} {tys : List (ClassId × FieldType)} {ws : va_W} {H0 : Heap} {cl : List vw_C}
theorem k_iret {w' : va_W} {r v : Int32} (hx : p.tables.exec = Jvm.exec) (hb : c.code = cc) (hr : meth.sig.returnType = some .int) (hlocks : meth.locks = false) (hS : va_S A s.heap H locs) (hP : va_P D vwCl w' H) (hdg : decode cc pc = .ok (.ireturn, 1)) (hv : v = r) :
    W p l e R s m args below meth c H locs cells slots (MQ below (va_Qi (fun (x : Int32) (_ : Unit) => x = r) (fun _ t => Wd D w' t) A) args s cells slots A) (F0 m pc ls [.int v]) :=
  W.iret hx hb hr (fun t ht hW => ⟨⟨v, (), rfl, hv, by show va_P D vwCl w' t.heap; rw [ht]; exact hP⟩, hS.F ht⟩) hS.2.2 hdg hlocks
theorem k_zret {w' : va_W} {r v : Int32} (hx : p.tables.exec = Jvm.exec) (hb : c.code = cc) (hr : meth.sig.returnType = some .boolean) (hlocks : meth.locks = false) (hS : va_S A s.heap H locs) (hP : va_P D vwCl w' H) (hdg : decode cc pc = .ok (.ireturn, 1)) (hn : narrow .boolean (.int v) = .int v) (hv : v = r) :
    W p l e R s m args below meth c H locs cells slots (MQ below (va_Qi (fun (x : Int32) (_ : Unit) => x = r) (fun _ t => Wd D w' t) A) args s cells slots A) (F0 m pc ls [.int v]) :=
  W.zret hx hb hr hn (fun t ht hW => ⟨⟨v, (), rfl, hv, by show va_P D vwCl w' t.heap; rw [ht]; exact hP⟩, hS.F ht⟩) hS.2.2 hdg hlocks
theorem k_vret {w' : va_W} (hx : p.tables.exec = Jvm.exec) (hb : c.code = cc) (hr : meth.sig.returnType = none) (hlocks : meth.locks = false) (hS : va_S A s.heap H locs) (hP : va_P D vwCl w' H) (hdg : decode cc pc = .ok (.return_, 1)) :
    W p l e R s m args below meth c H locs cells slots (MQ below (va_Qv (fun (_ : Unit) => True) (fun _ t => Wd D w' t) A) args s cells slots A) (F0 m pc ls []) :=
  W.vret hx hb hr (fun t ht hW => ⟨⟨(), rfl, trivial, by show va_P D vwCl w' t.heap; rw [ht]; exact hP⟩, hS.F ht⟩) hS.2.2 hdg hlocks
theorem k_iald (hx : p.tables.exec = Jvm.exec) (hb : c.code = cc) (hK : va_K D cl tys s) (hP : va_P D cl ws H) (q0 t0 : Nat) {cA : ClassId} {n : Nat} {f : Nat → Int32} (ha : ws[q0]? = some (a, .inl (cA, n, .inl f))) (ht : tys[t0]? = some (cA, .int)) {i : Int32} {k : Nat} {v : Int32} (hin : vp_in i n) (hk : i.toNatClampNeg = k) (hv : f k = v) (hdg : decode cc pc = .ok (.iaload, 1))
    (kk : W p l e R s m args below meth c H locs cells slots Q (F0 m (pc + 1) ls (.int v :: rest))) : W p l e R s m args below meth c H locs cells slots Q (F0 m pc ls (.int i :: .ref a :: rest)) := by
  subst hk; subst hv
  exact va_iald hx hb hK hP q0 t0 ha ht hin hdg kk
theorem k_iast (hx : p.tables.exec = Jvm.exec) (hb : c.code = cc) (hK : va_K D cl tys s) (hP : va_P D cl ws H) (hD : va_D A ws) (hS : va_S A H0 H locs) (q0 t0 : Nat) {cA : ClassId} {n : Nat} {f : Nat → Int32} (ha : ws[q0]? = some (a, .inl (cA, n, .inl f))) (ht : tys[t0]? = some (cA, .int)) {i : Int32} {x : Int32} {k : Nat} {ws' : va_W} (hin : vp_in i n) (hk : i.toNatClampNeg = k) (hw : ws.set q0 (a, .inl (cA, n, .inl (upd f k x))) = ws') (hdg : decode cc pc = .ok (.iastore, 1))
    (kk : ∀ (H : Heap) (locs : List Loc), va_P D cl ws' H → va_D A ws' → va_S A H0 H locs → W p l e R s m args below meth c H locs cells slots Q (F0 m (pc + 1) ls rest)) : W p l e R s m args below meth c H locs cells slots Q (F0 m pc ls (.int x :: .int i :: .ref a :: rest)) := by
  subst hk; subst hw
  exact va_iast hx hb hK hP hD hS q0 t0 ha ht hin hdg kk
theorem k_put (hexec : p.tables.exec = Jvm.exec) (hb : c.code = cc) {own ref C : String} {T : u_T} {N ci index : Nat} {Ts : List Cond} (hts : ∀ w ∈ Ts, w.before args s = true) (hin : ∀ w ∈ u_ws C T N, w ∈ Ts) (ty0 : Nat → FieldType) (hty : ∀ k, k < N → parseFieldDescriptor (T k).2.2.1 = some (ty0 k)) (hnm : ∀ a, a < N → ∀ b, b < N → a ≠ b → (T a).2.1 ≠ (T b).2.1) (hown : s.vm.findClass own = some m.cls) (hK : va_K D cl tys s) (hP : va_P D cl ws H) (hD : va_D A ws) (hS0 : va_S A H0 H locs) (q0 : Nat) {fs : List Value} (he : ws[q0]? = some (a, .inr (ci, fs))) (hc : cl[ci]? = some (C, T, N)) (k : Nat) (hk : k < N) (hlink : (Cond.fieldLink own index ref (T k).2.1 (T k).2.2.1).before args s = true) (hsame : ∀ x, s.fieldFound? (T k).1 (T k).2.1 (T k).2.2.1 = some x → s.fieldFound? ref (T k).2.1 (T k).2.2.1 = some x) (hfin : (T k).2.2.2 = false) {ty : FieldType} {v : Value} (hd : parseFieldDescriptor (T k).2.2.1 = some ty) (hn : narrow ty v = v) (hfit : fits ty v = true) (hl : k < fs.length) {ws' : va_W} (hw : ws.set q0 (a, .inr (ci, fs.set k v)) = ws')
    (hdg : decode cc pc = .ok (.putfield index, 3)) (kk : ∀ (H : Heap) (locs : List Loc), va_P D cl ws' H → va_D A ws' → va_S A H0 H locs → W p l e R s m args below meth c H locs cells slots Q (F0 m (pc + 3) ls rest)) : W p l e R s m args below meth c H locs cells slots Q (F0 m pc ls (v :: .ref a :: rest)) := by
  subst hw
  exact va_put hexec hb hts hin ty0 hty hnm hown hK hP hD hS0 q0 he hc k hk hlink hsame hfin hd hn hfit hl hdg kk
theorem lv_eqi {x y : Int32} (h : x = y) (k : W p l e R s m args below meth c H locs cells slots Q (F0 m pc ls (.int y :: rest))) : W p l e R s m args below meth c H locs cells slots Q (F0 m pc ls (.int x :: rest)) := by subst h; exact k
theorem k_lret {w' : va_W} {r v : Int64} (hx : p.tables.exec = Jvm.exec) (hb : c.code = cc) (hr : meth.sig.returnType = some .long) (hlocks : meth.locks = false) (hS : va_S A s.heap H locs) (hP : va_P D vwCl w' H) (hdg : decode cc pc = .ok (.lreturn, 1)) (hv : v = r) :
    W p l e R s m args below meth c H locs cells slots (MQ below (va_Ql (fun (x : Int64) (_ : Unit) => x = r) (fun _ t => Wd D w' t) A) args s cells slots A) (F0 m pc ls [.long v]) :=
  W.lret hx hb hr (fun t ht hW => ⟨⟨v, (), rfl, hv, by show va_P D vwCl w' t.heap; rw [ht]; exact hP⟩, hS.F ht⟩) hS.2.2 hdg hlocks
theorem k_dret {w' : va_W} {r v : UInt64} (hx : p.tables.exec = Jvm.exec) (hb : c.code = cc) (hr : meth.sig.returnType = some .double) (hlocks : meth.locks = false) (hS : va_S A s.heap H locs) (hP : va_P D vwCl w' H) (hdg : decode cc pc = .ok (.dreturn, 1)) (hv : v = r) :
    W p l e R s m args below meth c H locs cells slots (MQ below (va_Qd (fun (x : UInt64) (_ : Unit) => x = r) (fun _ t => Wd D w' t) A) args s cells slots A) (F0 m pc ls [.double v]) :=
  W.dret hx hb hr (fun t ht hW => ⟨⟨v, (), rfl, hv, by show va_P D vwCl w' t.heap; rw [ht]; exact hP⟩, hS.F ht⟩) hS.2.2 hdg hlocks
end KR
/-- the cells of w' put into w at the places is -/
def putAt : va_W → List Nat → va_W → va_W
  | w, i :: is, e :: es => putAt (w.set i e) is es
  | w, _, _ => w
theorem putAt_P {D : va_G} {cl : List vw_C} {H : Heap} : ∀ (is : List Nat) (w' w : va_W), is.length = w'.length → (∀ (k : Nat) (q : Nat × va_E), w[k]? = some q → k ∈ is ∨ va_at D cl q H) → va_P D cl w' H → va_P D cl (putAt w is w') H
  | [], w', w, hl, h, hw => by
    cases w' with
    | nil => intro k q hq; rcases h k q hq with h1 | h1; cases h1; exact h1
    | cons a b => simp at hl
  | i :: is, w', w, hl, h, hw => by
    cases w' with
    | nil => simp at hl
    | cons e es =>
      show va_P D cl (putAt (w.set i e) is es) H
      refine putAt_P is es (w.set i e) (by simpa using hl) ?_ (fun k q hk => hw (k + 1) q (by simpa using hk))
      intro k q hq
      by_cases hki : i = k
      · subst hki
        have hlt : i < w.length := by
          have := (List.getElem?_eq_some_iff.mp hq).1
          simpa using this
        rw [List.getElem?_set_self hlt] at hq
        cases hq
        exact Or.inr (hw 0 e rfl)
      · rw [List.getElem?_set_ne hki] at hq
        rcases h k q hq with h1 | h1
        · rcases List.mem_cons.mp h1 with h2 | h2
          · exact absurd h2.symm hki
          · exact Or.inl h2
        · exact Or.inr h1
theorem va_D_fst {A : Nat → Prop} {w w' : va_W} (h : va_D A w) (e : w'.map Prod.fst = w.map Prod.fst) : va_D A w' := by
  have key : ∀ (k : Nat) (q : Nat × va_E), w'[k]? = some q → ∃ q0, w[k]? = some q0 ∧ q0.1 = q.1 := by
    intro k q hq
    have h1 : (w'.map Prod.fst)[k]? = some q.1 := by rw [List.getElem?_map, hq]; rfl
    rw [e, List.getElem?_map] at h1
    cases hk : w[k]? with
    | none => rw [hk] at h1; cases h1
    | some q0 => rw [hk] at h1; exact ⟨q0, rfl, Option.some.inj h1⟩
  refine ⟨fun i j x y hi hj hxy => ?_, fun k q hk => ?_⟩
  · obtain ⟨x0, h1, h2⟩ := key i x hi
    obtain ⟨y0, h3, h4⟩ := key j y hj
    exact h.1 i j x0 y0 h1 h3 (h2.trans (hxy.trans h4.symm))
  · obtain ⟨q0, h1, h2⟩ := key k q hk
    rw [← h2]; exact h.2 k q0 h1
theorem putAt_fst : ∀ (is : List Nat) (w' w : va_W), is.map (fun i => (w.map Prod.fst)[i]?) = (w'.map Prod.fst).map some → (putAt w is w').map Prod.fst = w.map Prod.fst
  | [], w', w, _ => by cases w' <;> rfl
  | i :: is, w', w, h => by
    cases w' with
    | nil => rfl
    | cons e es =>
      simp only [List.map_cons, List.cons.injEq] at h
      have h1 : (w.set i e).map Prod.fst = w.map Prod.fst := by
        apply List.ext_getElem?
        intro k
        by_cases hk : i = k
        · subst hk
          rw [List.getElem?_map, h.1]
          have hlt : i < w.length := by
            have := (List.getElem?_eq_some_iff.mp h.1).1
            simpa using this
          rw [List.getElem?_set_self hlt]; rfl
        · rw [List.getElem?_map, List.getElem?_set_ne hk, List.getElem?_map]
      show (putAt (w.set i e) is es).map Prod.fst = w.map Prod.fst
      rw [putAt_fst is es (w.set i e) (by rw [h1]; exact h.2), h1]
/-- a call's world behind it -/
theorem k_back {A0 : Nat → Prop} {D : va_G} {cl : List vw_C} {ws wc w' wn : va_W} {H H1 : Heap} (hP : va_P D cl ws H) (hD : va_D A0 ws) (isC : List Nat) (hC : isC.map (fun i => ws[i]?) = wc.map some) (ha : w'.map Prod.fst = wc.map Prod.fst) (hn : putAt ws isC w' = wn)
    (hk : ∀ q : Nat, q < H.size → ¬ va_A wc H.size q → H1[q]? = H[q]?) (hP1 : va_P D cl w' H1) : va_P D cl wn H1 ∧ va_D A0 wn := by
  have hlen : isC.length = wc.length := by have := congrArg List.length hC; simpa using this
  have hlen2 : w'.length = wc.length := by have := congrArg List.length ha; simpa using this
  subst hn
  refine ⟨putAt_P isC w' ws (hlen.trans hlen2.symm) (fun k q hq => ?_) hP1, va_D_fst hD (putAt_fst isC w' ws ?_)⟩
  · by_cases hki : k ∈ isC
    · exact Or.inl hki
    · refine Or.inr ((hP k q hq).kept (hk q.1 (hP k q hq).lt (fun h => ?_)))
      rcases h with ⟨k2, e, h⟩ | h
      · have h1 : (isC.map (fun i => ws[i]?))[k2]? = some (some (q.1, e)) := by rw [hC, List.getElem?_map, h]; rfl
        rw [List.getElem?_map] at h1
        cases hi : isC[k2]? with
        | none => rw [hi] at h1; cases h1
        | some i =>
          rw [hi] at h1
          have h4 : ws[i]? = some (q.1, e) := Option.some.inj h1
          have := hD.1 k i q (q.1, e) hq h4 rfl
          subst this
          exact hki (List.mem_of_getElem? hi)
      · exact absurd (hP k q hq).lt (Nat.not_lt.mpr h)
  · have : ∀ (l : List Nat) (g : va_W), l.map (fun i => ws[i]?) = g.map some → l.map (fun i => (ws.map Prod.fst)[i]?) = (g.map Prod.fst).map some := by
      intro l g hlg
      have h2 := congrArg (List.map (Option.map Prod.fst)) hlg
      simp only [List.map_map] at h2 ⊢
      refine Eq.trans (List.map_congr_left fun i _ => ?_) (h2.trans (List.map_congr_left fun i _ => rfl))
      show (ws.map Prod.fst)[i]? = Option.map Prod.fst ws[i]?
      rw [List.getElem?_map]
    rw [this isC wc hC, ha]
section KC
variable {p : Program} {l : Launch} {e : Env} {R : Room} {s : State} {m : MethodId} {args : Array Value} {below : List Frame} {meth : Method} {c : Code} {H : Heap} {locs : List Loc} {cells slots : Nat} {Q : State → Prop}
variable {pc : Nat} {ls : Array Slot} {rest st0 : List Value} {a : Array Value} {A : Nat → Prop} {H0 : Heap} {mc ms : Nat} {D : va_G} {tys : List (ClassId × FieldType)} {w wc w' wn : va_W}
theorem k_preS (hE : EV s) (hK : va_K D vwCl tys s) (hP : va_P D vwCl w H) (hD : va_D A w) (isC : List Nat) (hnd : va_nd isC = true) (hC : isC.map (fun i => w[i]?) = wc.map some) (av : List Value) : PreS s H (va_Pc av (Prx D tys H.size wc)) av := by
  have hC2 : isC.filterMap (fun i => w[i]?) = wc := by
    have : ∀ (is : List Nat) (g : va_W), is.map (fun i => w[i]?) = g.map some → is.filterMap (fun i => w[i]?) = g := by
      intro is
      induction is with
      | nil => intro g hg; cases g with
        | nil => rfl
        | cons x y => simp at hg
      | cons i is ih =>
        intro g hg
        cases g with
        | nil => simp at hg
        | cons x y =>
          simp only [List.map_cons, List.cons.injEq] at hg
          rw [List.filterMap_cons, hg.1, ih y hg.2]
    exact this isC wc hC
  have hPc := hP.sub isC hC2
  have hDc := hD.sub isC hnd hC
  exact ⟨Prx.blind, fun U hU hW => ⟨rfl, by rw [hU], hE.warm hW, by rw [hU]; exact hPc, va_K.moved hW.alike hK, hDc.weaken (fun _ _ _ _ => trivial)⟩⟩
theorem k_preV (hE : EV s) (hK : va_K D vwCl tys s) (hP : va_P D vwCl w H) (hD : va_D A w) (isC : List Nat) (hnd : va_nd isC = true) (hC : isC.map (fun i => w[i]?) = wc.map some) {b ci q0 : Nat} {q : vw_C} {fs : List Value} (hc : vwCl[ci]? = some q) (he : w[q0]? = some (b, .inr (ci, fs))) (As : List Value) : PreV s H q.1 b (va_Pc (.ref b :: As) (Prx D tys H.size wc)) As :=
  ⟨(k_preS hE hK hP hD isC hnd hC (.ref b :: As)).1, va_recv hK hP hc he, (k_preS hE hK hP hD isC hnd hC (.ref b :: As)).2⟩
theorem k_calli {r : Int32} (hr : va_Run p l e R s m args below meth c H locs cells slots 0 0 (F0 m pc ls st0) rest (va_Qi (fun (x : Int32) (_ : Unit) => x = r) (fun _ t => Wd D w' t) (va_A wc H.size) a) (va_A wc H.size)) (hP : va_P D vwCl w H) (hD : va_D A w) (hS : va_S A H0 H locs) (hA : ∀ q, H0.size ≤ q → A q) (isC : List Nat) (hC : isC.map (fun i => w[i]?) = wc.map some) (ha : w'.map Prod.fst = wc.map Prod.fst) (hn : putAt w isC w' = wn)
    (kk : ∀ (H : Heap) (locs : List Loc), va_P D vwCl wn H → va_D A wn → va_S A H0 H locs → W p l e R s m args below meth c H locs cells slots Q (F0 m (pc + 3) ls (.int r :: rest))) : W p l e R s m args below meth c H locs cells slots Q (F0 m pc ls st0) := by
  have hF := va_free (wc := wc) hD hS hA isC hC
  refine va_calli hr hS (fun q _ h => hF q h) hF (fun r_2 u t H1 locs ht hvm hw hB hz1 hk1 hS => ?_)
  subst hw
  have hB : va_P D vwCl w' t.heap := hB
  rw [ht] at hB
  obtain ⟨h1, h2⟩ := k_back hP hD isC hC ha hn hk1 hB
  exact kk H1 locs h1 h2 hS
theorem k_calll {r : Int64} (hr : va_Run p l e R s m args below meth c H locs cells slots 0 0 (F0 m pc ls st0) rest (va_Ql (fun (x : Int64) (_ : Unit) => x = r) (fun _ t => Wd D w' t) (va_A wc H.size) a) (va_A wc H.size)) (hP : va_P D vwCl w H) (hD : va_D A w) (hS : va_S A H0 H locs) (hA : ∀ q, H0.size ≤ q → A q) (isC : List Nat) (hC : isC.map (fun i => w[i]?) = wc.map some) (ha : w'.map Prod.fst = wc.map Prod.fst) (hn : putAt w isC w' = wn)
    (kk : ∀ (H : Heap) (locs : List Loc), va_P D vwCl wn H → va_D A wn → va_S A H0 H locs → W p l e R s m args below meth c H locs cells slots Q (F0 m (pc + 3) ls (.long r :: rest))) : W p l e R s m args below meth c H locs cells slots Q (F0 m pc ls st0) := by
  have hF := va_free (wc := wc) hD hS hA isC hC
  refine va_calll hr hS (fun q _ h => hF q h) hF (fun r_2 u t H1 locs ht hvm hw hB hz1 hk1 hS => ?_)
  subst hw
  have hB : va_P D vwCl w' t.heap := hB
  rw [ht] at hB
  obtain ⟨h1, h2⟩ := k_back hP hD isC hC ha hn hk1 hB
  exact kk H1 locs h1 h2 hS
theorem k_calld {r : UInt64} (hr : va_Run p l e R s m args below meth c H locs cells slots 0 0 (F0 m pc ls st0) rest (va_Qd (fun (x : UInt64) (_ : Unit) => x = r) (fun _ t => Wd D w' t) (va_A wc H.size) a) (va_A wc H.size)) (hP : va_P D vwCl w H) (hD : va_D A w) (hS : va_S A H0 H locs) (hA : ∀ q, H0.size ≤ q → A q) (isC : List Nat) (hC : isC.map (fun i => w[i]?) = wc.map some) (ha : w'.map Prod.fst = wc.map Prod.fst) (hn : putAt w isC w' = wn)
    (kk : ∀ (H : Heap) (locs : List Loc), va_P D vwCl wn H → va_D A wn → va_S A H0 H locs → W p l e R s m args below meth c H locs cells slots Q (F0 m (pc + 3) ls (.double r :: rest))) : W p l e R s m args below meth c H locs cells slots Q (F0 m pc ls st0) := by
  have hF := va_free (wc := wc) hD hS hA isC hC
  refine va_calld hr hS (fun q _ h => hF q h) hF (fun r_2 u t H1 locs ht hvm hw hB hz1 hk1 hS => ?_)
  subst hw
  have hB : va_P D vwCl w' t.heap := hB
  rw [ht] at hB
  obtain ⟨h1, h2⟩ := k_back hP hD isC hC ha hn hk1 hB
  exact kk H1 locs h1 h2 hS
theorem k_callv (hr : va_Run p l e R s m args below meth c H locs cells slots 0 0 (F0 m pc ls st0) rest (va_Qv (fun (_ : Unit) => True) (fun _ t => Wd D w' t) (va_A wc H.size) a) (va_A wc H.size)) (hP : va_P D vwCl w H) (hD : va_D A w) (hS : va_S A H0 H locs) (hA : ∀ q, H0.size ≤ q → A q) (isC : List Nat) (hC : isC.map (fun i => w[i]?) = wc.map some) (ha : w'.map Prod.fst = wc.map Prod.fst) (hn : putAt w isC w' = wn)
    (kk : ∀ (H : Heap) (locs : List Loc), va_P D vwCl wn H → va_D A wn → va_S A H0 H locs → W p l e R s m args below meth c H locs cells slots Q (F0 m (pc + 3) ls rest)) : W p l e R s m args below meth c H locs cells slots Q (F0 m pc ls st0) := by
  have hF := va_free (wc := wc) hD hS hA isC hC
  refine va_callv hr hS (fun q _ h => hF q h) hF (fun u t H1 locs ht hvm hw hB hz1 hk1 hS => ?_)
  have hB : va_P D vwCl w' t.heap := hB
  rw [ht] at hB
  obtain ⟨h1, h2⟩ := k_back hP hD isC hC ha hn hk1 hB
  exact kk H1 locs h1 h2 hS
end KC
/-- the cells of one Roof: its object and its twelve arrays -/
def cR (cI : ClassId) (a : Nat → Nat) (r : rB) : va_W := [(a 0, .inr (1, [.ref (a 1), .ref (a 2), .ref (a 3), .ref (a 4), .ref (a 5), .ref (a 6), .ref (a 7), .ref (a 8), .ref (a 9), .ref (a 10), .ref (a 11), .ref (a 12), .int (r 12 0), .int (r 12 1), .int (r 12 2), .int (r 12 3)])), (a 1, .inl (cI, 6, .inl (r 0))), (a 2, .inl (cI, 6, .inl (r 1))), (a 3, .inl (cI, 6, .inl (r 2))), (a 4, .inl (cI, 6, .inl (r 3))), (a 5, .inl (cI, 6, .inl (r 4))), (a 6, .inl (cI, 6, .inl (r 5))), (a 7, .inl (cI, 6, .inl (r 6))), (a 8, .inl (cI, 6, .inl (r 7))), (a 9, .inl (cI, 6, .inl (r 8))), (a 10, .inl (cI, 6, .inl (r 9))), (a 11, .inl (cI, 6, .inl (r 10))), (a 12, .inl (cI, 3, .inl (r 11)))]
/-- the cells of the text: codes, length -/
def cT (cI : ClassId) (a : Nat → Nat) (r : rB) : va_W := [(a 0, .inr (0, [.ref (a 1), .int (r 1 0)])), (a 1, .inl (cI, 60, .inl (r 0)))]
theorem bp_rw {r : rB} {k k2 i j : Nat} {x : Int32} (h : k2 ≠ k) : bp r k i x k2 j = r k2 j := by simp [bp, h]
theorem bp_eq {r : rB} {k i : Nat} {x : Int32} : bp r k i x k i = x := by simp [bp, upd]
theorem bp_ne {r : rB} {k i j : Nat} {x : Int32} (h : j ≠ i) : bp r k i x k j = r k j := by simp [bp, upd, h]
