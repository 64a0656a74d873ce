section
-- ===== PART A: goes FIRST, ahead of the names: the tables' words, and 'selects' of the private methods out of them =====
/-- a private method of a class that the tables say can be made, by its rows of tables_1 -/
def lw_okq (q : MethodName × Nat) : Prop := (q.1.cls ≠ "java/lang/invoke/MethodHandle" ∧ q.1.cls ≠ "java/lang/invoke/VarHandle") ∧ Cond.instantiable q.1.cls q.2 ∈ tables_1 ∧ Cond.privateMethod q.1 ∈ tables_1 ∧ Cond.instanceMethod q.1 ∈ tables_1
theorem lw_p0 : lw_okq (⟨"java/lang/Throwable", "fillInStackTrace", "(I)Ljava/lang/Throwable;"⟩, 6) := ⟨⟨by decide +kernel, by decide +kernel⟩, List.mem_of_getElem? (i := 167) (by decide +kernel), List.mem_of_getElem? (i := 165) (by decide +kernel), List.mem_of_getElem? (i := 166) (by decide +kernel)⟩
theorem lw_p1 : lw_okq (⟨"RoofDrains$Roof", "room", "(I)I"⟩, 16) := ⟨⟨by decide +kernel, by decide +kernel⟩, List.mem_of_getElem? (i := 22) (by decide +kernel), List.mem_of_getElem? (i := 313) (by decide +kernel), List.mem_of_getElem? (i := 314) (by decide +kernel)⟩
theorem lw_p2 : lw_okq (⟨"RoofDrains$Roof", "pipeTakes", "(I)I"⟩, 16) := ⟨⟨by decide +kernel, by decide +kernel⟩, List.mem_of_getElem? (i := 22) (by decide +kernel), List.mem_of_getElem? (i := 317) (by decide +kernel), List.mem_of_getElem? (i := 318) (by decide +kernel)⟩
theorem lw_p3 : lw_okq (⟨"RoofDrains$Roof", "wetPlane", "(II)V"⟩, 16) := ⟨⟨by decide +kernel, by decide +kernel⟩, List.mem_of_getElem? (i := 22) (by decide +kernel), List.mem_of_getElem? (i := 428) (by decide +kernel), List.mem_of_getElem? (i := 429) (by decide +kernel)⟩
theorem lw_p4 : lw_okq (⟨"RoofDrains$Roof", "emptyIntoDrain", "()V"⟩, 16) := ⟨⟨by decide +kernel, by decide +kernel⟩, List.mem_of_getElem? (i := 22) (by decide +kernel), List.mem_of_getElem? (i := 432) (by decide +kernel), List.mem_of_getElem? (i := 433) (by decide +kernel)⟩
theorem lw_p5 : lw_okq (⟨"RoofDrains$Roof", "overflow", "(I)V"⟩, 16) := ⟨⟨by decide +kernel, by decide +kernel⟩, List.mem_of_getElem? (i := 22) (by decide +kernel), List.mem_of_getElem? (i := 436) (by decide +kernel), List.mem_of_getElem? (i := 437) (by decide +kernel)⟩
def lw_privs_1 : List (MethodName × Nat) := [(⟨"java/lang/Throwable", "fillInStackTrace", "(I)Ljava/lang/Throwable;"⟩, 6), (⟨"RoofDrains$Roof", "room", "(I)I"⟩, 16), (⟨"RoofDrains$Roof", "pipeTakes", "(I)I"⟩, 16), (⟨"RoofDrains$Roof", "wetPlane", "(II)V"⟩, 16), (⟨"RoofDrains$Roof", "emptyIntoDrain", "()V"⟩, 16), (⟨"RoofDrains$Roof", "overflow", "(I)V"⟩, 16)]
theorem lw_r1 : ∀ q ∈ lw_privs_1, lw_okq q := List.forall_mem_cons.mpr ⟨lw_p0, List.forall_mem_cons.mpr ⟨lw_p1, List.forall_mem_cons.mpr ⟨lw_p2, List.forall_mem_cons.mpr ⟨lw_p3, List.forall_mem_cons.mpr ⟨lw_p4, List.forall_mem_cons.mpr ⟨lw_p5, fun _ h => absurd h List.not_mem_nil⟩⟩⟩⟩⟩⟩
def lw_privs : List (MethodName × Nat) := lw_privs_1
def lw_tbl : List Cond := k2_sels lw_privs ++ tables_1
theorem lw_privs_ok : ∀ q ∈ lw_privs, lw_okq q := lw_r1
/-- the streams that the claim lets the run draw from -/
abbrev lw_cs : List Choice := [Jvm.Choice.named "NaN.bits"]
theorem lw_bits : nanBits ∈ lw_cs := by first | decide | exact List.mem_cons_self | simp [lw_cs, nanBits]
end
section
/-! ===== BEGIN words of one list among another's, by their places ===== -/
theorem goodIn_r {big : List Cond} (ws : List Cond) (ps : List Nat) (hp : ws = ps.filterMap (fun i => big[i]?)) (h : ws.all goodWord = true) : GoodIn big ws := by
  intro w hw
  have h1 := List.all_eq_true.mp h w hw
  rw [hp] at hw
  obtain ⟨i, -, hi⟩ := List.mem_filterMap.mp hw
  have hm : w ∈ big := by first | exact List.mem_of_getElem? hi | exact List.getElem?_mem hi
  exact ⟨hm, good_of_word h1⟩
theorem goodIn_app {big a b : List Cond} (ha : GoodIn big a) (hb : GoodIn big b) : GoodIn big (a ++ b) := fun w h => (List.mem_append.mp h).elim (ha w) (hb w)
theorem goodIn_ca {big a b : List Cond} {c : Cond} (ha : GoodIn big (c :: a)) (hb : GoodIn big b) : GoodIn big (c :: (a ++ b)) := fun w h => (List.mem_cons.mp h).elim (fun e => ha w (List.mem_cons.mpr (Or.inl e))) (fun h => (List.mem_append.mp h).elim (fun h => ha w (List.mem_cons.mpr (Or.inr h))) (hb w))
theorem goodIn_sub {big ws : List Cond} (hm : ∀ w ∈ ws, w ∈ big) (h : ws.all goodWord = true) : GoodIn big ws := fun w hw => ⟨hm w hw, good_of_word (List.all_eq_true.mp h w hw)⟩
/-! ===== END ===== -/

/-! ===== BEGIN exceptions that leave a method, and their catching by the caller (launches without stack traces) ===== -/
section VXA
/-! The laws vx_back, vx_callV, vx_callS, vx_callSW, vx_throw0, vx_throwS follow proofs of the library, with one case more: JvmDerived/Free/Laws.lean (Back.of_free), Shelf42/LK1.lean (callV, callS), Shelf/KitTraced.lean (throwNew0V, throwNewS). -/
/-- where a method has thrown q: the class by its name, the cell, what was written, the world -/
def vx_T (XC : String → State → State → Prop) (st : State) (q : Addr) (t : State) (mc ms : Nat) (free : Addr → Prop) : Prop :=
  ∃ (E : String) (ce : Cell) (L : List Loc), XC E st t ∧ t.heap[q]? = some ce ∧ ce.vm = .none ∧ st.vm.findClass E = some ce.cls ∧ st.WarmedH t.vm ∧ st.sameButNew ({ t with vm := st.vm } : State) L mc ms ∧ ∀ z ∈ L, free z.base
def vx_Q (Qc : Array Value → State → Outcome → State → Prop) (XC : String → State → State → Prop) (mc ms : Nat) (free : Addr → Prop) : Array Value → State → Outcome → State → Prop := fun a st o t =>
  (Qc a st o t ∧ ∃ L, FrameEnd st o t L mc ms ∧ ∀ q ∈ L, free q.base) ∨ ∃ q, o = .threw q ∧ vx_T XC st q t mc ms free
/-- a callee that returns or throws -/
def vx_Met (l : Launch) (y : MethodName) (ws : List Cond) (rm : Room) (Pc : Array Value → State → Prop) (Qc : Array Value → State → Outcome → State → Prop) (XC : String → State → State → Prop) (mc ms : Nat) (free : Addr → Prop) : Prop :=
  MetFree l y (headSpec ws rm) Pc (fun _ _ _ _ _ => True) (vx_Q Qc XC mc ms free)
def vx_Post (XC : String → State → State → Prop) (mc ms : Nat) (free : Addr → Prop) : Pt → Array Value → Addr → Pt → Prop := fun A a q B =>
  ∃ (g : JFrame) (mk : MethodId) (t : State) (L : List Loc) (E : String) (ce : Cell), B.U.heap = t.heap ∧ B.U.vm = t.vm ∧ XC E (A.U.calling g mk a) t ∧ t.heap[q]? = some ce ∧ ce.vm = .none ∧ A.U.vm.findClass E = some ce.cls ∧ B.locs = A.locs ++ L ∧ (∀ z ∈ L, free z.base) ∧ B.cells = A.cells + mc ∧ B.slots = A.slots + ms
def vx_Back (l : Launch) (R : Room) (p : Program) (e : Env) (below : List Frame) (s : State) (sargs : Array Value) (y : MethodName) (len W9 : Nat)
    (Pre : Pt → Array Value → Prop) (Post : Pt → Array Value → Option Value → Pt → Prop) (PostX : Pt → Array Value → Addr → Pt → Prop) : Prop :=
  ∀ (m : MethodId) (meth : Method) (c : Code) (A : Pt) (g : JFrame) (ig : Instr) (mk : MethodId) (a : Array Value),
    Stand p l e R s m sargs below meth c A.U A.locs A.cells A.slots → g.method = m → g.locals.size = c.maxLocals → decode c.code g.pc = .ok (ig, len) →
    2 * g.monitorRoom + (g.stack.map fun v => v.category).sum ≤ W9 → A.U.methodNamed? y = some mk → Pre A a →
    (∃ (v : Option Value) (B : Pt), Stand p l e R s m sargs below meth c B.U B.locs B.cells B.slots ∧ Post A a v B ∧
      Steps p.tables e below (doInvoke e (A.U.setTop g) [] mk a).1 (B.U.setTop { g with pc := g.pc + len, stack := v.toList ++ g.stack })) ∨
    (∃ (q : Addr) (B : Pt), Stand p l e R s m sargs below meth c B.U B.locs B.cells B.slots ∧ PostX A a q B ∧
      Steps p.tables e below (doInvoke e (A.U.setTop g) [] mk a).1 ((B.U.setTop g).pushFrame (.throwing q)))
section Payer
variable {l : Launch} {R : Room} {p : Program} {e : Env} {below : List Frame} {s : State} {sargs : Array Value} {y : MethodName} {len W9 : Nat}
theorem vx_back {ws : List Cond} {rm : Room} {Pc : Array Value → State → Prop} {Qc : Array Value → State → Outcome → State → Prop} {XC : String → State → State → Prop} {mc ms : Nat} {free : Addr → Prop} {bytes : ByteArray} {maxL : Nat} {ret : Option FieldType}
    (hM : vx_Met l y ws rm Pc Qc XC mc ms free) (hblind : FrameBlind Pc) (hrc : rm.cells = mc) (hrs : rm.slots = ms)
    (hframes : rm.frames + 1 ≤ R.frames) (hlocals : W9 + (maxL + 11) + rm.locals ≤ R.locals)
    (hws : ∀ w ∈ ws, ∀ a' U, s.WarmedH U.vm → w.before a' U = true) (hcode : Cond.code y bytes maxL ret ∈ ws) (hinit : ∀ a' U, s.WarmedH U.vm → (Cond.initialized y.cls).before a' U = true) :
    vx_Back l R p e below s sargs y len W9 (PreOf R mc ms Pc) (PostOf Qc mc ms free) (vx_Post XC mc ms free) := by
  intro m meth c A g ig mk a X hg hsize hdg hW hn hp
  have h1 : (headSpec ws rm).pre.before a A.U = true := atoms_intro fun w hw => hws w hw _ _ X.warmed
  have h2 : (Cond.code y bytes maxL ret).before a A.U = true := hws _ hcode _ _ X.warmed
  have h3 : (Cond.initialized y.cls).before a A.U = true := hinit _ _ X.warmed
  have h4 : A.cells + (headSpec ws rm).room.cells ≤ R.cells := by rw [show (headSpec ws rm).room.cells = mc from hrc]; exact hp.1
  have h5 : A.slots + (headSpec ws rm).room.slots ≤ R.slots := by rw [show (headSpec ws rm).room.slots = ms from hrs]; exact hp.2.1
  have hPc : Pc a (A.U.calling g mk a) := hblind _ _ _ _ hp.2.2
  obtain ⟨U, Ls, c0, s0⟩ := A
  dsimp only [Pt.U, Pt.locs, Pt.cells, Pt.slots] at h1 h2 h3 h4 h5 X hn hPc ⊢
  obtain ⟨methY, cY, hmY, hcY, -, hlY, -, -, -, -⟩ := Cond.code_spec hn h2
  obtain ⟨kY, hkY, -⟩ := className_of_methodNamed hn
  have hinitY : kY.init = .initialized := Cond.initialized_spec (findClass_of_methodNamed hn) hkY h3
  have h : At U g.method c below := by rw [hg]; exact X.here
  have hlocals9 : W9 + (maxL + 11) + (headSpec ws rm).room.locals ≤ R.locals := hlocals
  have happ : (headSpec ws rm).appliesLoose y e.platform (U.calling g mk a) = true :=
    Spec.appliesLoose_calling (g := g) h hdg hn hkY hinitY
      (X.room_calling (g := g) (R' := (headSpec ws rm).room) hsize hmY hcY hframes (by rw [hlY]; omega) h4 h5) h1
  obtain ⟨mid, hmid⟩ := h.above
  have hfr : (U.setTop g).frames = (.java g :: mid) ++ below := by rw [State.frames_setTop' g h.top, hmid]; rfl
  obtain ⟨o, s₂, hsteps, -, hend, hq⟩ := Steps.callFree hM p X.admits X.cas X.clock (acts := []) hfr happ hPc trivial
  have hq' : vx_Q Qc XC mc ms free a (U.calling g mk a) o s₂ := hq
  rw [State.frames_setTop' g h.top] at hend
  obtain ⟨g₀, hg0⟩ := Option.isSome_iff_exists.mp h.top
  obtain ⟨r, hr⟩ := State.topJava?_eq_some.mp hg0
  have hr' : (({ U with heap := s₂.heap, slotsUsed := s₂.slotsUsed } : State).setVm s₂.vm).frames = .java g₀ :: r := hr
  rcases hq' with ⟨hqc, L, hfe, hL⟩ | ⟨q, rfl, E, ce, L, hx, hce, hcv, hcl, hW₂, hsm, hL⟩
  · obtain ⟨⟨v, rfl⟩, hW₂, e2, q2, q3, q4, q5, q6⟩ := id hfe
    have e3 : s₂ = ({ (U.calling g mk a).setFrames s₂.frames with heap := s₂.heap, slotsUsed := s₂.slotsUsed } : State).setVm s₂.vm := by
      have : s₂ = ({ s₂ with vm := (U.calling g mk a).vm } : State).setVm s₂.vm := rfl
      rw [e2] at this
      exact this
    obtain ⟨c₂, i₂, len₂, hc₂, hd₂, hf₂⟩ := hend
    have hW' : U.WarmedH s₂.vm := hW₂
    have hcc : c₂ = c := by
      have h1 : s₂.code? g.method = U.code? g.method := by
        rw [State.code?_eq, State.code?_eq, hW'.alike.method?]
      exact Option.some.inj (hc₂.symm.trans (h1.trans h.code))
    subst hcc
    have hlen : len₂ = len := by rw [hdg] at hd₂; cases hd₂; rfl
    subst hlen
    have hs₂ : s₂ = (({ U with heap := s₂.heap, slotsUsed := s₂.slotsUsed } : State).setVm s₂.vm).setTop { g with pc := g.pc + len₂, stack := v.toList ++ g.stack } := by
      refine e3.trans ?_
      rw [hf₂, State.calling_eq h.top, State.setFrames_setFrames, State.setTop_of_frames _ hr', hr]
      rfl
    have hsame : U.sameButNew ({ U with heap := s₂.heap, slotsUsed := s₂.slotsUsed } : State) L mc ms := by
      refine ⟨?_, q2, q3, q4, q5, q6⟩
      obtain ⟨t, ht, -⟩ := State.frames_cons hr
      show ({ U with heap := s₂.heap, slotsUsed := s₂.slotsUsed } : State) = { U.setFrames U.frames with heap := s₂.heap, slotsUsed := s₂.slotsUsed }
      rw [State.setFrames_self ht]
    subst hg
    refine Or.inl ⟨v, ⟨(({ U with heap := s₂.heap, slotsUsed := s₂.slotsUsed } : State).setVm s₂.vm), Ls ++ L, c0 + mc, s0 + ms⟩,
      ⟨X.admits, X.cas, X.clock, X.frames, X.room, X.hears, X.method, X.code, (X.here.setHeapUsed s₂.heap s₂.slotsUsed).setVm hW'.alike, X.tail, State.WarmedH.trans X.warmed hW', X.limits, X.bytes, X.same.trans (hsame.setVm s.vm)⟩,
      ⟨g, mk, s₂, L, rfl, rfl, hqc, rfl, hL, rfl, rfl⟩, ?_⟩
    show Steps p.tables e below _ ((({ U with heap := s₂.heap, slotsUsed := s₂.slotsUsed } : State).setVm s₂.vm).setTop { g with pc := g.pc + len₂, stack := v.toList ++ g.stack })
    rw [← hs₂]
    exact hsteps
  · obtain ⟨e2, q2, q3, q4, q5, q6⟩ := id hsm
    have e3 : s₂ = ({ (U.calling g mk a).setFrames s₂.frames with heap := s₂.heap, slotsUsed := s₂.slotsUsed } : State).setVm s₂.vm := by
      have : s₂ = ({ s₂ with vm := (U.calling g mk a).vm } : State).setVm s₂.vm := rfl
      rw [e2] at this
      exact this
    have hf₂ : s₂.frames = .throwing q :: .java g :: U.frames.tail := hend
    have hW' : U.WarmedH s₂.vm := hW₂
    have hs₂ : s₂ = ((({ U with heap := s₂.heap, slotsUsed := s₂.slotsUsed } : State).setVm s₂.vm).setTop g).pushFrame (.throwing q) := by
      refine e3.trans ?_
      rw [hf₂, State.calling_eq h.top, State.setFrames_setFrames, State.pushFrame, State.frames_setTop _ hr', State.setTop_of_frames _ hr', State.setFrames_setFrames, hr]
      rfl
    have hsame : U.sameButNew ({ U with heap := s₂.heap, slotsUsed := s₂.slotsUsed } : State) L mc ms := by
      refine ⟨?_, q2, q3, q4, q5, q6⟩
      obtain ⟨t, ht, -⟩ := State.frames_cons hr
      show ({ U with heap := s₂.heap, slotsUsed := s₂.slotsUsed } : State) = { U.setFrames U.frames with heap := s₂.heap, slotsUsed := s₂.slotsUsed }
      rw [State.setFrames_self ht]
    subst hg
    refine Or.inr ⟨q, ⟨(({ U with heap := s₂.heap, slotsUsed := s₂.slotsUsed } : State).setVm s₂.vm), Ls ++ L, c0 + mc, s0 + ms⟩,
      ⟨X.admits, X.cas, X.clock, X.frames, X.room, X.hears, X.method, X.code, (X.here.setHeapUsed s₂.heap s₂.slotsUsed).setVm hW'.alike, X.tail, State.WarmedH.trans X.warmed hW', X.limits, X.bytes, X.same.trans (hsame.setVm s.vm)⟩,
      ⟨g, mk, s₂, L, E, ce, rfl, rfl, hx, hce, hcv, hcl, rfl, hL, rfl, rfl⟩, ?_⟩
    show Steps p.tables e below _ (((({ U with heap := s₂.heap, slotsUsed := s₂.slotsUsed } : State).setVm s₂.vm).setTop g).pushFrame (.throwing q))
    rw [← hs₂]
    exact hsteps
end Payer
section Calls
variable {p : Program} {l : Launch} {e : Env} {R : Room} {s : State} {m : MethodId} {args : Array Value} {below : List Frame} {meth : Method} {c : Code} {T : State} {locs : List Loc} {cells slots : Nat}
theorem vx_callV (X : Stand p l e R s m args below meth c T locs cells slots) (hexec : p.tables.exec = Jvm.exec) {own C : String} {index : Nat} {y : MethodName} {bytes : ByteArray} {maxL : Nat} {ret : Option FieldType}
    (hown : s.vm.findClass own = some m.cls) (hlink : (Cond.methodLink own index y).before args s = true) (hinst : (Cond.instanceMethod y).before args s = true) (hsel : (Cond.selects C y y).before args s = true)
    (hcode : (Cond.code y bytes maxL ret).before args s = true) (hy : y.cls ≠ "java/lang/invoke/MethodHandle" ∧ y.cls ≠ "java/lang/invoke/VarHandle")
    {W9 : Nat} {Pre : Pt → Array Value → Prop} {Post : Pt → Array Value → Option Value → Pt → Prop} {PostX : Pt → Array Value → Addr → Pt → Prop} (hK : vx_Back l R p e below s args y 3 W9 Pre Post PostX)
    {b : Addr} {cellB : Cell} (hcell : T.heap[b]? = some cellB) (hobj : cellB.vm.isStatics = false) (hcls : s.vm.findClass C = some cellB.cls)
    {g : JFrame} (hg : g.method = m) (hsize : g.locals.size = c.maxLocals) {argsL rest : List Value} (hlen : ∀ sig, parseMethodDescriptor y.desc = some sig → argsL.length = sig.parameters.length)
    (hstack : g.stack = argsL.reverse ++ .ref b :: rest) (hW : 2 * g.monitorRoom + (rest.map fun v => v.category).sum ≤ W9) (hdg : decode c.code g.pc = .ok (.invokevirtual index, 3))
    (hpre : ∀ vm₁, s.WarmedH vm₁ → Pre ⟨T.setVm vm₁, locs, cells, slots⟩ (Value.ref b :: argsL).toArray) :
    (∃ (v : Option Value) (vm₁ : Vm) (B : Pt), s.WarmedH vm₁ ∧ Stand p l e R s m args below meth c B.U B.locs B.cells B.slots ∧ Post ⟨T.setVm vm₁, locs, cells, slots⟩ (Value.ref b :: argsL).toArray v B ∧
      ∀ target, Steps p.tables e below (B.U.setTop { g with pc := g.pc + 3, stack := v.toList ++ rest }) target → Steps p.tables e below (T.setTop g) target) ∨
    (∃ (q : Addr) (vm₁ : Vm) (B : Pt), s.WarmedH vm₁ ∧ Stand p l e R s m args below meth c B.U B.locs B.cells B.slots ∧ PostX ⟨T.setVm vm₁, locs, cells, slots⟩ (Value.ref b :: argsL).toArray q B ∧
      Steps p.tables e below (T.setTop g) ((B.U.setTop { g with stack := rest }).pushFrame (.throwing q))) := by
  obtain ⟨mk, methM, hnamed, hmethM, hstM, habM⟩ := Cond.instanceMethod_spec hinst
  obtain ⟨methM', cM, hmethM', -, -, -, -, -, -, hsigM⟩ := Cond.code_spec hnamed hcode
  cases hmethM.symm.trans hmethM'
  obtain ⟨c2, r2, m2, q1, q2, q3, q4, kP, hkP, hkPi⟩ := Cond.selects_spec hsel
  cases hcls.symm.trans q1
  cases (State.methodFound?_of_named hnamed hy).symm.trans q2
  cases hnamed.symm.trans q3
  have hselP : selectMethod e.platform s.vm cellB.cls mk = .method mk := by rw [Launch.admits_selectMethod X.admits]; exact q4
  obtain ⟨vm₁, X₁, hstep₁⟩ := X.invokevirtual hexec hown hlink hnamed hmethM hstM hkP hkPi hy (a := b) (cell := cellB) hcell
    (fun z h => by rw [h] at hobj; cases hobj) hselP hmethM habM hkP hkPi (g := g) hg (argsL := argsL) (rest := rest) (hlen _ hsigM) hstack hdg
  rcases hK m meth c ⟨T.setVm vm₁, locs, cells, slots⟩ { g with stack := rest } (.invokevirtual index) mk (Value.ref b :: argsL).toArray X₁ hg hsize hdg hW (X₁.named hnamed) (hpre vm₁ X₁.warmed) with ⟨v, B, X', hpost, hsteps⟩ | ⟨q, B, X', hpost, hsteps⟩
  · exact Or.inl ⟨v, vm₁, B, X₁.warmed, X', hpost, fun target h => hstep₁ _ fun acts => by rw [doInvoke_state]; exact hsteps.trans h⟩
  · exact Or.inr ⟨q, vm₁, B, X₁.warmed, X', hpost, hstep₁ _ fun acts => by rw [doInvoke_state]; exact hsteps⟩
theorem vx_callS (X : Stand p l e R s m args below meth c T locs cells slots) (hexec : p.tables.exec = Jvm.exec) {own : String} {index : Nat} {y : MethodName} {bytes : ByteArray} {maxL : Nat} {ret : Option FieldType}
    (hown : s.vm.findClass own = some m.cls) (hlink : (Cond.methodLink own index y).before args s = true) (hstat : (Cond.static y).before args s = true) (hinit : (Cond.initialized y.cls).before args s = true)
    (hcode : (Cond.code y bytes maxL ret).before args s = true) (hy : y.cls ≠ "java/lang/invoke/MethodHandle" ∧ y.cls ≠ "java/lang/invoke/VarHandle")
    {W9 : Nat} {Pre : Pt → Array Value → Prop} {Post : Pt → Array Value → Option Value → Pt → Prop} {PostX : Pt → Array Value → Addr → Pt → Prop} (hK : vx_Back l R p e below s args y 3 W9 Pre Post PostX)
    {g : JFrame} (hg : g.method = m) (hsize : g.locals.size = c.maxLocals) {argsL rest : List Value} (hlen : ∀ sig, parseMethodDescriptor y.desc = some sig → argsL.length = sig.parameters.length)
    (hstack : g.stack = argsL.reverse ++ rest) (hW : 2 * g.monitorRoom + (rest.map fun v => v.category).sum ≤ W9) (hdg : decode c.code g.pc = .ok (.invokestatic index, 3))
    (hpre : ∀ vm₁, s.WarmedH vm₁ → Pre ⟨T.setVm vm₁, locs, cells, slots⟩ argsL.toArray) :
    (∃ (v : Option Value) (vm₁ : Vm) (B : Pt), s.WarmedH vm₁ ∧ Stand p l e R s m args below meth c B.U B.locs B.cells B.slots ∧ Post ⟨T.setVm vm₁, locs, cells, slots⟩ argsL.toArray v B ∧
      ∀ target, Steps p.tables e below (B.U.setTop { g with pc := g.pc + 3, stack := v.toList ++ rest }) target → Steps p.tables e below (T.setTop g) target) ∨
    (∃ (q : Addr) (vm₁ : Vm) (B : Pt), s.WarmedH vm₁ ∧ Stand p l e R s m args below meth c B.U B.locs B.cells B.slots ∧ PostX ⟨T.setVm vm₁, locs, cells, slots⟩ argsL.toArray q B ∧
      Steps p.tables e below (T.setTop g) ((B.U.setTop { g with stack := rest }).pushFrame (.throwing q))) := by
  obtain ⟨mk, hnamed⟩ := Cond.code_named hcode
  obtain ⟨methM, cM, hmethM, -, -, -, -, -, -, hsigM⟩ := Cond.code_spec hnamed hcode
  have hstatic : methM.isStatic = true := Cond.static_spec hnamed hmethM hstat
  obtain ⟨kP, hkP, -⟩ := className_of_methodNamed hnamed
  have hinitP : kP.init = .initialized := Cond.initialized_spec (findClass_of_methodNamed hnamed) hkP hinit
  obtain ⟨vm₁, X₁, hstep₁⟩ := X.invokestatic hexec hown hlink hnamed hmethM hstatic hkP hinitP hy (g := g) hg (argsL := argsL) (rest := rest) (hlen _ hsigM) hstack hdg
  rcases hK m meth c ⟨T.setVm vm₁, locs, cells, slots⟩ { g with stack := rest } (.invokestatic index) mk argsL.toArray X₁ hg hsize hdg hW (X₁.named hnamed) (hpre vm₁ X₁.warmed) with ⟨v, B, X', hpost, hsteps⟩ | ⟨q, B, X', hpost, hsteps⟩
  · exact Or.inl ⟨v, vm₁, B, X₁.warmed, X', hpost, fun target h => hstep₁ _ fun acts => by rw [doInvoke_state]; exact hsteps.trans h⟩
  · exact Or.inr ⟨q, vm₁, B, X₁.warmed, X', hpost, hstep₁ _ fun acts => by rw [doInvoke_state]; exact hsteps⟩
end Calls
theorem vx_cls {s : State} {T : State} {vm₁ : Vm} {E : String} {k : ClassId} (hW : s.WarmedH vm₁) (h : (T.setVm vm₁).vm.findClass E = some k) : s.vm.findClass E = some k := by
  have h1 : vm₁.findClass E = some k := h
  rw [hW.alike.findClass] at h1
  exact h1
/-- the method's frame g, with q thrown over it -/
def vx_W (p : Program) (l : Launch) (e : Env) (R : Room) (s : State) (m : MethodId) (args : Array Value) (below : List Frame) (meth : Method) (c : Code) (H : Heap) (locs : List Loc) (cells slots : Nat) (Q : State → Prop) (g : JFrame) (q : Addr) : Prop :=
  ∀ T : State, T.heap = H → Stand p l e R s m args below meth c T locs cells slots → ∃ t, Steps p.tables e below ((T.setTop g).pushFrame (.throwing q)) t ∧ Q t
def vx_Run (p : Program) (l : Launch) (e : Env) (R : Room) (s : State) (m : MethodId) (args : Array Value) (below : List Frame) (meth : Method) (c : Code) (H : Heap) (locs : List Loc) (cells slots mc ms : Nat) (g : JFrame) (rest : List Value) (Qa : State → Outcome → State → Prop) (XC : String → State → State → Prop) (free : Addr → Prop) : Prop :=
  ∀ T : State, T.heap = H → Stand p l e R s m args below meth c T locs cells slots →
    (∃ (v : Option Value) (st₀ t T' : State) (L : List Loc), st₀.heap = H ∧ Stand p l e R s m args below meth c T' (locs ++ L) (cells + mc) (slots + ms) ∧ (∀ q ∈ L, free q.base) ∧ T'.heap = t.heap ∧ T'.vm = t.vm ∧ Qa st₀ (.returned v) t ∧
      Goes p e below T g T' { g with pc := g.pc + 3, stack := v.toList ++ rest }) ∨
    (∃ (q : Addr) (st₀ t T' : State) (L : List Loc) (E : String) (ce : Cell), st₀.heap = H ∧ Stand p l e R s m args below meth c T' (locs ++ L) (cells + mc) (slots + ms) ∧ (∀ z ∈ L, free z.base) ∧ T'.heap = t.heap ∧ T'.vm = t.vm ∧ XC E st₀ t ∧ t.heap[q]? = some ce ∧ ce.vm = .none ∧ s.vm.findClass E = some ce.cls ∧
      Steps p.tables e below (T.setTop g) ((T'.setTop { g with stack := rest }).pushFrame (.throwing q)))
def vx_X {S : Type} (px : S → Prop) (B : String → S → State → Prop) (A : Nat → Prop) : String → State → State → Prop := fun E st t => ∃ u : S, px u ∧ B E u t ∧ va_F A st t
section Runs
variable {p : Program} {l : Launch} {e : Env} {R : Room} {s : State} {m : MethodId} {args : Array Value} {below : List Frame} {meth : Method} {c : Code} {H : Heap} {locs : List Loc} {cells slots : Nat}
variable {y : MethodName} {bytes cc : ByteArray} {maxL nL mc ms n index : Nat} {ret : Option FieldType} {ws : List Cond} {rm : Room} {Pc : Array Value → State → Prop} {Qc : Array Value → State → Outcome → State → Prop} {XC : String → State → State → Prop} {free : Addr → Prop} {Ts : List Cond} {own C : String} {b : Addr} {As rest : List Value} {g : JFrame}
theorem vx_callBack (cb : CallB R s args own index y bytes maxL ret ws rm mc ms n) (hM : vx_Met l y ws rm Pc Qc XC mc ms free) (hbl : FrameBlind Pc) : vx_Back l R p e below s args y 3 8 (PreOf R mc ms Pc) (PostOf Qc mc ms free) (vx_Post XC mc ms free) := by
  obtain ⟨hrc, hrs, hfr, hlo, hws, hcw, -, hini, -⟩ := cb
  exact vx_back (bytes := bytes) (maxL := maxL) (ret := ret) hM hbl hrc hrs hfr hlo hws hcw (fun a' U hW => word_at hW (Or.inl (by first | rfl | simp [Cond.onTables, Cond.keeps, Cond.steady])) hini)
theorem vx_runV (S : CallFix p m c cc nL s args Ts own) (hM : vx_Met l y ws rm Pc Qc XC mc ms free) (cw : CallW R s args own C index y bytes maxL ret ws rm mc ms n) (hp : PreV s H C b Pc As)
    (hg : g.method = m) (hn : As.length = n) (hsize : g.locals.size = nL) (hstack : g.stack = As.reverse ++ .ref b :: rest) (hW : 2 * g.monitorRoom + (rest.map fun v => v.category).sum ≤ 8) (hdg : decode cc g.pc = .ok (.invokevirtual index, 3)) (hf : cells + mc ≤ R.cells ∧ slots + ms ≤ R.slots) :
    vx_Run p l e R s m args below meth c H locs cells slots mc ms g rest (Qc (Value.ref b :: As).toArray) XC free := by
  have hK : vx_Back l R p e below s args y 3 8 (PreOf R mc ms Pc) (PostOf Qc mc ms free) (vx_Post XC mc ms free) := vx_callBack cw.1 hM hp.1
  obtain ⟨⟨-, -, -, -, -, -, hcode, -, hy, hlen, hl⟩, hin, hse⟩ := cw
  obtain ⟨hx, hb, hml, ho, -⟩ := S
  obtain ⟨-, ⟨cellB, hcB, hoB, hclB⟩, hPc⟩ := hp
  intro T hT X
  rcases vx_callV X hx (C := C) (bytes := bytes) (maxL := maxL) (ret := ret) ho hl hin hse hcode hy hK (by rw [hT]; exact hcB) hoB hclB hg (hsize.trans hml.symm) (argsL := As) (rest := rest) (fun sig h => hn.trans (hlen sig h)) hstack hW (by rw [hb]; exact hdg)
    (fun vm₁ hW₁ => ⟨hf.1, hf.2, hPc (T.setVm vm₁) hT hW₁⟩) with ⟨v, vm₁, ⟨U', l2, c2, s2⟩, hW₁, X', ⟨g', mk, t, L, e1, e2, hq, h1, hL, h2, h3⟩, st⟩ | ⟨q, vm₁, ⟨U', l2, c2, s2⟩, hW₁, X', ⟨g', mk, t, L, E, ce, e1, e2, hq, hce, hcv, hcl, h1, hL, h2, h3⟩, st⟩
  · dsimp only [Pt.U, Pt.locs, Pt.cells, Pt.slots] at X' e1 e2 h1 h2 h3 st
    subst h1; subst h2; subst h3
    exact Or.inl ⟨v, (T.setVm vm₁).calling g' mk (Value.ref b :: As).toArray, t, U', L, hT, X', hL, e1, e2, hq, st⟩
  · dsimp only [Pt.U, Pt.locs, Pt.cells, Pt.slots] at X' e1 e2 h1 h2 h3 st hcl
    subst h1; subst h2; subst h3
    exact Or.inr ⟨q, (T.setVm vm₁).calling g' mk (Value.ref b :: As).toArray, t, U', L, E, ce, hT, X', hL, e1, e2, hq, hce, hcv, vx_cls hW₁ hcl, st⟩
theorem vx_runS (S : CallFix p m c cc nL s args Ts own) (hM : vx_Met l y ws rm Pc Qc XC mc ms free) (cw : CallB R s args own index y bytes maxL ret ws rm mc ms n ∧ (Cond.static y).before args s = true) (hp : PreS s H Pc As)
    (hg : g.method = m) (hn : As.length = n) (hsize : g.locals.size = nL) (hstack : g.stack = As.reverse ++ rest) (hW : 2 * g.monitorRoom + (rest.map fun v => v.category).sum ≤ 8) (hdg : decode cc g.pc = .ok (.invokestatic index, 3)) (hf : cells + mc ≤ R.cells ∧ slots + ms ≤ R.slots) :
    vx_Run p l e R s m args below meth c H locs cells slots mc ms g rest (Qc As.toArray) XC free := by
  have hK : vx_Back l R p e below s args y 3 8 (PreOf R mc ms Pc) (PostOf Qc mc ms free) (vx_Post XC mc ms free) := vx_callBack cw.1 hM hp.1
  obtain ⟨⟨-, -, -, -, -, -, hcode, hini, hy, hlen, hl⟩, hstt⟩ := cw
  obtain ⟨hx, hb, hml, ho, -⟩ := S
  intro T hT X
  rcases vx_callS X hx (bytes := bytes) (maxL := maxL) (ret := ret) ho hl hstt hini hcode hy hK hg (hsize.trans hml.symm) (argsL := As) (rest := rest) (fun sig h => hn.trans (hlen sig h)) hstack hW (by rw [hb]; exact hdg)
    (fun vm₁ hW₁ => ⟨hf.1, hf.2, hp.2 (T.setVm vm₁) hT hW₁⟩) with ⟨v, vm₁, ⟨U', l2, c2, s2⟩, hW₁, X', ⟨g', mk, t, L, e1, e2, hq, h1, hL, h2, h3⟩, st⟩ | ⟨q, vm₁, ⟨U', l2, c2, s2⟩, hW₁, X', ⟨g', mk, t, L, E, ce, e1, e2, hq, hce, hcv, hcl, h1, hL, h2, h3⟩, st⟩
  · dsimp only [Pt.U, Pt.locs, Pt.cells, Pt.slots] at X' e1 e2 h1 h2 h3 st
    subst h1; subst h2; subst h3
    exact Or.inl ⟨v, (T.setVm vm₁).calling g' mk As.toArray, t, U', L, hT, X', hL, e1, e2, hq, st⟩
  · dsimp only [Pt.U, Pt.locs, Pt.cells, Pt.slots] at X' e1 e2 h1 h2 h3 st hcl
    subst h1; subst h2; subst h3
    exact Or.inr ⟨q, (T.setVm vm₁).calling g' mk As.toArray, t, U', L, E, ce, hT, X', hL, e1, e2, hq, hce, hcv, vx_cls hW₁ hcl, st⟩
end Runs
section Rows
variable {p : Program} {l : Launch} {e : Env} {R : Room} {s : State} {m : MethodId} {args : Array Value} {below : List Frame} {meth : Method} {c : Code} {H : Heap} {locs : List Loc} {cells slots : Nat} {Q : State → Prop}
variable {mc ms : Nat} {free : Addr → Prop} {A0 A1 : Nat → Prop} {H0 : Heap} {a : Array Value} {pc : Nat} {ls : Array Slot} {st0 rest : List Value}
theorem vx_keep {st₀ t T' : State} {L : List Loc} (h0 : st₀.heap = H) (e1 : T'.heap = t.heap) (hS : va_S A0 H0 H locs) (hA : ∀ q, q < H.size → A1 q → A0 q) (hf : ∀ q, free q → A0 q) (hL : ∀ q ∈ L, free q.base) (hF : va_F A1 st₀ t) :
    H.size ≤ T'.heap.size ∧ (∀ q : Nat, q < H.size → ¬ A1 q → T'.heap[q]? = H[q]?) ∧ va_S A0 H0 T'.heap (locs ++ L) := by
  obtain ⟨hz, hk⟩ := hF
  rw [h0] at hz hk
  exact ⟨by rw [e1]; exact hz, fun q h1 h2 => by rw [e1]; exact hk q h1 h2,
    ⟨Nat.le_trans hS.1 (by rw [e1]; exact hz), fun q h1 h2 => by rw [e1, hk q (Nat.lt_of_lt_of_le h1 hS.1) (fun z => h2 (hA q (Nat.lt_of_lt_of_le h1 hS.1) z))]; exact hS.2.1 q h1 h2, fun q hq => by
      rcases List.mem_append.mp hq with h | h
      · exact hS.2.2 q h
      · exact hf _ (hL q h)⟩⟩
theorem vx_calli {S SX : Type} {post : Int32 → S → Prop} {px : SX → Prop} {B : S → State → Prop} {BX : String → SX → State → Prop} {AX : Nat → Prop} (hr : vx_Run p l e R s m args below meth c H locs cells slots mc ms (F0 m pc ls st0) rest (va_Qi post B A1 a) (vx_X px BX AX) free) (hS : va_S A0 H0 H locs) (hA : ∀ q, q < H.size → A1 q → A0 q) (hf : ∀ q, free q → A0 q) (hAX : ∀ q, q < H.size → AX q → A0 q)
    (kx : ∀ (E : String) (ce : Cell) (q9 : Addr) (u : SX) (t : State) (H1 : Heap) (locs1 : List Loc), t.heap = H1 → s.vm.Alike t.vm → px u → BX E u t → H.size ≤ H1.size → (∀ q : Nat, q < H.size → ¬ AX q → H1[q]? = H[q]?) → va_S A0 H0 H1 locs1 → H1[q9]? = some ce → ce.vm = .none → s.vm.findClass E = some ce.cls → vx_W p l e R s m args below meth c H1 locs1 (cells + mc) (slots + ms) Q (F0 m pc ls rest) q9)
    (kk : ∀ (r : Int32) (u : S) (t : State) (H1 : Heap) (locs1 : List Loc), t.heap = H1 → s.vm.Alike t.vm → post r u → B u t → H.size ≤ H1.size → (∀ q : Nat, q < H.size → ¬ A1 q → H1[q]? = H[q]?) → va_S A0 H0 H1 locs1 → W p l e R s m args below meth c H1 locs1 (cells + mc) (slots + ms) Q (F0 m (pc + 3) ls (.int r :: rest))) : W p l e R s m args below meth c H locs cells slots Q (F0 m pc ls st0) := by
  intro T hT X
  rcases hr T hT X with ⟨v, st₀, t, T', L, h0, X', hL, e1, e2, ⟨⟨r, u, hv, hp, hb⟩, hF⟩, st⟩ | ⟨q, st₀, t, T', L, E, ce, h0, X', hL, e1, e2, ⟨u, hp, hb, hF⟩, hce, hcv, hcl, st⟩
  · cases hv
    obtain ⟨k1, k2, k3⟩ := vx_keep h0 e1 hS hA hf hL hF
    obtain ⟨t2, a1, b1⟩ := kk r u t T'.heap (locs ++ L) e1.symm (by rw [← e2]; exact X'.warmed.alike) hp hb k1 k2 k3 T' rfl X'
    exact ⟨t2, st t2 a1, b1⟩
  · obtain ⟨k1, k2, k3⟩ := vx_keep h0 e1 hS hAX hf hL hF
    obtain ⟨t2, a1, b1⟩ := kx E ce q u t T'.heap (locs ++ L) e1.symm (by rw [← e2]; exact X'.warmed.alike) hp hb k1 k2 k3 (by rw [e1]; exact hce) hcv hcl T' rfl X'
    exact ⟨t2, st.trans a1, b1⟩
theorem vx_calll {S SX : Type} {post : Int64 → S → Prop} {px : SX → Prop} {B : S → State → Prop} {BX : String → SX → State → Prop} {AX : Nat → Prop} (hr : vx_Run p l e R s m args below meth c H locs cells slots mc ms (F0 m pc ls st0) rest (va_Ql post B A1 a) (vx_X px BX AX) free) (hS : va_S A0 H0 H locs) (hA : ∀ q, q < H.size → A1 q → A0 q) (hf : ∀ q, free q → A0 q) (hAX : ∀ q, q < H.size → AX q → A0 q)
    (kx : ∀ (E : String) (ce : Cell) (q9 : Addr) (u : SX) (t : State) (H1 : Heap) (locs1 : List Loc), t.heap = H1 → s.vm.Alike t.vm → px u → BX E u t → H.size ≤ H1.size → (∀ q : Nat, q < H.size → ¬ AX q → H1[q]? = H[q]?) → va_S A0 H0 H1 locs1 → H1[q9]? = some ce → ce.vm = .none → s.vm.findClass E = some ce.cls → vx_W p l e R s m args below meth c H1 locs1 (cells + mc) (slots + ms) Q (F0 m pc ls rest) q9)
    (kk : ∀ (r : Int64) (u : S) (t : State) (H1 : Heap) (locs1 : List Loc), t.heap = H1 → s.vm.Alike t.vm → post r u → B u t → H.size ≤ H1.size → (∀ q : Nat, q < H.size → ¬ A1 q → H1[q]? = H[q]?) → va_S A0 H0 H1 locs1 → W p l e R s m args below meth c H1 locs1 (cells + mc) (slots + ms) Q (F0 m (pc + 3) ls (.long r :: rest))) : W p l e R s m args below meth c H locs cells slots Q (F0 m pc ls st0) := by
  intro T hT X
  rcases hr T hT X with ⟨v, st₀, t, T', L, h0, X', hL, e1, e2, ⟨⟨r, u, hv, hp, hb⟩, hF⟩, st⟩ | ⟨q, st₀, t, T', L, E, ce, h0, X', hL, e1, e2, ⟨u, hp, hb, hF⟩, hce, hcv, hcl, st⟩
  · cases hv
    obtain ⟨k1, k2, k3⟩ := vx_keep h0 e1 hS hA hf hL hF
    obtain ⟨t2, a1, b1⟩ := kk r u t T'.heap (locs ++ L) e1.symm (by rw [← e2]; exact X'.warmed.alike) hp hb k1 k2 k3 T' rfl X'
    exact ⟨t2, st t2 a1, b1⟩
  · obtain ⟨k1, k2, k3⟩ := vx_keep h0 e1 hS hAX hf hL hF
    obtain ⟨t2, a1, b1⟩ := kx E ce q u t T'.heap (locs ++ L) e1.symm (by rw [← e2]; exact X'.warmed.alike) hp hb k1 k2 k3 (by rw [e1]; exact hce) hcv hcl T' rfl X'
    exact ⟨t2, st.trans a1, b1⟩
theorem vx_callf {S SX : Type} {post : UInt32 → S → Prop} {px : SX → Prop} {B : S → State → Prop} {BX : String → SX → State → Prop} {AX : Nat → Prop} (hr : vx_Run p l e R s m args below meth c H locs cells slots mc ms (F0 m pc ls st0) rest (va_Qf post B A1 a) (vx_X px BX AX) free) (hS : va_S A0 H0 H locs) (hA : ∀ q, q < H.size → A1 q → A0 q) (hf : ∀ q, free q → A0 q) (hAX : ∀ q, q < H.size → AX q → A0 q)
    (kx : ∀ (E : String) (ce : Cell) (q9 : Addr) (u : SX) (t : State) (H1 : Heap) (locs1 : List Loc), t.heap = H1 → s.vm.Alike t.vm → px u → BX E u t → H.size ≤ H1.size → (∀ q : Nat, q < H.size → ¬ AX q → H1[q]? = H[q]?) → va_S A0 H0 H1 locs1 → H1[q9]? = some ce → ce.vm = .none → s.vm.findClass E = some ce.cls → vx_W p l e R s m args below meth c H1 locs1 (cells + mc) (slots + ms) Q (F0 m pc ls rest) q9)
    (kk : ∀ (r : UInt32) (u : S) (t : State) (H1 : Heap) (locs1 : List Loc), t.heap = H1 → s.vm.Alike t.vm → post r u → B u t → H.size ≤ H1.size → (∀ q : Nat, q < H.size → ¬ A1 q → H1[q]? = H[q]?) → va_S A0 H0 H1 locs1 → W p l e R s m args below meth c H1 locs1 (cells + mc) (slots + ms) Q (F0 m (pc + 3) ls (.float r :: rest))) : W p l e R s m args below meth c H locs cells slots Q (F0 m pc ls st0) := by
  intro T hT X
  rcases hr T hT X with ⟨v, st₀, t, T', L, h0, X', hL, e1, e2, ⟨⟨r, u, hv, hp, hb⟩, hF⟩, st⟩ | ⟨q, st₀, t, T', L, E, ce, h0, X', hL, e1, e2, ⟨u, hp, hb, hF⟩, hce, hcv, hcl, st⟩
  · cases hv
    obtain ⟨k1, k2, k3⟩ := vx_keep h0 e1 hS hA hf hL hF
    obtain ⟨t2, a1, b1⟩ := kk r u t T'.heap (locs ++ L) e1.symm (by rw [← e2]; exact X'.warmed.alike) hp hb k1 k2 k3 T' rfl X'
    exact ⟨t2, st t2 a1, b1⟩
  · obtain ⟨k1, k2, k3⟩ := vx_keep h0 e1 hS hAX hf hL hF
    obtain ⟨t2, a1, b1⟩ := kx E ce q u t T'.heap (locs ++ L) e1.symm (by rw [← e2]; exact X'.warmed.alike) hp hb k1 k2 k3 (by rw [e1]; exact hce) hcv hcl T' rfl X'
    exact ⟨t2, st.trans a1, b1⟩
theorem vx_calld {S SX : Type} {post : UInt64 → S → Prop} {px : SX → Prop} {B : S → State → Prop} {BX : String → SX → State → Prop} {AX : Nat → Prop} (hr : vx_Run p l e R s m args below meth c H locs cells slots mc ms (F0 m pc ls st0) rest (va_Qd post B A1 a) (vx_X px BX AX) free) (hS : va_S A0 H0 H locs) (hA : ∀ q, q < H.size → A1 q → A0 q) (hf : ∀ q, free q → A0 q) (hAX : ∀ q, q < H.size → AX q → A0 q)
    (kx : ∀ (E : String) (ce : Cell) (q9 : Addr) (u : SX) (t : State) (H1 : Heap) (locs1 : List Loc), t.heap = H1 → s.vm.Alike t.vm → px u → BX E u t → H.size ≤ H1.size → (∀ q : Nat, q < H.size → ¬ AX q → H1[q]? = H[q]?) → va_S A0 H0 H1 locs1 → H1[q9]? = some ce → ce.vm = .none → s.vm.findClass E = some ce.cls → vx_W p l e R s m args below meth c H1 locs1 (cells + mc) (slots + ms) Q (F0 m pc ls rest) q9)
    (kk : ∀ (r : UInt64) (u : S) (t : State) (H1 : Heap) (locs1 : List Loc), t.heap = H1 → s.vm.Alike t.vm → post r u → B u t → H.size ≤ H1.size → (∀ q : Nat, q < H.size → ¬ A1 q → H1[q]? = H[q]?) → va_S A0 H0 H1 locs1 → W p l e R s m args below meth c H1 locs1 (cells + mc) (slots + ms) Q (F0 m (pc + 3) ls (.double r :: rest))) : W p l e R s m args below meth c H locs cells slots Q (F0 m pc ls st0) := by
  intro T hT X
  rcases hr T hT X with ⟨v, st₀, t, T', L, h0, X', hL, e1, e2, ⟨⟨r, u, hv, hp, hb⟩, hF⟩, st⟩ | ⟨q, st₀, t, T', L, E, ce, h0, X', hL, e1, e2, ⟨u, hp, hb, hF⟩, hce, hcv, hcl, st⟩
  · cases hv
    obtain ⟨k1, k2, k3⟩ := vx_keep h0 e1 hS hA hf hL hF
    obtain ⟨t2, a1, b1⟩ := kk r u t T'.heap (locs ++ L) e1.symm (by rw [← e2]; exact X'.warmed.alike) hp hb k1 k2 k3 T' rfl X'
    exact ⟨t2, st t2 a1, b1⟩
  · obtain ⟨k1, k2, k3⟩ := vx_keep h0 e1 hS hAX hf hL hF
    obtain ⟨t2, a1, b1⟩ := kx E ce q u t T'.heap (locs ++ L) e1.symm (by rw [← e2]; exact X'.warmed.alike) hp hb k1 k2 k3 (by rw [e1]; exact hce) hcv hcl T' rfl X'
    exact ⟨t2, st.trans a1, b1⟩
theorem vx_callv {S SX : Type} {post : S → Prop} {px : SX → Prop} {B : S → State → Prop} {BX : String → SX → State → Prop} {AX : Nat → Prop} (hr : vx_Run p l e R s m args below meth c H locs cells slots mc ms (F0 m pc ls st0) rest (va_Qv post B A1 a) (vx_X px BX AX) free) (hS : va_S A0 H0 H locs) (hA : ∀ q, q < H.size → A1 q → A0 q) (hf : ∀ q, free q → A0 q) (hAX : ∀ q, q < H.size → AX q → A0 q)
    (kx : ∀ (E : String) (ce : Cell) (q9 : Addr) (u : SX) (t : State) (H1 : Heap) (locs1 : List Loc), t.heap = H1 → s.vm.Alike t.vm → px u → BX E u t → H.size ≤ H1.size → (∀ q : Nat, q < H.size → ¬ AX q → H1[q]? = H[q]?) → va_S A0 H0 H1 locs1 → H1[q9]? = some ce → ce.vm = .none → s.vm.findClass E = some ce.cls → vx_W p l e R s m args below meth c H1 locs1 (cells + mc) (slots + ms) Q (F0 m pc ls rest) q9)
    (kk : ∀ (u : S) (t : State) (H1 : Heap) (locs1 : List Loc), t.heap = H1 → s.vm.Alike t.vm → post u → B u t → H.size ≤ H1.size → (∀ q : Nat, q < H.size → ¬ A1 q → H1[q]? = H[q]?) → va_S A0 H0 H1 locs1 → W p l e R s m args below meth c H1 locs1 (cells + mc) (slots + ms) Q (F0 m (pc + 3) ls (rest))) : W p l e R s m args below meth c H locs cells slots Q (F0 m pc ls st0) := by
  intro T hT X
  rcases hr T hT X with ⟨v, st₀, t, T', L, h0, X', hL, e1, e2, ⟨⟨u, hv, hp, hb⟩, hF⟩, st⟩ | ⟨q, st₀, t, T', L, E, ce, h0, X', hL, e1, e2, ⟨u, hp, hb, hF⟩, hce, hcv, hcl, st⟩
  · cases hv
    obtain ⟨k1, k2, k3⟩ := vx_keep h0 e1 hS hA hf hL hF
    obtain ⟨t2, a1, b1⟩ := kk u t T'.heap (locs ++ L) e1.symm (by rw [← e2]; exact X'.warmed.alike) hp hb k1 k2 k3 T' rfl X'
    exact ⟨t2, st t2 a1, b1⟩
  · obtain ⟨k1, k2, k3⟩ := vx_keep h0 e1 hS hAX hf hL hF
    obtain ⟨t2, a1, b1⟩ := kx E ce q u t T'.heap (locs ++ L) e1.symm (by rw [← e2]; exact X'.warmed.alike) hp hb k1 k2 k3 (by rw [e1]; exact hce) hcv hcl T' rfl X'
    exact ⟨t2, st.trans a1, b1⟩
/-- caught by the row x of this method's table; the rows ahead don't take it -/
theorem vx_catch {own name : String} {E : String} {ce : Cell} {q : Addr} (hown : s.vm.findClass own = some m.cls) (pre : List ExceptionTableEntry) (x : ExceptionTableEntry) (suf : List ExceptionTableEntry) (hsplit : c.exceptionTable.toList = pre ++ x :: suf)
    (hpass : ∀ z ∈ pre, covers z pc = false ∨ (z.catchType ≠ 0 ∧ ∃ nm : String, (Cond.classLink own z.catchType nm).before args s = true ∧ va_Nc E nm s)) (hx : covers x pc = true) (h0 : x.catchType ≠ 0)
    (hlink : (Cond.classLink own x.catchType name).before args s = true) (hcast : (Cond.castable E name).before args s = true) (hcell : H[q]? = some ce) (hv : ce.vm = .none) (hcl : s.vm.findClass E = some ce.cls)
    (kk : W p l e R s m args below meth c H locs cells slots Q (F0 m x.handlerPc ls [.ref q])) : vx_W p l e R s m args below meth c H locs cells slots Q (F0 m pc ls rest) q := by
  intro T hT X
  have hpl : e.platform.magicAccessors = ({} : Platform).magicAccessors := by rw [X.admits.platform]
  obtain ⟨c3, c4, hc3, hc4, hasg⟩ := Cond.castable_spec hcast
  cases Option.some.inj (hc3.symm.trans hcl)
  obtain ⟨c5, hc5, hcl5⟩ := Cond.classLink_spec hown hlink e.platform hpl
  cases Option.some.inj (hc4.symm.trans hc5)
  obtain ⟨vm', X', st⟩ := X.thenCaughtThrough q (g := F0 m pc ls rest) rfl (Steps.refl _) (by rw [hT]; exact hcell) (by rw [hv]; rfl) (by obtain ⟨k9, h9, -⟩ := Vm.findClass_spec hcl; exact ⟨k9, h9⟩) pre x suf hsplit
    (fun z hz => by
      rcases hpass z hz with h | ⟨hz0, nm, hl1, hn1⟩
      · exact Or.inl h
      · obtain ⟨c6, hc6, hcl6⟩ := Cond.classLink_spec hown hl1 e.platform hpl
        obtain ⟨a8, b8, h1, h2, h3⟩ := hn1
        cases Option.some.inj (h1.symm.trans hcl)
        cases Option.some.inj (h2.symm.trans hc6)
        exact Or.inr ⟨hz0, _, hcl6, h3⟩) hx (Or.inr ⟨h0, c4, hcl5, hasg⟩)
  obtain ⟨t, a1, b1⟩ := kk (T.setVm vm') hT X'
  exact ⟨t, st.trans a1, b1⟩
end Rows
section Ends
variable {p : Program} {l : Launch} {e : Env} {R : Room} {s : State} {m : MethodId} {args : Array Value} {below : List Frame} {meth : Method} {c : Code} {H : Heap} {locs : List Loc} {cells slots : Nat} {Q : State → Prop}
variable {mc ms : Nat} {free : Addr → Prop} {A0 A1 : Nat → Prop} {H0 : Heap} {a : Array Value} {ls : Array Slot} {st0 rest : List Value}
variable {Qc : Array Value → State → Outcome → State → Prop} {XC : String → State → State → Prop}
/-- what a body that may throw owes at its end -/
def vx_MQ (below : List Frame) (Qc : Array Value → State → Outcome → State → Prop) (XC : String → State → State → Prop) (a : Array Value) (s : State) (mc ms : Nat) (free : Addr → Prop) : State → Prop := fun t =>
  ∃ o, t.status = .running ∧ Ended t below o ∧ vx_Q Qc XC mc ms free a s o t
theorem vx_ret {g : JFrame} {mc ms : Nat} (k : W p l e R s m args below meth c H locs cells slots (MQ below Qc args s mc ms free) g) : W p l e R s m args below meth c H locs cells slots (vx_MQ below Qc XC args s mc ms free) g := by
  intro T hT X
  obtain ⟨t, a1, o, b1, b2, b3, b4⟩ := k T hT X
  exact ⟨t, a1, o, b1, b2, Or.inl ⟨b3, b4⟩⟩
/-- not caught here: it goes on to the caller -/
theorem vx_widen {g : JFrame} {q : Addr} {k n : Nat} (h1 : cells ≤ k) (h2 : slots ≤ n) (kk : vx_W p l e R s m args below meth c H locs k n Q g q) : vx_W p l e R s m args below meth c H locs cells slots Q g q := fun T hT X => kk T hT (stand_widen X h1 h2)
theorem vx_out {pc : Nat} {E : String} {ce : Cell} {q : Addr} {mc ms : Nat} (hout : ∀ x ∈ c.exceptionTable.toList, covers x pc = false) (hlocks : meth.locks = false) (hcell : H[q]? = some ce) (hv : ce.vm = .none) (hcl : s.vm.findClass E = some ce.cls)
    (hx : ∀ t : State, t.heap = H → s.vm.Alike t.vm → XC E s t) (hf : ∀ z ∈ locs, free z.base) (hc : cells ≤ mc) (hs : slots ≤ ms) :
    vx_W p l e R s m args below meth c H locs cells slots (vx_MQ below Qc XC args s mc ms free) (F0 m pc ls rest) q := by
  intro T hT X
  obtain ⟨st1, hrun, hend, hW, hsm⟩ := X.leaveThrown q (g := F0 m pc ls rest) rfl rfl rfl hout hlocks
  have hcell9 : (T.setFrames (.throwing q :: below)).heap[q]? = some ce := by
    show T.heap[q]? = some ce
    rw [hT]; exact hcell
  exact ⟨_, st1, .threw q, hrun, hend, Or.inr ⟨q, rfl, E, ce, locs, hx _ hT hW.alike, hcell9, hv, hcl, hW, hsm.mono hc hs, hf⟩⟩
theorem vx_frame {U : State} {k n : Nat} (h : s.sameButNew ({ U with vm := s.vm } : State) locs k n) : s.heap.size ≤ U.heap.size ∧ ∀ q : Nat, q < s.heap.size → (∀ z ∈ locs, z.base ≠ q) → U.heap[q]? = s.heap[q]? := by
  obtain ⟨-, h2, -, -, -, h6⟩ := h
  refine ⟨h2, fun q hq hz => ?_⟩
  obtain ⟨c9, e1, e2, e3, e4⟩ := h6 q _ (Array.getElem?_eq_getElem hq)
  have hs : c9.slots = (s.heap[q]).slots := Array.ext_getElem? fun i => e4 i fun hm => hz _ hm rfl
  have h9 : c9 = s.heap[q] := by
    rw [hs] at e2
    exact e2
  have e5 : U.heap[q]? = some c9 := e1
  rw [e5, h9, Array.getElem?_eq_getElem hq]
/-- the words of a throw but the four that speak of the heap -/
def vx_no (w : Cond) : Bool := decide (w ≠ .isRef (.static Bundle.tN "UNASSIGNED_STACK" Bundle.steD)) && decide (w ≠ .isRef (.static Bundle.tN "SUPPRESSED_SENTINEL" Bundle.listD)) && decide (w ≠ .laysStatic Bundle.tN "UNASSIGNED_STACK" Bundle.steD) && decide (w ≠ .laysStatic Bundle.tN "SUPPRESSED_SENTINEL" Bundle.listD)
def vx_at0 (own : String) (ic : Nat) (X : String) (names : List String) : List Cond := (Bundle.ownAtoms0 own ic X names).filter vx_no
def vx_atS (own : String) (ic : Nat) (X : String) (names : List String) : List Cond := (Bundle.ownAtoms own ic X names).filter vx_no
/-- a word that the tables alone decide, or a good one -/
def vx_ot (w : Cond) : Bool := w.onTables || goodWord w
theorem vx_ot_at {args a' : Array Value} {s U : State} {w : Cond} (hW : s.WarmedH U.vm) (hvm : s.vm = U.vm) (hg : vx_ot w = true) (h : w.before args s = true) : w.before a' U = true := by
  simp only [vx_ot, Bool.or_eq_true] at hg
  rcases hg with hg | hg
  · exact va_tabs hg hvm h
  · exact word_at hW (good_of_word hg) h
/-- a list's words: the good ones out of the method's own list, the others by premises of their own -/
theorem vx_hat {args : Array Value} {s : State} {L B : List Cond} (h1 : ∀ w ∈ L.filter goodWord, w.before args s = true) (h2 : ∀ w ∈ L.filter (fun w => !goodWord w), w ∈ B) (h3 : ∀ w ∈ B, w.before args s = true) : ∀ w ∈ L, w.before args s = true := by
  intro w hw
  by_cases g : goodWord w = true
  · exact h1 w (List.mem_filter.mpr ⟨hw, g⟩)
  · refine h3 w (h2 w (List.mem_filter.mpr ⟨hw, ?_⟩))
    show (!goodWord w) = true
    cases hgw : goodWord w
    · rfl
    · exact absurd hgw g
theorem vx_c {args : Array Value} {s : State} {w : Cond} {B : List Cond} (h : w.before args s = true) (t : ∀ w ∈ B, w.before args s = true) : ∀ w' ∈ w :: B, w'.before args s = true := fun w' h' => (List.mem_cons.mp h').elim (fun e => by rw [e]; exact h) (t w')
theorem vx_n {args : Array Value} {s : State} : ∀ w ∈ ([] : List Cond), w.before args s = true := fun _ h => nomatch h
theorem vx_own {args : Array Value} {s : State} {L : List Cond} (h1 : ∀ w ∈ L.filter vx_no, w.before args s = true)
    (hU : (Cond.isRef (.static Bundle.tN "UNASSIGNED_STACK" Bundle.steD)).before args s = true) (hN : (Cond.isRef (.static Bundle.tN "SUPPRESSED_SENTINEL" Bundle.listD)).before args s = true)
    (lU : (Cond.laysStatic Bundle.tN "UNASSIGNED_STACK" Bundle.steD).before args s = true) (lN : (Cond.laysStatic Bundle.tN "SUPPRESSED_SENTINEL" Bundle.listD).before args s = true) : ∀ w ∈ L, w.before args s = true := by
  intro w hw
  by_cases e1 : w = .isRef (.static Bundle.tN "UNASSIGNED_STACK" Bundle.steD)
  · rw [e1]; exact hU
  · by_cases e2 : w = .isRef (.static Bundle.tN "SUPPRESSED_SENTINEL" Bundle.listD)
    · rw [e2]; exact hN
    · by_cases e3 : w = .laysStatic Bundle.tN "UNASSIGNED_STACK" Bundle.steD
      · rw [e3]; exact lU
      · by_cases e4 : w = .laysStatic Bundle.tN "SUPPRESSED_SENTINEL" Bundle.listD
        · rw [e4]; exact lN
        · exact h1 w (List.mem_filter.mpr ⟨hw, by unfold vx_no; rw [decide_eq_true e1, decide_eq_true e2, decide_eq_true e3, decide_eq_true e4]; rfl⟩)
/-- where a static field lies, its class's statics cell in H -/
def vx_L (C n d : String) (A : Nat → Prop) (U : State) (H : Heap) : Prop := ∃ (c : ClassId) (k : Class) (i : Nat) (f : Field) (a : Nat) (cell : Cell), U.vm.findClass C = some c ∧ U.fieldFound? C n d = some (c, k, i, f) ∧ f.isStatic = true ∧ k.statics = some a ∧ H[a]? = some cell ∧ cell.vm.isStatics = true ∧ cell.cls = c ∧ f.slot < cell.slots.size ∧ k.staticTypes[f.slot]? = some f.type ∧ ¬ A a
theorem vx_L.moved {C n d : String} {A : Nat → Prop} {u U : State} {H : Heap} (hvm : u.vm.Alike U.vm) (h : vx_L C n d A u H) : vx_L C n d A U H := by
  obtain ⟨c, k, i, f, a, cell, h1, h2, h3, h4, h5, h6, h7, h8, h9, h10⟩ := h
  obtain ⟨k', hi', he⟩ := State.fieldFound?_setVm hvm h2
  exact ⟨c, k', i, f, a, cell, by rw [hvm.findClass]; exact h1, hi', h3, by rw [he]; exact h4, h5, h6, h7, h8, by rw [he]; exact h9, h10⟩
theorem vx_L.kept {C n d : String} {A : Nat → Prop} {U : State} {H H1 : Heap} (h : vx_L C n d A U H) (hq : ∀ a : Nat, a < H.size → ¬ A a → H1[a]? = H[a]?) : vx_L C n d A U H1 := by
  obtain ⟨c, k, i, f, a, cell, h1, h2, h3, h4, h5, h6, h7, h8, h9, h10⟩ := h
  exact ⟨c, k, i, f, a, cell, h1, h2, h3, h4, by rw [hq a (Array.getElem?_eq_some_iff.mp h5).1 h10]; exact h5, h6, h7, h8, h9, h10⟩
theorem vx_L.narrow {C n d : String} {A B : Nat → Prop} {U : State} {H : Heap} (h : vx_L C n d A U H) (hAB : ∀ q, B q → A q) : vx_L C n d B U H := by
  obtain ⟨c, k, i, f, a, cell, h1, h2, h3, h4, h5, h6, h7, h8, h9, h10⟩ := h
  exact ⟨c, k, i, f, a, cell, h1, h2, h3, h4, h5, h6, h7, h8, h9, fun z => h10 (hAB _ z)⟩
theorem vx_L.word {C n d : String} {A : Nat → Prop} {s : State} {args : Array Value} (h : vx_L C n d A s s.heap) : (Cond.laysStatic C n d).before args s = true := by
  obtain ⟨c, k, i, f, a, cell, h1, h2, h3, h4, h5, h6, h7, h8, h9, -⟩ := h
  show (Cond.laysStatic C n d).holds args s none s [] = true
  exact Cond.laysStatic_of h1 h2 h3 h4 h5 h6 h7 h8 h9
/-- .. and what it holds: null or some reference -/
def vx_Zq (C n d : String) (A : Nat → Prop) (U : State) (H : Heap) : Prop := va_Zq C n d A U H ∧ vx_L C n d A U H
theorem vx_Zq.moved {C n d : String} {A : Nat → Prop} {u U : State} {H : Heap} (hvm : u.vm.Alike U.vm) (h : vx_Zq C n d A u H) : vx_Zq C n d A U H := ⟨va_Zq.moved hvm h.1, vx_L.moved hvm h.2⟩
theorem vx_Zq.kept {C n d : String} {A : Nat → Prop} {U : State} {H H1 : Heap} (h : vx_Zq C n d A U H) (hq : ∀ a : Nat, a < H.size → ¬ A a → H1[a]? = H[a]?) : vx_Zq C n d A U H1 := ⟨va_Zq.kept h.1 hq, vx_L.kept h.2 hq⟩
theorem vx_Zq.narrow {C n d : String} {A B : Nat → Prop} {U : State} {H : Heap} (h : vx_Zq C n d A U H) (hAB : ∀ q, B q → A q) : vx_Zq C n d B U H := ⟨va_Zq.narrow h.1 hAB, vx_L.narrow h.2 hAB⟩
theorem vx_Zqof {args : Array Value} {s : State} {C n d : String} {A : Nat → Prop} (hl : (Cond.laysStatic C n d).before args s = true) (hini : (Cond.initialized C).before args s = true) (h : (Cond.isRef (.static C n d)).before args s = true) (hA : ∀ a : Nat, a < s.heap.size → ¬ A a) : vx_Zq C n d A s s.heap := by
  refine ⟨va_Zqof hl hini h hA, ?_⟩
  obtain ⟨c, k, i, f, a, cell, h1, h2, h3, h4, h5, h6, h7, h8, h9⟩ := Cond.laysStatic_spec hl
  exact ⟨c, k, i, f, a, cell, h1, h2, h3, h4, h5, h6, h7, h8, h9, hA a (Array.getElem?_eq_some_iff.mp h5).1⟩
theorem vx_isRef {C n d : String} {v : Value} {A : Nat → Prop} {s : State} {args : Array Value} (h : va_Z C n d v A s s.heap) (hv : v.isRef = true) : (Cond.isRef (.static C n d)).before args s = true := by
  obtain ⟨cf, kf, fi, f, a, cell, h1, h2, h3, h4, h5, h6, h7, -⟩ := h
  have he : (Term.static C n d).eval args s none [] s = some v := by
    simp [Term.eval, State.fieldNamed?, h1, h2, h4, h5, h6, h7]
  simp only [Cond.before, Cond.holds, Cond.value, he]
  cases v <;> simp_all [Value.isRef]
theorem vx_isRefq {C n d : String} {A : Nat → Prop} {s : State} {args : Array Value} (h : va_Zq C n d A s s.heap) : (Cond.isRef (.static C n d)).before args s = true := by
  rcases h with h | ⟨t, h⟩
  · exact vx_isRef h rfl
  · exact vx_isRef h rfl
/-- the same frame, seen from here: as if the method were called anew in this heap -/
theorem vx_rebase {T : State} (X : Stand p l e R s m args below meth c T locs cells slots) {R' : Room} (hf : R'.frames ≤ R.frames) (hl : R'.locals ≤ R.locals) (hc : cells + R'.cells ≤ R.cells) (hs : slots + R'.slots ≤ R.slots) :
    Stand p l e R' ((T.setVm s.vm).setFrames (.invoking m args :: below)) m args below meth c T [] 0 0 := by
  have htop : (T.setVm s.vm).topJava?.isSome := X.here.top
  have hF : ((T.setVm s.vm).setFrames (.invoking m args :: below)).frames = .invoking m args :: below := State.frames_setFrames _ (State.cur_lt_of_top htop)
  obtain ⟨g₀, hg0⟩ := Option.isSome_iff_exists.mp htop
  obtain ⟨r, hr⟩ := State.topJava?_eq_some.mp hg0
  have hl9 : e.platform.stackLimits (T.setVm s.vm).me = e.platform.stackLimits s.me := X.limits
  have hb9 : (T.setVm s.vm).me.stackBytes = s.me.stackBytes := X.bytes
  refine ⟨X.admits, X.cas, X.clock, hF, ?_, X.hears, X.method, X.code, X.here, X.tail, X.warmed, ?_, ?_, ?_⟩
  · have h := X.room
    have hU : ((T.setVm s.vm).setFrames (.invoking m args :: below)).localsInUse = s.localsInUse := by
      rw [State.localsInUse_invoking hF (meth := meth) (c := c) X.method X.code, State.localsInUse_invoking X.frames X.method X.code]
    simp only [State.hasRoom, Bool.and_eq_true, decide_eq_true_eq] at h ⊢
    obtain ⟨⟨⟨⟨h1, h2, h3, h4, h5, h6⟩, h7⟩, h8⟩, h9⟩ := h
    rw [X.frames, List.length_cons] at h2 h3
    have q1 := X.heapSize
    have q2 := X.used
    simp only [hF, hU, List.length_cons, State.stackLimits_setFrames, State.stackBytes_setFrames, hl9, hb9]
    refine ⟨⟨⟨⟨by omega, by omega, by omega, by omega, by omega, h6⟩, ?_⟩, ?_⟩, X.book⟩
    · show T.heap.size + R'.cells ≤ e.platform.maxCells
      omega
    · show T.slotsUsed + R'.slots ≤ e.platform.maxSlots
      omega
  · rw [State.stackLimits_setFrames]; rfl
  · rw [State.stackBytes_setFrames]; rfl
  · refine ⟨?_, Nat.le_refl _, Nat.le_refl _, ?_, ?_, fun a c9 h9 => ⟨c9, h9, rfl, rfl, fun _ _ => rfl⟩⟩
    · obtain ⟨t, ht, -⟩ := State.frames_cons hr
      show T.setVm s.vm = { ((T.setVm s.vm).setFrames (.invoking m args :: below)).setFrames (T.setVm s.vm).frames with heap := T.heap, slotsUsed := T.slotsUsed }
      rw [State.setFrames_setFrames, State.setFrames_self ht]
      rfl
    · show T.slotsUsed = T.slotsUsed + ((T.heap.toList.drop T.heap.size).map (·.slots.size)).sum
      rw [List.drop_eq_nil_of_le (Nat.le_of_eq Array.length_toList)]
      rfl
    · show ((T.heap.toList.drop T.heap.size).map (·.slots.size)).sum ≤ 0
      rw [List.drop_eq_nil_of_le (Nat.le_of_eq Array.length_toList)]
      exact Nat.le_refl _
/-- 'throw new E()': new; dup; invokespecial; athrow -/
theorem vx_throw0 {cc : ByteArray} {pc : Nat} (hexec : p.tables.exec = Jvm.exec) (hb : c.code = cc) (hl : l.stackTraces = false) {own cls : String} {names : List String} {ik ic mc ms : Nat} {A : Nat → Prop}
    (hown : s.vm.findClass own = some m.cls) (hcls : Bundle.fit cls = true) (hnames : ∀ n ∈ names, Bundle.fit n = true)
    (hk : (Cond.classLink own ik cls).before args s = true) (hini : (Cond.initialized cls).before args s = true) (hat : ∀ w ∈ vx_at0 own ic cls names, w.before args s = true)
    (hgood : ∀ w ∈ Cond.classLink own ik cls :: Cond.initialized cls :: vx_at0 own ic cls names, vx_ot w = true)
    (hU : vx_Zq Bundle.tN "UNASSIGNED_STACK" Bundle.steD A s s.heap) (hN : vx_Zq Bundle.tN "SUPPRESSED_SENTINEL" Bundle.listD A s s.heap) (hS : va_S A s.heap H locs) (hsize : ls.size = c.maxLocals)
    (d0 : decode cc pc = .ok (.new ik, 3)) (d3 : decode cc (pc + 3) = .ok (.dup, 1)) (d4 : decode cc (pc + 4) = .ok (.invokespecial ic, 3)) (d7 : decode cc (pc + 7) = .ok (.athrow, 1))
    (hout : ∀ x ∈ c.exceptionTable.toList, covers x (pc + 7) = false)
    (hRframes : names.length + 3 < R.frames) (hRlocals : (rest.map fun v => v.category).sum + (13 * (names.length + 1) + 42) ≤ R.locals) (hRcells : cells + 1 ≤ R.cells) (hRslots : slots + 6 ≤ R.slots) (hlocks : meth.locks = false)
    (hx : ∀ t : State, s.vm.Alike t.vm → H.size ≤ t.heap.size → (∀ q : Nat, q < H.size → t.heap[q]? = H[q]?) → XC cls s t)
    (hf : ∀ z ∈ locs, free z.base) (hc : cells + 1 ≤ mc) (hs : slots + 6 ≤ ms) :
    W p l e R s m args below meth c H locs cells slots (vx_MQ below Qc XC args s mc ms free) (F0 m pc ls rest) := by
  intro T hT X
  have htr : e.platform.stackTraces = false := (show e.platform.stackTraces = l.stackTraces by rw [X.admits.platform]).trans hl
  have Y := vx_rebase X (R' := { frames := R.frames, locals := R.locals, cells := 1, slots := 6 }) (Nat.le_refl _) (Nat.le_refl _) hRcells hRslots
  obtain ⟨s', hA⟩ : ∃ z, z = (T.setVm s.vm).setFrames (.invoking m args :: below) := ⟨_, rfl⟩
  rw [← hA] at Y
  have hvm : s'.vm = s.vm := by rw [hA]; rfl
  have hhp : s'.heap = H := by rw [hA]; exact hT
  have hW0 : s.WarmedH s'.vm := by rw [hvm]; exact State.WarmedH.refl s
  have hat' : ∀ w ∈ vx_at0 own ic cls names, w.before args s' = true := fun w hw => vx_ot_at hW0 hvm.symm (hgood w (List.mem_cons_of_mem _ (List.mem_cons_of_mem _ hw))) (hat w hw)
  have hk' : (Cond.classLink own ik cls).before args s' = true := vx_ot_at hW0 hvm.symm (hgood _ List.mem_cons_self) hk
  have hini' : (Cond.initialized cls).before args s' = true := vx_ot_at hW0 hvm.symm (hgood _ (List.mem_cons_of_mem _ List.mem_cons_self)) hini
  have hU' : vx_Zq Bundle.tN "UNASSIGNED_STACK" Bundle.steD A s' s'.heap := by rw [hhp]; exact vx_Zq.moved hW0.alike (hU.kept hS.2.1)
  have hN' : vx_Zq Bundle.tN "SUPPRESSED_SENTINEL" Bundle.listD A s' s'.heap := by rw [hhp]; exact vx_Zq.moved hW0.alike (hN.kept hS.2.1)
  have h : ∀ w ∈ Bundle.ownAtoms0 own ic cls names, w.before args s' = true := vx_own hat' (vx_isRefq hU'.1) (vx_isRefq hN'.1) hU'.2.word hN'.2.word
  have hown' : s'.vm.findClass own = some m.cls := by rw [hvm]; exact hown
  have hins : (Cond.instantiable cls 6).before args s' = true := h _ (by simp [Bundle.ownAtoms0])
  obtain ⟨vm₁, cX, kX, hfX, hkX, -, -, X₁, st1⟩ := Y.newCold hexec (own := own) (C := cls) (index := ik) (n := 6) hown' hk' hins hini'
    (g := F0 m pc ls rest) rfl (by rw [hb]; exact d0) (Nat.le_refl _) (Nat.le_refl _)
  generalize hT1 : (T.setVm vm₁).pushCell { cls := cX, slots := kX.instanceTypes.map defaultValue, vm := .none } = T1 at X₁ st1
  have hcat : (Value.ref T.heap.size).category = 1 := rfl
  have hcellA : T1.heap[T.heap.size]? = some (freshCell cX kX) := by rw [← hT1]; exact State.heap_pushCell_size _ _
  have d3' : decode c.code (pc + 3) = .ok (.dup, 1) := by rw [hb]; exact d3
  obtain ⟨U, hsteps, hrun, hend, hW, hsame, ce, hce, hO⟩ := X₁.ctorThrow0 hexec htr (own := own) (cls := cls) (names := names) (ic := ic) hown' hcls hnames h (fun x hx => nomatch hx) hfX hkX hcellA (by rw [hhp, hT]; exact Nat.le_refl _)
    (g := { method := m, pc := pc + 4, locals := ls, stack := .ref T.heap.size :: .ref T.heap.size :: rest, locked := none }) rfl hsize rfl rfl (rest := rest) rfl
    (by rw [hb]; exact d4) (by rw [hb]; exact d7) hout hRframes (by simp only [List.map_cons, List.sum_cons, hcat]; omega) hlocks
  obtain ⟨f1, f2⟩ := vx_frame hsame
  rw [hhp] at f1 f2
  have hWs : s.WarmedH U.vm := State.WarmedH.trans hW0 hW
  have hcl : s.vm.findClass cls = some ce.cls := by
    have h9 := hO.cls
    rw [hvm] at h9
    exact h9
  have hall : s.sameButNew ({ U with vm := s.vm } : State) locs mc ms := by
    subst hA
    obtain ⟨e1, e2⟩ := hsame
    rw [State.setFrames_setFrames] at e1
    have h2 : (T.setVm s.vm).sameButNew ({ U with vm := s.vm } : State) [] (0 + 1) (0 + 6) := ⟨e1, e2⟩
    have h3 := X.same.trans h2
    rw [List.append_nil] at h3
    exact h3.mono hc hs
  refine ⟨U, ?_, .threw T.heap.size, hrun, hend, Or.inr ⟨T.heap.size, rfl, cls, ce, locs, hx U hWs.alike f1 (fun q hq => f2 q hq (fun z hz => nomatch hz)), hce, hO.vm, hcl, hWs, hall, hf⟩⟩
  refine st1 _ ?_
  show Steps p.tables e below (T1.setTop { method := m, pc := pc + 3, locals := ls, stack := .ref T.heap.size :: rest, locked := none }) _
  jvm_step X₁.here [X₁.here.top, hexec, d3', Value.category]
  exact hsteps
/-- 'throw new E("text")': new; dup; ldc; invokespecial; athrow -/
theorem vx_throwS {cc : ByteArray} {pc : Nat} (hexec : p.tables.exec = Jvm.exec) (hb : c.code = cc) (hl : l.stackTraces = false) {own cls text : String} {names : List String} {ik is ic mc ms sa : Nat} {A : Nat → Prop}
    (hown : s.vm.findClass own = some m.cls) (hcls : Bundle.fit cls = true) (hnames : ∀ n ∈ names, Bundle.fit n = true)
    (hk : (Cond.classLink own ik cls).before args s = true) (hini : (Cond.initialized cls).before args s = true) (hstr : vk_R own is text sa s) (hat : ∀ w ∈ vx_atS own ic cls names, w.before args s = true)
    (hgood : ∀ w ∈ Cond.classLink own ik cls :: Cond.initialized cls :: vx_atS own ic cls names, vx_ot w = true)
    (hU : vx_Zq Bundle.tN "UNASSIGNED_STACK" Bundle.steD A s s.heap) (hN : vx_Zq Bundle.tN "SUPPRESSED_SENTINEL" Bundle.listD A s s.heap) (hS : va_S A s.heap H locs) (hsize : ls.size = c.maxLocals)
    (d0 : decode cc pc = .ok (.new ik, 3)) (d3 : decode cc (pc + 3) = .ok (.dup, 1)) (d4 : decode cc (pc + 4) = .ok (.ldc is, 2)) (d6 : decode cc (pc + 6) = .ok (.invokespecial ic, 3)) (d9 : decode cc (pc + 9) = .ok (.athrow, 1))
    (hout : ∀ x ∈ c.exceptionTable.toList, covers x (pc + 9) = false)
    (hRframes : names.length + 3 < R.frames) (hRlocals : (rest.map fun v => v.category).sum + (13 * (names.length + 1) + 43) ≤ R.locals) (hRcells : cells + 1 ≤ R.cells) (hRslots : slots + 6 ≤ R.slots) (hlocks : meth.locks = false)
    (hx : ∀ t : State, s.vm.Alike t.vm → H.size ≤ t.heap.size → (∀ q : Nat, q < H.size → t.heap[q]? = H[q]?) → XC cls s t)
    (hf : ∀ z ∈ locs, free z.base) (hc : cells + 1 ≤ mc) (hs : slots + 6 ≤ ms) :
    W p l e R s m args below meth c H locs cells slots (vx_MQ below Qc XC args s mc ms free) (F0 m pc ls rest) := by
  intro T hT X
  have htr : e.platform.stackTraces = false := (show e.platform.stackTraces = l.stackTraces by rw [X.admits.platform]).trans hl
  have Y := vx_rebase X (R' := { frames := R.frames, locals := R.locals, cells := 1, slots := 6 }) (Nat.le_refl _) (Nat.le_refl _) hRcells hRslots
  obtain ⟨s', hA⟩ : ∃ z, z = (T.setVm s.vm).setFrames (.invoking m args :: below) := ⟨_, rfl⟩
  rw [← hA] at Y
  have hvm : s'.vm = s.vm := by rw [hA]; rfl
  have hhp : s'.heap = H := by rw [hA]; exact hT
  have hW0 : s.WarmedH s'.vm := by rw [hvm]; exact State.WarmedH.refl s
  have hat' : ∀ w ∈ vx_atS own ic cls names, w.before args s' = true := fun w hw => vx_ot_at hW0 hvm.symm (hgood w (List.mem_cons_of_mem _ (List.mem_cons_of_mem _ hw))) (hat w hw)
  have hk' : (Cond.classLink own ik cls).before args s' = true := vx_ot_at hW0 hvm.symm (hgood _ List.mem_cons_self) hk
  have hini' : (Cond.initialized cls).before args s' = true := vx_ot_at hW0 hvm.symm (hgood _ (List.mem_cons_of_mem _ List.mem_cons_self)) hini
  have hU' : vx_Zq Bundle.tN "UNASSIGNED_STACK" Bundle.steD A s' s'.heap := by rw [hhp]; exact vx_Zq.moved hW0.alike (hU.kept hS.2.1)
  have hN' : vx_Zq Bundle.tN "SUPPRESSED_SENTINEL" Bundle.listD A s' s'.heap := by rw [hhp]; exact vx_Zq.moved hW0.alike (hN.kept hS.2.1)
  have h : ∀ w ∈ Bundle.ownAtoms own ic cls names, w.before args s' = true := vx_own hat' (vx_isRefq hU'.1) (vx_isRefq hN'.1) hU'.2.word hN'.2.word
  have hown' : s'.vm.findClass own = some m.cls := by rw [hvm]; exact hown
  have hins : (Cond.instantiable cls 6).before args s' = true := h _ (by simp [Bundle.ownAtoms])
  obtain ⟨vm₁, cX, kX, hfX, hkX, -, -, X₁, st1⟩ := Y.newCold hexec (own := own) (C := cls) (index := ik) (n := 6) hown' hk' hins hini'
    (g := F0 m pc ls rest) rfl (by rw [hb]; exact d0) (Nat.le_refl _) (Nat.le_refl _)
  generalize hT1 : (T.setVm vm₁).pushCell { cls := cX, slots := kX.instanceTypes.map defaultValue, vm := .none } = T1 at X₁ st1
  have hcat : (Value.ref T.heap.size).category = 1 := rfl
  have hcellA : T1.heap[T.heap.size]? = some (freshCell cX kX) := by rw [← hT1]; exact State.heap_pushCell_size _ _
  have d3' : decode c.code (pc + 3) = .ok (.dup, 1) := by rw [hb]; exact d3
  have d4' : decode c.code (pc + 4) = .ok (.ldc is, 2) := by rw [hb]; exact d4
  have hstr' : vk_R own is text sa s' := vk_R.warm hW0 hstr
  obtain ⟨U, hsteps, hrun, hend, hW, hsame, ce, hce, hO⟩ := X₁.ctorThrowS hexec htr (own := own) (cls := cls) (names := names) (ic := ic) hown' hcls hnames h (fun x hx => nomatch hx) hfX hkX hcellA (by rw [hhp, hT]; exact Nat.le_refl _) (msg := .ref sa) rfl
    (g := { method := m, pc := pc + 6, locals := ls, stack := .ref sa :: .ref T.heap.size :: .ref T.heap.size :: rest, locked := none }) rfl hsize rfl rfl (rest := rest) rfl
    (by rw [hb]; exact d6) (by rw [hb]; exact d9) hout hRframes (by simp only [List.map_cons, List.sum_cons, hcat]; omega) hlocks
  obtain ⟨f1, f2⟩ := vx_frame hsame
  rw [hhp] at f1 f2
  have hWs : s.WarmedH U.vm := State.WarmedH.trans hW0 hW
  have hcl : s.vm.findClass cls = some ce.cls := by
    have h9 := hO.cls
    rw [hvm] at h9
    exact h9
  have hall : s.sameButNew ({ U with vm := s.vm } : State) locs mc ms := by
    subst hA
    obtain ⟨e1, e2⟩ := hsame
    rw [State.setFrames_setFrames] at e1
    have h2 : (T.setVm s.vm).sameButNew ({ U with vm := s.vm } : State) [] (0 + 1) (0 + 6) := ⟨e1, e2⟩
    have h3 := X.same.trans h2
    rw [List.append_nil] at h3
    exact h3.mono hc hs
  refine ⟨U, ?_, .threw T.heap.size, hrun, hend, Or.inr ⟨T.heap.size, rfl, cls, ce, locs, hx U hWs.alike f1 (fun q hq => f2 q hq (fun z hz => nomatch hz)), hce, hO.vm, hcl, hWs, hall, hf⟩⟩
  refine st1 _ ?_
  show Steps p.tables e below (T1.setTop { method := m, pc := pc + 3, locals := ls, stack := .ref T.heap.size :: rest, locked := none }) _
  jvm_step X₁.here [X₁.here.top, hexec, d3', Value.category]
  exact X₁.ldcString hexec (own := own) (text := text) (index := is) (a := sa) hown' hstr'.1 hstr'.2
    (g := { method := m, pc := pc + 4, locals := ls, stack := .ref T.heap.size :: .ref T.heap.size :: rest, locked := none }) rfl d4' _ hsteps
/-- 'throw new E("text")', the text by a wide index -/
theorem vx_throwSW {cc : ByteArray} {pc : Nat} (hexec : p.tables.exec = Jvm.exec) (hb : c.code = cc) (hl : l.stackTraces = false) {own cls text : String} {names : List String} {ik is ic mc ms sa : Nat} {A : Nat → Prop}
    (hown : s.vm.findClass own = some m.cls) (hcls : Bundle.fit cls = true) (hnames : ∀ n ∈ names, Bundle.fit n = true)
    (hk : (Cond.classLink own ik cls).before args s = true) (hini : (Cond.initialized cls).before args s = true) (hstr : vk_R own is text sa s) (hat : ∀ w ∈ vx_atS own ic cls names, w.before args s = true)
    (hgood : ∀ w ∈ Cond.classLink own ik cls :: Cond.initialized cls :: vx_atS own ic cls names, vx_ot w = true)
    (hU : vx_Zq Bundle.tN "UNASSIGNED_STACK" Bundle.steD A s s.heap) (hN : vx_Zq Bundle.tN "SUPPRESSED_SENTINEL" Bundle.listD A s s.heap) (hS : va_S A s.heap H locs) (hsize : ls.size = c.maxLocals)
    (d0 : decode cc pc = .ok (.new ik, 3)) (d3 : decode cc (pc + 3) = .ok (.dup, 1)) (d4 : decode cc (pc + 4) = .ok (.ldc_w is, 3)) (d7 : decode cc (pc + 7) = .ok (.invokespecial ic, 3)) (d10 : decode cc (pc + 10) = .ok (.athrow, 1))
    (hout : ∀ x ∈ c.exceptionTable.toList, covers x (pc + 10) = false)
    (hRframes : names.length + 3 < R.frames) (hRlocals : (rest.map fun v => v.category).sum + (13 * (names.length + 1) + 43) ≤ R.locals) (hRcells : cells + 1 ≤ R.cells) (hRslots : slots + 6 ≤ R.slots) (hlocks : meth.locks = false)
    (hx : ∀ t : State, s.vm.Alike t.vm → H.size ≤ t.heap.size → (∀ q : Nat, q < H.size → t.heap[q]? = H[q]?) → XC cls s t)
    (hf : ∀ z ∈ locs, free z.base) (hc : cells + 1 ≤ mc) (hs : slots + 6 ≤ ms) :
    W p l e R s m args below meth c H locs cells slots (vx_MQ below Qc XC args s mc ms free) (F0 m pc ls rest) := by
  intro T hT X
  have htr : e.platform.stackTraces = false := (show e.platform.stackTraces = l.stackTraces by rw [X.admits.platform]).trans hl
  have Y := vx_rebase X (R' := { frames := R.frames, locals := R.locals, cells := 1, slots := 6 }) (Nat.le_refl _) (Nat.le_refl _) hRcells hRslots
  obtain ⟨s', hA⟩ : ∃ z, z = (T.setVm s.vm).setFrames (.invoking m args :: below) := ⟨_, rfl⟩
  rw [← hA] at Y
  have hvm : s'.vm = s.vm := by rw [hA]; rfl
  have hhp : s'.heap = H := by rw [hA]; exact hT
  have hW0 : s.WarmedH s'.vm := by rw [hvm]; exact State.WarmedH.refl s
  have hat' : ∀ w ∈ vx_atS own ic cls names, w.before args s' = true := fun w hw => vx_ot_at hW0 hvm.symm (hgood w (List.mem_cons_of_mem _ (List.mem_cons_of_mem _ hw))) (hat w hw)
  have hk' : (Cond.classLink own ik cls).before args s' = true := vx_ot_at hW0 hvm.symm (hgood _ List.mem_cons_self) hk
  have hini' : (Cond.initialized cls).before args s' = true := vx_ot_at hW0 hvm.symm (hgood _ (List.mem_cons_of_mem _ List.mem_cons_self)) hini
  have hU' : vx_Zq Bundle.tN "UNASSIGNED_STACK" Bundle.steD A s' s'.heap := by rw [hhp]; exact vx_Zq.moved hW0.alike (hU.kept hS.2.1)
  have hN' : vx_Zq Bundle.tN "SUPPRESSED_SENTINEL" Bundle.listD A s' s'.heap := by rw [hhp]; exact vx_Zq.moved hW0.alike (hN.kept hS.2.1)
  have h : ∀ w ∈ Bundle.ownAtoms own ic cls names, w.before args s' = true := vx_own hat' (vx_isRefq hU'.1) (vx_isRefq hN'.1) hU'.2.word hN'.2.word
  have hown' : s'.vm.findClass own = some m.cls := by rw [hvm]; exact hown
  have hins : (Cond.instantiable cls 6).before args s' = true := h _ (by simp [Bundle.ownAtoms])
  obtain ⟨vm₁, cX, kX, hfX, hkX, -, -, X₁, st1⟩ := Y.newCold hexec (own := own) (C := cls) (index := ik) (n := 6) hown' hk' hins hini'
    (g := F0 m pc ls rest) rfl (by rw [hb]; exact d0) (Nat.le_refl _) (Nat.le_refl _)
  generalize hT1 : (T.setVm vm₁).pushCell { cls := cX, slots := kX.instanceTypes.map defaultValue, vm := .none } = T1 at X₁ st1
  have hcat : (Value.ref T.heap.size).category = 1 := rfl
  have hcellA : T1.heap[T.heap.size]? = some (freshCell cX kX) := by rw [← hT1]; exact State.heap_pushCell_size _ _
  have d3' : decode c.code (pc + 3) = .ok (.dup, 1) := by rw [hb]; exact d3
  have d4' : decode c.code (pc + 4) = .ok (.ldc_w is, 3) := by rw [hb]; exact d4
  have hstr' : vk_R own is text sa s' := vk_R.warm hW0 hstr
  obtain ⟨U, hsteps, hrun, hend, hW, hsame, ce, hce, hO⟩ := X₁.ctorThrowS hexec htr (own := own) (cls := cls) (names := names) (ic := ic) hown' hcls hnames h (fun x hx => nomatch hx) hfX hkX hcellA (by rw [hhp, hT]; exact Nat.le_refl _) (msg := .ref sa) rfl
    (g := { method := m, pc := pc + 7, locals := ls, stack := .ref sa :: .ref T.heap.size :: .ref T.heap.size :: rest, locked := none }) rfl hsize rfl rfl (rest := rest) rfl
    (by rw [hb]; exact d7) (by rw [hb]; exact d10) hout hRframes (by simp only [List.map_cons, List.sum_cons, hcat]; omega) hlocks
  obtain ⟨f1, f2⟩ := vx_frame hsame
  rw [hhp] at f1 f2
  have hWs : s.WarmedH U.vm := State.WarmedH.trans hW0 hW
  have hcl : s.vm.findClass cls = some ce.cls := by
    have h9 := hO.cls
    rw [hvm] at h9
    exact h9
  have hall : s.sameButNew ({ U with vm := s.vm } : State) locs mc ms := by
    subst hA
    obtain ⟨e1, e2⟩ := hsame
    rw [State.setFrames_setFrames] at e1
    have h2 : (T.setVm s.vm).sameButNew ({ U with vm := s.vm } : State) [] (0 + 1) (0 + 6) := ⟨e1, e2⟩
    have h3 := X.same.trans h2
    rw [List.append_nil] at h3
    exact h3.mono hc hs
  refine ⟨U, ?_, .threw T.heap.size, hrun, hend, Or.inr ⟨T.heap.size, rfl, cls, ce, locs, hx U hWs.alike f1 (fun q hq => f2 q hq (fun z hz => nomatch hz)), hce, hO.vm, hcl, hWs, hall, hf⟩⟩
  refine st1 _ ?_
  show Steps p.tables e below (T1.setTop { method := m, pc := pc + 3, locals := ls, stack := .ref T.heap.size :: rest, locked := none }) _
  jvm_step X₁.here [X₁.here.top, hexec, d3', Value.category]
  exact X₁.ldcStringW hexec (own := own) (text := text) (index := is) (a := sa) hown' hstr'.1 hstr'.2
    (g := { method := m, pc := pc + 4, locals := ls, stack := .ref T.heap.size :: .ref T.heap.size :: rest, locked := none }) rfl d4' _ hsteps
end Ends
section Bodies
variable {l : Launch}
theorem vx_ofW {y : MethodName} {ws ws' : List Cond} {rm : Room} {Pc : Array Value → State → Prop} {Qc : Array Value → State → Outcome → State → Prop} {XC : String → State → State → Prop} {mc ms : Nat} {free : Addr → Prop} {cc : ByteArray} {maxL : Nat} {ret : Option FieldType}
    (hy : plainName y.cls = true) (hw : ws = Cond.code y cc maxL ret :: ws')
    (body : ∀ p e s m args below meth c s₁, BodyLoose p l y (headSpec ws rm) cc maxL ret e s m args below meth c s₁ → c.maxLocals = maxL → (∀ x ∈ c.exceptionTable.toList, False) → Pc args s →
      W p l e (headSpec ws rm).room s m args below meth c s.heap [] 0 0 (vx_MQ below Qc XC args s mc ms free) (entryFrame m args maxL)) : vx_Met l y ws rm Pc Qc XC mc ms free := by
  refine MetFree.of_bodyS (code := cc) (maxLocals := maxL) (ret := ret) hy ?_ ?_
  · intro args s m h hn
    obtain ⟨meth, c, h1, h2, h3, h4, h5, h6, -, -⟩ := Cond.code_spec hn (atoms_spec (ws := ws) h _ (by rw [hw]; exact List.mem_cons_self))
    exact ⟨meth, c, h1, h2, h3, h4, h5, h6⟩
  · intro p e s m args below meth c s₁ B hml hP _
    have hh0 : s₁.heap = s.heap := by rw [B.state]; rfl
    have ht : ∀ x ∈ c.exceptionTable.toList, False := by
      obtain ⟨meth9, c9, h1, h2, -, -, -, -, h7, -⟩ := Cond.code_spec B.named (atoms_spec (ws := ws) B.pre _ (by rw [hw]; exact List.mem_cons_self))
      cases Option.some.inj (h1.symm.trans B.method)
      cases Option.some.inj (h2.symm.trans (Stand.of_body B).code)
      intro x hx
      rw [Array.isEmpty_iff.mp h7] at hx
      cases hx
    obtain ⟨t, a1, o, b1, b2, b3⟩ := body p e s m args below meth c s₁ B hml ht hP s₁ hh0 (Stand.of_body B)
    exact ⟨t, o, a1, b1, b2, b3⟩
/-- the table of a body with handlers -/
theorem vx_table {p : Program} {x y : MethodName} {S : Spec} {cc bytes : ByteArray} {maxL maxL' : Nat} {ret ret' : Option FieldType} {e : Env} {s s₁ : State} {m : MethodId} {args : Array Value} {below : List Frame} {meth : Method} {c : Code} {hh : List (Nat × Nat × Nat × Nat)}
    (B : BodyLoose p l y S cc maxL ret e s m args below meth c s₁) (h : (Cond.codeWith y bytes maxL' ret' hh).before args s = true) : c.exceptionTable.toList = tableOf hh := by
  obtain ⟨m9, meth9, c9, hn9, h1, h2, -, -, h6, -⟩ := Cond.codeWith_spec h
  cases Option.some.inj (hn9.symm.trans B.named)
  cases Option.some.inj (h1.symm.trans B.method)
  cases Option.some.inj (h2.symm.trans (Stand.of_body B).code)
  rw [← h6, table_eq]
end Bodies
end VXA
/-! ===== END ===== -/
/-! ===== BEGIN a static call of a method with an exception table ===== -/
section VXS
variable {p : Program} {l : Launch} {e : Env} {R : Room} {s : State} {m : MethodId} {args : Array Value} {below : List Frame} {meth : Method} {c : Code} {T : State} {H : Heap} {locs : List Loc} {cells slots : Nat}
abbrev vx_CSW (R : Room) (s : State) (args : Array Value) (own : String) (index : Nat) (y : MethodName) (bytes : ByteArray) (maxL : Nat) (ret : Option FieldType) (hh : List (Nat × Nat × Nat × Nat)) (ws : List Cond) (rm : Room) (mc ms n : Nat) : Prop :=
  (rm.cells = mc ∧ rm.slots = ms ∧ rm.frames + 1 ≤ R.frames ∧ 8 + (maxL + 11) + rm.locals ≤ R.locals ∧ (∀ w ∈ ws, ∀ (a' : Array Value) (U : State), s.WarmedH U.vm → w.before a' U = true) ∧ Cond.codeWith y bytes maxL ret hh ∈ ws) ∧
  (Cond.codeWith y bytes maxL ret hh).before args s = true ∧ (Cond.initialized y.cls).before args s = true ∧ (y.cls ≠ "java/lang/invoke/MethodHandle" ∧ y.cls ≠ "java/lang/invoke/VarHandle") ∧
  (∀ sig, parseMethodDescriptor y.desc = some sig → n = sig.parameters.length) ∧ (Cond.methodLink own index y).before args s = true ∧ (Cond.static y).before args s = true
theorem vx_cwSW {own : String} {index maxL mc ms : Nat} {y : MethodName} {bytes : ByteArray} {ret : Option FieldType} {hh : List (Nat × Nat × Nat × Nat)} {Ts ws ws' : List Cond} {rm : Room} (n : Nat) (ht : ∀ w ∈ Ts, w.before args s = true) (hT : GoodIn Ts (va_wsS own index y ws)) (hw : ws = Cond.codeWith y bytes maxL ret hh :: ws') (hrc : rm.cells = mc) (hrs : rm.slots = ms)
    (hd : y.cls ≠ "java/lang/invoke/MethodHandle" ∧ y.cls ≠ "java/lang/invoke/VarHandle" ∧ (parseMethodDescriptor y.desc).map (fun d => d.parameters.length) = some n) (hR : rm.frames + 1 ≤ R.frames ∧ 8 + (maxL + 11) + rm.locals ≤ R.locals) :
    vx_CSW R s args own index y bytes maxL ret hh ws rm mc ms n := by
  have ok : ∀ w ∈ va_wsS own index y ws, w.before args s = true := fun w h => ht w (hT w h).1
  have hG : GoodIn Ts ws := fun w h => hT w (by unfold va_wsS; exact List.mem_append_right _ h)
  have hc : Cond.codeWith y bytes maxL ret hh ∈ ws := by rw [hw]; exact List.mem_cons_self
  refine ⟨⟨hrc, hrs, hR.1, hR.2, pay_in ht hG, hc⟩, ht _ (hG _ hc).1, ok _ (by simp [va_wsS]), ⟨hd.1, hd.2.1⟩, fun sig h => ?_, ok _ (by simp [va_wsS]), ok _ (by simp [va_wsS])⟩
  have h2 := hd.2.2
  rw [h] at h2
  exact (Option.some.inj h2).symm
theorem vx_callSW (X : Stand p l e R s m args below meth c T locs cells slots) (hexec : p.tables.exec = Jvm.exec) {own : String} {index : Nat} {y : MethodName} {bytes : ByteArray} {maxL : Nat} {ret : Option FieldType} {hh : List (Nat × Nat × Nat × Nat)}
    (hown : s.vm.findClass own = some m.cls) (hlink : (Cond.methodLink own index y).before args s = true) (hstat : (Cond.static y).before args s = true) (hinit : (Cond.initialized y.cls).before args s = true)
    (hcode : (Cond.codeWith y bytes maxL ret hh).before args s = true) (hy : y.cls ≠ "java/lang/invoke/MethodHandle" ∧ y.cls ≠ "java/lang/invoke/VarHandle")
    {W9 : Nat} {Pre : Pt → Array Value → Prop} {Post : Pt → Array Value → Option Value → Pt → Prop} (hK : Back l R p e below s args y 3 W9 Pre Post)
    {g : JFrame} (hg : g.method = m) (hsize : g.locals.size = c.maxLocals) {argsL rest : List Value} (hlen : ∀ sig, parseMethodDescriptor y.desc = some sig → argsL.length = sig.parameters.length)
    (hstack : g.stack = argsL.reverse ++ rest) (hW : 2 * g.monitorRoom + (rest.map fun v => v.category).sum ≤ W9) (hdg : decode c.code g.pc = .ok (.invokestatic index, 3))
    (hpre : ∀ vm₁, s.WarmedH vm₁ → Pre ⟨T.setVm vm₁, locs, cells, slots⟩ argsL.toArray) :
    ∃ (v : Option Value) (vm₁ : Vm) (B : Pt), s.WarmedH vm₁ ∧ Stand p l e R s m args below meth c B.U B.locs B.cells B.slots ∧ Post ⟨T.setVm vm₁, locs, cells, slots⟩ argsL.toArray v B ∧
      ∀ target, Steps p.tables e below (B.U.setTop { g with pc := g.pc + 3, stack := v.toList ++ rest }) target → Steps p.tables e below (T.setTop g) target := by
  obtain ⟨mk, methM, cM, hnamed, hmethM, -, -, -, -, -, -, hsigM⟩ := Cond.codeWith_spec hcode
  have hstatic : methM.isStatic = true := Cond.static_spec hnamed hmethM hstat
  obtain ⟨kP, hkP, -⟩ := className_of_methodNamed hnamed
  have hinitP : kP.init = .initialized := Cond.initialized_spec (findClass_of_methodNamed hnamed) hkP hinit
  obtain ⟨vm₁, X₁, hstep₁⟩ := X.invokestatic hexec hown hlink hnamed hmethM hstatic hkP hinitP hy (g := g) hg (argsL := argsL) (rest := rest) (hlen _ hsigM) hstack hdg
  obtain ⟨v, B, X', hpost, hsteps⟩ := hK m meth c ⟨T.setVm vm₁, locs, cells, slots⟩ { g with stack := rest } (.invokestatic index) mk argsL.toArray X₁ hg hsize hdg hW (X₁.named hnamed) (hpre vm₁ X₁.warmed)
  exact ⟨v, vm₁, B, X₁.warmed, X', hpost, fun target h => hstep₁ _ fun acts => by rw [doInvoke_state]; exact hsteps.trans h⟩
theorem vx_runSW {y : MethodName} {bytes cc : ByteArray} {maxL nL mc ms n index : Nat} {ret : Option FieldType} {hh : List (Nat × Nat × Nat × Nat)} {ws : List Cond} {rm : Room} {Pc : Array Value → State → Prop} {Qc : Array Value → State → Outcome → State → Prop} {free : Addr → Prop} {Ts : List Cond} {own : String} {As rest : List Value} {g : JFrame}
    (S : CallFix p m c cc nL s args Ts own) (hM : Met l y ws rm Pc Qc mc ms free) (cw : vx_CSW R s args own index y bytes maxL ret hh ws rm mc ms n) (hp : PreS s H Pc As)
    (hg : g.method = m) (hn : As.length = n) (hsize : g.locals.size = nL) (hstack : g.stack = As.reverse ++ rest) (hW : 2 * g.monitorRoom + (rest.map fun v => v.category).sum ≤ 8) (hdg : decode cc g.pc = .ok (.invokestatic index, 3)) (hf : cells + mc ≤ R.cells ∧ slots + ms ≤ R.slots) :
    va_Run p l e R s m args below meth c H locs cells slots mc ms g rest (Qc As.toArray) (free) := by
  obtain ⟨⟨hrc, hrs, hfr, hlo, hws, hcw⟩, hcode, hini, hy, hlen, hl, hstt⟩ := cw
  have hK : Back l R p e below s args y 3 8 (PreOf R mc ms Pc) (PostOf Qc mc ms free) := va_backW (hh := hh) (bytes := bytes) (maxL := maxL) (ret := ret) hM hp.1 hrc hrs hfr hlo hws hcw (fun a' U hW => word_at hW (Or.inl (by first | rfl | simp [Cond.onTables, Cond.keeps, Cond.steady])) hini)
  obtain ⟨hx, hb, hml, ho, -⟩ := S
  intro T hT X
  obtain ⟨v, vm₁, ⟨U', l2, c2, s2⟩, hW₁, X', ⟨g', mk, t, L, e1, e2, hq, h1, hL, h2, h3⟩, st⟩ := vx_callSW X hx (hh := hh) (bytes := bytes) (maxL := maxL) (ret := ret) ho hl hstt hini hcode hy hK hg (hsize.trans hml.symm) (argsL := As) (rest := rest) (fun sig h => hn.trans (hlen sig h)) hstack hW (by rw [hb]; exact hdg)
    (fun vm₁ hW₁ => ⟨hf.1, hf.2, hp.2 (T.setVm vm₁) hT hW₁⟩)
  dsimp only [Pt.U, Pt.locs, Pt.cells, Pt.slots] at X' e1 e2 h1 h2 h3 st
  subst h1; subst h2; subst h3
  exact ⟨v, (T.setVm vm₁).calling g' mk As.toArray, t, U', L, hT, X', hL, e1, e2, hq, st⟩
/-- not caught here, past rows that name other classes: it goes on to the caller -/
theorem vx_outP {p : Program} {l : Launch} {e : Env} {R : Room} {s : State} {m : MethodId} {args : Array Value} {below : List Frame} {meth : Method} {c : Code} {H : Heap} {locs : List Loc} {cells slots : Nat} {free : Addr → Prop} {ls : Array Slot} {rest : List Value} {Qc : Array Value → State → Outcome → State → Prop} {XC : String → State → State → Prop}
    {pc : Nat} {own E : String} {ce : Cell} {q : Addr} {mc ms : Nat} (hown : s.vm.findClass own = some m.cls) (hlocks : meth.locks = false)
    (hpass : ∀ z ∈ c.exceptionTable.toList, covers z pc = false ∨ (z.catchType ≠ 0 ∧ ∃ nm : String, (Cond.classLink own z.catchType nm).before args s = true ∧ va_Nc E nm s)) (hcell : H[q]? = some ce) (hv : ce.vm = .none) (hcl : s.vm.findClass E = some ce.cls)
    (hx : ∀ t : State, t.heap = H → s.vm.Alike t.vm → XC E s t) (hf : ∀ z ∈ locs, free z.base) (hc : cells ≤ mc) (hs : slots ≤ ms) :
    vx_W p l e R s m args below meth c H locs cells slots (vx_MQ below Qc XC args s mc ms free) (F0 m pc ls rest) q := by
  intro T hT X
  have hpl : e.platform.magicAccessors = ({} : Platform).magicAccessors := by rw [X.admits.platform]
  obtain ⟨vm', hW', X', st⟩ := X.outThrough hlocks q (g := F0 m pc ls rest) rfl rfl rfl (cell := ce) (by rw [hT]; exact hcell) (by rw [hv]; rfl)
    (by obtain ⟨k9, h9, -⟩ := Vm.findClass_spec hcl; exact ⟨k9, h9⟩) (fun z hz => by
      rcases hpass z hz with h | ⟨hz0, nm, hl1, hn1⟩
      · exact Or.inl h
      · obtain ⟨c6, hc6, hcl6⟩ := Cond.classLink_spec hown hl1 e.platform hpl
        obtain ⟨a8, b8, h1, h2, h3⟩ := hn1
        cases Option.some.inj (h1.symm.trans hcl)
        cases Option.some.inj (h2.symm.trans hc6)
        exact Or.inr ⟨hz0, _, hcl6, h3⟩)
  obtain ⟨g₀, hfr⟩ := X'.frames_eq
  have hcell9 : ((T.setVm vm').setFrames (.throwing q :: below)).heap[q]? = some ce := by
    show T.heap[q]? = some ce
    rw [hT]; exact hcell
  have hend : Ended ((T.setVm vm').setFrames (.throwing q :: below)) below (.threw q) := State.frames_setFrames _ (State.cur_lt_of_frames hfr)
  refine ⟨(T.setVm vm').setFrames (.throwing q :: below), ?_, .threw q, X'.here.running, hend, Or.inr ⟨q, rfl, E, ce, locs, hx _ hT (X'.ends _).1.alike, hcell9, hv, hcl, (X'.ends _).1, (X'.ends _).2.mono hc hs, hf⟩⟩
  rw [X.pushThrowing_eq]
  exact st
/-- a thing of a world lies in the heap -/
theorem vx_lt {D : va_G} {cl : List vw_C} {ws : va_W} {H1 : Heap} (h : va_P D cl ws H1) {k : Nat} {q : Nat × va_E} (hk : ws[k]? = some q) : q.1 < H1.size := (h k q hk).lt
end VXS
/-! ===== END ===== -/
/-! ===== BEGIN methods with a table of their own: called by a name, returning or throwing ===== -/
section VXH
/-! vx_backW, vx_callVX, vx_callSX, vx_callVW, vx_runVW, vx_runVX, vx_runSX, vx_ofWH follow the same proofs as their sisters above (Free/Laws.lean, Shelf42/LK1.lean); vx_outP calls Shelf42/NT130.lean (outThrough). -/
section
variable {l : Launch} {R : Room} {p : Program} {e : Env} {below : List Frame} {s : State} {sargs : Array Value} {y : MethodName} {len W9 : Nat}
theorem vx_backW {ws : List Cond} {rm : Room} {Pc : Array Value → State → Prop} {Qc : Array Value → State → Outcome → State → Prop} {XC : String → State → State → Prop} {mc ms : Nat} {free : Addr → Prop} {bytes : ByteArray} {maxL : Nat} {ret : Option FieldType} {hh : List (Nat × Nat × Nat × Nat)}
    (hM : vx_Met l y ws rm Pc Qc XC mc ms free) (hblind : FrameBlind Pc) (hrc : rm.cells = mc) (hrs : rm.slots = ms)
    (hframes : rm.frames + 1 ≤ R.frames) (hlocals : W9 + (maxL + 11) + rm.locals ≤ R.locals)
    (hws : ∀ w ∈ ws, ∀ a' U, s.WarmedH U.vm → w.before a' U = true) (hcode : Cond.codeWith y bytes maxL ret hh ∈ ws) (hinit : ∀ a' U, s.WarmedH U.vm → (Cond.initialized y.cls).before a' U = true) :
    vx_Back l R p e below s sargs y len W9 (PreOf R mc ms Pc) (PostOf Qc mc ms free) (vx_Post XC mc ms free) := by
  intro m meth c A g ig mk a X hg hsize hdg hW hn hp
  have h1 : (headSpec ws rm).pre.before a A.U = true := atoms_intro fun w hw => hws w hw _ _ X.warmed
  have h2 : (Cond.codeWith y bytes maxL ret hh).before a A.U = true := hws _ hcode _ _ X.warmed
  have h3 : (Cond.initialized y.cls).before a A.U = true := hinit _ _ X.warmed
  have h4 : A.cells + (headSpec ws rm).room.cells ≤ R.cells := by rw [show (headSpec ws rm).room.cells = mc from hrc]; exact hp.1
  have h5 : A.slots + (headSpec ws rm).room.slots ≤ R.slots := by rw [show (headSpec ws rm).room.slots = ms from hrs]; exact hp.2.1
  have hPc : Pc a (A.U.calling g mk a) := hblind _ _ _ _ hp.2.2
  obtain ⟨U, Ls, c0, s0⟩ := A
  dsimp only [Pt.U, Pt.locs, Pt.cells, Pt.slots] at h1 h2 h3 h4 h5 X hn hPc ⊢
  obtain ⟨m9, methY, cY, hn9, hmY, hcY, -, hlY, -⟩ := Cond.codeWith_spec h2
  cases Option.some.inj (hn9.symm.trans hn)
  obtain ⟨kY, hkY, -⟩ := className_of_methodNamed hn
  have hinitY : kY.init = .initialized := Cond.initialized_spec (findClass_of_methodNamed hn) hkY h3
  have h : At U g.method c below := by rw [hg]; exact X.here
  have hlocals9 : W9 + (maxL + 11) + (headSpec ws rm).room.locals ≤ R.locals := hlocals
  have happ : (headSpec ws rm).appliesLoose y e.platform (U.calling g mk a) = true :=
    Spec.appliesLoose_calling (g := g) h hdg hn hkY hinitY
      (X.room_calling (g := g) (R' := (headSpec ws rm).room) hsize hmY hcY hframes (by rw [hlY]; omega) h4 h5) h1
  obtain ⟨mid, hmid⟩ := h.above
  have hfr : (U.setTop g).frames = (.java g :: mid) ++ below := by rw [State.frames_setTop' g h.top, hmid]; rfl
  obtain ⟨o, s₂, hsteps, -, hend, hq⟩ := Steps.callFree hM p X.admits X.cas X.clock (acts := []) hfr happ hPc trivial
  have hq' : vx_Q Qc XC mc ms free a (U.calling g mk a) o s₂ := hq
  rw [State.frames_setTop' g h.top] at hend
  obtain ⟨g₀, hg0⟩ := Option.isSome_iff_exists.mp h.top
  obtain ⟨r, hr⟩ := State.topJava?_eq_some.mp hg0
  have hr' : (({ U with heap := s₂.heap, slotsUsed := s₂.slotsUsed } : State).setVm s₂.vm).frames = .java g₀ :: r := hr
  rcases hq' with ⟨hqc, L, hfe, hL⟩ | ⟨q, rfl, E, ce, L, hx, hce, hcv, hcl, hW₂, hsm, hL⟩
  · obtain ⟨⟨v, rfl⟩, hW₂, e2, q2, q3, q4, q5, q6⟩ := id hfe
    have e3 : s₂ = ({ (U.calling g mk a).setFrames s₂.frames with heap := s₂.heap, slotsUsed := s₂.slotsUsed } : State).setVm s₂.vm := by
      have : s₂ = ({ s₂ with vm := (U.calling g mk a).vm } : State).setVm s₂.vm := rfl
      rw [e2] at this
      exact this
    obtain ⟨c₂, i₂, len₂, hc₂, hd₂, hf₂⟩ := hend
    have hW' : U.WarmedH s₂.vm := hW₂
    have hcc : c₂ = c := by
      have h1 : s₂.code? g.method = U.code? g.method := by
        rw [State.code?_eq, State.code?_eq, hW'.alike.method?]
      exact Option.some.inj (hc₂.symm.trans (h1.trans h.code))
    subst hcc
    have hlen : len₂ = len := by rw [hdg] at hd₂; cases hd₂; rfl
    subst hlen
    have hs₂ : s₂ = (({ U with heap := s₂.heap, slotsUsed := s₂.slotsUsed } : State).setVm s₂.vm).setTop { g with pc := g.pc + len₂, stack := v.toList ++ g.stack } := by
      refine e3.trans ?_
      rw [hf₂, State.calling_eq h.top, State.setFrames_setFrames, State.setTop_of_frames _ hr', hr]
      rfl
    have hsame : U.sameButNew ({ U with heap := s₂.heap, slotsUsed := s₂.slotsUsed } : State) L mc ms := by
      refine ⟨?_, q2, q3, q4, q5, q6⟩
      obtain ⟨t, ht, -⟩ := State.frames_cons hr
      show ({ U with heap := s₂.heap, slotsUsed := s₂.slotsUsed } : State) = { U.setFrames U.frames with heap := s₂.heap, slotsUsed := s₂.slotsUsed }
      rw [State.setFrames_self ht]
    subst hg
    refine Or.inl ⟨v, ⟨(({ U with heap := s₂.heap, slotsUsed := s₂.slotsUsed } : State).setVm s₂.vm), Ls ++ L, c0 + mc, s0 + ms⟩,
      ⟨X.admits, X.cas, X.clock, X.frames, X.room, X.hears, X.method, X.code, (X.here.setHeapUsed s₂.heap s₂.slotsUsed).setVm hW'.alike, X.tail, State.WarmedH.trans X.warmed hW', X.limits, X.bytes, X.same.trans (hsame.setVm s.vm)⟩,
      ⟨g, mk, s₂, L, rfl, rfl, hqc, rfl, hL, rfl, rfl⟩, ?_⟩
    show Steps p.tables e below _ ((({ U with heap := s₂.heap, slotsUsed := s₂.slotsUsed } : State).setVm s₂.vm).setTop { g with pc := g.pc + len₂, stack := v.toList ++ g.stack })
    rw [← hs₂]
    exact hsteps
  · obtain ⟨e2, q2, q3, q4, q5, q6⟩ := id hsm
    have e3 : s₂ = ({ (U.calling g mk a).setFrames s₂.frames with heap := s₂.heap, slotsUsed := s₂.slotsUsed } : State).setVm s₂.vm := by
      have : s₂ = ({ s₂ with vm := (U.calling g mk a).vm } : State).setVm s₂.vm := rfl
      rw [e2] at this
      exact this
    have hf₂ : s₂.frames = .throwing q :: .java g :: U.frames.tail := hend
    have hW' : U.WarmedH s₂.vm := hW₂
    have hs₂ : s₂ = ((({ U with heap := s₂.heap, slotsUsed := s₂.slotsUsed } : State).setVm s₂.vm).setTop g).pushFrame (.throwing q) := by
      refine e3.trans ?_
      rw [hf₂, State.calling_eq h.top, State.setFrames_setFrames, State.pushFrame, State.frames_setTop _ hr', State.setTop_of_frames _ hr', State.setFrames_setFrames, hr]
      rfl
    have hsame : U.sameButNew ({ U with heap := s₂.heap, slotsUsed := s₂.slotsUsed } : State) L mc ms := by
      refine ⟨?_, q2, q3, q4, q5, q6⟩
      obtain ⟨t, ht, -⟩ := State.frames_cons hr
      show ({ U with heap := s₂.heap, slotsUsed := s₂.slotsUsed } : State) = { U.setFrames U.frames with heap := s₂.heap, slotsUsed := s₂.slotsUsed }
      rw [State.setFrames_self ht]
    subst hg
    refine Or.inr ⟨q, ⟨(({ U with heap := s₂.heap, slotsUsed := s₂.slotsUsed } : State).setVm s₂.vm), Ls ++ L, c0 + mc, s0 + ms⟩,
      ⟨X.admits, X.cas, X.clock, X.frames, X.room, X.hears, X.method, X.code, (X.here.setHeapUsed s₂.heap s₂.slotsUsed).setVm hW'.alike, X.tail, State.WarmedH.trans X.warmed hW', X.limits, X.bytes, X.same.trans (hsame.setVm s.vm)⟩,
      ⟨g, mk, s₂, L, E, ce, rfl, rfl, hx, hce, hcv, hcl, rfl, hL, rfl, rfl⟩, ?_⟩
    show Steps p.tables e below _ (((({ U with heap := s₂.heap, slotsUsed := s₂.slotsUsed } : State).setVm s₂.vm).setTop g).pushFrame (.throwing q))
    rw [← hs₂]
    exact hsteps
end
variable {p : Program} {l : Launch} {e : Env} {R : Room} {s : State} {m : MethodId} {args : Array Value} {below : List Frame} {meth : Method} {c : Code} {T : State} {H : Heap} {locs : List Loc} {cells slots : Nat}
theorem vx_callVX (X : Stand p l e R s m args below meth c T locs cells slots) (hexec : p.tables.exec = Jvm.exec) {own C : String} {index : Nat} {y : MethodName} {bytes : ByteArray} {maxL : Nat} {ret : Option FieldType} {hh : List (Nat × Nat × Nat × Nat)}
    (hown : s.vm.findClass own = some m.cls) (hlink : (Cond.methodLink own index y).before args s = true) (hinst : (Cond.instanceMethod y).before args s = true) (hsel : (Cond.selects C y y).before args s = true)
    (hcode : (Cond.codeWith y bytes maxL ret hh).before args s = true) (hy : y.cls ≠ "java/lang/invoke/MethodHandle" ∧ y.cls ≠ "java/lang/invoke/VarHandle")
    {W9 : Nat} {Pre : Pt → Array Value → Prop} {Post : Pt → Array Value → Option Value → Pt → Prop} {PostX : Pt → Array Value → Addr → Pt → Prop} (hK : vx_Back l R p e below s args y 3 W9 Pre Post PostX)
    {b : Addr} {cellB : Cell} (hcell : T.heap[b]? = some cellB) (hobj : cellB.vm.isStatics = false) (hcls : s.vm.findClass C = some cellB.cls)
    {g : JFrame} (hg : g.method = m) (hsize : g.locals.size = c.maxLocals) {argsL rest : List Value} (hlen : ∀ sig, parseMethodDescriptor y.desc = some sig → argsL.length = sig.parameters.length)
    (hstack : g.stack = argsL.reverse ++ .ref b :: rest) (hW : 2 * g.monitorRoom + (rest.map fun v => v.category).sum ≤ W9) (hdg : decode c.code g.pc = .ok (.invokevirtual index, 3))
    (hpre : ∀ vm₁, s.WarmedH vm₁ → Pre ⟨T.setVm vm₁, locs, cells, slots⟩ (Value.ref b :: argsL).toArray) :
    (∃ (v : Option Value) (vm₁ : Vm) (B : Pt), s.WarmedH vm₁ ∧ Stand p l e R s m args below meth c B.U B.locs B.cells B.slots ∧ Post ⟨T.setVm vm₁, locs, cells, slots⟩ (Value.ref b :: argsL).toArray v B ∧
      ∀ target, Steps p.tables e below (B.U.setTop { g with pc := g.pc + 3, stack := v.toList ++ rest }) target → Steps p.tables e below (T.setTop g) target) ∨
    (∃ (q : Addr) (vm₁ : Vm) (B : Pt), s.WarmedH vm₁ ∧ Stand p l e R s m args below meth c B.U B.locs B.cells B.slots ∧ PostX ⟨T.setVm vm₁, locs, cells, slots⟩ (Value.ref b :: argsL).toArray q B ∧
      Steps p.tables e below (T.setTop g) ((B.U.setTop { g with stack := rest }).pushFrame (.throwing q))) := by
  obtain ⟨mk, methM, hnamed, hmethM, hstM, habM⟩ := Cond.instanceMethod_spec hinst
  obtain ⟨m8, methM', cM, hn8, hmethM', -, -, -, -, -, -, hsigM⟩ := Cond.codeWith_spec hcode
  cases Option.some.inj (hn8.symm.trans hnamed)
  cases hmethM.symm.trans hmethM'
  obtain ⟨c2, r2, m2, q1, q2, q3, q4, kP, hkP, hkPi⟩ := Cond.selects_spec hsel
  cases hcls.symm.trans q1
  cases (State.methodFound?_of_named hnamed hy).symm.trans q2
  cases hnamed.symm.trans q3
  have hselP : selectMethod e.platform s.vm cellB.cls mk = .method mk := by rw [Launch.admits_selectMethod X.admits]; exact q4
  obtain ⟨vm₁, X₁, hstep₁⟩ := X.invokevirtual hexec hown hlink hnamed hmethM hstM hkP hkPi hy (a := b) (cell := cellB) hcell
    (fun z h => by rw [h] at hobj; cases hobj) hselP hmethM habM hkP hkPi (g := g) hg (argsL := argsL) (rest := rest) (hlen _ hsigM) hstack hdg
  rcases hK m meth c ⟨T.setVm vm₁, locs, cells, slots⟩ { g with stack := rest } (.invokevirtual index) mk (Value.ref b :: argsL).toArray X₁ hg hsize hdg hW (X₁.named hnamed) (hpre vm₁ X₁.warmed) with ⟨v, B, X', hpost, hsteps⟩ | ⟨q, B, X', hpost, hsteps⟩
  · exact Or.inl ⟨v, vm₁, B, X₁.warmed, X', hpost, fun target h => hstep₁ _ fun acts => by rw [doInvoke_state]; exact hsteps.trans h⟩
  · exact Or.inr ⟨q, vm₁, B, X₁.warmed, X', hpost, hstep₁ _ fun acts => by rw [doInvoke_state]; exact hsteps⟩
theorem vx_callSX (X : Stand p l e R s m args below meth c T locs cells slots) (hexec : p.tables.exec = Jvm.exec) {own : String} {index : Nat} {y : MethodName} {bytes : ByteArray} {maxL : Nat} {ret : Option FieldType} {hh : List (Nat × Nat × Nat × Nat)}
    (hown : s.vm.findClass own = some m.cls) (hlink : (Cond.methodLink own index y).before args s = true) (hstat : (Cond.static y).before args s = true) (hinit : (Cond.initialized y.cls).before args s = true)
    (hcode : (Cond.codeWith y bytes maxL ret hh).before args s = true) (hy : y.cls ≠ "java/lang/invoke/MethodHandle" ∧ y.cls ≠ "java/lang/invoke/VarHandle")
    {W9 : Nat} {Pre : Pt → Array Value → Prop} {Post : Pt → Array Value → Option Value → Pt → Prop} {PostX : Pt → Array Value → Addr → Pt → Prop} (hK : vx_Back l R p e below s args y 3 W9 Pre Post PostX)
    {g : JFrame} (hg : g.method = m) (hsize : g.locals.size = c.maxLocals) {argsL rest : List Value} (hlen : ∀ sig, parseMethodDescriptor y.desc = some sig → argsL.length = sig.parameters.length)
    (hstack : g.stack = argsL.reverse ++ rest) (hW : 2 * g.monitorRoom + (rest.map fun v => v.category).sum ≤ W9) (hdg : decode c.code g.pc = .ok (.invokestatic index, 3))
    (hpre : ∀ vm₁, s.WarmedH vm₁ → Pre ⟨T.setVm vm₁, locs, cells, slots⟩ argsL.toArray) :
    (∃ (v : Option Value) (vm₁ : Vm) (B : Pt), s.WarmedH vm₁ ∧ Stand p l e R s m args below meth c B.U B.locs B.cells B.slots ∧ Post ⟨T.setVm vm₁, locs, cells, slots⟩ argsL.toArray v B ∧
      ∀ target, Steps p.tables e below (B.U.setTop { g with pc := g.pc + 3, stack := v.toList ++ rest }) target → Steps p.tables e below (T.setTop g) target) ∨
    (∃ (q : Addr) (vm₁ : Vm) (B : Pt), s.WarmedH vm₁ ∧ Stand p l e R s m args below meth c B.U B.locs B.cells B.slots ∧ PostX ⟨T.setVm vm₁, locs, cells, slots⟩ argsL.toArray q B ∧
      Steps p.tables e below (T.setTop g) ((B.U.setTop { g with stack := rest }).pushFrame (.throwing q))) := by
  obtain ⟨mk, methM, cM, hnamed, hmethM, -, -, -, -, -, -, hsigM⟩ := Cond.codeWith_spec hcode
  have hstatic : methM.isStatic = true := Cond.static_spec hnamed hmethM hstat
  obtain ⟨kP, hkP, -⟩ := className_of_methodNamed hnamed
  have hinitP : kP.init = .initialized := Cond.initialized_spec (findClass_of_methodNamed hnamed) hkP hinit
  obtain ⟨vm₁, X₁, hstep₁⟩ := X.invokestatic hexec hown hlink hnamed hmethM hstatic hkP hinitP hy (g := g) hg (argsL := argsL) (rest := rest) (hlen _ hsigM) hstack hdg
  rcases hK m meth c ⟨T.setVm vm₁, locs, cells, slots⟩ { g with stack := rest } (.invokestatic index) mk argsL.toArray X₁ hg hsize hdg hW (X₁.named hnamed) (hpre vm₁ X₁.warmed) with ⟨v, B, X', hpost, hsteps⟩ | ⟨q, B, X', hpost, hsteps⟩
  · exact Or.inl ⟨v, vm₁, B, X₁.warmed, X', hpost, fun target h => hstep₁ _ fun acts => by rw [doInvoke_state]; exact hsteps.trans h⟩
  · exact Or.inr ⟨q, vm₁, B, X₁.warmed, X', hpost, hstep₁ _ fun acts => by rw [doInvoke_state]; exact hsteps⟩
theorem vx_callVW (X : Stand p l e R s m args below meth c T locs cells slots) (hexec : p.tables.exec = Jvm.exec) {own C : String} {index : Nat} {y : MethodName} {bytes : ByteArray} {maxL : Nat} {ret : Option FieldType} {hh : List (Nat × Nat × Nat × Nat)}
    (hown : s.vm.findClass own = some m.cls) (hlink : (Cond.methodLink own index y).before args s = true) (hinst : (Cond.instanceMethod y).before args s = true) (hsel : (Cond.selects C y y).before args s = true)
    (hcode : (Cond.codeWith y bytes maxL ret hh).before args s = true) (hy : y.cls ≠ "java/lang/invoke/MethodHandle" ∧ y.cls ≠ "java/lang/invoke/VarHandle")
    {W9 : Nat} {Pre : Pt → Array Value → Prop} {Post : Pt → Array Value → Option Value → Pt → Prop} (hK : Back l R p e below s args y 3 W9 Pre Post)
    {b : Addr} {cellB : Cell} (hcell : T.heap[b]? = some cellB) (hobj : cellB.vm.isStatics = false) (hcls : s.vm.findClass C = some cellB.cls)
    {g : JFrame} (hg : g.method = m) (hsize : g.locals.size = c.maxLocals) {argsL rest : List Value} (hlen : ∀ sig, parseMethodDescriptor y.desc = some sig → argsL.length = sig.parameters.length)
    (hstack : g.stack = argsL.reverse ++ .ref b :: rest) (hW : 2 * g.monitorRoom + (rest.map fun v => v.category).sum ≤ W9) (hdg : decode c.code g.pc = .ok (.invokevirtual index, 3))
    (hpre : ∀ vm₁, s.WarmedH vm₁ → Pre ⟨T.setVm vm₁, locs, cells, slots⟩ (Value.ref b :: argsL).toArray) :
    ∃ (v : Option Value) (vm₁ : Vm) (B : Pt), s.WarmedH vm₁ ∧ Stand p l e R s m args below meth c B.U B.locs B.cells B.slots ∧ Post ⟨T.setVm vm₁, locs, cells, slots⟩ (Value.ref b :: argsL).toArray v B ∧
      ∀ target, Steps p.tables e below (B.U.setTop { g with pc := g.pc + 3, stack := v.toList ++ rest }) target → Steps p.tables e below (T.setTop g) target := by
  obtain ⟨mk, methM, hnamed, hmethM, hstM, habM⟩ := Cond.instanceMethod_spec hinst
  obtain ⟨m8, methM', cM, hn8, hmethM', -, -, -, -, -, -, hsigM⟩ := Cond.codeWith_spec hcode
  cases Option.some.inj (hn8.symm.trans hnamed)
  cases hmethM.symm.trans hmethM'
  obtain ⟨c2, r2, m2, q1, q2, q3, q4, kP, hkP, hkPi⟩ := Cond.selects_spec hsel
  cases hcls.symm.trans q1
  cases (State.methodFound?_of_named hnamed hy).symm.trans q2
  cases hnamed.symm.trans q3
  have hselP : selectMethod e.platform s.vm cellB.cls mk = .method mk := by rw [Launch.admits_selectMethod X.admits]; exact q4
  obtain ⟨vm₁, X₁, hstep₁⟩ := X.invokevirtual hexec hown hlink hnamed hmethM hstM hkP hkPi hy (a := b) (cell := cellB) hcell
    (fun z h => by rw [h] at hobj; cases hobj) hselP hmethM habM hkP hkPi (g := g) hg (argsL := argsL) (rest := rest) (hlen _ hsigM) hstack hdg
  obtain ⟨v, B, X', hpost, hsteps⟩ := hK m meth c ⟨T.setVm vm₁, locs, cells, slots⟩ { g with stack := rest } (.invokevirtual index) mk (Value.ref b :: argsL).toArray X₁ hg hsize hdg hW (X₁.named hnamed) (hpre vm₁ X₁.warmed)
  exact ⟨v, vm₁, B, X₁.warmed, X', hpost, fun target h => hstep₁ _ fun acts => by rw [doInvoke_state]; exact hsteps.trans h⟩
abbrev vx_CVW (R : Room) (s : State) (args : Array Value) (own C : String) (index : Nat) (y : MethodName) (bytes : ByteArray) (maxL : Nat) (ret : Option FieldType) (hh : List (Nat × Nat × Nat × Nat)) (ws : List Cond) (rm : Room) (mc ms n : Nat) : Prop :=
  (rm.cells = mc ∧ rm.slots = ms ∧ rm.frames + 1 ≤ R.frames ∧ 8 + (maxL + 11) + rm.locals ≤ R.locals ∧ (∀ w ∈ ws, ∀ (a' : Array Value) (U : State), s.WarmedH U.vm → w.before a' U = true) ∧ Cond.codeWith y bytes maxL ret hh ∈ ws) ∧
  (Cond.codeWith y bytes maxL ret hh).before args s = true ∧ (Cond.initialized y.cls).before args s = true ∧ (y.cls ≠ "java/lang/invoke/MethodHandle" ∧ y.cls ≠ "java/lang/invoke/VarHandle") ∧
  (∀ sig, parseMethodDescriptor y.desc = some sig → n = sig.parameters.length) ∧ (Cond.methodLink own index y).before args s = true ∧ (Cond.instanceMethod y).before args s = true ∧ (Cond.selects C y y).before args s = true
theorem vx_cwVW {own C : String} {index maxL mc ms : Nat} {y : MethodName} {bytes : ByteArray} {ret : Option FieldType} {hh : List (Nat × Nat × Nat × Nat)} {Ts ws ws' : List Cond} {rm : Room} (n : Nat) (ht : ∀ w ∈ Ts, w.before args s = true) (hT : GoodIn Ts (wsV own index C y ws)) (hw : ws = Cond.codeWith y bytes maxL ret hh :: ws') (hrc : rm.cells = mc) (hrs : rm.slots = ms)
    (hd : y.cls = C ∧ y.cls ≠ "java/lang/invoke/MethodHandle" ∧ y.cls ≠ "java/lang/invoke/VarHandle" ∧ (parseMethodDescriptor y.desc).map (fun d => d.parameters.length) = some n) (hR : rm.frames + 1 ≤ R.frames ∧ 8 + (maxL + 11) + rm.locals ≤ R.locals) :
    vx_CVW R s args own C index y bytes maxL ret hh ws rm mc ms n := by
  obtain ⟨hC, hd⟩ := hd
  subst hC
  have ok : ∀ w ∈ wsV own index y.cls y ws, w.before args s = true := fun w h => ht w (hT w h).1
  have hG : GoodIn Ts ws := fun w h => hT w (by unfold wsV; exact List.mem_append_right _ h)
  have hc : Cond.codeWith y bytes maxL ret hh ∈ ws := by rw [hw]; exact List.mem_cons_self
  refine ⟨⟨hrc, hrs, hR.1, hR.2, pay_in ht hG, hc⟩, ht _ (hG _ hc).1, ok _ (by simp [wsV]), ⟨hd.1, hd.2.1⟩, fun sig h => ?_, ok _ (by simp [wsV]), ok _ (by simp [wsV]), ok _ (by simp [wsV])⟩
  have h2 := hd.2.2
  rw [h] at h2
  exact (Option.some.inj h2).symm
theorem vx_runVW {y : MethodName} {bytes cc : ByteArray} {maxL nL mc ms n index : Nat} {ret : Option FieldType} {hh : List (Nat × Nat × Nat × Nat)} {ws : List Cond} {rm : Room} {Pc : Array Value → State → Prop} {Qc : Array Value → State → Outcome → State → Prop} {free : Addr → Prop} {Ts : List Cond} {own C : String} {b : Addr} {As rest : List Value} {g : JFrame}
    (S : CallFix p m c cc nL s args Ts own) (hM : Met l y ws rm Pc Qc mc ms free) (cw : vx_CVW R s args own C index y bytes maxL ret hh ws rm mc ms n) (hp : PreV s H C b Pc As)
    (hg : g.method = m) (hn : As.length = n) (hsize : g.locals.size = nL) (hstack : g.stack = As.reverse ++ .ref b :: rest) (hW : 2 * g.monitorRoom + (rest.map fun v => v.category).sum ≤ 8) (hdg : decode cc g.pc = .ok (.invokevirtual index, 3)) (hf : cells + mc ≤ R.cells ∧ slots + ms ≤ R.slots) :
    va_Run p l e R s m args below meth c H locs cells slots mc ms g rest (Qc (Value.ref b :: As).toArray) free := by
  obtain ⟨⟨hrc, hrs, hfr, hlo, hws, hcw⟩, hcode, hini, hy, hlen, hl, hin, hse⟩ := cw
  have hK : Back l R p e below s args y 3 8 (PreOf R mc ms Pc) (PostOf Qc mc ms free) := va_backW (hh := hh) (bytes := bytes) (maxL := maxL) (ret := ret) hM hp.1 hrc hrs hfr hlo hws hcw (fun a' U hW => word_at hW (Or.inl (by first | rfl | simp [Cond.onTables, Cond.keeps, Cond.steady])) hini)
  obtain ⟨hx, hb, hml, ho, -⟩ := S
  obtain ⟨-, ⟨cellB, hcB, hoB, hclB⟩, hPc⟩ := hp
  intro T hT X
  obtain ⟨v, vm₁, ⟨U', l2, c2, s2⟩, hW₁, X', ⟨g', mk, t, L, e1, e2, hq, h1, hL, h2, h3⟩, st⟩ := vx_callVW X hx (C := C) (hh := hh) (bytes := bytes) (maxL := maxL) (ret := ret) ho hl hin hse hcode hy hK (by rw [hT]; exact hcB) hoB hclB hg (hsize.trans hml.symm) (argsL := As) (rest := rest) (fun sig h => hn.trans (hlen sig h)) hstack hW (by rw [hb]; exact hdg)
    (fun vm₁ hW₁ => ⟨hf.1, hf.2, hPc (T.setVm vm₁) hT hW₁⟩)
  dsimp only [Pt.U, Pt.locs, Pt.cells, Pt.slots] at X' e1 e2 h1 h2 h3 st
  subst h1; subst h2; subst h3
  exact ⟨v, (T.setVm vm₁).calling g' mk (Value.ref b :: As).toArray, t, U', L, hT, X', hL, e1, e2, hq, st⟩
section
variable {y : MethodName} {bytes cc : ByteArray} {maxL nL mc ms n index : Nat} {ret : Option FieldType} {ws : List Cond} {rm : Room} {Pc : Array Value → State → Prop} {Qc : Array Value → State → Outcome → State → Prop} {XC : String → State → State → Prop} {free : Addr → Prop} {Ts : List Cond} {own C : String} {b : Addr} {As rest : List Value} {g : JFrame}
theorem vx_runVX {hh : List (Nat × Nat × Nat × Nat)} (S : CallFix p m c cc nL s args Ts own) (hM : vx_Met l y ws rm Pc Qc XC mc ms free) (cw : vx_CVW R s args own C index y bytes maxL ret hh ws rm mc ms n) (hp : PreV s H C b Pc As)
    (hg : g.method = m) (hn : As.length = n) (hsize : g.locals.size = nL) (hstack : g.stack = As.reverse ++ .ref b :: rest) (hW : 2 * g.monitorRoom + (rest.map fun v => v.category).sum ≤ 8) (hdg : decode cc g.pc = .ok (.invokevirtual index, 3)) (hf : cells + mc ≤ R.cells ∧ slots + ms ≤ R.slots) :
    vx_Run p l e R s m args below meth c H locs cells slots mc ms g rest (Qc (Value.ref b :: As).toArray) XC free := by
  obtain ⟨⟨hrc, hrs, hfr, hlo, hws, hcw⟩, hcode, hini, hy, hlen, hl, hin, hse⟩ := cw
  have hK : vx_Back l R p e below s args y 3 8 (PreOf R mc ms Pc) (PostOf Qc mc ms free) (vx_Post XC mc ms free) := vx_backW (hh := hh) (bytes := bytes) (maxL := maxL) (ret := ret) hM hp.1 hrc hrs hfr hlo hws hcw (fun a' U hW => word_at hW (Or.inl (by first | rfl | simp [Cond.onTables, Cond.keeps, Cond.steady])) hini)
  obtain ⟨hx, hb, hml, ho, -⟩ := S
  obtain ⟨-, ⟨cellB, hcB, hoB, hclB⟩, hPc⟩ := hp
  intro T hT X
  rcases vx_callVX X hx (C := C) (hh := hh) (bytes := bytes) (maxL := maxL) (ret := ret) ho hl hin hse hcode hy hK (by rw [hT]; exact hcB) hoB hclB hg (hsize.trans hml.symm) (argsL := As) (rest := rest) (fun sig h => hn.trans (hlen sig h)) hstack hW (by rw [hb]; exact hdg)
    (fun vm₁ hW₁ => ⟨hf.1, hf.2, hPc (T.setVm vm₁) hT hW₁⟩) with ⟨v, vm₁, ⟨U', l2, c2, s2⟩, hW₁, X', ⟨g', mk, t, L, e1, e2, hq, h1, hL, h2, h3⟩, st⟩ | ⟨q, vm₁, ⟨U', l2, c2, s2⟩, hW₁, X', ⟨g', mk, t, L, E, ce, e1, e2, hq, hce, hcv, hcl, h1, hL, h2, h3⟩, st⟩
  · dsimp only [Pt.U, Pt.locs, Pt.cells, Pt.slots] at X' e1 e2 h1 h2 h3 st
    subst h1; subst h2; subst h3
    exact Or.inl ⟨v, (T.setVm vm₁).calling g' mk (Value.ref b :: As).toArray, t, U', L, hT, X', hL, e1, e2, hq, st⟩
  · dsimp only [Pt.U, Pt.locs, Pt.cells, Pt.slots] at X' e1 e2 h1 h2 h3 st hcl
    subst h1; subst h2; subst h3
    exact Or.inr ⟨q, (T.setVm vm₁).calling g' mk (Value.ref b :: As).toArray, t, U', L, E, ce, hT, X', hL, e1, e2, hq, hce, hcv, vx_cls hW₁ hcl, st⟩
theorem vx_runSX {hh : List (Nat × Nat × Nat × Nat)} (S : CallFix p m c cc nL s args Ts own) (hM : vx_Met l y ws rm Pc Qc XC mc ms free) (cw : vx_CSW R s args own index y bytes maxL ret hh ws rm mc ms n) (hp : PreS s H Pc As)
    (hg : g.method = m) (hn : As.length = n) (hsize : g.locals.size = nL) (hstack : g.stack = As.reverse ++ rest) (hW : 2 * g.monitorRoom + (rest.map fun v => v.category).sum ≤ 8) (hdg : decode cc g.pc = .ok (.invokestatic index, 3)) (hf : cells + mc ≤ R.cells ∧ slots + ms ≤ R.slots) :
    vx_Run p l e R s m args below meth c H locs cells slots mc ms g rest (Qc As.toArray) XC free := by
  obtain ⟨⟨hrc, hrs, hfr, hlo, hws, hcw⟩, hcode, hini, hy, hlen, hl, hstt⟩ := cw
  have hK : vx_Back l R p e below s args y 3 8 (PreOf R mc ms Pc) (PostOf Qc mc ms free) (vx_Post XC mc ms free) := vx_backW (hh := hh) (bytes := bytes) (maxL := maxL) (ret := ret) hM hp.1 hrc hrs hfr hlo hws hcw (fun a' U hW => word_at hW (Or.inl (by first | rfl | simp [Cond.onTables, Cond.keeps, Cond.steady])) hini)
  obtain ⟨hx, hb, hml, ho, -⟩ := S
  intro T hT X
  rcases vx_callSX X hx (hh := hh) (bytes := bytes) (maxL := maxL) (ret := ret) ho hl hstt hini hcode hy hK hg (hsize.trans hml.symm) (argsL := As) (rest := rest) (fun sig h => hn.trans (hlen sig h)) hstack hW (by rw [hb]; exact hdg)
    (fun vm₁ hW₁ => ⟨hf.1, hf.2, hp.2 (T.setVm vm₁) hT hW₁⟩) with ⟨v, vm₁, ⟨U', l2, c2, s2⟩, hW₁, X', ⟨g', mk, t, L, e1, e2, hq, h1, hL, h2, h3⟩, st⟩ | ⟨q, vm₁, ⟨U', l2, c2, s2⟩, hW₁, X', ⟨g', mk, t, L, E, ce, e1, e2, hq, hce, hcv, hcl, h1, hL, h2, h3⟩, st⟩
  · dsimp only [Pt.U, Pt.locs, Pt.cells, Pt.slots] at X' e1 e2 h1 h2 h3 st
    subst h1; subst h2; subst h3
    exact Or.inl ⟨v, (T.setVm vm₁).calling g' mk As.toArray, t, U', L, hT, X', hL, e1, e2, hq, st⟩
  · dsimp only [Pt.U, Pt.locs, Pt.cells, Pt.slots] at X' e1 e2 h1 h2 h3 st hcl
    subst h1; subst h2; subst h3
    exact Or.inr ⟨q, (T.setVm vm₁).calling g' mk As.toArray, t, U', L, E, ce, hT, X', hL, e1, e2, hq, hce, hcv, vx_cls hW₁ hcl, st⟩
end
end VXH
theorem vx_ofWH {l : Launch} {y : MethodName} {ws ws' : List Cond} {rm : Room} {Pc : Array Value → State → Prop} {Qc : Array Value → State → Outcome → State → Prop} {XC : String → State → State → Prop} {mc ms : Nat} {free : Addr → Prop} {cc : ByteArray} {maxL : Nat} {ret : Option FieldType} {hh : List (Nat × Nat × Nat × Nat)}
    (hy : plainName y.cls = true) (hw : ws = Cond.codeWith y cc maxL ret hh :: ws')
    (body : ∀ p e s m args below meth c s₁, BodyLoose p l y (headSpec ws rm) cc maxL ret e s m args below meth c s₁ → c.maxLocals = maxL → Pc args s →
      W p l e (headSpec ws rm).room s m args below meth c s.heap [] 0 0 (vx_MQ below Qc XC args s mc ms free) (entryFrame m args maxL)) : vx_Met l y ws rm Pc Qc XC mc ms free := by
  refine MetFree.of_bodyS (code := cc) (maxLocals := maxL) (ret := ret) hy ?_ ?_
  · intro args s m h hn
    obtain ⟨m9, meth, c, hn9, h1, h2, h3, h4, -, h5, h6, -⟩ := Cond.codeWith_spec (atoms_spec (ws := ws) h _ (by rw [hw]; exact List.mem_cons_self))
    cases hn.symm.trans hn9
    exact ⟨meth, c, h1, h2, h3, h4, h5, h6⟩
  · intro p e s m args below meth c s₁ B hml hP _
    have hh0 : s₁.heap = s.heap := by rw [B.state]; rfl
    obtain ⟨t, a1, o, b1, b2, b3⟩ := body p e s m args below meth c s₁ B hml hP s₁ hh0 (Stand.of_body B)
    exact ⟨t, o, a1, b1, b2, b3⟩
/-! ===== END ===== -/
end
section
def RX0 : String := "RoofDrains$RainText"
def TX0 : u_T := fun k => match k with
  | 0 => ("RoofDrains$RainText", "codes", "[I", true)
  | _ => ("RoofDrains$RainText", "length", "I", false)
def tyX0 : Nat → FieldType := fun k => match k with
  | 0 => .array .int
  | _ => .int
abbrev wsX00 : List Cond := u_ws RX0 TX0 2
theorem nmX0 : ∀ a, a < 2 → ∀ b, b < 2 → a ≠ b → (TX0 a).2.1 ≠ (TX0 b).2.1 := by decide +kernel
theorem tyX0_ok : ∀ k, k < 2 → parseFieldDescriptor (TX0 k).2.2.1 = some (tyX0 k) := by decide +kernel
abbrev cX0_init : ByteArray := prog_2_method_1_code
def yX0_init : MethodName := ⟨RX0, "<init>", "()V"⟩
def RX1 : String := "RoofDrains$Roof"
def TX1 : u_T := fun k => match k with
  | 0 => ("RoofDrains$Roof", "area", "[I", true)
  | 1 => ("RoofDrains$Roof", "slope", "[I", true)
  | 2 => ("RoofDrains$Roof", "leadsTo", "[I", true)
  | 3 => ("RoofDrains$Roof", "onPlane", "[I", true)
  | 4 => ("RoofDrains$Roof", "size", "[I", true)
  | 5 => ("RoofDrains$Roof", "bore", "[I", true)
  | 6 => ("RoofDrains$Roof", "leaves", "[I", true)
  | 7 => ("RoofDrains$Roof", "valleyTo", "[I", true)
  | 8 => ("RoofDrains$Roof", "inGutter", "[I", true)
  | 9 => ("RoofDrains$Roof", "spilt", "[I", true)
  | 10 => ("RoofDrains$Roof", "drained", "[I", true)
  | 11 => ("RoofDrains$Roof", "values", "[I", true)
  | 12 => ("RoofDrains$Roof", "minutesGone", "I", false)
  | 13 => ("RoofDrains$Roof", "weeksPassed", "I", false)
  | 14 => ("RoofDrains$Roof", "rained", "I", false)
  | _ => ("RoofDrains$Roof", "backedUp", "I", false)
def tyX1 : Nat → FieldType := fun k => match k with
  | 0 => .array .int
  | 1 => .array .int
  | 2 => .array .int
  | 3 => .array .int
  | 4 => .array .int
  | 5 => .array .int
  | 6 => .array .int
  | 7 => .array .int
  | 8 => .array .int
  | 9 => .array .int
  | 10 => .array .int
  | 11 => .array .int
  | 12 => .int
  | 13 => .int
  | 14 => .int
  | _ => .int
abbrev wsX10 : List Cond := u_ws RX1 TX1 16
theorem nmX1 : ∀ a, a < 16 → ∀ b, b < 16 → a ≠ b → (TX1 a).2.1 ≠ (TX1 b).2.1 := by decide +kernel
theorem tyX1_ok : ∀ k, k < 16 → parseFieldDescriptor (TX1 k).2.2.1 = some (tyX1 k) := by decide +kernel
abbrev cX1_init : ByteArray := prog_3_method_1_code
def yX1_init : MethodName := ⟨RX1, "<init>", "()V"⟩
abbrev cX1_copyFrom : ByteArray := prog_3_method_2_code
def yX1_copyFrom : MethodName := ⟨RX1, "copyFrom", "(LRoofDrains$Roof;)V"⟩
abbrev cX1_changePlane : ByteArray := prog_3_method_3_code
def yX1_changePlane : MethodName := ⟨RX1, "changePlane", "(IIII)I"⟩
abbrev cX1_changeGutter : ByteArray := prog_3_method_4_code
def yX1_changeGutter : MethodName := ⟨RX1, "changeGutter", "(III)I"⟩
abbrev cX1_changeValley : ByteArray := prog_3_method_5_code
def yX1_changeValley : MethodName := ⟨RX1, "changeValley", "(II)I"⟩
abbrev cX1_takeLeaves : ByteArray := prog_3_method_6_code
def yX1_takeLeaves : MethodName := ⟨RX1, "takeLeaves", "(I)I"⟩
abbrev cX1_changeSetting : ByteArray := prog_3_method_7_code
def yX1_changeSetting : MethodName := ⟨RX1, "changeSetting", "(II)I"⟩
abbrev cX1_valleysLead : ByteArray := prog_3_method_8_code
def yX1_valleysLead : MethodName := ⟨RX1, "valleysLead", "(II)Z"⟩
abbrev cX1_passMinutes : ByteArray := prog_3_method_9_code
def yX1_passMinutes : MethodName := ⟨RX1, "passMinutes", "(II)V"⟩
abbrev cX1_passMinute : ByteArray := prog_3_method_10_code
def yX1_passMinute : MethodName := ⟨RX1, "passMinute", "(I)V"⟩
abbrev cX1_passWeek : ByteArray := prog_3_method_11_code
def yX1_passWeek : MethodName := ⟨RX1, "passWeek", "()V"⟩
abbrev cX1_wetPlane : ByteArray := prog_3_method_12_code
def yX1_wetPlane : MethodName := ⟨RX1, "wetPlane", "(II)V"⟩
abbrev cX1_emptyIntoDrain : ByteArray := prog_3_method_13_code
def yX1_emptyIntoDrain : MethodName := ⟨RX1, "emptyIntoDrain", "()V"⟩
abbrev cX1_overflow : ByteArray := prog_3_method_14_code
def yX1_overflow : MethodName := ⟨RX1, "overflow", "(I)V"⟩
abbrev cX1_room : ByteArray := prog_3_method_15_code
def yX1_room : MethodName := ⟨RX1, "room", "(I)I"⟩
abbrev cX1_pipeTakes : ByteArray := prog_3_method_16_code
def yX1_pipeTakes : MethodName := ⟨RX1, "pipeTakes", "(I)I"⟩
abbrev cX1_planeNumber : ByteArray := prog_3_method_17_code
def yX1_planeNumber : MethodName := ⟨RX1, "planeNumber", "(II)I"⟩
abbrev cX1_gutterNumber : ByteArray := prog_3_method_18_code
def yX1_gutterNumber : MethodName := ⟨RX1, "gutterNumber", "(II)I"⟩
abbrev cX1_settingValue : ByteArray := prog_3_method_21_code
def yX1_settingValue : MethodName := ⟨RX1, "settingValue", "(I)I"⟩
abbrev cX1_minutesGone : ByteArray := prog_3_method_22_code
def yX1_minutesGone : MethodName := ⟨RX1, "minutesGone", "()I"⟩
abbrev cX1_weeksPassed : ByteArray := prog_3_method_23_code
def yX1_weeksPassed : MethodName := ⟨RX1, "weeksPassed", "()I"⟩
abbrev cX1_rainedLitres : ByteArray := prog_3_method_24_code
def yX1_rainedLitres : MethodName := ⟨RX1, "rainedLitres", "()I"⟩
abbrev cX1_backedUpMinutes : ByteArray := prog_3_method_25_code
def yX1_backedUpMinutes : MethodName := ⟨RX1, "backedUpMinutes", "()I"⟩
abbrev cX1_standingLitres : ByteArray := prog_3_method_26_code
def yX1_standingLitres : MethodName := ⟨RX1, "standingLitres", "()I"⟩
abbrev cX1_drainedLitres : ByteArray := prog_3_method_27_code
def yX1_drainedLitres : MethodName := ⟨RX1, "drainedLitres", "()I"⟩
abbrev cX1_spiltLitres : ByteArray := prog_3_method_28_code
def yX1_spiltLitres : MethodName := ⟨RX1, "spiltLitres", "()I"⟩
abbrev cX1_leavesTogether : ByteArray := prog_3_method_29_code
def yX1_leavesTogether : MethodName := ⟨RX1, "leavesTogether", "()I"⟩
abbrev cX1_sumOf : ByteArray := prog_3_method_30_code
def yX1_sumOf : MethodName := ⟨RX1, "sumOf", "([I)I"⟩
def RX2 : String := "RoofDrains$SavedRoofs"
def TX2 : u_T := fun k => match k with
  | 0 => ("RoofDrains$SavedRoofs", "rows", "[LRoofDrains$Roof;", true)
  | 1 => ("RoofDrains$SavedRoofs", "oldest", "I", false)
  | _ => ("RoofDrains$SavedRoofs", "held", "I", false)
def tyX2 : Nat → FieldType := fun k => match k with
  | 0 => .array (.object "RoofDrains$Roof")
  | 1 => .int
  | _ => .int
abbrev wsX20 : List Cond := u_ws RX2 TX2 3
theorem nmX2 : ∀ a, a < 3 → ∀ b, b < 3 → a ≠ b → (TX2 a).2.1 ≠ (TX2 b).2.1 := by decide +kernel
theorem tyX2_ok : ∀ k, k < 3 → parseFieldDescriptor (TX2 k).2.2.1 = some (tyX2 k) := by decide +kernel
abbrev cX2_init : ByteArray := prog_4_method_1_code
def yX2_init : MethodName := ⟨RX2, "<init>", "()V"⟩
abbrev cX2_held : ByteArray := prog_4_method_2_code
def yX2_held : MethodName := ⟨RX2, "held", "()I"⟩
abbrev cX2_keep : ByteArray := prog_4_method_3_code
def yX2_keep : MethodName := ⟨RX2, "keep", "(LRoofDrains$Roof;)V"⟩
abbrev cX2_dropLatest : ByteArray := prog_4_method_4_code
def yX2_dropLatest : MethodName := ⟨RX2, "dropLatest", "()LRoofDrains$Roof;"⟩
def RX3 : String := "RoofDrains"
def TX3 : u_T := fun k => match k with
  | 0 => ("RoofDrains", "roof", "LRoofDrains$Roof;", true)
  | 1 => ("RoofDrains", "thought", "LRoofDrains$Roof;", true)
  | 2 => ("RoofDrains", "saved", "LRoofDrains$SavedRoofs;", true)
  | _ => ("RoofDrains", "text", "LRoofDrains$RainText;", true)
def tyX3 : Nat → FieldType := fun k => match k with
  | 0 => .object "RoofDrains$Roof"
  | 1 => .object "RoofDrains$Roof"
  | 2 => .object "RoofDrains$SavedRoofs"
  | _ => .object "RoofDrains$RainText"
abbrev wsX30 : List Cond := u_ws RX3 TX3 4
theorem nmX3 : ∀ a, a < 4 → ∀ b, b < 4 → a ≠ b → (TX3 a).2.1 ≠ (TX3 b).2.1 := by decide +kernel
theorem tyX3_ok : ∀ k, k < 4 → parseFieldDescriptor (TX3 k).2.2.1 = some (tyX3 k) := by decide +kernel
abbrev cX3_init : ByteArray := prog_1_method_1_code
def yX3_init : MethodName := ⟨RX3, "<init>", "()V"⟩
abbrev cX3_plane : ByteArray := prog_1_method_2_code
def yX3_plane : MethodName := ⟨RX3, "plane", "(IIII)I"⟩
abbrev cX3_gutter : ByteArray := prog_1_method_3_code
def yX3_gutter : MethodName := ⟨RX3, "gutter", "(III)I"⟩
abbrev cX3_valley : ByteArray := prog_1_method_4_code
def yX3_valley : MethodName := ⟨RX3, "valley", "(II)I"⟩
abbrev cX3_clean : ByteArray := prog_1_method_5_code
def yX3_clean : MethodName := ⟨RX3, "clean", "(I)I"⟩
abbrev cX3_set : ByteArray := prog_1_method_6_code
def yX3_set : MethodName := ⟨RX3, "set", "(II)I"⟩
abbrev cX3_rain : ByteArray := prog_1_method_7_code
def yX3_rain : MethodName := ⟨RX3, "rain", "(II)I"⟩
abbrev cX3_weeks : ByteArray := prog_1_method_8_code
def yX3_weeks : MethodName := ⟨RX3, "weeks", "(I)I"⟩
abbrev cX3_undo : ByteArray := prog_1_method_13_code
def yX3_undo : MethodName := ⟨RX3, "undo", "()I"⟩
abbrev cX3_planeOf : ByteArray := prog_1_method_14_code
def yX3_planeOf : MethodName := ⟨RX3, "planeOf", "(II)I"⟩
abbrev cX3_gutterOf : ByteArray := prog_1_method_15_code
def yX3_gutterOf : MethodName := ⟨RX3, "gutterOf", "(II)I"⟩
abbrev cX3_count : ByteArray := prog_1_method_16_code
def yX3_count : MethodName := ⟨RX3, "count", "(I)I"⟩
abbrev cX3_setting : ByteArray := prog_1_method_17_code
def yX3_setting : MethodName := ⟨RX3, "setting", "(I)I"⟩
abbrev cX3_dryIn : ByteArray := prog_1_method_22_code
def yX3_dryIn : MethodName := ⟨RX3, "dryIn", "()I"⟩
abbrev cX3_drainedShare : ByteArray := prog_1_method_23_code
def yX3_drainedShare : MethodName := ⟨RX3, "drainedShare", "()D"⟩
abbrev cX3_isWithin : ByteArray := prog_1_method_32_code
def yX3_isWithin : MethodName := ⟨RX3, "isWithin", "(III)Z"⟩
abbrev cX3_isPlane : ByteArray := prog_1_method_33_code
def yX3_isPlane : MethodName := ⟨RX3, "isPlane", "(I)Z"⟩
abbrev cX3_isGutter : ByteArray := prog_1_method_34_code
def yX3_isGutter : MethodName := ⟨RX3, "isGutter", "(I)Z"⟩
abbrev cX3_isSetting : ByteArray := prog_1_method_35_code
def yX3_isSetting : MethodName := ⟨RX3, "isSetting", "(I)Z"⟩
def RX4 : String := "RoofDrainsModel"
def TX4 : u_T := fun k => match k with
  | _ => ("", "", "", false)
def tyX4 : Nat → FieldType := fun k => match k with
  | _ => .int
abbrev wsX40 : List Cond := u_ws RX4 TX4 0
theorem nmX4 : ∀ a, a < 0 → ∀ b, b < 0 → a ≠ b → (TX4 a).2.1 ≠ (TX4 b).2.1 := by decide +kernel
theorem tyX4_ok : ∀ k, k < 0 → parseFieldDescriptor (TX4 k).2.2.1 = some (tyX4 k) := by decide +kernel
def RJ9 : String := "java/lang/Math"
def TJ9 : u_T := fun k => match k with
  | _ => ("", "", "", false)
def tyJ9 : Nat → FieldType := fun k => match k with
  | _ => .int
abbrev wsJ90 : List Cond := u_ws RJ9 TJ9 0
theorem nmJ9 : ∀ a, a < 0 → ∀ b, b < 0 → a ≠ b → (TJ9 a).2.1 ≠ (TJ9 b).2.1 := by decide +kernel
theorem tyJ9_ok : ∀ k, k < 0 → parseFieldDescriptor (TJ9 k).2.2.1 = some (tyJ9 k) := by decide +kernel
abbrev cJ9_min_7cf53 : ByteArray := prog_11_method_69_code
def yJ9_min_7cf53 : MethodName := ⟨RJ9, "min", "(II)I"⟩
def RJ0 : String := "java/lang/String"
def TJ0 : u_T := fun k => match k with
  | _ => ("", "", "", false)
def tyJ0 : Nat → FieldType := fun k => match k with
  | _ => .int
abbrev wsJ00 : List Cond := u_ws RJ0 TJ0 0
theorem nmJ0 : ∀ a, a < 0 → ∀ b, b < 0 → a ≠ b → (TJ0 a).2.1 ≠ (TJ0 b).2.1 := by decide +kernel
theorem tyJ0_ok : ∀ k, k < 0 → parseFieldDescriptor (TJ0 k).2.2.1 = some (tyJ0 k) := by decide +kernel
def RJ10 : String := "java/lang/System"
def TJ10 : u_T := fun k => match k with
  | _ => ("", "", "", false)
def tyJ10 : Nat → FieldType := fun k => match k with
  | _ => .int
abbrev wsJ100 : List Cond := u_ws RJ10 TJ10 0
theorem nmJ10 : ∀ a, a < 0 → ∀ b, b < 0 → a ≠ b → (TJ10 a).2.1 ≠ (TJ10 b).2.1 := by decide +kernel
theorem tyJ10_ok : ∀ k, k < 0 → parseFieldDescriptor (TJ10 k).2.2.1 = some (tyJ10 k) := by decide +kernel
def RL : String := "RoofDrainsLaw"
abbrev cL_cell : ByteArray := method_2_code
def yL_cell : MethodName := ⟨RL, "cell", "([II)I"⟩
abbrev cL_low : ByteArray := method_3_code
def yL_low : MethodName := ⟨RL, "low", "(II)I"⟩
abbrev cL_told : ByteArray := method_4_code
def yL_told : MethodName := ⟨RL, "told", "(LRoofDrains;)J"⟩
abbrev cL_leads : ByteArray := method_5_code
def yL_leads : MethodName := ⟨RL, "leads", "(LRoofDrains;II)Z"⟩
abbrev cL_act : ByteArray := method_6_code
def yL_act : MethodName := ⟨RL, "act", "(LRoofDrains;II)I"⟩
abbrev cL_holds : ByteArray := method_7_code
def yL_holds : MethodName := ⟨RL, "holds", "(LRoofDrains;Z)Z"⟩
abbrev cL_law : ByteArray := code
def yL_law : MethodName := ⟨RL, "law", "([I)Z"⟩
def wsX0_init : List Cond := .code yX0_init cX0_init 1 none :: ([.methodLink RX0 1 objectInit, .instanceMethod objectInit, .code objectInit ⟨#[0xb1]⟩ 1 none, .arrayClass .int, .fieldLink RX0 9 "RoofDrains$RainText" "codes" "[I"] ++ wsX00)
def wsX1_init : List Cond := .code yX1_init cX1_init 2 none :: ([.methodLink RX1 3 objectInit, .instanceMethod objectInit, .code objectInit ⟨#[0xb1]⟩ 1 none, .arrayClass .int, .fieldLink RX1 9 "RoofDrains$Roof" "area" "[I", .fieldLink RX1 15 "RoofDrains$Roof" "slope" "[I", .fieldLink RX1 18 "RoofDrains$Roof" "leadsTo" "[I", .fieldLink RX1 21 "RoofDrains$Roof" "onPlane" "[I", .fieldLink RX1 24 "RoofDrains$Roof" "size" "[I", .fieldLink RX1 27 "RoofDrains$Roof" "bore" "[I", .fieldLink RX1 30 "RoofDrains$Roof" "leaves" "[I", .fieldLink RX1 33 "RoofDrains$Roof" "valleyTo" "[I", .fieldLink RX1 36 "RoofDrains$Roof" "inGutter" "[I", .fieldLink RX1 39 "RoofDrains$Roof" "spilt" "[I", .fieldLink RX1 42 "RoofDrains$Roof" "drained" "[I", .fieldLink RX1 45 "RoofDrains$Roof" "values" "[I"] ++ wsX10)
def wsX1_copyFrom : List Cond := .code yX1_copyFrom cX1_copyFrom 2 none :: ([.fieldLink RX1 9 "RoofDrains$Roof" "area" "[I", .methodLink RX1 48 arraycopyName, .native arraycopyName, .static arraycopyName, .initialized "java/lang/System", .fieldLink RX1 15 "RoofDrains$Roof" "slope" "[I", .fieldLink RX1 18 "RoofDrains$Roof" "leadsTo" "[I", .fieldLink RX1 21 "RoofDrains$Roof" "onPlane" "[I", .fieldLink RX1 24 "RoofDrains$Roof" "size" "[I", .fieldLink RX1 27 "RoofDrains$Roof" "bore" "[I", .fieldLink RX1 30 "RoofDrains$Roof" "leaves" "[I", .fieldLink RX1 33 "RoofDrains$Roof" "valleyTo" "[I", .fieldLink RX1 36 "RoofDrains$Roof" "inGutter" "[I", .fieldLink RX1 39 "RoofDrains$Roof" "spilt" "[I", .fieldLink RX1 42 "RoofDrains$Roof" "drained" "[I", .fieldLink RX1 45 "RoofDrains$Roof" "values" "[I", .fieldLink RX1 54 "RoofDrains$Roof" "minutesGone" "I", .fieldLink RX1 58 "RoofDrains$Roof" "weeksPassed" "I", .fieldLink RX1 61 "RoofDrains$Roof" "rained" "I", .fieldLink RX1 64 "RoofDrains$Roof" "backedUp" "I"] ++ wsX10)
def wsX1_changePlane : List Cond := .code yX1_changePlane cX1_changePlane 6 (some .int) :: ([.fieldLink RX1 9 "RoofDrains$Roof" "area" "[I", .fieldLink RX1 15 "RoofDrains$Roof" "slope" "[I", .fieldLink RX1 18 "RoofDrains$Roof" "leadsTo" "[I"] ++ wsX10)
def wsX1_changeGutter : List Cond := .code yX1_changeGutter cX1_changeGutter 5 (some .int) :: ([.fieldLink RX1 24 "RoofDrains$Roof" "size" "[I", .fieldLink RX1 27 "RoofDrains$Roof" "bore" "[I"] ++ wsX10)
def wsX1_changeValley : List Cond := .code yX1_changeValley cX1_changeValley 4 (some .int) :: ([.fieldLink RX1 33 "RoofDrains$Roof" "valleyTo" "[I"] ++ wsX10)
def wsX1_takeLeaves : List Cond := .code yX1_takeLeaves cX1_takeLeaves 3 (some .int) :: ([.fieldLink RX1 30 "RoofDrains$Roof" "leaves" "[I"] ++ wsX10)
def wsX1_changeSetting : List Cond := .code yX1_changeSetting cX1_changeSetting 4 (some .int) :: ([.fieldLink RX1 45 "RoofDrains$Roof" "values" "[I"] ++ wsX10)
def wsX3_isGutter : List Cond := .code yX3_isGutter cX3_isGutter 1 (some .boolean) :: ([])
def wsX1_valleysLead : List Cond := .code yX1_valleysLead cX1_valleysLead 5 (some .boolean) :: ([.fieldLink RX1 33 "RoofDrains$Roof" "valleyTo" "[I", .static yX3_isGutter, .initialized RX3, .code yX3_isGutter cX3_isGutter 1 (some .boolean)] ++ wsX10)
def wsX1_wetPlane : List Cond := .code yX1_wetPlane cX1_wetPlane 6 none :: ([.fieldLink RX1 9 "RoofDrains$Roof" "area" "[I", .fieldLink RX1 61 "RoofDrains$Roof" "rained" "I", .fieldLink RX1 21 "RoofDrains$Roof" "onPlane" "[I", .fieldLink RX1 15 "RoofDrains$Roof" "slope" "[I", .fieldLink RX1 18 "RoofDrains$Roof" "leadsTo" "[I", .fieldLink RX1 36 "RoofDrains$Roof" "inGutter" "[I", .static yX3_isGutter, .initialized RX3, .code yX3_isGutter cX3_isGutter 1 (some .boolean)] ++ wsX10)
def wsX1_pipeTakes : List Cond := .code yX1_pipeTakes cX1_pipeTakes 3 (some .int) :: ([.fieldLink RX1 27 "RoofDrains$Roof" "bore" "[I", .fieldLink RX1 30 "RoofDrains$Roof" "leaves" "[I"] ++ wsX10)
def wsX1_emptyIntoDrain : List Cond := .code yX1_emptyIntoDrain cX1_emptyIntoDrain 6 none :: ([.fieldLink RX1 45 "RoofDrains$Roof" "values" "[I", .fieldLink RX1 36 "RoofDrains$Roof" "inGutter" "[I", .methodLink RX1 85 Lib.Math.min.name, .static Lib.Math.min.name, .initialized "java/lang/Math", .code Lib.Math.min.name Lib.Math.min.code 2 (some .int), .fieldLink RX1 42 "RoofDrains$Roof" "drained" "[I", .fieldLink RX1 64 "RoofDrains$Roof" "backedUp" "I", .methodLink RX1 91 yX1_pipeTakes, .instanceMethod yX1_pipeTakes, .selects RX1 yX1_pipeTakes yX1_pipeTakes, .initialized RX1, .code yX1_pipeTakes cX1_pipeTakes 3 (some .int), .fieldLink RX1 27 "RoofDrains$Roof" "bore" "[I", .fieldLink RX1 30 "RoofDrains$Roof" "leaves" "[I"] ++ wsX10)
def wsX1_room : List Cond := .code yX1_room cX1_room 2 (some .int) :: ([.fieldLink RX1 24 "RoofDrains$Roof" "size" "[I", .fieldLink RX1 30 "RoofDrains$Roof" "leaves" "[I"] ++ wsX10)
def wsX1_overflow : List Cond := .code yX1_overflow cX1_overflow 4 none :: ([.fieldLink RX1 36 "RoofDrains$Roof" "inGutter" "[I", .fieldLink RX1 33 "RoofDrains$Roof" "valleyTo" "[I", .fieldLink RX1 39 "RoofDrains$Roof" "spilt" "[I", .methodLink RX1 95 yX1_room, .instanceMethod yX1_room, .selects RX1 yX1_room yX1_room, .initialized RX1, .code yX1_room cX1_room 2 (some .int), .fieldLink RX1 24 "RoofDrains$Roof" "size" "[I", .fieldLink RX1 30 "RoofDrains$Roof" "leaves" "[I", .static yX3_isGutter, .initialized RX3, .code yX3_isGutter cX3_isGutter 1 (some .boolean)] ++ wsX10)
def wsX1_passMinute_r1 : List Cond := [Cond.fieldLink RX1 54 "RoofDrains$Roof" "minutesGone" "I", Cond.methodLink RX1 75 yX1_wetPlane, Cond.instanceMethod yX1_wetPlane, Cond.selects RX1 yX1_wetPlane yX1_wetPlane, Cond.initialized RX1, Cond.code yX1_wetPlane cX1_wetPlane 6 none, Cond.fieldLink RX1 9 "RoofDrains$Roof" "area" "[I", Cond.fieldLink RX1 61 "RoofDrains$Roof" "rained" "I", Cond.fieldLink RX1 21 "RoofDrains$Roof" "onPlane" "[I", Cond.fieldLink RX1 15 "RoofDrains$Roof" "slope" "[I", Cond.fieldLink RX1 18 "RoofDrains$Roof" "leadsTo" "[I", Cond.fieldLink RX1 36 "RoofDrains$Roof" "inGutter" "[I", Cond.static yX3_isGutter, Cond.initialized RX3, Cond.code yX3_isGutter cX3_isGutter 1 (some .boolean), Cond.methodLink RX1 79 yX1_emptyIntoDrain, Cond.instanceMethod yX1_emptyIntoDrain, Cond.selects RX1 yX1_emptyIntoDrain yX1_emptyIntoDrain, Cond.code yX1_emptyIntoDrain cX1_emptyIntoDrain 6 none, Cond.fieldLink RX1 45 "RoofDrains$Roof" "values" "[I", Cond.methodLink RX1 85 Lib.Math.min.name, Cond.static Lib.Math.min.name, Cond.initialized "java/lang/Math", Cond.code Lib.Math.min.name Lib.Math.min.code 2 (some .int)]
def wsX1_passMinute_r2 : List Cond := [Cond.fieldLink RX1 42 "RoofDrains$Roof" "drained" "[I", Cond.fieldLink RX1 64 "RoofDrains$Roof" "backedUp" "I", Cond.methodLink RX1 91 yX1_pipeTakes, Cond.instanceMethod yX1_pipeTakes, Cond.selects RX1 yX1_pipeTakes yX1_pipeTakes, Cond.code yX1_pipeTakes cX1_pipeTakes 3 (some .int), Cond.fieldLink RX1 27 "RoofDrains$Roof" "bore" "[I", Cond.fieldLink RX1 30 "RoofDrains$Roof" "leaves" "[I", Cond.methodLink RX1 82 yX1_overflow, Cond.instanceMethod yX1_overflow, Cond.selects RX1 yX1_overflow yX1_overflow, Cond.code yX1_overflow cX1_overflow 4 none, Cond.fieldLink RX1 33 "RoofDrains$Roof" "valleyTo" "[I", Cond.fieldLink RX1 39 "RoofDrains$Roof" "spilt" "[I", Cond.methodLink RX1 95 yX1_room, Cond.instanceMethod yX1_room, Cond.selects RX1 yX1_room yX1_room, Cond.code yX1_room cX1_room 2 (some .int), Cond.fieldLink RX1 24 "RoofDrains$Roof" "size" "[I"]
def wsX1_passMinute : List Cond := .code yX1_passMinute cX1_passMinute 3 none :: ((wsX1_passMinute_r1 ++ wsX1_passMinute_r2) ++ wsX10)
def wsX1_passMinutes_r1 : List Cond := [Cond.methodLink RX1 71 yX1_passMinute, Cond.instanceMethod yX1_passMinute, Cond.selects RX1 yX1_passMinute yX1_passMinute, Cond.initialized RX1, Cond.code yX1_passMinute cX1_passMinute 3 none, Cond.fieldLink RX1 54 "RoofDrains$Roof" "minutesGone" "I", Cond.methodLink RX1 75 yX1_wetPlane, Cond.instanceMethod yX1_wetPlane, Cond.selects RX1 yX1_wetPlane yX1_wetPlane, Cond.code yX1_wetPlane cX1_wetPlane 6 none, Cond.fieldLink RX1 9 "RoofDrains$Roof" "area" "[I", Cond.fieldLink RX1 61 "RoofDrains$Roof" "rained" "I", Cond.fieldLink RX1 21 "RoofDrains$Roof" "onPlane" "[I", Cond.fieldLink RX1 15 "RoofDrains$Roof" "slope" "[I", Cond.fieldLink RX1 18 "RoofDrains$Roof" "leadsTo" "[I", Cond.fieldLink RX1 36 "RoofDrains$Roof" "inGutter" "[I", Cond.static yX3_isGutter, Cond.initialized RX3, Cond.code yX3_isGutter cX3_isGutter 1 (some .boolean), Cond.methodLink RX1 79 yX1_emptyIntoDrain, Cond.instanceMethod yX1_emptyIntoDrain, Cond.selects RX1 yX1_emptyIntoDrain yX1_emptyIntoDrain, Cond.code yX1_emptyIntoDrain cX1_emptyIntoDrain 6 none, Cond.fieldLink RX1 45 "RoofDrains$Roof" "values" "[I"]
def wsX1_passMinutes_r2 : List Cond := [Cond.methodLink RX1 85 Lib.Math.min.name, Cond.static Lib.Math.min.name, Cond.initialized "java/lang/Math", Cond.code Lib.Math.min.name Lib.Math.min.code 2 (some .int), Cond.fieldLink RX1 42 "RoofDrains$Roof" "drained" "[I", Cond.fieldLink RX1 64 "RoofDrains$Roof" "backedUp" "I", Cond.methodLink RX1 91 yX1_pipeTakes, Cond.instanceMethod yX1_pipeTakes, Cond.selects RX1 yX1_pipeTakes yX1_pipeTakes, Cond.code yX1_pipeTakes cX1_pipeTakes 3 (some .int), Cond.fieldLink RX1 27 "RoofDrains$Roof" "bore" "[I", Cond.fieldLink RX1 30 "RoofDrains$Roof" "leaves" "[I", Cond.methodLink RX1 82 yX1_overflow, Cond.instanceMethod yX1_overflow, Cond.selects RX1 yX1_overflow yX1_overflow, Cond.code yX1_overflow cX1_overflow 4 none, Cond.fieldLink RX1 33 "RoofDrains$Roof" "valleyTo" "[I", Cond.fieldLink RX1 39 "RoofDrains$Roof" "spilt" "[I", Cond.methodLink RX1 95 yX1_room, Cond.instanceMethod yX1_room, Cond.selects RX1 yX1_room yX1_room, Cond.code yX1_room cX1_room 2 (some .int), Cond.fieldLink RX1 24 "RoofDrains$Roof" "size" "[I"]
def wsX1_passMinutes : List Cond := .code yX1_passMinutes cX1_passMinutes 4 none :: ((wsX1_passMinutes_r1 ++ wsX1_passMinutes_r2) ++ wsX10)
def wsX1_passWeek : List Cond := .code yX1_passWeek cX1_passWeek 2 none :: ([.fieldLink RX1 30 "RoofDrains$Roof" "leaves" "[I", .fieldLink RX1 45 "RoofDrains$Roof" "values" "[I", .methodLink RX1 85 Lib.Math.min.name, .static Lib.Math.min.name, .initialized "java/lang/Math", .code Lib.Math.min.name Lib.Math.min.code 2 (some .int), .fieldLink RX1 58 "RoofDrains$Roof" "weeksPassed" "I"] ++ wsX10)
def wsX1_planeNumber : List Cond := .code yX1_planeNumber cX1_planeNumber 3 (some .int) :: ([.fieldLink RX1 9 "RoofDrains$Roof" "area" "[I", .fieldLink RX1 15 "RoofDrains$Roof" "slope" "[I", .fieldLink RX1 18 "RoofDrains$Roof" "leadsTo" "[I", .fieldLink RX1 21 "RoofDrains$Roof" "onPlane" "[I"] ++ wsX10)
def wsX1_gutterNumber : List Cond := .code yX1_gutterNumber cX1_gutterNumber 3 (some .int) :: ([.fieldLink RX1 24 "RoofDrains$Roof" "size" "[I", .fieldLink RX1 27 "RoofDrains$Roof" "bore" "[I", .fieldLink RX1 30 "RoofDrains$Roof" "leaves" "[I", .fieldLink RX1 33 "RoofDrains$Roof" "valleyTo" "[I", .fieldLink RX1 36 "RoofDrains$Roof" "inGutter" "[I", .fieldLink RX1 39 "RoofDrains$Roof" "spilt" "[I", .fieldLink RX1 42 "RoofDrains$Roof" "drained" "[I", .methodLink RX1 95 yX1_room, .instanceMethod yX1_room, .selects RX1 yX1_room yX1_room, .initialized RX1, .code yX1_room cX1_room 2 (some .int), .methodLink RX1 91 yX1_pipeTakes, .instanceMethod yX1_pipeTakes, .selects RX1 yX1_pipeTakes yX1_pipeTakes, .code yX1_pipeTakes cX1_pipeTakes 3 (some .int)] ++ wsX10)
def wsX1_settingValue : List Cond := .code yX1_settingValue cX1_settingValue 2 (some .int) :: ([.fieldLink RX1 45 "RoofDrains$Roof" "values" "[I"] ++ wsX10)
def wsX1_minutesGone : List Cond := .code yX1_minutesGone cX1_minutesGone 1 (some .int) :: ([.fieldLink RX1 54 "RoofDrains$Roof" "minutesGone" "I"] ++ wsX10)
def wsX1_weeksPassed : List Cond := .code yX1_weeksPassed cX1_weeksPassed 1 (some .int) :: ([.fieldLink RX1 58 "RoofDrains$Roof" "weeksPassed" "I"] ++ wsX10)
def wsX1_rainedLitres : List Cond := .code yX1_rainedLitres cX1_rainedLitres 1 (some .int) :: ([.fieldLink RX1 61 "RoofDrains$Roof" "rained" "I"] ++ wsX10)
def wsX1_backedUpMinutes : List Cond := .code yX1_backedUpMinutes cX1_backedUpMinutes 1 (some .int) :: ([.fieldLink RX1 64 "RoofDrains$Roof" "backedUp" "I"] ++ wsX10)
def wsX1_sumOf : List Cond := .code yX1_sumOf cX1_sumOf 6 (some .int) :: ([])
def wsX1_standingLitres : List Cond := .code yX1_standingLitres cX1_standingLitres 1 (some .int) :: ([.fieldLink RX1 21 "RoofDrains$Roof" "onPlane" "[I", .fieldLink RX1 36 "RoofDrains$Roof" "inGutter" "[I", .methodLink RX1 98 yX1_sumOf, .static yX1_sumOf, .initialized RX1, .code yX1_sumOf cX1_sumOf 6 (some .int)] ++ wsX10)
def wsX1_drainedLitres : List Cond := .code yX1_drainedLitres cX1_drainedLitres 1 (some .int) :: ([.fieldLink RX1 42 "RoofDrains$Roof" "drained" "[I", .methodLink RX1 98 yX1_sumOf, .static yX1_sumOf, .initialized RX1, .code yX1_sumOf cX1_sumOf 6 (some .int)] ++ wsX10)
def wsX1_spiltLitres : List Cond := .code yX1_spiltLitres cX1_spiltLitres 1 (some .int) :: ([.fieldLink RX1 39 "RoofDrains$Roof" "spilt" "[I", .methodLink RX1 98 yX1_sumOf, .static yX1_sumOf, .initialized RX1, .code yX1_sumOf cX1_sumOf 6 (some .int)] ++ wsX10)
def wsX1_leavesTogether : List Cond := .code yX1_leavesTogether cX1_leavesTogether 1 (some .int) :: ([.fieldLink RX1 30 "RoofDrains$Roof" "leaves" "[I", .methodLink RX1 98 yX1_sumOf, .static yX1_sumOf, .initialized RX1, .code yX1_sumOf cX1_sumOf 6 (some .int)] ++ wsX10)
def wsX2_init : List Cond := .code yX2_init cX2_init 1 none :: ([.methodLink RX2 1 objectInit, .instanceMethod objectInit, .code objectInit ⟨#[0xb1]⟩ 1 none, .classLink RX2 9 RX1, .fieldLink RX2 11 "RoofDrains$SavedRoofs" "rows" "[LRoofDrains$Roof;"] ++ wsX20)
def wsX2_held : List Cond := .code yX2_held cX2_held 1 (some .int) :: ([.fieldLink RX2 15 "RoofDrains$SavedRoofs" "held" "I"] ++ wsX20)
def wsX2_keep_r1 : List Cond := [Cond.fieldLink RX2 15 "RoofDrains$SavedRoofs" "held" "I", Cond.fieldLink RX2 19 "RoofDrains$SavedRoofs" "oldest" "I", Cond.fieldLink RX2 11 "RoofDrains$SavedRoofs" "rows" "[LRoofDrains$Roof;", Cond.classLink RX2 9 RX1, Cond.instantiable RX1 16, Cond.initialized RX1, Cond.methodLink RX2 22 yX1_init, Cond.instanceMethod yX1_init, Cond.code yX1_init cX1_init 2 none, Cond.methodLink RX1 3 objectInit, Cond.instanceMethod objectInit, Cond.code objectInit ⟨#[0xb1]⟩ 1 none, Cond.arrayClass .int, Cond.fieldLink RX1 9 "RoofDrains$Roof" "area" "[I", Cond.fieldLink RX1 15 "RoofDrains$Roof" "slope" "[I", Cond.fieldLink RX1 18 "RoofDrains$Roof" "leadsTo" "[I", Cond.fieldLink RX1 21 "RoofDrains$Roof" "onPlane" "[I", Cond.fieldLink RX1 24 "RoofDrains$Roof" "size" "[I", Cond.fieldLink RX1 27 "RoofDrains$Roof" "bore" "[I", Cond.fieldLink RX1 30 "RoofDrains$Roof" "leaves" "[I", Cond.fieldLink RX1 33 "RoofDrains$Roof" "valleyTo" "[I", Cond.fieldLink RX1 36 "RoofDrains$Roof" "inGutter" "[I", Cond.fieldLink RX1 39 "RoofDrains$Roof" "spilt" "[I", Cond.fieldLink RX1 42 "RoofDrains$Roof" "drained" "[I"]
def wsX2_keep_r2 : List Cond := [Cond.fieldLink RX1 45 "RoofDrains$Roof" "values" "[I", Cond.methodLink RX2 23 yX1_copyFrom, Cond.instanceMethod yX1_copyFrom, Cond.selects RX1 yX1_copyFrom yX1_copyFrom, Cond.code yX1_copyFrom cX1_copyFrom 2 none, Cond.methodLink RX1 48 arraycopyName, Cond.native arraycopyName, Cond.static arraycopyName, Cond.initialized "java/lang/System", Cond.fieldLink RX1 54 "RoofDrains$Roof" "minutesGone" "I", Cond.fieldLink RX1 58 "RoofDrains$Roof" "weeksPassed" "I", Cond.fieldLink RX1 61 "RoofDrains$Roof" "rained" "I", Cond.fieldLink RX1 64 "RoofDrains$Roof" "backedUp" "I"]
def wsX2_keep : List Cond := .code yX2_keep cX2_keep 4 none :: ((wsX2_keep_r1 ++ wsX2_keep_r2) ++ wsX20 ++ wsX10)
def wsX2_dropLatest : List Cond := .code yX2_dropLatest cX2_dropLatest 1 (some (.object "RoofDrains$Roof")) :: ([.fieldLink RX2 15 "RoofDrains$SavedRoofs" "held" "I", .fieldLink RX2 11 "RoofDrains$SavedRoofs" "rows" "[LRoofDrains$Roof;", .fieldLink RX2 19 "RoofDrains$SavedRoofs" "oldest" "I"] ++ wsX20)
def wsX3_init_r1 : List Cond := [Cond.methodLink RX3 1 objectInit, Cond.instanceMethod objectInit, Cond.code objectInit ⟨#[0xb1]⟩ 1 none, Cond.classLink RX3 7 RX1, Cond.instantiable RX1 16, Cond.initialized RX1, Cond.fieldLink RX3 10 "RoofDrains" "roof" "LRoofDrains$Roof;", Cond.fieldLink RX3 16 "RoofDrains" "thought" "LRoofDrains$Roof;", Cond.classLink RX3 19 RX2, Cond.instantiable RX2 3, Cond.initialized RX2, Cond.fieldLink RX3 22 "RoofDrains" "saved" "LRoofDrains$SavedRoofs;", Cond.classLink RX3 26 RX0, Cond.instantiable RX0 2, Cond.initialized RX0, Cond.fieldLink RX3 29 "RoofDrains" "text" "LRoofDrains$RainText;", Cond.methodLink RX3 9 yX1_init, Cond.instanceMethod yX1_init, Cond.code yX1_init cX1_init 2 none, Cond.methodLink RX1 3 objectInit, Cond.arrayClass .int, Cond.fieldLink RX1 9 "RoofDrains$Roof" "area" "[I", Cond.fieldLink RX1 15 "RoofDrains$Roof" "slope" "[I", Cond.fieldLink RX1 18 "RoofDrains$Roof" "leadsTo" "[I"]
def wsX3_init_r2 : List Cond := [Cond.fieldLink RX1 21 "RoofDrains$Roof" "onPlane" "[I", Cond.fieldLink RX1 24 "RoofDrains$Roof" "size" "[I", Cond.fieldLink RX1 27 "RoofDrains$Roof" "bore" "[I", Cond.fieldLink RX1 30 "RoofDrains$Roof" "leaves" "[I", Cond.fieldLink RX1 33 "RoofDrains$Roof" "valleyTo" "[I", Cond.fieldLink RX1 36 "RoofDrains$Roof" "inGutter" "[I", Cond.fieldLink RX1 39 "RoofDrains$Roof" "spilt" "[I", Cond.fieldLink RX1 42 "RoofDrains$Roof" "drained" "[I", Cond.fieldLink RX1 45 "RoofDrains$Roof" "values" "[I", Cond.methodLink RX3 21 yX2_init, Cond.instanceMethod yX2_init, Cond.code yX2_init cX2_init 1 none, Cond.methodLink RX2 1 objectInit, Cond.classLink RX2 9 RX1, Cond.fieldLink RX2 11 "RoofDrains$SavedRoofs" "rows" "[LRoofDrains$Roof;", Cond.methodLink RX3 28 yX0_init, Cond.instanceMethod yX0_init, Cond.code yX0_init cX0_init 1 none, Cond.methodLink RX0 1 objectInit, Cond.fieldLink RX0 9 "RoofDrains$RainText" "codes" "[I"]
def wsX3_init : List Cond := .code yX3_init cX3_init 1 none :: ((wsX3_init_r1 ++ wsX3_init_r2) ++ wsX10 ++ wsX30 ++ wsX20 ++ wsX00)
def wsX3_isPlane : List Cond := .code yX3_isPlane cX3_isPlane 1 (some .boolean) :: ([])
def wsX3_isWithin : List Cond := .code yX3_isWithin cX3_isWithin 3 (some .boolean) :: ([])
def wsX3_plane_r1 : List Cond := [Cond.classLink RX3 40 "java/lang/IndexOutOfBoundsException", Cond.initialized "java/lang/IndexOutOfBoundsException", Cond.classLink RX3 51 "java/lang/IllegalArgumentException", Cond.initialized "java/lang/IllegalArgumentException", Cond.fieldLink RX3 22 "RoofDrains" "saved" "LRoofDrains$SavedRoofs;", Cond.fieldLink RX3 10 "RoofDrains" "roof" "LRoofDrains$Roof;", Cond.methodLink RX3 33 yX3_isPlane, Cond.static yX3_isPlane, Cond.initialized RX3, Cond.code yX3_isPlane cX3_isPlane 1 (some .boolean), Cond.methodLink RX3 37 yX3_isGutter, Cond.static yX3_isGutter, Cond.code yX3_isGutter cX3_isGutter 1 (some .boolean), Cond.methodLink RX3 47 yX3_isWithin, Cond.static yX3_isWithin, Cond.code yX3_isWithin cX3_isWithin 3 (some .boolean), Cond.methodLink RX3 56 yX2_keep, Cond.instanceMethod yX2_keep, Cond.selects RX2 yX2_keep yX2_keep, Cond.initialized RX2, Cond.code yX2_keep cX2_keep 4 none, Cond.fieldLink RX2 15 "RoofDrains$SavedRoofs" "held" "I", Cond.fieldLink RX2 19 "RoofDrains$SavedRoofs" "oldest" "I", Cond.fieldLink RX2 11 "RoofDrains$SavedRoofs" "rows" "[LRoofDrains$Roof;"]
def wsX3_plane_r2 : List Cond := [Cond.classLink RX2 9 RX1, Cond.instantiable RX1 16, Cond.initialized RX1, Cond.methodLink RX2 22 yX1_init, Cond.instanceMethod yX1_init, Cond.code yX1_init cX1_init 2 none, Cond.methodLink RX1 3 objectInit, Cond.instanceMethod objectInit, Cond.code objectInit ⟨#[0xb1]⟩ 1 none, Cond.arrayClass .int, Cond.fieldLink RX1 9 "RoofDrains$Roof" "area" "[I", Cond.fieldLink RX1 15 "RoofDrains$Roof" "slope" "[I", Cond.fieldLink RX1 18 "RoofDrains$Roof" "leadsTo" "[I", Cond.fieldLink RX1 21 "RoofDrains$Roof" "onPlane" "[I", Cond.fieldLink RX1 24 "RoofDrains$Roof" "size" "[I", Cond.fieldLink RX1 27 "RoofDrains$Roof" "bore" "[I", Cond.fieldLink RX1 30 "RoofDrains$Roof" "leaves" "[I", Cond.fieldLink RX1 33 "RoofDrains$Roof" "valleyTo" "[I", Cond.fieldLink RX1 36 "RoofDrains$Roof" "inGutter" "[I", Cond.fieldLink RX1 39 "RoofDrains$Roof" "spilt" "[I", Cond.fieldLink RX1 42 "RoofDrains$Roof" "drained" "[I", Cond.fieldLink RX1 45 "RoofDrains$Roof" "values" "[I", Cond.methodLink RX2 23 yX1_copyFrom, Cond.instanceMethod yX1_copyFrom]
def wsX3_plane_r3 : List Cond := [Cond.selects RX1 yX1_copyFrom yX1_copyFrom, Cond.code yX1_copyFrom cX1_copyFrom 2 none, Cond.methodLink RX1 48 arraycopyName, Cond.native arraycopyName, Cond.static arraycopyName, Cond.initialized "java/lang/System", Cond.fieldLink RX1 54 "RoofDrains$Roof" "minutesGone" "I", Cond.fieldLink RX1 58 "RoofDrains$Roof" "weeksPassed" "I", Cond.fieldLink RX1 61 "RoofDrains$Roof" "rained" "I", Cond.fieldLink RX1 64 "RoofDrains$Roof" "backedUp" "I", Cond.methodLink RX3 60 yX1_changePlane, Cond.instanceMethod yX1_changePlane, Cond.selects RX1 yX1_changePlane yX1_changePlane, Cond.code yX1_changePlane cX1_changePlane 6 (some .int)]
def wsX3_plane : List Cond := .code yX3_plane cX3_plane 5 (some .int) :: ((wsX3_plane_r1 ++ (wsX3_plane_r2 ++ wsX3_plane_r3)) ++ wsX30 ++ wsX20 ++ wsX10 ++ (vx_atS RX3 44 "java/lang/IndexOutOfBoundsException" ["java/lang/RuntimeException", "java/lang/Exception"]).filter goodWord ++ (vx_atS RX3 55 "java/lang/IllegalArgumentException" ["java/lang/RuntimeException", "java/lang/Exception"]).filter goodWord)
def wsX3_gutter_r1 : List Cond := [Cond.classLink RX3 40 "java/lang/IndexOutOfBoundsException", Cond.initialized "java/lang/IndexOutOfBoundsException", Cond.classLink RX3 51 "java/lang/IllegalArgumentException", Cond.initialized "java/lang/IllegalArgumentException", Cond.fieldLink RX3 22 "RoofDrains" "saved" "LRoofDrains$SavedRoofs;", Cond.fieldLink RX3 10 "RoofDrains" "roof" "LRoofDrains$Roof;", Cond.methodLink RX3 37 yX3_isGutter, Cond.static yX3_isGutter, Cond.initialized RX3, Cond.code yX3_isGutter cX3_isGutter 1 (some .boolean), Cond.methodLink RX3 47 yX3_isWithin, Cond.static yX3_isWithin, Cond.code yX3_isWithin cX3_isWithin 3 (some .boolean), Cond.methodLink RX3 56 yX2_keep, Cond.instanceMethod yX2_keep, Cond.selects RX2 yX2_keep yX2_keep, Cond.initialized RX2, Cond.code yX2_keep cX2_keep 4 none, Cond.fieldLink RX2 15 "RoofDrains$SavedRoofs" "held" "I", Cond.fieldLink RX2 19 "RoofDrains$SavedRoofs" "oldest" "I", Cond.fieldLink RX2 11 "RoofDrains$SavedRoofs" "rows" "[LRoofDrains$Roof;", Cond.classLink RX2 9 RX1, Cond.instantiable RX1 16, Cond.initialized RX1]
def wsX3_gutter_r2 : List Cond := [Cond.methodLink RX2 22 yX1_init, Cond.instanceMethod yX1_init, Cond.code yX1_init cX1_init 2 none, Cond.methodLink RX1 3 objectInit, Cond.instanceMethod objectInit, Cond.code objectInit ⟨#[0xb1]⟩ 1 none, Cond.arrayClass .int, Cond.fieldLink RX1 9 "RoofDrains$Roof" "area" "[I", Cond.fieldLink RX1 15 "RoofDrains$Roof" "slope" "[I", Cond.fieldLink RX1 18 "RoofDrains$Roof" "leadsTo" "[I", Cond.fieldLink RX1 21 "RoofDrains$Roof" "onPlane" "[I", Cond.fieldLink RX1 24 "RoofDrains$Roof" "size" "[I", Cond.fieldLink RX1 27 "RoofDrains$Roof" "bore" "[I", Cond.fieldLink RX1 30 "RoofDrains$Roof" "leaves" "[I", Cond.fieldLink RX1 33 "RoofDrains$Roof" "valleyTo" "[I", Cond.fieldLink RX1 36 "RoofDrains$Roof" "inGutter" "[I", Cond.fieldLink RX1 39 "RoofDrains$Roof" "spilt" "[I", Cond.fieldLink RX1 42 "RoofDrains$Roof" "drained" "[I", Cond.fieldLink RX1 45 "RoofDrains$Roof" "values" "[I", Cond.methodLink RX2 23 yX1_copyFrom, Cond.instanceMethod yX1_copyFrom, Cond.selects RX1 yX1_copyFrom yX1_copyFrom, Cond.code yX1_copyFrom cX1_copyFrom 2 none, Cond.methodLink RX1 48 arraycopyName]
def wsX3_gutter_r3 : List Cond := [Cond.native arraycopyName, Cond.static arraycopyName, Cond.initialized "java/lang/System", Cond.fieldLink RX1 54 "RoofDrains$Roof" "minutesGone" "I", Cond.fieldLink RX1 58 "RoofDrains$Roof" "weeksPassed" "I", Cond.fieldLink RX1 61 "RoofDrains$Roof" "rained" "I", Cond.fieldLink RX1 64 "RoofDrains$Roof" "backedUp" "I", Cond.methodLink RX3 68 yX1_changeGutter, Cond.instanceMethod yX1_changeGutter, Cond.selects RX1 yX1_changeGutter yX1_changeGutter, Cond.code yX1_changeGutter cX1_changeGutter 5 (some .int)]
def wsX3_gutter : List Cond := .code yX3_gutter cX3_gutter 4 (some .int) :: ((wsX3_gutter_r1 ++ (wsX3_gutter_r2 ++ wsX3_gutter_r3)) ++ wsX30 ++ wsX20 ++ wsX10 ++ (vx_atS RX3 44 "java/lang/IndexOutOfBoundsException" ["java/lang/RuntimeException", "java/lang/Exception"]).filter goodWord ++ (vx_atS RX3 55 "java/lang/IllegalArgumentException" ["java/lang/RuntimeException", "java/lang/Exception"]).filter goodWord)
def wsX3_valley_r1 : List Cond := [Cond.classLink RX3 40 "java/lang/IndexOutOfBoundsException", Cond.initialized "java/lang/IndexOutOfBoundsException", Cond.classLink RX3 51 "java/lang/IllegalArgumentException", Cond.initialized "java/lang/IllegalArgumentException", Cond.classLink RX3 78 "java/lang/IllegalStateException", Cond.initialized "java/lang/IllegalStateException", Cond.fieldLink RX3 10 "RoofDrains" "roof" "LRoofDrains$Roof;", Cond.fieldLink RX3 22 "RoofDrains" "saved" "LRoofDrains$SavedRoofs;", Cond.methodLink RX3 37 yX3_isGutter, Cond.static yX3_isGutter, Cond.initialized RX3, Cond.code yX3_isGutter cX3_isGutter 1 (some .boolean), Cond.methodLink RX3 74 yX1_valleysLead, Cond.instanceMethod yX1_valleysLead, Cond.selects RX1 yX1_valleysLead yX1_valleysLead, Cond.initialized RX1, Cond.code yX1_valleysLead cX1_valleysLead 5 (some .boolean), Cond.fieldLink RX1 33 "RoofDrains$Roof" "valleyTo" "[I", Cond.methodLink RX3 56 yX2_keep, Cond.instanceMethod yX2_keep, Cond.selects RX2 yX2_keep yX2_keep, Cond.initialized RX2, Cond.code yX2_keep cX2_keep 4 none, Cond.fieldLink RX2 15 "RoofDrains$SavedRoofs" "held" "I"]
def wsX3_valley_r2 : List Cond := [Cond.fieldLink RX2 19 "RoofDrains$SavedRoofs" "oldest" "I", Cond.fieldLink RX2 11 "RoofDrains$SavedRoofs" "rows" "[LRoofDrains$Roof;", Cond.classLink RX2 9 RX1, Cond.instantiable RX1 16, Cond.methodLink RX2 22 yX1_init, Cond.instanceMethod yX1_init, Cond.code yX1_init cX1_init 2 none, Cond.methodLink RX1 3 objectInit, Cond.instanceMethod objectInit, Cond.code objectInit ⟨#[0xb1]⟩ 1 none, Cond.arrayClass .int, Cond.fieldLink RX1 9 "RoofDrains$Roof" "area" "[I", Cond.fieldLink RX1 15 "RoofDrains$Roof" "slope" "[I", Cond.fieldLink RX1 18 "RoofDrains$Roof" "leadsTo" "[I", Cond.fieldLink RX1 21 "RoofDrains$Roof" "onPlane" "[I", Cond.fieldLink RX1 24 "RoofDrains$Roof" "size" "[I", Cond.fieldLink RX1 27 "RoofDrains$Roof" "bore" "[I", Cond.fieldLink RX1 30 "RoofDrains$Roof" "leaves" "[I", Cond.fieldLink RX1 36 "RoofDrains$Roof" "inGutter" "[I", Cond.fieldLink RX1 39 "RoofDrains$Roof" "spilt" "[I", Cond.fieldLink RX1 42 "RoofDrains$Roof" "drained" "[I", Cond.fieldLink RX1 45 "RoofDrains$Roof" "values" "[I", Cond.methodLink RX2 23 yX1_copyFrom, Cond.instanceMethod yX1_copyFrom]
def wsX3_valley_r3 : List Cond := [Cond.selects RX1 yX1_copyFrom yX1_copyFrom, Cond.code yX1_copyFrom cX1_copyFrom 2 none, Cond.methodLink RX1 48 arraycopyName, Cond.native arraycopyName, Cond.static arraycopyName, Cond.initialized "java/lang/System", Cond.fieldLink RX1 54 "RoofDrains$Roof" "minutesGone" "I", Cond.fieldLink RX1 58 "RoofDrains$Roof" "weeksPassed" "I", Cond.fieldLink RX1 61 "RoofDrains$Roof" "rained" "I", Cond.fieldLink RX1 64 "RoofDrains$Roof" "backedUp" "I", Cond.methodLink RX3 83 yX1_changeValley, Cond.instanceMethod yX1_changeValley, Cond.selects RX1 yX1_changeValley yX1_changeValley, Cond.code yX1_changeValley cX1_changeValley 4 (some .int)]
def wsX3_valley : List Cond := .code yX3_valley cX3_valley 3 (some .int) :: ((wsX3_valley_r1 ++ (wsX3_valley_r2 ++ wsX3_valley_r3)) ++ wsX30 ++ wsX10 ++ wsX20 ++ (vx_atS RX3 44 "java/lang/IndexOutOfBoundsException" ["java/lang/RuntimeException", "java/lang/Exception"]).filter goodWord ++ (vx_atS RX3 55 "java/lang/IllegalArgumentException" ["java/lang/RuntimeException", "java/lang/Exception"]).filter goodWord ++ (vx_atS RX3 82 "java/lang/IllegalStateException" ["java/lang/RuntimeException", "java/lang/Exception"]).filter goodWord)
def wsX3_clean_r1 : List Cond := [Cond.classLink RX3 40 "java/lang/IndexOutOfBoundsException", Cond.initialized "java/lang/IndexOutOfBoundsException", Cond.fieldLink RX3 22 "RoofDrains" "saved" "LRoofDrains$SavedRoofs;", Cond.fieldLink RX3 10 "RoofDrains" "roof" "LRoofDrains$Roof;", Cond.methodLink RX3 37 yX3_isGutter, Cond.static yX3_isGutter, Cond.initialized RX3, Cond.code yX3_isGutter cX3_isGutter 1 (some .boolean), Cond.methodLink RX3 56 yX2_keep, Cond.instanceMethod yX2_keep, Cond.selects RX2 yX2_keep yX2_keep, Cond.initialized RX2, Cond.code yX2_keep cX2_keep 4 none, Cond.fieldLink RX2 15 "RoofDrains$SavedRoofs" "held" "I", Cond.fieldLink RX2 19 "RoofDrains$SavedRoofs" "oldest" "I", Cond.fieldLink RX2 11 "RoofDrains$SavedRoofs" "rows" "[LRoofDrains$Roof;", Cond.classLink RX2 9 RX1, Cond.instantiable RX1 16, Cond.initialized RX1, Cond.methodLink RX2 22 yX1_init, Cond.instanceMethod yX1_init, Cond.code yX1_init cX1_init 2 none, Cond.methodLink RX1 3 objectInit, Cond.instanceMethod objectInit]
def wsX3_clean_r2 : List Cond := [Cond.code objectInit ⟨#[0xb1]⟩ 1 none, Cond.arrayClass .int, Cond.fieldLink RX1 9 "RoofDrains$Roof" "area" "[I", Cond.fieldLink RX1 15 "RoofDrains$Roof" "slope" "[I", Cond.fieldLink RX1 18 "RoofDrains$Roof" "leadsTo" "[I", Cond.fieldLink RX1 21 "RoofDrains$Roof" "onPlane" "[I", Cond.fieldLink RX1 24 "RoofDrains$Roof" "size" "[I", Cond.fieldLink RX1 27 "RoofDrains$Roof" "bore" "[I", Cond.fieldLink RX1 30 "RoofDrains$Roof" "leaves" "[I", Cond.fieldLink RX1 33 "RoofDrains$Roof" "valleyTo" "[I", Cond.fieldLink RX1 36 "RoofDrains$Roof" "inGutter" "[I", Cond.fieldLink RX1 39 "RoofDrains$Roof" "spilt" "[I", Cond.fieldLink RX1 42 "RoofDrains$Roof" "drained" "[I", Cond.fieldLink RX1 45 "RoofDrains$Roof" "values" "[I", Cond.methodLink RX2 23 yX1_copyFrom, Cond.instanceMethod yX1_copyFrom, Cond.selects RX1 yX1_copyFrom yX1_copyFrom, Cond.code yX1_copyFrom cX1_copyFrom 2 none, Cond.methodLink RX1 48 arraycopyName, Cond.native arraycopyName, Cond.static arraycopyName, Cond.initialized "java/lang/System", Cond.fieldLink RX1 54 "RoofDrains$Roof" "minutesGone" "I", Cond.fieldLink RX1 58 "RoofDrains$Roof" "weeksPassed" "I"]
def wsX3_clean_r3 : List Cond := [Cond.fieldLink RX1 61 "RoofDrains$Roof" "rained" "I", Cond.fieldLink RX1 64 "RoofDrains$Roof" "backedUp" "I", Cond.methodLink RX3 87 yX1_takeLeaves, Cond.instanceMethod yX1_takeLeaves, Cond.selects RX1 yX1_takeLeaves yX1_takeLeaves, Cond.code yX1_takeLeaves cX1_takeLeaves 3 (some .int)]
def wsX3_clean : List Cond := .code yX3_clean cX3_clean 2 (some .int) :: ((wsX3_clean_r1 ++ (wsX3_clean_r2 ++ wsX3_clean_r3)) ++ wsX30 ++ wsX20 ++ wsX10 ++ (vx_atS RX3 44 "java/lang/IndexOutOfBoundsException" ["java/lang/RuntimeException", "java/lang/Exception"]).filter goodWord)
def wsX3_isSetting : List Cond := .code yX3_isSetting cX3_isSetting 1 (some .boolean) :: ([])
def wsX3_set_r1 : List Cond := [Cond.classLink RX3 40 "java/lang/IndexOutOfBoundsException", Cond.initialized "java/lang/IndexOutOfBoundsException", Cond.classLink RX3 51 "java/lang/IllegalArgumentException", Cond.initialized "java/lang/IllegalArgumentException", Cond.fieldLink RX3 96 "RoofDrains" "MOST_OF_SETTING" "[I", Cond.fieldLink RX3 22 "RoofDrains" "saved" "LRoofDrains$SavedRoofs;", Cond.fieldLink RX3 10 "RoofDrains" "roof" "LRoofDrains$Roof;", Cond.methodLink RX3 91 yX3_isSetting, Cond.static yX3_isSetting, Cond.initialized RX3, Cond.code yX3_isSetting cX3_isSetting 1 (some .boolean), Cond.methodLink RX3 47 yX3_isWithin, Cond.static yX3_isWithin, Cond.code yX3_isWithin cX3_isWithin 3 (some .boolean), Cond.methodLink RX3 56 yX2_keep, Cond.instanceMethod yX2_keep, Cond.selects RX2 yX2_keep yX2_keep, Cond.initialized RX2, Cond.code yX2_keep cX2_keep 4 none, Cond.fieldLink RX2 15 "RoofDrains$SavedRoofs" "held" "I", Cond.fieldLink RX2 19 "RoofDrains$SavedRoofs" "oldest" "I", Cond.fieldLink RX2 11 "RoofDrains$SavedRoofs" "rows" "[LRoofDrains$Roof;", Cond.classLink RX2 9 RX1, Cond.instantiable RX1 16]
def wsX3_set_r2 : List Cond := [Cond.initialized RX1, Cond.methodLink RX2 22 yX1_init, Cond.instanceMethod yX1_init, Cond.code yX1_init cX1_init 2 none, Cond.methodLink RX1 3 objectInit, Cond.instanceMethod objectInit, Cond.code objectInit ⟨#[0xb1]⟩ 1 none, Cond.arrayClass .int, Cond.fieldLink RX1 9 "RoofDrains$Roof" "area" "[I", Cond.fieldLink RX1 15 "RoofDrains$Roof" "slope" "[I", Cond.fieldLink RX1 18 "RoofDrains$Roof" "leadsTo" "[I", Cond.fieldLink RX1 21 "RoofDrains$Roof" "onPlane" "[I", Cond.fieldLink RX1 24 "RoofDrains$Roof" "size" "[I", Cond.fieldLink RX1 27 "RoofDrains$Roof" "bore" "[I", Cond.fieldLink RX1 30 "RoofDrains$Roof" "leaves" "[I", Cond.fieldLink RX1 33 "RoofDrains$Roof" "valleyTo" "[I", Cond.fieldLink RX1 36 "RoofDrains$Roof" "inGutter" "[I", Cond.fieldLink RX1 39 "RoofDrains$Roof" "spilt" "[I", Cond.fieldLink RX1 42 "RoofDrains$Roof" "drained" "[I", Cond.fieldLink RX1 45 "RoofDrains$Roof" "values" "[I", Cond.methodLink RX2 23 yX1_copyFrom, Cond.instanceMethod yX1_copyFrom, Cond.selects RX1 yX1_copyFrom yX1_copyFrom, Cond.code yX1_copyFrom cX1_copyFrom 2 none]
def wsX3_set_r3 : List Cond := [Cond.methodLink RX1 48 arraycopyName, Cond.native arraycopyName, Cond.static arraycopyName, Cond.initialized "java/lang/System", Cond.fieldLink RX1 54 "RoofDrains$Roof" "minutesGone" "I", Cond.fieldLink RX1 58 "RoofDrains$Roof" "weeksPassed" "I", Cond.fieldLink RX1 61 "RoofDrains$Roof" "rained" "I", Cond.fieldLink RX1 64 "RoofDrains$Roof" "backedUp" "I", Cond.methodLink RX3 102 yX1_changeSetting, Cond.instanceMethod yX1_changeSetting, Cond.selects RX1 yX1_changeSetting yX1_changeSetting, Cond.code yX1_changeSetting cX1_changeSetting 4 (some .int)]
def wsX3_set : List Cond := .code yX3_set cX3_set 3 (some .int) :: ((wsX3_set_r1 ++ (wsX3_set_r2 ++ wsX3_set_r3)) ++ wsX30 ++ wsX20 ++ wsX10 ++ (vx_atS RX3 44 "java/lang/IndexOutOfBoundsException" ["java/lang/RuntimeException", "java/lang/Exception"]).filter goodWord ++ (vx_atS RX3 55 "java/lang/IllegalArgumentException" ["java/lang/RuntimeException", "java/lang/Exception"]).filter goodWord)
def wsX3_rain_r1 : List Cond := [Cond.classLink RX3 51 "java/lang/IllegalArgumentException", Cond.initialized "java/lang/IllegalArgumentException", Cond.fieldLink RX3 22 "RoofDrains" "saved" "LRoofDrains$SavedRoofs;", Cond.fieldLink RX3 10 "RoofDrains" "roof" "LRoofDrains$Roof;", Cond.methodLink RX3 47 yX3_isWithin, Cond.static yX3_isWithin, Cond.initialized RX3, Cond.code yX3_isWithin cX3_isWithin 3 (some .boolean), Cond.methodLink RX3 56 yX2_keep, Cond.instanceMethod yX2_keep, Cond.selects RX2 yX2_keep yX2_keep, Cond.initialized RX2, Cond.code yX2_keep cX2_keep 4 none, Cond.fieldLink RX2 15 "RoofDrains$SavedRoofs" "held" "I", Cond.fieldLink RX2 19 "RoofDrains$SavedRoofs" "oldest" "I", Cond.fieldLink RX2 11 "RoofDrains$SavedRoofs" "rows" "[LRoofDrains$Roof;", Cond.classLink RX2 9 RX1, Cond.instantiable RX1 16, Cond.initialized RX1, Cond.methodLink RX2 22 yX1_init, Cond.instanceMethod yX1_init, Cond.code yX1_init cX1_init 2 none, Cond.methodLink RX1 3 objectInit, Cond.instanceMethod objectInit]
def wsX3_rain_r2 : List Cond := [Cond.code objectInit ⟨#[0xb1]⟩ 1 none, Cond.arrayClass .int, Cond.fieldLink RX1 9 "RoofDrains$Roof" "area" "[I", Cond.fieldLink RX1 15 "RoofDrains$Roof" "slope" "[I", Cond.fieldLink RX1 18 "RoofDrains$Roof" "leadsTo" "[I", Cond.fieldLink RX1 21 "RoofDrains$Roof" "onPlane" "[I", Cond.fieldLink RX1 24 "RoofDrains$Roof" "size" "[I", Cond.fieldLink RX1 27 "RoofDrains$Roof" "bore" "[I", Cond.fieldLink RX1 30 "RoofDrains$Roof" "leaves" "[I", Cond.fieldLink RX1 33 "RoofDrains$Roof" "valleyTo" "[I", Cond.fieldLink RX1 36 "RoofDrains$Roof" "inGutter" "[I", Cond.fieldLink RX1 39 "RoofDrains$Roof" "spilt" "[I", Cond.fieldLink RX1 42 "RoofDrains$Roof" "drained" "[I", Cond.fieldLink RX1 45 "RoofDrains$Roof" "values" "[I", Cond.methodLink RX2 23 yX1_copyFrom, Cond.instanceMethod yX1_copyFrom, Cond.selects RX1 yX1_copyFrom yX1_copyFrom, Cond.code yX1_copyFrom cX1_copyFrom 2 none, Cond.methodLink RX1 48 arraycopyName, Cond.native arraycopyName, Cond.static arraycopyName, Cond.initialized "java/lang/System", Cond.fieldLink RX1 54 "RoofDrains$Roof" "minutesGone" "I", Cond.fieldLink RX1 58 "RoofDrains$Roof" "weeksPassed" "I"]
def wsX3_rain_r3 : List Cond := [Cond.fieldLink RX1 61 "RoofDrains$Roof" "rained" "I", Cond.fieldLink RX1 64 "RoofDrains$Roof" "backedUp" "I", Cond.methodLink RX3 107 yX1_spiltLitres, Cond.instanceMethod yX1_spiltLitres, Cond.selects RX1 yX1_spiltLitres yX1_spiltLitres, Cond.code yX1_spiltLitres cX1_spiltLitres 1 (some .int), Cond.methodLink RX1 98 yX1_sumOf, Cond.static yX1_sumOf, Cond.code yX1_sumOf cX1_sumOf 6 (some .int), Cond.methodLink RX3 111 yX1_passMinutes, Cond.instanceMethod yX1_passMinutes, Cond.selects RX1 yX1_passMinutes yX1_passMinutes, Cond.code yX1_passMinutes cX1_passMinutes 4 none, Cond.methodLink RX1 71 yX1_passMinute, Cond.instanceMethod yX1_passMinute, Cond.selects RX1 yX1_passMinute yX1_passMinute, Cond.code yX1_passMinute cX1_passMinute 3 none, Cond.methodLink RX1 75 yX1_wetPlane, Cond.instanceMethod yX1_wetPlane, Cond.selects RX1 yX1_wetPlane yX1_wetPlane, Cond.code yX1_wetPlane cX1_wetPlane 6 none, Cond.static yX3_isGutter, Cond.code yX3_isGutter cX3_isGutter 1 (some .boolean), Cond.methodLink RX1 79 yX1_emptyIntoDrain]
def wsX3_rain_r4 : List Cond := [Cond.instanceMethod yX1_emptyIntoDrain, Cond.selects RX1 yX1_emptyIntoDrain yX1_emptyIntoDrain, Cond.code yX1_emptyIntoDrain cX1_emptyIntoDrain 6 none, Cond.methodLink RX1 85 Lib.Math.min.name, Cond.static Lib.Math.min.name, Cond.initialized "java/lang/Math", Cond.code Lib.Math.min.name Lib.Math.min.code 2 (some .int), Cond.methodLink RX1 91 yX1_pipeTakes, Cond.instanceMethod yX1_pipeTakes, Cond.selects RX1 yX1_pipeTakes yX1_pipeTakes, Cond.code yX1_pipeTakes cX1_pipeTakes 3 (some .int), Cond.methodLink RX1 82 yX1_overflow, Cond.instanceMethod yX1_overflow, Cond.selects RX1 yX1_overflow yX1_overflow, Cond.code yX1_overflow cX1_overflow 4 none, Cond.methodLink RX1 95 yX1_room, Cond.instanceMethod yX1_room, Cond.selects RX1 yX1_room yX1_room, Cond.code yX1_room cX1_room 2 (some .int)]
def wsX3_rain : List Cond := .code yX3_rain cX3_rain 4 (some .int) :: ((wsX3_rain_r1 ++ (wsX3_rain_r2 ++ (wsX3_rain_r3 ++ wsX3_rain_r4))) ++ wsX30 ++ wsX20 ++ wsX10 ++ (vx_atS RX3 55 "java/lang/IllegalArgumentException" ["java/lang/RuntimeException", "java/lang/Exception"]).filter goodWord)
def wsX3_weeks_r1 : List Cond := [Cond.classLink RX3 51 "java/lang/IllegalArgumentException", Cond.initialized "java/lang/IllegalArgumentException", Cond.fieldLink RX3 22 "RoofDrains" "saved" "LRoofDrains$SavedRoofs;", Cond.fieldLink RX3 10 "RoofDrains" "roof" "LRoofDrains$Roof;", Cond.methodLink RX3 47 yX3_isWithin, Cond.static yX3_isWithin, Cond.initialized RX3, Cond.code yX3_isWithin cX3_isWithin 3 (some .boolean), Cond.methodLink RX3 56 yX2_keep, Cond.instanceMethod yX2_keep, Cond.selects RX2 yX2_keep yX2_keep, Cond.initialized RX2, Cond.code yX2_keep cX2_keep 4 none, Cond.fieldLink RX2 15 "RoofDrains$SavedRoofs" "held" "I", Cond.fieldLink RX2 19 "RoofDrains$SavedRoofs" "oldest" "I", Cond.fieldLink RX2 11 "RoofDrains$SavedRoofs" "rows" "[LRoofDrains$Roof;", Cond.classLink RX2 9 RX1, Cond.instantiable RX1 16, Cond.initialized RX1, Cond.methodLink RX2 22 yX1_init, Cond.instanceMethod yX1_init, Cond.code yX1_init cX1_init 2 none, Cond.methodLink RX1 3 objectInit, Cond.instanceMethod objectInit]
def wsX3_weeks_r2 : List Cond := [Cond.code objectInit ⟨#[0xb1]⟩ 1 none, Cond.arrayClass .int, Cond.fieldLink RX1 9 "RoofDrains$Roof" "area" "[I", Cond.fieldLink RX1 15 "RoofDrains$Roof" "slope" "[I", Cond.fieldLink RX1 18 "RoofDrains$Roof" "leadsTo" "[I", Cond.fieldLink RX1 21 "RoofDrains$Roof" "onPlane" "[I", Cond.fieldLink RX1 24 "RoofDrains$Roof" "size" "[I", Cond.fieldLink RX1 27 "RoofDrains$Roof" "bore" "[I", Cond.fieldLink RX1 30 "RoofDrains$Roof" "leaves" "[I", Cond.fieldLink RX1 33 "RoofDrains$Roof" "valleyTo" "[I", Cond.fieldLink RX1 36 "RoofDrains$Roof" "inGutter" "[I", Cond.fieldLink RX1 39 "RoofDrains$Roof" "spilt" "[I", Cond.fieldLink RX1 42 "RoofDrains$Roof" "drained" "[I", Cond.fieldLink RX1 45 "RoofDrains$Roof" "values" "[I", Cond.methodLink RX2 23 yX1_copyFrom, Cond.instanceMethod yX1_copyFrom, Cond.selects RX1 yX1_copyFrom yX1_copyFrom, Cond.code yX1_copyFrom cX1_copyFrom 2 none, Cond.methodLink RX1 48 arraycopyName, Cond.native arraycopyName, Cond.static arraycopyName, Cond.initialized "java/lang/System", Cond.fieldLink RX1 54 "RoofDrains$Roof" "minutesGone" "I", Cond.fieldLink RX1 58 "RoofDrains$Roof" "weeksPassed" "I"]
def wsX3_weeks_r3 : List Cond := [Cond.fieldLink RX1 61 "RoofDrains$Roof" "rained" "I", Cond.fieldLink RX1 64 "RoofDrains$Roof" "backedUp" "I", Cond.methodLink RX3 117 yX1_passWeek, Cond.instanceMethod yX1_passWeek, Cond.selects RX1 yX1_passWeek yX1_passWeek, Cond.code yX1_passWeek cX1_passWeek 2 none, Cond.methodLink RX1 85 Lib.Math.min.name, Cond.static Lib.Math.min.name, Cond.initialized "java/lang/Math", Cond.code Lib.Math.min.name Lib.Math.min.code 2 (some .int), Cond.methodLink RX3 120 yX1_leavesTogether, Cond.instanceMethod yX1_leavesTogether, Cond.selects RX1 yX1_leavesTogether yX1_leavesTogether, Cond.code yX1_leavesTogether cX1_leavesTogether 1 (some .int), Cond.methodLink RX1 98 yX1_sumOf, Cond.static yX1_sumOf, Cond.code yX1_sumOf cX1_sumOf 6 (some .int)]
def wsX3_weeks : List Cond := .code yX3_weeks cX3_weeks 3 (some .int) :: ((wsX3_weeks_r1 ++ (wsX3_weeks_r2 ++ wsX3_weeks_r3)) ++ wsX30 ++ wsX20 ++ wsX10 ++ (vx_atS RX3 55 "java/lang/IllegalArgumentException" ["java/lang/RuntimeException", "java/lang/Exception"]).filter goodWord)
def wsX3_undo_r1 : List Cond := [Cond.classLink RX3 78 "java/lang/IllegalStateException", Cond.initialized "java/lang/IllegalStateException", Cond.fieldLink RX3 22 "RoofDrains" "saved" "LRoofDrains$SavedRoofs;", Cond.fieldLink RX3 10 "RoofDrains" "roof" "LRoofDrains$Roof;", Cond.methodLink RX3 152 yX2_dropLatest, Cond.instanceMethod yX2_dropLatest, Cond.selects RX2 yX2_dropLatest yX2_dropLatest, Cond.initialized RX2, Cond.code yX2_dropLatest cX2_dropLatest 1 (some (.object "RoofDrains$Roof")), Cond.fieldLink RX2 15 "RoofDrains$SavedRoofs" "held" "I", Cond.fieldLink RX2 11 "RoofDrains$SavedRoofs" "rows" "[LRoofDrains$Roof;", Cond.fieldLink RX2 19 "RoofDrains$SavedRoofs" "oldest" "I", Cond.methodLink RX3 158 yX1_copyFrom, Cond.instanceMethod yX1_copyFrom, Cond.selects RX1 yX1_copyFrom yX1_copyFrom, Cond.initialized RX1, Cond.code yX1_copyFrom cX1_copyFrom 2 none, Cond.fieldLink RX1 9 "RoofDrains$Roof" "area" "[I", Cond.methodLink RX1 48 arraycopyName, Cond.native arraycopyName, Cond.static arraycopyName, Cond.initialized "java/lang/System", Cond.fieldLink RX1 15 "RoofDrains$Roof" "slope" "[I", Cond.fieldLink RX1 18 "RoofDrains$Roof" "leadsTo" "[I"]
def wsX3_undo_r2 : List Cond := [Cond.fieldLink RX1 21 "RoofDrains$Roof" "onPlane" "[I", Cond.fieldLink RX1 24 "RoofDrains$Roof" "size" "[I", Cond.fieldLink RX1 27 "RoofDrains$Roof" "bore" "[I", Cond.fieldLink RX1 30 "RoofDrains$Roof" "leaves" "[I", Cond.fieldLink RX1 33 "RoofDrains$Roof" "valleyTo" "[I", Cond.fieldLink RX1 36 "RoofDrains$Roof" "inGutter" "[I", Cond.fieldLink RX1 39 "RoofDrains$Roof" "spilt" "[I", Cond.fieldLink RX1 42 "RoofDrains$Roof" "drained" "[I", Cond.fieldLink RX1 45 "RoofDrains$Roof" "values" "[I", Cond.fieldLink RX1 54 "RoofDrains$Roof" "minutesGone" "I", Cond.fieldLink RX1 58 "RoofDrains$Roof" "weeksPassed" "I", Cond.fieldLink RX1 61 "RoofDrains$Roof" "rained" "I", Cond.fieldLink RX1 64 "RoofDrains$Roof" "backedUp" "I", Cond.methodLink RX3 161 yX2_held, Cond.instanceMethod yX2_held, Cond.selects RX2 yX2_held yX2_held, Cond.code yX2_held cX2_held 1 (some .int)]
def wsX3_undo : List Cond := .code yX3_undo cX3_undo 2 (some .int) :: ((wsX3_undo_r1 ++ wsX3_undo_r2) ++ wsX30 ++ wsX20 ++ wsX10 ++ (vx_atS RX3 82 "java/lang/IllegalStateException" ["java/lang/RuntimeException", "java/lang/Exception"]).filter goodWord)
def wsX3_planeOf : List Cond := .code yX3_planeOf cX3_planeOf 3 (some .int) :: ([.classLink RX3 40 "java/lang/IndexOutOfBoundsException", .initialized "java/lang/IndexOutOfBoundsException", .classLink RX3 51 "java/lang/IllegalArgumentException", .initialized "java/lang/IllegalArgumentException", .fieldLink RX3 10 "RoofDrains" "roof" "LRoofDrains$Roof;", .methodLink RX3 33 yX3_isPlane, .static yX3_isPlane, .initialized RX3, .code yX3_isPlane cX3_isPlane 1 (some .boolean), .methodLink RX3 47 yX3_isWithin, .static yX3_isWithin, .code yX3_isWithin cX3_isWithin 3 (some .boolean), .methodLink RX3 168 yX1_planeNumber, .instanceMethod yX1_planeNumber, .selects RX1 yX1_planeNumber yX1_planeNumber, .initialized RX1, .code yX1_planeNumber cX1_planeNumber 3 (some .int), .fieldLink RX1 9 "RoofDrains$Roof" "area" "[I", .fieldLink RX1 15 "RoofDrains$Roof" "slope" "[I", .fieldLink RX1 18 "RoofDrains$Roof" "leadsTo" "[I", .fieldLink RX1 21 "RoofDrains$Roof" "onPlane" "[I"] ++ wsX30 ++ wsX10 ++ (vx_atS RX3 44 "java/lang/IndexOutOfBoundsException" ["java/lang/RuntimeException", "java/lang/Exception"]).filter goodWord ++ (vx_atS RX3 55 "java/lang/IllegalArgumentException" ["java/lang/RuntimeException", "java/lang/Exception"]).filter goodWord)
def wsX3_gutterOf_r1 : List Cond := [Cond.classLink RX3 40 "java/lang/IndexOutOfBoundsException", Cond.initialized "java/lang/IndexOutOfBoundsException", Cond.classLink RX3 51 "java/lang/IllegalArgumentException", Cond.initialized "java/lang/IllegalArgumentException", Cond.fieldLink RX3 10 "RoofDrains" "roof" "LRoofDrains$Roof;", Cond.methodLink RX3 37 yX3_isGutter, Cond.static yX3_isGutter, Cond.initialized RX3, Cond.code yX3_isGutter cX3_isGutter 1 (some .boolean), Cond.methodLink RX3 47 yX3_isWithin, Cond.static yX3_isWithin, Cond.code yX3_isWithin cX3_isWithin 3 (some .boolean), Cond.methodLink RX3 173 yX1_gutterNumber, Cond.instanceMethod yX1_gutterNumber, Cond.selects RX1 yX1_gutterNumber yX1_gutterNumber, Cond.initialized RX1, Cond.code yX1_gutterNumber cX1_gutterNumber 3 (some .int), Cond.fieldLink RX1 24 "RoofDrains$Roof" "size" "[I", Cond.fieldLink RX1 27 "RoofDrains$Roof" "bore" "[I", Cond.fieldLink RX1 30 "RoofDrains$Roof" "leaves" "[I", Cond.fieldLink RX1 33 "RoofDrains$Roof" "valleyTo" "[I", Cond.fieldLink RX1 36 "RoofDrains$Roof" "inGutter" "[I", Cond.fieldLink RX1 39 "RoofDrains$Roof" "spilt" "[I", Cond.fieldLink RX1 42 "RoofDrains$Roof" "drained" "[I"]
def wsX3_gutterOf_r2 : List Cond := [Cond.methodLink RX1 95 yX1_room, Cond.instanceMethod yX1_room, Cond.selects RX1 yX1_room yX1_room, Cond.code yX1_room cX1_room 2 (some .int), Cond.methodLink RX1 91 yX1_pipeTakes, Cond.instanceMethod yX1_pipeTakes, Cond.selects RX1 yX1_pipeTakes yX1_pipeTakes, Cond.code yX1_pipeTakes cX1_pipeTakes 3 (some .int)]
def wsX3_gutterOf : List Cond := .code yX3_gutterOf cX3_gutterOf 3 (some .int) :: ((wsX3_gutterOf_r1 ++ wsX3_gutterOf_r2) ++ wsX30 ++ wsX10 ++ (vx_atS RX3 44 "java/lang/IndexOutOfBoundsException" ["java/lang/RuntimeException", "java/lang/Exception"]).filter goodWord ++ (vx_atS RX3 55 "java/lang/IllegalArgumentException" ["java/lang/RuntimeException", "java/lang/Exception"]).filter goodWord)
def wsX3_count_r1 : List Cond := [Cond.classLink RX3 51 "java/lang/IllegalArgumentException", Cond.initialized "java/lang/IllegalArgumentException", Cond.fieldLink RX3 10 "RoofDrains" "roof" "LRoofDrains$Roof;", Cond.fieldLink RX3 22 "RoofDrains" "saved" "LRoofDrains$SavedRoofs;", Cond.methodLink RX3 176 yX1_minutesGone, Cond.instanceMethod yX1_minutesGone, Cond.selects RX1 yX1_minutesGone yX1_minutesGone, Cond.initialized RX1, Cond.code yX1_minutesGone cX1_minutesGone 1 (some .int), Cond.fieldLink RX1 54 "RoofDrains$Roof" "minutesGone" "I", Cond.methodLink RX3 179 yX1_weeksPassed, Cond.instanceMethod yX1_weeksPassed, Cond.selects RX1 yX1_weeksPassed yX1_weeksPassed, Cond.code yX1_weeksPassed cX1_weeksPassed 1 (some .int), Cond.fieldLink RX1 58 "RoofDrains$Roof" "weeksPassed" "I", Cond.methodLink RX3 182 yX1_rainedLitres, Cond.instanceMethod yX1_rainedLitres, Cond.selects RX1 yX1_rainedLitres yX1_rainedLitres, Cond.code yX1_rainedLitres cX1_rainedLitres 1 (some .int), Cond.fieldLink RX1 61 "RoofDrains$Roof" "rained" "I", Cond.methodLink RX3 185 yX1_standingLitres, Cond.instanceMethod yX1_standingLitres, Cond.selects RX1 yX1_standingLitres yX1_standingLitres, Cond.code yX1_standingLitres cX1_standingLitres 1 (some .int)]
def wsX3_count_r2 : List Cond := [Cond.fieldLink RX1 21 "RoofDrains$Roof" "onPlane" "[I", Cond.fieldLink RX1 36 "RoofDrains$Roof" "inGutter" "[I", Cond.methodLink RX1 98 yX1_sumOf, Cond.static yX1_sumOf, Cond.code yX1_sumOf cX1_sumOf 6 (some .int), Cond.methodLink RX3 188 yX1_drainedLitres, Cond.instanceMethod yX1_drainedLitres, Cond.selects RX1 yX1_drainedLitres yX1_drainedLitres, Cond.code yX1_drainedLitres cX1_drainedLitres 1 (some .int), Cond.fieldLink RX1 42 "RoofDrains$Roof" "drained" "[I", Cond.methodLink RX3 107 yX1_spiltLitres, Cond.instanceMethod yX1_spiltLitres, Cond.selects RX1 yX1_spiltLitres yX1_spiltLitres, Cond.code yX1_spiltLitres cX1_spiltLitres 1 (some .int), Cond.fieldLink RX1 39 "RoofDrains$Roof" "spilt" "[I", Cond.methodLink RX3 191 yX1_backedUpMinutes, Cond.instanceMethod yX1_backedUpMinutes, Cond.selects RX1 yX1_backedUpMinutes yX1_backedUpMinutes, Cond.code yX1_backedUpMinutes cX1_backedUpMinutes 1 (some .int), Cond.fieldLink RX1 64 "RoofDrains$Roof" "backedUp" "I", Cond.methodLink RX3 120 yX1_leavesTogether, Cond.instanceMethod yX1_leavesTogether, Cond.selects RX1 yX1_leavesTogether yX1_leavesTogether, Cond.code yX1_leavesTogether cX1_leavesTogether 1 (some .int)]
def wsX3_count_r3 : List Cond := [Cond.fieldLink RX1 30 "RoofDrains$Roof" "leaves" "[I", Cond.methodLink RX3 161 yX2_held, Cond.instanceMethod yX2_held, Cond.selects RX2 yX2_held yX2_held, Cond.initialized RX2, Cond.code yX2_held cX2_held 1 (some .int), Cond.fieldLink RX2 15 "RoofDrains$SavedRoofs" "held" "I"]
def wsX3_count : List Cond := .code yX3_count cX3_count 2 (some .int) :: ((wsX3_count_r1 ++ (wsX3_count_r2 ++ wsX3_count_r3)) ++ wsX30 ++ wsX10 ++ wsX20 ++ (vx_atS RX3 55 "java/lang/IllegalArgumentException" ["java/lang/RuntimeException", "java/lang/Exception"]).filter goodWord)
def wsX3_setting : List Cond := .code yX3_setting cX3_setting 2 (some .int) :: ([.classLink RX3 40 "java/lang/IndexOutOfBoundsException", .initialized "java/lang/IndexOutOfBoundsException", .fieldLink RX3 10 "RoofDrains" "roof" "LRoofDrains$Roof;", .methodLink RX3 91 yX3_isSetting, .static yX3_isSetting, .initialized RX3, .code yX3_isSetting cX3_isSetting 1 (some .boolean), .methodLink RX3 194 yX1_settingValue, .instanceMethod yX1_settingValue, .selects RX1 yX1_settingValue yX1_settingValue, .initialized RX1, .code yX1_settingValue cX1_settingValue 2 (some .int), .fieldLink RX1 45 "RoofDrains$Roof" "values" "[I"] ++ wsX30 ++ wsX10 ++ (vx_atS RX3 44 "java/lang/IndexOutOfBoundsException" ["java/lang/RuntimeException", "java/lang/Exception"]).filter goodWord)
def wsX3_dryIn_r1 : List Cond := [Cond.fieldLink RX3 16 "RoofDrains" "thought" "LRoofDrains$Roof;", Cond.fieldLink RX3 10 "RoofDrains" "roof" "LRoofDrains$Roof;", Cond.methodLink RX3 158 yX1_copyFrom, Cond.instanceMethod yX1_copyFrom, Cond.selects RX1 yX1_copyFrom yX1_copyFrom, Cond.initialized RX1, Cond.code yX1_copyFrom cX1_copyFrom 2 none, Cond.fieldLink RX1 9 "RoofDrains$Roof" "area" "[I", Cond.methodLink RX1 48 arraycopyName, Cond.native arraycopyName, Cond.static arraycopyName, Cond.initialized "java/lang/System", Cond.fieldLink RX1 15 "RoofDrains$Roof" "slope" "[I", Cond.fieldLink RX1 18 "RoofDrains$Roof" "leadsTo" "[I", Cond.fieldLink RX1 21 "RoofDrains$Roof" "onPlane" "[I", Cond.fieldLink RX1 24 "RoofDrains$Roof" "size" "[I", Cond.fieldLink RX1 27 "RoofDrains$Roof" "bore" "[I", Cond.fieldLink RX1 30 "RoofDrains$Roof" "leaves" "[I", Cond.fieldLink RX1 33 "RoofDrains$Roof" "valleyTo" "[I", Cond.fieldLink RX1 36 "RoofDrains$Roof" "inGutter" "[I", Cond.fieldLink RX1 39 "RoofDrains$Roof" "spilt" "[I", Cond.fieldLink RX1 42 "RoofDrains$Roof" "drained" "[I", Cond.fieldLink RX1 45 "RoofDrains$Roof" "values" "[I", Cond.fieldLink RX1 54 "RoofDrains$Roof" "minutesGone" "I"]
def wsX3_dryIn_r2 : List Cond := [Cond.fieldLink RX1 58 "RoofDrains$Roof" "weeksPassed" "I", Cond.fieldLink RX1 61 "RoofDrains$Roof" "rained" "I", Cond.fieldLink RX1 64 "RoofDrains$Roof" "backedUp" "I", Cond.methodLink RX3 185 yX1_standingLitres, Cond.instanceMethod yX1_standingLitres, Cond.selects RX1 yX1_standingLitres yX1_standingLitres, Cond.code yX1_standingLitres cX1_standingLitres 1 (some .int), Cond.methodLink RX1 98 yX1_sumOf, Cond.static yX1_sumOf, Cond.code yX1_sumOf cX1_sumOf 6 (some .int), Cond.methodLink RX3 201 yX1_passMinute, Cond.instanceMethod yX1_passMinute, Cond.selects RX1 yX1_passMinute yX1_passMinute, Cond.code yX1_passMinute cX1_passMinute 3 none, Cond.methodLink RX1 75 yX1_wetPlane, Cond.instanceMethod yX1_wetPlane, Cond.selects RX1 yX1_wetPlane yX1_wetPlane, Cond.code yX1_wetPlane cX1_wetPlane 6 none, Cond.static yX3_isGutter, Cond.initialized RX3, Cond.code yX3_isGutter cX3_isGutter 1 (some .boolean), Cond.methodLink RX1 79 yX1_emptyIntoDrain, Cond.instanceMethod yX1_emptyIntoDrain, Cond.selects RX1 yX1_emptyIntoDrain yX1_emptyIntoDrain]
def wsX3_dryIn_r3 : List Cond := [Cond.code yX1_emptyIntoDrain cX1_emptyIntoDrain 6 none, Cond.methodLink RX1 85 Lib.Math.min.name, Cond.static Lib.Math.min.name, Cond.initialized "java/lang/Math", Cond.code Lib.Math.min.name Lib.Math.min.code 2 (some .int), Cond.methodLink RX1 91 yX1_pipeTakes, Cond.instanceMethod yX1_pipeTakes, Cond.selects RX1 yX1_pipeTakes yX1_pipeTakes, Cond.code yX1_pipeTakes cX1_pipeTakes 3 (some .int), Cond.methodLink RX1 82 yX1_overflow, Cond.instanceMethod yX1_overflow, Cond.selects RX1 yX1_overflow yX1_overflow, Cond.code yX1_overflow cX1_overflow 4 none, Cond.methodLink RX1 95 yX1_room, Cond.instanceMethod yX1_room, Cond.selects RX1 yX1_room yX1_room, Cond.code yX1_room cX1_room 2 (some .int)]
def wsX3_dryIn : List Cond := .code yX3_dryIn cX3_dryIn 2 (some .int) :: ((wsX3_dryIn_r1 ++ (wsX3_dryIn_r2 ++ wsX3_dryIn_r3)) ++ wsX30 ++ wsX10)
def wsX3_drainedShare : List Cond := .code yX3_drainedShare cX3_drainedShare 2 (some .double) :: ([.fieldLink RX3 10 "RoofDrains" "roof" "LRoofDrains$Roof;", .methodLink RX3 182 yX1_rainedLitres, .instanceMethod yX1_rainedLitres, .selects RX1 yX1_rainedLitres yX1_rainedLitres, .initialized RX1, .code yX1_rainedLitres cX1_rainedLitres 1 (some .int), .fieldLink RX1 61 "RoofDrains$Roof" "rained" "I", .methodLink RX3 188 yX1_drainedLitres, .instanceMethod yX1_drainedLitres, .selects RX1 yX1_drainedLitres yX1_drainedLitres, .code yX1_drainedLitres cX1_drainedLitres 1 (some .int), .fieldLink RX1 42 "RoofDrains$Roof" "drained" "[I", .methodLink RX1 98 yX1_sumOf, .static yX1_sumOf, .code yX1_sumOf cX1_sumOf 6 (some .int)] ++ wsX30 ++ wsX10)
def wsJ9_min_7cf53 : List Cond := .code yJ9_min_7cf53 cJ9_min_7cf53 2 (some .int) :: ([])
def wsL_cell : List Cond := .code yL_cell cL_cell 2 (some .int) :: ([])
def wsL_low : List Cond := .code yL_low cL_low 2 (some .int) :: ([.constant RL 7 (2147483647)])
def wsL_told_r1 : List Cond := [Cond.constantLong RL 8 (3), Cond.constantLong RL 10 (31), Cond.methodLink RL 12 yX3_count, Cond.instanceMethod yX3_count, Cond.selects RX3 yX3_count yX3_count, Cond.initialized RX3, Cond.code yX3_count cX3_count 2 (some .int), Cond.classLink RX3 51 "java/lang/IllegalArgumentException", Cond.initialized "java/lang/IllegalArgumentException", Cond.fieldLink RX3 10 "RoofDrains" "roof" "LRoofDrains$Roof;", Cond.fieldLink RX3 22 "RoofDrains" "saved" "LRoofDrains$SavedRoofs;", Cond.methodLink RX3 176 yX1_minutesGone, Cond.instanceMethod yX1_minutesGone, Cond.selects RX1 yX1_minutesGone yX1_minutesGone, Cond.initialized RX1, Cond.code yX1_minutesGone cX1_minutesGone 1 (some .int), Cond.fieldLink RX1 54 "RoofDrains$Roof" "minutesGone" "I", Cond.methodLink RX3 179 yX1_weeksPassed, Cond.instanceMethod yX1_weeksPassed, Cond.selects RX1 yX1_weeksPassed yX1_weeksPassed, Cond.code yX1_weeksPassed cX1_weeksPassed 1 (some .int), Cond.fieldLink RX1 58 "RoofDrains$Roof" "weeksPassed" "I", Cond.methodLink RX3 182 yX1_rainedLitres, Cond.instanceMethod yX1_rainedLitres]
def wsL_told_r2 : List Cond := [Cond.selects RX1 yX1_rainedLitres yX1_rainedLitres, Cond.code yX1_rainedLitres cX1_rainedLitres 1 (some .int), Cond.fieldLink RX1 61 "RoofDrains$Roof" "rained" "I", Cond.methodLink RX3 185 yX1_standingLitres, Cond.instanceMethod yX1_standingLitres, Cond.selects RX1 yX1_standingLitres yX1_standingLitres, Cond.code yX1_standingLitres cX1_standingLitres 1 (some .int), Cond.fieldLink RX1 21 "RoofDrains$Roof" "onPlane" "[I", Cond.fieldLink RX1 36 "RoofDrains$Roof" "inGutter" "[I", Cond.methodLink RX1 98 yX1_sumOf, Cond.static yX1_sumOf, Cond.code yX1_sumOf cX1_sumOf 6 (some .int), Cond.methodLink RX3 188 yX1_drainedLitres, Cond.instanceMethod yX1_drainedLitres, Cond.selects RX1 yX1_drainedLitres yX1_drainedLitres, Cond.code yX1_drainedLitres cX1_drainedLitres 1 (some .int), Cond.fieldLink RX1 42 "RoofDrains$Roof" "drained" "[I", Cond.methodLink RX3 107 yX1_spiltLitres, Cond.instanceMethod yX1_spiltLitres, Cond.selects RX1 yX1_spiltLitres yX1_spiltLitres, Cond.code yX1_spiltLitres cX1_spiltLitres 1 (some .int), Cond.fieldLink RX1 39 "RoofDrains$Roof" "spilt" "[I", Cond.methodLink RX3 191 yX1_backedUpMinutes, Cond.instanceMethod yX1_backedUpMinutes]
def wsL_told_r3 : List Cond := [Cond.selects RX1 yX1_backedUpMinutes yX1_backedUpMinutes, Cond.code yX1_backedUpMinutes cX1_backedUpMinutes 1 (some .int), Cond.fieldLink RX1 64 "RoofDrains$Roof" "backedUp" "I", Cond.methodLink RX3 120 yX1_leavesTogether, Cond.instanceMethod yX1_leavesTogether, Cond.selects RX1 yX1_leavesTogether yX1_leavesTogether, Cond.code yX1_leavesTogether cX1_leavesTogether 1 (some .int), Cond.fieldLink RX1 30 "RoofDrains$Roof" "leaves" "[I", Cond.methodLink RX3 161 yX2_held, Cond.instanceMethod yX2_held, Cond.selects RX2 yX2_held yX2_held, Cond.initialized RX2, Cond.code yX2_held cX2_held 1 (some .int), Cond.fieldLink RX2 15 "RoofDrains$SavedRoofs" "held" "I", Cond.methodLink RL 18 yX3_setting, Cond.instanceMethod yX3_setting, Cond.selects RX3 yX3_setting yX3_setting, Cond.code yX3_setting cX3_setting 2 (some .int), Cond.classLink RX3 40 "java/lang/IndexOutOfBoundsException", Cond.initialized "java/lang/IndexOutOfBoundsException", Cond.methodLink RX3 91 yX3_isSetting, Cond.static yX3_isSetting, Cond.code yX3_isSetting cX3_isSetting 1 (some .boolean), Cond.methodLink RX3 194 yX1_settingValue]
def wsL_told_r4 : List Cond := [Cond.instanceMethod yX1_settingValue, Cond.selects RX1 yX1_settingValue yX1_settingValue, Cond.code yX1_settingValue cX1_settingValue 2 (some .int), Cond.fieldLink RX1 45 "RoofDrains$Roof" "values" "[I", Cond.methodLink RL 21 yX3_gutterOf, Cond.instanceMethod yX3_gutterOf, Cond.selects RX3 yX3_gutterOf yX3_gutterOf, Cond.code yX3_gutterOf cX3_gutterOf 3 (some .int), Cond.methodLink RX3 37 yX3_isGutter, Cond.static yX3_isGutter, Cond.code yX3_isGutter cX3_isGutter 1 (some .boolean), Cond.methodLink RX3 47 yX3_isWithin, Cond.static yX3_isWithin, Cond.code yX3_isWithin cX3_isWithin 3 (some .boolean), Cond.methodLink RX3 173 yX1_gutterNumber, Cond.instanceMethod yX1_gutterNumber, Cond.selects RX1 yX1_gutterNumber yX1_gutterNumber, Cond.code yX1_gutterNumber cX1_gutterNumber 3 (some .int), Cond.fieldLink RX1 24 "RoofDrains$Roof" "size" "[I", Cond.fieldLink RX1 27 "RoofDrains$Roof" "bore" "[I", Cond.fieldLink RX1 33 "RoofDrains$Roof" "valleyTo" "[I", Cond.methodLink RX1 95 yX1_room, Cond.instanceMethod yX1_room, Cond.selects RX1 yX1_room yX1_room]
def wsL_told_r5 : List Cond := [Cond.code yX1_room cX1_room 2 (some .int), Cond.methodLink RX1 91 yX1_pipeTakes, Cond.instanceMethod yX1_pipeTakes, Cond.selects RX1 yX1_pipeTakes yX1_pipeTakes, Cond.code yX1_pipeTakes cX1_pipeTakes 3 (some .int), Cond.methodLink RL 25 yX3_planeOf, Cond.instanceMethod yX3_planeOf, Cond.selects RX3 yX3_planeOf yX3_planeOf, Cond.code yX3_planeOf cX3_planeOf 3 (some .int), Cond.methodLink RX3 33 yX3_isPlane, Cond.static yX3_isPlane, Cond.code yX3_isPlane cX3_isPlane 1 (some .boolean), Cond.methodLink RX3 168 yX1_planeNumber, Cond.instanceMethod yX1_planeNumber, Cond.selects RX1 yX1_planeNumber yX1_planeNumber, Cond.code yX1_planeNumber cX1_planeNumber 3 (some .int), Cond.fieldLink RX1 9 "RoofDrains$Roof" "area" "[I", Cond.fieldLink RX1 15 "RoofDrains$Roof" "slope" "[I", Cond.fieldLink RX1 18 "RoofDrains$Roof" "leadsTo" "[I"]
def wsL_told : List Cond := .code yL_told cL_told 5 (some .long) :: ((wsL_told_r1 ++ (wsL_told_r2 ++ (wsL_told_r3 ++ (wsL_told_r4 ++ wsL_told_r5)))) ++ wsX30 ++ wsX10 ++ wsX20 ++ (vx_atS RX3 55 "java/lang/IllegalArgumentException" ["java/lang/RuntimeException", "java/lang/Exception"]).filter goodWord ++ (vx_atS RX3 44 "java/lang/IndexOutOfBoundsException" ["java/lang/RuntimeException", "java/lang/Exception"]).filter goodWord)
def wsL_leads_r1 : List Cond := [Cond.methodLink RL 21 yX3_gutterOf, Cond.instanceMethod yX3_gutterOf, Cond.selects RX3 yX3_gutterOf yX3_gutterOf, Cond.initialized RX3, Cond.code yX3_gutterOf cX3_gutterOf 3 (some .int), Cond.classLink RX3 40 "java/lang/IndexOutOfBoundsException", Cond.initialized "java/lang/IndexOutOfBoundsException", Cond.classLink RX3 51 "java/lang/IllegalArgumentException", Cond.initialized "java/lang/IllegalArgumentException", Cond.fieldLink RX3 10 "RoofDrains" "roof" "LRoofDrains$Roof;", Cond.methodLink RX3 37 yX3_isGutter, Cond.static yX3_isGutter, Cond.code yX3_isGutter cX3_isGutter 1 (some .boolean), Cond.methodLink RX3 47 yX3_isWithin, Cond.static yX3_isWithin, Cond.code yX3_isWithin cX3_isWithin 3 (some .boolean), Cond.methodLink RX3 173 yX1_gutterNumber, Cond.instanceMethod yX1_gutterNumber, Cond.selects RX1 yX1_gutterNumber yX1_gutterNumber, Cond.initialized RX1, Cond.code yX1_gutterNumber cX1_gutterNumber 3 (some .int), Cond.fieldLink RX1 24 "RoofDrains$Roof" "size" "[I", Cond.fieldLink RX1 27 "RoofDrains$Roof" "bore" "[I", Cond.fieldLink RX1 30 "RoofDrains$Roof" "leaves" "[I"]
def wsL_leads_r2 : List Cond := [Cond.fieldLink RX1 33 "RoofDrains$Roof" "valleyTo" "[I", Cond.fieldLink RX1 36 "RoofDrains$Roof" "inGutter" "[I", Cond.fieldLink RX1 39 "RoofDrains$Roof" "spilt" "[I", Cond.fieldLink RX1 42 "RoofDrains$Roof" "drained" "[I", Cond.methodLink RX1 95 yX1_room, Cond.instanceMethod yX1_room, Cond.selects RX1 yX1_room yX1_room, Cond.code yX1_room cX1_room 2 (some .int), Cond.methodLink RX1 91 yX1_pipeTakes, Cond.instanceMethod yX1_pipeTakes, Cond.selects RX1 yX1_pipeTakes yX1_pipeTakes, Cond.code yX1_pipeTakes cX1_pipeTakes 3 (some .int)]
def wsL_leads : List Cond := .code yL_leads cL_leads 5 (some .boolean) :: ((wsL_leads_r1 ++ wsL_leads_r2) ++ wsX30 ++ wsX10 ++ (vx_atS RX3 44 "java/lang/IndexOutOfBoundsException" ["java/lang/RuntimeException", "java/lang/Exception"]).filter goodWord ++ (vx_atS RX3 55 "java/lang/IllegalArgumentException" ["java/lang/RuntimeException", "java/lang/Exception"]).filter goodWord)
def wsL_act_r1 : List Cond := [Cond.methodLink RL 28 yL_low, Cond.static yL_low, Cond.initialized RL, Cond.code yL_low cL_low 2 (some .int), Cond.constant RL 7 (2147483647), Cond.methodLink RL 33 yX3_plane, Cond.instanceMethod yX3_plane, Cond.selects RX3 yX3_plane yX3_plane, Cond.initialized RX3, Cond.code yX3_plane cX3_plane 5 (some .int), Cond.classLink RX3 40 "java/lang/IndexOutOfBoundsException", Cond.initialized "java/lang/IndexOutOfBoundsException", Cond.classLink RX3 51 "java/lang/IllegalArgumentException", Cond.initialized "java/lang/IllegalArgumentException", Cond.fieldLink RX3 22 "RoofDrains" "saved" "LRoofDrains$SavedRoofs;", Cond.fieldLink RX3 10 "RoofDrains" "roof" "LRoofDrains$Roof;", Cond.methodLink RX3 33 yX3_isPlane, Cond.static yX3_isPlane, Cond.code yX3_isPlane cX3_isPlane 1 (some .boolean), Cond.methodLink RX3 37 yX3_isGutter, Cond.static yX3_isGutter, Cond.code yX3_isGutter cX3_isGutter 1 (some .boolean), Cond.methodLink RX3 47 yX3_isWithin, Cond.static yX3_isWithin]
def wsL_act_r2 : List Cond := [Cond.code yX3_isWithin cX3_isWithin 3 (some .boolean), Cond.methodLink RX3 56 yX2_keep, Cond.instanceMethod yX2_keep, Cond.selects RX2 yX2_keep yX2_keep, Cond.initialized RX2, Cond.code yX2_keep cX2_keep 4 none, Cond.fieldLink RX2 15 "RoofDrains$SavedRoofs" "held" "I", Cond.fieldLink RX2 19 "RoofDrains$SavedRoofs" "oldest" "I", Cond.fieldLink RX2 11 "RoofDrains$SavedRoofs" "rows" "[LRoofDrains$Roof;", Cond.classLink RX2 9 RX1, Cond.instantiable RX1 16, Cond.initialized RX1, Cond.methodLink RX2 22 yX1_init, Cond.instanceMethod yX1_init, Cond.code yX1_init cX1_init 2 none, Cond.methodLink RX1 3 objectInit, Cond.instanceMethod objectInit, Cond.code objectInit ⟨#[0xb1]⟩ 1 none, Cond.arrayClass .int, Cond.fieldLink RX1 9 "RoofDrains$Roof" "area" "[I", Cond.fieldLink RX1 15 "RoofDrains$Roof" "slope" "[I", Cond.fieldLink RX1 18 "RoofDrains$Roof" "leadsTo" "[I", Cond.fieldLink RX1 21 "RoofDrains$Roof" "onPlane" "[I", Cond.fieldLink RX1 24 "RoofDrains$Roof" "size" "[I"]
def wsL_act_r3 : List Cond := [Cond.fieldLink RX1 27 "RoofDrains$Roof" "bore" "[I", Cond.fieldLink RX1 30 "RoofDrains$Roof" "leaves" "[I", Cond.fieldLink RX1 33 "RoofDrains$Roof" "valleyTo" "[I", Cond.fieldLink RX1 36 "RoofDrains$Roof" "inGutter" "[I", Cond.fieldLink RX1 39 "RoofDrains$Roof" "spilt" "[I", Cond.fieldLink RX1 42 "RoofDrains$Roof" "drained" "[I", Cond.fieldLink RX1 45 "RoofDrains$Roof" "values" "[I", Cond.methodLink RX2 23 yX1_copyFrom, Cond.instanceMethod yX1_copyFrom, Cond.selects RX1 yX1_copyFrom yX1_copyFrom, Cond.code yX1_copyFrom cX1_copyFrom 2 none, Cond.methodLink RX1 48 arraycopyName, Cond.native arraycopyName, Cond.static arraycopyName, Cond.initialized "java/lang/System", Cond.fieldLink RX1 54 "RoofDrains$Roof" "minutesGone" "I", Cond.fieldLink RX1 58 "RoofDrains$Roof" "weeksPassed" "I", Cond.fieldLink RX1 61 "RoofDrains$Roof" "rained" "I", Cond.fieldLink RX1 64 "RoofDrains$Roof" "backedUp" "I", Cond.methodLink RX3 60 yX1_changePlane, Cond.instanceMethod yX1_changePlane, Cond.selects RX1 yX1_changePlane yX1_changePlane, Cond.code yX1_changePlane cX1_changePlane 6 (some .int), Cond.methodLink RL 37 yX3_gutter]
def wsL_act_r4 : List Cond := [Cond.instanceMethod yX3_gutter, Cond.selects RX3 yX3_gutter yX3_gutter, Cond.code yX3_gutter cX3_gutter 4 (some .int), Cond.methodLink RX3 68 yX1_changeGutter, Cond.instanceMethod yX1_changeGutter, Cond.selects RX1 yX1_changeGutter yX1_changeGutter, Cond.code yX1_changeGutter cX1_changeGutter 5 (some .int), Cond.methodLink RL 41 yL_leads, Cond.static yL_leads, Cond.code yL_leads cL_leads 5 (some .boolean), Cond.methodLink RL 21 yX3_gutterOf, Cond.instanceMethod yX3_gutterOf, Cond.selects RX3 yX3_gutterOf yX3_gutterOf, Cond.code yX3_gutterOf cX3_gutterOf 3 (some .int), Cond.methodLink RX3 173 yX1_gutterNumber, Cond.instanceMethod yX1_gutterNumber, Cond.selects RX1 yX1_gutterNumber yX1_gutterNumber, Cond.code yX1_gutterNumber cX1_gutterNumber 3 (some .int), Cond.methodLink RX1 95 yX1_room, Cond.instanceMethod yX1_room, Cond.selects RX1 yX1_room yX1_room, Cond.code yX1_room cX1_room 2 (some .int), Cond.methodLink RX1 91 yX1_pipeTakes, Cond.instanceMethod yX1_pipeTakes]
def wsL_act_r5 : List Cond := [Cond.selects RX1 yX1_pipeTakes yX1_pipeTakes, Cond.code yX1_pipeTakes cX1_pipeTakes 3 (some .int), Cond.methodLink RL 45 yX3_valley, Cond.instanceMethod yX3_valley, Cond.selects RX3 yX3_valley yX3_valley, Cond.code yX3_valley cX3_valley 3 (some .int), Cond.classLink RX3 78 "java/lang/IllegalStateException", Cond.initialized "java/lang/IllegalStateException", Cond.methodLink RX3 74 yX1_valleysLead, Cond.instanceMethod yX1_valleysLead, Cond.selects RX1 yX1_valleysLead yX1_valleysLead, Cond.code yX1_valleysLead cX1_valleysLead 5 (some .boolean), Cond.methodLink RX3 83 yX1_changeValley, Cond.instanceMethod yX1_changeValley, Cond.selects RX1 yX1_changeValley yX1_changeValley, Cond.code yX1_changeValley cX1_changeValley 4 (some .int), Cond.methodLink RL 48 yX3_clean, Cond.instanceMethod yX3_clean, Cond.selects RX3 yX3_clean yX3_clean, Cond.code yX3_clean cX3_clean 2 (some .int), Cond.methodLink RX3 87 yX1_takeLeaves, Cond.instanceMethod yX1_takeLeaves, Cond.selects RX1 yX1_takeLeaves yX1_takeLeaves, Cond.code yX1_takeLeaves cX1_takeLeaves 3 (some .int)]
def wsL_act_r6 : List Cond := [Cond.methodLink RL 51 yX3_set, Cond.instanceMethod yX3_set, Cond.selects RX3 yX3_set yX3_set, Cond.code yX3_set cX3_set 3 (some .int), Cond.fieldLink RX3 96 "RoofDrains" "MOST_OF_SETTING" "[I", Cond.methodLink RX3 91 yX3_isSetting, Cond.static yX3_isSetting, Cond.code yX3_isSetting cX3_isSetting 1 (some .boolean), Cond.methodLink RX3 102 yX1_changeSetting, Cond.instanceMethod yX1_changeSetting, Cond.selects RX1 yX1_changeSetting yX1_changeSetting, Cond.code yX1_changeSetting cX1_changeSetting 4 (some .int), Cond.methodLink RL 54 yX3_weeks, Cond.instanceMethod yX3_weeks, Cond.selects RX3 yX3_weeks yX3_weeks, Cond.code yX3_weeks cX3_weeks 3 (some .int), Cond.methodLink RX3 117 yX1_passWeek, Cond.instanceMethod yX1_passWeek, Cond.selects RX1 yX1_passWeek yX1_passWeek, Cond.code yX1_passWeek cX1_passWeek 2 none, Cond.methodLink RX1 85 Lib.Math.min.name, Cond.static Lib.Math.min.name, Cond.initialized "java/lang/Math", Cond.code Lib.Math.min.name Lib.Math.min.code 2 (some .int)]
def wsL_act_r7 : List Cond := [Cond.methodLink RX3 120 yX1_leavesTogether, Cond.instanceMethod yX1_leavesTogether, Cond.selects RX1 yX1_leavesTogether yX1_leavesTogether, Cond.code yX1_leavesTogether cX1_leavesTogether 1 (some .int), Cond.methodLink RX1 98 yX1_sumOf, Cond.static yX1_sumOf, Cond.code yX1_sumOf cX1_sumOf 6 (some .int), Cond.methodLink RL 57 yX3_rain, Cond.instanceMethod yX3_rain, Cond.selects RX3 yX3_rain yX3_rain, Cond.code yX3_rain cX3_rain 4 (some .int), Cond.methodLink RX3 107 yX1_spiltLitres, Cond.instanceMethod yX1_spiltLitres, Cond.selects RX1 yX1_spiltLitres yX1_spiltLitres, Cond.code yX1_spiltLitres cX1_spiltLitres 1 (some .int), Cond.methodLink RX3 111 yX1_passMinutes, Cond.instanceMethod yX1_passMinutes, Cond.selects RX1 yX1_passMinutes yX1_passMinutes, Cond.code yX1_passMinutes cX1_passMinutes 4 none, Cond.methodLink RX1 71 yX1_passMinute, Cond.instanceMethod yX1_passMinute, Cond.selects RX1 yX1_passMinute yX1_passMinute, Cond.code yX1_passMinute cX1_passMinute 3 none, Cond.methodLink RX1 75 yX1_wetPlane]
def wsL_act_r8 : List Cond := [Cond.instanceMethod yX1_wetPlane, Cond.selects RX1 yX1_wetPlane yX1_wetPlane, Cond.code yX1_wetPlane cX1_wetPlane 6 none, Cond.methodLink RX1 79 yX1_emptyIntoDrain, Cond.instanceMethod yX1_emptyIntoDrain, Cond.selects RX1 yX1_emptyIntoDrain yX1_emptyIntoDrain, Cond.code yX1_emptyIntoDrain cX1_emptyIntoDrain 6 none, Cond.methodLink RX1 82 yX1_overflow, Cond.instanceMethod yX1_overflow, Cond.selects RX1 yX1_overflow yX1_overflow, Cond.code yX1_overflow cX1_overflow 4 none]
def wsL_act : List Cond := .code yL_act cL_act 6 (some .int) :: ((wsL_act_r1 ++ (wsL_act_r2 ++ (wsL_act_r3 ++ (wsL_act_r4 ++ (wsL_act_r5 ++ (wsL_act_r6 ++ (wsL_act_r7 ++ wsL_act_r8))))))) ++ wsX30 ++ wsX20 ++ wsX10 ++ (vx_atS RX3 44 "java/lang/IndexOutOfBoundsException" ["java/lang/RuntimeException", "java/lang/Exception"]).filter goodWord ++ (vx_atS RX3 55 "java/lang/IllegalArgumentException" ["java/lang/RuntimeException", "java/lang/Exception"]).filter goodWord ++ (vx_atS RX3 82 "java/lang/IllegalStateException" ["java/lang/RuntimeException", "java/lang/Exception"]).filter goodWord)
def wsL_holds_r1 : List Cond := [Cond.methodLink RL 21 yX3_gutterOf, Cond.instanceMethod yX3_gutterOf, Cond.selects RX3 yX3_gutterOf yX3_gutterOf, Cond.initialized RX3, Cond.code yX3_gutterOf cX3_gutterOf 3 (some .int), Cond.classLink RX3 40 "java/lang/IndexOutOfBoundsException", Cond.initialized "java/lang/IndexOutOfBoundsException", Cond.classLink RX3 51 "java/lang/IllegalArgumentException", Cond.initialized "java/lang/IllegalArgumentException", Cond.fieldLink RX3 10 "RoofDrains" "roof" "LRoofDrains$Roof;", Cond.methodLink RX3 37 yX3_isGutter, Cond.static yX3_isGutter, Cond.code yX3_isGutter cX3_isGutter 1 (some .boolean), Cond.methodLink RX3 47 yX3_isWithin, Cond.static yX3_isWithin, Cond.code yX3_isWithin cX3_isWithin 3 (some .boolean), Cond.methodLink RX3 173 yX1_gutterNumber, Cond.instanceMethod yX1_gutterNumber, Cond.selects RX1 yX1_gutterNumber yX1_gutterNumber, Cond.initialized RX1, Cond.code yX1_gutterNumber cX1_gutterNumber 3 (some .int), Cond.fieldLink RX1 24 "RoofDrains$Roof" "size" "[I", Cond.fieldLink RX1 27 "RoofDrains$Roof" "bore" "[I", Cond.fieldLink RX1 30 "RoofDrains$Roof" "leaves" "[I"]
def wsL_holds_r2 : List Cond := [Cond.fieldLink RX1 33 "RoofDrains$Roof" "valleyTo" "[I", Cond.fieldLink RX1 36 "RoofDrains$Roof" "inGutter" "[I", Cond.fieldLink RX1 39 "RoofDrains$Roof" "spilt" "[I", Cond.fieldLink RX1 42 "RoofDrains$Roof" "drained" "[I", Cond.methodLink RX1 95 yX1_room, Cond.instanceMethod yX1_room, Cond.selects RX1 yX1_room yX1_room, Cond.code yX1_room cX1_room 2 (some .int), Cond.methodLink RX1 91 yX1_pipeTakes, Cond.instanceMethod yX1_pipeTakes, Cond.selects RX1 yX1_pipeTakes yX1_pipeTakes, Cond.code yX1_pipeTakes cX1_pipeTakes 3 (some .int), Cond.methodLink RL 41 yL_leads, Cond.static yL_leads, Cond.initialized RL, Cond.code yL_leads cL_leads 5 (some .boolean), Cond.methodLink RL 25 yX3_planeOf, Cond.instanceMethod yX3_planeOf, Cond.selects RX3 yX3_planeOf yX3_planeOf, Cond.code yX3_planeOf cX3_planeOf 3 (some .int), Cond.methodLink RX3 33 yX3_isPlane, Cond.static yX3_isPlane, Cond.code yX3_isPlane cX3_isPlane 1 (some .boolean), Cond.methodLink RX3 168 yX1_planeNumber]
def wsL_holds_r3 : List Cond := [Cond.instanceMethod yX1_planeNumber, Cond.selects RX1 yX1_planeNumber yX1_planeNumber, Cond.code yX1_planeNumber cX1_planeNumber 3 (some .int), Cond.fieldLink RX1 9 "RoofDrains$Roof" "area" "[I", Cond.fieldLink RX1 15 "RoofDrains$Roof" "slope" "[I", Cond.fieldLink RX1 18 "RoofDrains$Roof" "leadsTo" "[I", Cond.fieldLink RX1 21 "RoofDrains$Roof" "onPlane" "[I", Cond.methodLink RL 60 yX3_drainedShare, Cond.instanceMethod yX3_drainedShare, Cond.selects RX3 yX3_drainedShare yX3_drainedShare, Cond.code yX3_drainedShare cX3_drainedShare 2 (some .double), Cond.methodLink RX3 182 yX1_rainedLitres, Cond.instanceMethod yX1_rainedLitres, Cond.selects RX1 yX1_rainedLitres yX1_rainedLitres, Cond.code yX1_rainedLitres cX1_rainedLitres 1 (some .int), Cond.fieldLink RX1 61 "RoofDrains$Roof" "rained" "I", Cond.methodLink RX3 188 yX1_drainedLitres, Cond.instanceMethod yX1_drainedLitres, Cond.selects RX1 yX1_drainedLitres yX1_drainedLitres, Cond.code yX1_drainedLitres cX1_drainedLitres 1 (some .int), Cond.methodLink RX1 98 yX1_sumOf, Cond.static yX1_sumOf, Cond.code yX1_sumOf cX1_sumOf 6 (some .int), Cond.methodLink RL 12 yX3_count]
def wsL_holds_r4 : List Cond := [Cond.instanceMethod yX3_count, Cond.selects RX3 yX3_count yX3_count, Cond.code yX3_count cX3_count 2 (some .int), Cond.fieldLink RX3 22 "RoofDrains" "saved" "LRoofDrains$SavedRoofs;", Cond.methodLink RX3 176 yX1_minutesGone, Cond.instanceMethod yX1_minutesGone, Cond.selects RX1 yX1_minutesGone yX1_minutesGone, Cond.code yX1_minutesGone cX1_minutesGone 1 (some .int), Cond.fieldLink RX1 54 "RoofDrains$Roof" "minutesGone" "I", Cond.methodLink RX3 179 yX1_weeksPassed, Cond.instanceMethod yX1_weeksPassed, Cond.selects RX1 yX1_weeksPassed yX1_weeksPassed, Cond.code yX1_weeksPassed cX1_weeksPassed 1 (some .int), Cond.fieldLink RX1 58 "RoofDrains$Roof" "weeksPassed" "I", Cond.methodLink RX3 185 yX1_standingLitres, Cond.instanceMethod yX1_standingLitres, Cond.selects RX1 yX1_standingLitres yX1_standingLitres, Cond.code yX1_standingLitres cX1_standingLitres 1 (some .int), Cond.methodLink RX3 107 yX1_spiltLitres, Cond.instanceMethod yX1_spiltLitres, Cond.selects RX1 yX1_spiltLitres yX1_spiltLitres, Cond.code yX1_spiltLitres cX1_spiltLitres 1 (some .int), Cond.methodLink RX3 191 yX1_backedUpMinutes, Cond.instanceMethod yX1_backedUpMinutes]
def wsL_holds_r5 : List Cond := [Cond.selects RX1 yX1_backedUpMinutes yX1_backedUpMinutes, Cond.code yX1_backedUpMinutes cX1_backedUpMinutes 1 (some .int), Cond.fieldLink RX1 64 "RoofDrains$Roof" "backedUp" "I", Cond.methodLink RX3 120 yX1_leavesTogether, Cond.instanceMethod yX1_leavesTogether, Cond.selects RX1 yX1_leavesTogether yX1_leavesTogether, Cond.code yX1_leavesTogether cX1_leavesTogether 1 (some .int), Cond.methodLink RX3 161 yX2_held, Cond.instanceMethod yX2_held, Cond.selects RX2 yX2_held yX2_held, Cond.initialized RX2, Cond.code yX2_held cX2_held 1 (some .int), Cond.fieldLink RX2 15 "RoofDrains$SavedRoofs" "held" "I", Cond.methodLink RL 64 yX3_dryIn, Cond.instanceMethod yX3_dryIn, Cond.selects RX3 yX3_dryIn yX3_dryIn, Cond.code yX3_dryIn cX3_dryIn 2 (some .int), Cond.fieldLink RX3 16 "RoofDrains" "thought" "LRoofDrains$Roof;", Cond.methodLink RX3 158 yX1_copyFrom, Cond.instanceMethod yX1_copyFrom, Cond.selects RX1 yX1_copyFrom yX1_copyFrom, Cond.code yX1_copyFrom cX1_copyFrom 2 none, Cond.methodLink RX1 48 arraycopyName, Cond.native arraycopyName]
def wsL_holds_r6 : List Cond := [Cond.static arraycopyName, Cond.initialized "java/lang/System", Cond.fieldLink RX1 45 "RoofDrains$Roof" "values" "[I", Cond.methodLink RX3 201 yX1_passMinute, Cond.instanceMethod yX1_passMinute, Cond.selects RX1 yX1_passMinute yX1_passMinute, Cond.code yX1_passMinute cX1_passMinute 3 none, Cond.methodLink RX1 75 yX1_wetPlane, Cond.instanceMethod yX1_wetPlane, Cond.selects RX1 yX1_wetPlane yX1_wetPlane, Cond.code yX1_wetPlane cX1_wetPlane 6 none, Cond.methodLink RX1 79 yX1_emptyIntoDrain, Cond.instanceMethod yX1_emptyIntoDrain, Cond.selects RX1 yX1_emptyIntoDrain yX1_emptyIntoDrain, Cond.code yX1_emptyIntoDrain cX1_emptyIntoDrain 6 none, Cond.methodLink RX1 85 Lib.Math.min.name, Cond.static Lib.Math.min.name, Cond.initialized "java/lang/Math", Cond.code Lib.Math.min.name Lib.Math.min.code 2 (some .int), Cond.methodLink RX1 82 yX1_overflow, Cond.instanceMethod yX1_overflow, Cond.selects RX1 yX1_overflow yX1_overflow, Cond.code yX1_overflow cX1_overflow 4 none]
def wsL_holds : List Cond := .code yL_holds cL_holds 12 (some .boolean) :: ((wsL_holds_r1 ++ (wsL_holds_r2 ++ (wsL_holds_r3 ++ (wsL_holds_r4 ++ (wsL_holds_r5 ++ wsL_holds_r6))))) ++ wsX30 ++ wsX10 ++ wsX20 ++ (vx_atS RX3 44 "java/lang/IndexOutOfBoundsException" ["java/lang/RuntimeException", "java/lang/Exception"]).filter goodWord ++ (vx_atS RX3 55 "java/lang/IllegalArgumentException" ["java/lang/RuntimeException", "java/lang/Exception"]).filter goodWord)
def wsL_law0_r1 : List Cond := [Cond.classLink RL 13 RX3, Cond.instantiable RX3 4, Cond.initialized RX3, Cond.methodLink RL 68 yX3_init, Cond.instanceMethod yX3_init, Cond.code yX3_init cX3_init 1 none, Cond.methodLink RX3 1 objectInit, Cond.instanceMethod objectInit, Cond.code objectInit ⟨#[0xb1]⟩ 1 none, Cond.classLink RX3 7 RX1, Cond.instantiable RX1 16, Cond.initialized RX1, Cond.fieldLink RX3 10 "RoofDrains" "roof" "LRoofDrains$Roof;", Cond.fieldLink RX3 16 "RoofDrains" "thought" "LRoofDrains$Roof;", Cond.classLink RX3 19 RX2, Cond.instantiable RX2 3, Cond.initialized RX2, Cond.fieldLink RX3 22 "RoofDrains" "saved" "LRoofDrains$SavedRoofs;", Cond.classLink RX3 26 RX0, Cond.instantiable RX0 2, Cond.initialized RX0, Cond.fieldLink RX3 29 "RoofDrains" "text" "LRoofDrains$RainText;", Cond.methodLink RX3 9 yX1_init, Cond.instanceMethod yX1_init]
def wsL_law0_r2 : List Cond := [Cond.code yX1_init cX1_init 2 none, Cond.methodLink RX1 3 objectInit, Cond.arrayClass .int, Cond.fieldLink RX1 9 "RoofDrains$Roof" "area" "[I", Cond.fieldLink RX1 15 "RoofDrains$Roof" "slope" "[I", Cond.fieldLink RX1 18 "RoofDrains$Roof" "leadsTo" "[I", Cond.fieldLink RX1 21 "RoofDrains$Roof" "onPlane" "[I", Cond.fieldLink RX1 24 "RoofDrains$Roof" "size" "[I", Cond.fieldLink RX1 27 "RoofDrains$Roof" "bore" "[I", Cond.fieldLink RX1 30 "RoofDrains$Roof" "leaves" "[I", Cond.fieldLink RX1 33 "RoofDrains$Roof" "valleyTo" "[I", Cond.fieldLink RX1 36 "RoofDrains$Roof" "inGutter" "[I", Cond.fieldLink RX1 39 "RoofDrains$Roof" "spilt" "[I", Cond.fieldLink RX1 42 "RoofDrains$Roof" "drained" "[I", Cond.fieldLink RX1 45 "RoofDrains$Roof" "values" "[I", Cond.methodLink RX3 21 yX2_init, Cond.instanceMethod yX2_init, Cond.code yX2_init cX2_init 1 none, Cond.methodLink RX2 1 objectInit, Cond.classLink RX2 9 RX1, Cond.fieldLink RX2 11 "RoofDrains$SavedRoofs" "rows" "[LRoofDrains$Roof;", Cond.methodLink RX3 28 yX0_init, Cond.instanceMethod yX0_init, Cond.code yX0_init cX0_init 1 none]
def wsL_law0_r3 : List Cond := [Cond.methodLink RX0 1 objectInit, Cond.fieldLink RX0 9 "RoofDrains$RainText" "codes" "[I", Cond.methodLink RL 69 yL_cell, Cond.static yL_cell, Cond.initialized RL, Cond.code yL_cell cL_cell 2 (some .int), Cond.methodLink RL 12 yX3_count, Cond.instanceMethod yX3_count, Cond.selects RX3 yX3_count yX3_count, Cond.code yX3_count cX3_count 2 (some .int), Cond.classLink RX3 51 "java/lang/IllegalArgumentException", Cond.initialized "java/lang/IllegalArgumentException", Cond.methodLink RX3 176 yX1_minutesGone, Cond.instanceMethod yX1_minutesGone, Cond.selects RX1 yX1_minutesGone yX1_minutesGone, Cond.code yX1_minutesGone cX1_minutesGone 1 (some .int), Cond.fieldLink RX1 54 "RoofDrains$Roof" "minutesGone" "I", Cond.methodLink RX3 179 yX1_weeksPassed, Cond.instanceMethod yX1_weeksPassed, Cond.selects RX1 yX1_weeksPassed yX1_weeksPassed, Cond.code yX1_weeksPassed cX1_weeksPassed 1 (some .int), Cond.fieldLink RX1 58 "RoofDrains$Roof" "weeksPassed" "I", Cond.methodLink RX3 182 yX1_rainedLitres, Cond.instanceMethod yX1_rainedLitres]
def wsL_law0_r4 : List Cond := [Cond.selects RX1 yX1_rainedLitres yX1_rainedLitres, Cond.code yX1_rainedLitres cX1_rainedLitres 1 (some .int), Cond.fieldLink RX1 61 "RoofDrains$Roof" "rained" "I", Cond.methodLink RX3 185 yX1_standingLitres, Cond.instanceMethod yX1_standingLitres, Cond.selects RX1 yX1_standingLitres yX1_standingLitres, Cond.code yX1_standingLitres cX1_standingLitres 1 (some .int), Cond.methodLink RX1 98 yX1_sumOf, Cond.static yX1_sumOf, Cond.code yX1_sumOf cX1_sumOf 6 (some .int), Cond.methodLink RX3 188 yX1_drainedLitres, Cond.instanceMethod yX1_drainedLitres, Cond.selects RX1 yX1_drainedLitres yX1_drainedLitres, Cond.code yX1_drainedLitres cX1_drainedLitres 1 (some .int), Cond.methodLink RX3 107 yX1_spiltLitres, Cond.instanceMethod yX1_spiltLitres, Cond.selects RX1 yX1_spiltLitres yX1_spiltLitres, Cond.code yX1_spiltLitres cX1_spiltLitres 1 (some .int), Cond.methodLink RX3 191 yX1_backedUpMinutes, Cond.instanceMethod yX1_backedUpMinutes, Cond.selects RX1 yX1_backedUpMinutes yX1_backedUpMinutes, Cond.code yX1_backedUpMinutes cX1_backedUpMinutes 1 (some .int), Cond.fieldLink RX1 64 "RoofDrains$Roof" "backedUp" "I", Cond.methodLink RX3 120 yX1_leavesTogether]
def wsL_law0_r5 : List Cond := [Cond.instanceMethod yX1_leavesTogether, Cond.selects RX1 yX1_leavesTogether yX1_leavesTogether, Cond.code yX1_leavesTogether cX1_leavesTogether 1 (some .int), Cond.methodLink RX3 161 yX2_held, Cond.instanceMethod yX2_held, Cond.selects RX2 yX2_held yX2_held, Cond.code yX2_held cX2_held 1 (some .int), Cond.fieldLink RX2 15 "RoofDrains$SavedRoofs" "held" "I", Cond.methodLink RL 73 yX3_undo, Cond.instanceMethod yX3_undo, Cond.selects RX3 yX3_undo yX3_undo, Cond.code yX3_undo cX3_undo 2 (some .int), Cond.classLink RX3 78 "java/lang/IllegalStateException", Cond.initialized "java/lang/IllegalStateException", Cond.methodLink RX3 152 yX2_dropLatest, Cond.instanceMethod yX2_dropLatest, Cond.selects RX2 yX2_dropLatest yX2_dropLatest, Cond.code yX2_dropLatest cX2_dropLatest 1 (some (.object "RoofDrains$Roof")), Cond.fieldLink RX2 19 "RoofDrains$SavedRoofs" "oldest" "I", Cond.methodLink RX3 158 yX1_copyFrom, Cond.instanceMethod yX1_copyFrom, Cond.selects RX1 yX1_copyFrom yX1_copyFrom, Cond.code yX1_copyFrom cX1_copyFrom 2 none, Cond.methodLink RX1 48 arraycopyName]
def wsL_law0_r6 : List Cond := [Cond.native arraycopyName, Cond.static arraycopyName, Cond.initialized "java/lang/System", Cond.methodLink RL 76 yL_told, Cond.static yL_told, Cond.code yL_told cL_told 5 (some .long), Cond.constantLong RL 8 (3), Cond.constantLong RL 10 (31), Cond.methodLink RL 18 yX3_setting, Cond.instanceMethod yX3_setting, Cond.selects RX3 yX3_setting yX3_setting, Cond.code yX3_setting cX3_setting 2 (some .int), Cond.classLink RX3 40 "java/lang/IndexOutOfBoundsException", Cond.initialized "java/lang/IndexOutOfBoundsException", Cond.methodLink RX3 91 yX3_isSetting, Cond.static yX3_isSetting, Cond.code yX3_isSetting cX3_isSetting 1 (some .boolean), Cond.methodLink RX3 194 yX1_settingValue, Cond.instanceMethod yX1_settingValue, Cond.selects RX1 yX1_settingValue yX1_settingValue, Cond.code yX1_settingValue cX1_settingValue 2 (some .int), Cond.methodLink RL 21 yX3_gutterOf, Cond.instanceMethod yX3_gutterOf, Cond.selects RX3 yX3_gutterOf yX3_gutterOf]
def wsL_law0_r7 : List Cond := [Cond.code yX3_gutterOf cX3_gutterOf 3 (some .int), Cond.methodLink RX3 37 yX3_isGutter, Cond.static yX3_isGutter, Cond.code yX3_isGutter cX3_isGutter 1 (some .boolean), Cond.methodLink RX3 47 yX3_isWithin, Cond.static yX3_isWithin, Cond.code yX3_isWithin cX3_isWithin 3 (some .boolean), Cond.methodLink RX3 173 yX1_gutterNumber, Cond.instanceMethod yX1_gutterNumber, Cond.selects RX1 yX1_gutterNumber yX1_gutterNumber, Cond.code yX1_gutterNumber cX1_gutterNumber 3 (some .int), Cond.methodLink RX1 95 yX1_room, Cond.instanceMethod yX1_room, Cond.selects RX1 yX1_room yX1_room, Cond.code yX1_room cX1_room 2 (some .int), Cond.methodLink RX1 91 yX1_pipeTakes, Cond.instanceMethod yX1_pipeTakes, Cond.selects RX1 yX1_pipeTakes yX1_pipeTakes, Cond.code yX1_pipeTakes cX1_pipeTakes 3 (some .int), Cond.methodLink RL 25 yX3_planeOf, Cond.instanceMethod yX3_planeOf, Cond.selects RX3 yX3_planeOf yX3_planeOf, Cond.code yX3_planeOf cX3_planeOf 3 (some .int), Cond.methodLink RX3 33 yX3_isPlane]
def wsL_law0_r8 : List Cond := [Cond.static yX3_isPlane, Cond.code yX3_isPlane cX3_isPlane 1 (some .boolean), Cond.methodLink RX3 168 yX1_planeNumber, Cond.instanceMethod yX1_planeNumber, Cond.selects RX1 yX1_planeNumber yX1_planeNumber, Cond.code yX1_planeNumber cX1_planeNumber 3 (some .int), Cond.methodLink RL 80 yL_act, Cond.static yL_act, Cond.code yL_act cL_act 6 (some .int), Cond.methodLink RL 28 yL_low, Cond.static yL_low, Cond.code yL_low cL_low 2 (some .int), Cond.constant RL 7 (2147483647), Cond.methodLink RL 33 yX3_plane, Cond.instanceMethod yX3_plane, Cond.selects RX3 yX3_plane yX3_plane, Cond.code yX3_plane cX3_plane 5 (some .int), Cond.methodLink RX3 56 yX2_keep, Cond.instanceMethod yX2_keep, Cond.selects RX2 yX2_keep yX2_keep, Cond.code yX2_keep cX2_keep 4 none, Cond.methodLink RX2 22 yX1_init, Cond.methodLink RX2 23 yX1_copyFrom, Cond.methodLink RX3 60 yX1_changePlane]
def wsL_law0_r9 : List Cond := [Cond.instanceMethod yX1_changePlane, Cond.selects RX1 yX1_changePlane yX1_changePlane, Cond.code yX1_changePlane cX1_changePlane 6 (some .int), Cond.methodLink RL 37 yX3_gutter, Cond.instanceMethod yX3_gutter, Cond.selects RX3 yX3_gutter yX3_gutter, Cond.code yX3_gutter cX3_gutter 4 (some .int), Cond.methodLink RX3 68 yX1_changeGutter, Cond.instanceMethod yX1_changeGutter, Cond.selects RX1 yX1_changeGutter yX1_changeGutter, Cond.code yX1_changeGutter cX1_changeGutter 5 (some .int), Cond.methodLink RL 41 yL_leads, Cond.static yL_leads, Cond.code yL_leads cL_leads 5 (some .boolean), Cond.methodLink RL 45 yX3_valley, Cond.instanceMethod yX3_valley, Cond.selects RX3 yX3_valley yX3_valley, Cond.code yX3_valley cX3_valley 3 (some .int), Cond.methodLink RX3 74 yX1_valleysLead, Cond.instanceMethod yX1_valleysLead, Cond.selects RX1 yX1_valleysLead yX1_valleysLead, Cond.code yX1_valleysLead cX1_valleysLead 5 (some .boolean), Cond.methodLink RX3 83 yX1_changeValley, Cond.instanceMethod yX1_changeValley]
def wsL_law0_r10 : List Cond := [Cond.selects RX1 yX1_changeValley yX1_changeValley, Cond.code yX1_changeValley cX1_changeValley 4 (some .int), Cond.methodLink RL 48 yX3_clean, Cond.instanceMethod yX3_clean, Cond.selects RX3 yX3_clean yX3_clean, Cond.code yX3_clean cX3_clean 2 (some .int), Cond.methodLink RX3 87 yX1_takeLeaves, Cond.instanceMethod yX1_takeLeaves, Cond.selects RX1 yX1_takeLeaves yX1_takeLeaves, Cond.code yX1_takeLeaves cX1_takeLeaves 3 (some .int), Cond.methodLink RL 51 yX3_set, Cond.instanceMethod yX3_set, Cond.selects RX3 yX3_set yX3_set, Cond.code yX3_set cX3_set 3 (some .int), Cond.fieldLink RX3 96 "RoofDrains" "MOST_OF_SETTING" "[I", Cond.methodLink RX3 102 yX1_changeSetting, Cond.instanceMethod yX1_changeSetting, Cond.selects RX1 yX1_changeSetting yX1_changeSetting, Cond.code yX1_changeSetting cX1_changeSetting 4 (some .int), Cond.methodLink RL 54 yX3_weeks, Cond.instanceMethod yX3_weeks, Cond.selects RX3 yX3_weeks yX3_weeks, Cond.code yX3_weeks cX3_weeks 3 (some .int), Cond.methodLink RX3 117 yX1_passWeek]
def wsL_law0_r11 : List Cond := [Cond.instanceMethod yX1_passWeek, Cond.selects RX1 yX1_passWeek yX1_passWeek, Cond.code yX1_passWeek cX1_passWeek 2 none, Cond.methodLink RX1 85 Lib.Math.min.name, Cond.static Lib.Math.min.name, Cond.initialized "java/lang/Math", Cond.code Lib.Math.min.name Lib.Math.min.code 2 (some .int), Cond.methodLink RL 57 yX3_rain, Cond.instanceMethod yX3_rain, Cond.selects RX3 yX3_rain yX3_rain, Cond.code yX3_rain cX3_rain 4 (some .int), Cond.methodLink RX3 111 yX1_passMinutes, Cond.instanceMethod yX1_passMinutes, Cond.selects RX1 yX1_passMinutes yX1_passMinutes, Cond.code yX1_passMinutes cX1_passMinutes 4 none, Cond.methodLink RX1 71 yX1_passMinute, Cond.instanceMethod yX1_passMinute, Cond.selects RX1 yX1_passMinute yX1_passMinute, Cond.code yX1_passMinute cX1_passMinute 3 none, Cond.methodLink RX1 75 yX1_wetPlane, Cond.instanceMethod yX1_wetPlane, Cond.selects RX1 yX1_wetPlane yX1_wetPlane, Cond.code yX1_wetPlane cX1_wetPlane 6 none, Cond.methodLink RX1 79 yX1_emptyIntoDrain]
def wsL_law0_r12 : List Cond := [Cond.instanceMethod yX1_emptyIntoDrain, Cond.selects RX1 yX1_emptyIntoDrain yX1_emptyIntoDrain, Cond.code yX1_emptyIntoDrain cX1_emptyIntoDrain 6 none, Cond.methodLink RX1 82 yX1_overflow, Cond.instanceMethod yX1_overflow, Cond.selects RX1 yX1_overflow yX1_overflow, Cond.code yX1_overflow cX1_overflow 4 none, Cond.methodLink RL 84 yL_holds, Cond.static yL_holds, Cond.code yL_holds cL_holds 12 (some .boolean), Cond.methodLink RL 60 yX3_drainedShare, Cond.instanceMethod yX3_drainedShare, Cond.selects RX3 yX3_drainedShare yX3_drainedShare, Cond.code yX3_drainedShare cX3_drainedShare 2 (some .double), Cond.methodLink RL 64 yX3_dryIn, Cond.instanceMethod yX3_dryIn, Cond.selects RX3 yX3_dryIn yX3_dryIn, Cond.code yX3_dryIn cX3_dryIn 2 (some .int), Cond.methodLink RX3 201 yX1_passMinute]
def wsL_law0 : List Cond := (wsL_law0_r1 ++ (wsL_law0_r2 ++ (wsL_law0_r3 ++ (wsL_law0_r4 ++ (wsL_law0_r5 ++ (wsL_law0_r6 ++ (wsL_law0_r7 ++ (wsL_law0_r8 ++ (wsL_law0_r9 ++ (wsL_law0_r10 ++ (wsL_law0_r11 ++ wsL_law0_r12))))))))))) ++ wsX30 ++ wsX10 ++ wsX20 ++ wsX00 ++ ([] : List Cond)
def wsL_law : List Cond := wsL_law0 ++ (vx_atS RX3 55 "java/lang/IllegalArgumentException" ["java/lang/RuntimeException", "java/lang/Exception"]).filter goodWord ++ (vx_atS RX3 82 "java/lang/IllegalStateException" ["java/lang/RuntimeException", "java/lang/Exception"]).filter goodWord ++ (vx_atS RX3 44 "java/lang/IndexOutOfBoundsException" ["java/lang/RuntimeException", "java/lang/Exception"]).filter goodWord
abbrev vwCl : List vw_C := [(RX0, TX0, 2), (RX1, TX1, 16), (RX2, TX2, 3), (RX3, TX3, 4)]
end
section
theorem dX0_init_0 : decode cX0_init 0 = .ok (.aload_n 0, 1) := by decide +kernel
theorem dX0_init_1 : decode cX0_init 1 = .ok (.invokespecial 1, 3) := by decide +kernel
theorem dX0_init_4 : decode cX0_init 4 = .ok (.aload_n 0, 1) := by decide +kernel
theorem dX0_init_5 : decode cX0_init 5 = .ok (.bipush 60, 2) := by decide +kernel
theorem dX0_init_7 : decode cX0_init 7 = .ok (.newarray .int, 2) := by decide +kernel
theorem dX0_init_9 : decode cX0_init 9 = .ok (.putfield 9, 3) := by decide +kernel
theorem dX0_init_12 : decode cX0_init 12 = .ok (.return_, 1) := by decide +kernel
theorem dX1_init_0 : decode cX1_init 0 = .ok (.aload_n 0, 1) := by decide +kernel
theorem dX1_init_1 : decode cX1_init 1 = .ok (.invokespecial 3, 3) := by decide +kernel
theorem dX1_init_4 : decode cX1_init 4 = .ok (.aload_n 0, 1) := by decide +kernel
theorem dX1_init_5 : decode cX1_init 5 = .ok (.bipush 6, 2) := by decide +kernel
theorem dX1_init_7 : decode cX1_init 7 = .ok (.newarray .int, 2) := by decide +kernel
theorem dX1_init_9 : decode cX1_init 9 = .ok (.putfield 9, 3) := by decide +kernel
theorem dX1_init_12 : decode cX1_init 12 = .ok (.aload_n 0, 1) := by decide +kernel
theorem dX1_init_13 : decode cX1_init 13 = .ok (.bipush 6, 2) := by decide +kernel
theorem dX1_init_15 : decode cX1_init 15 = .ok (.newarray .int, 2) := by decide +kernel
theorem dX1_init_17 : decode cX1_init 17 = .ok (.putfield 15, 3) := by decide +kernel
theorem dX1_init_20 : decode cX1_init 20 = .ok (.aload_n 0, 1) := by decide +kernel
theorem dX1_init_21 : decode cX1_init 21 = .ok (.bipush 6, 2) := by decide +kernel
theorem dX1_init_23 : decode cX1_init 23 = .ok (.newarray .int, 2) := by decide +kernel
theorem dX1_init_25 : decode cX1_init 25 = .ok (.putfield 18, 3) := by decide +kernel
theorem dX1_init_28 : decode cX1_init 28 = .ok (.aload_n 0, 1) := by decide +kernel
theorem dX1_init_29 : decode cX1_init 29 = .ok (.bipush 6, 2) := by decide +kernel
theorem dX1_init_31 : decode cX1_init 31 = .ok (.newarray .int, 2) := by decide +kernel
theorem dX1_init_33 : decode cX1_init 33 = .ok (.putfield 21, 3) := by decide +kernel
theorem dX1_init_36 : decode cX1_init 36 = .ok (.iconst 0, 1) := by decide +kernel
theorem dX1_init_37 : decode cX1_init 37 = .ok (.istore_n 1, 1) := by decide +kernel
theorem dX1_init_38 : decode cX1_init 38 = .ok (.iload_n 1, 1) := by decide +kernel
theorem dX1_init_39 : decode cX1_init 39 = .ok (.bipush 6, 2) := by decide +kernel
theorem dX1_init_41 : decode cX1_init 41 = .ok (.if_icmp .ge 31, 3) := by decide +kernel
theorem dX1_init_44 : decode cX1_init 44 = .ok (.aload_n 0, 1) := by decide +kernel
theorem dX1_init_45 : decode cX1_init 45 = .ok (.getfield 9, 3) := by decide +kernel
theorem dX1_init_48 : decode cX1_init 48 = .ok (.iload_n 1, 1) := by decide +kernel
theorem dX1_init_49 : decode cX1_init 49 = .ok (.bipush 40, 2) := by decide +kernel
theorem dX1_init_51 : decode cX1_init 51 = .ok (.iastore, 1) := by decide +kernel
theorem dX1_init_52 : decode cX1_init 52 = .ok (.aload_n 0, 1) := by decide +kernel
theorem dX1_init_53 : decode cX1_init 53 = .ok (.getfield 15, 3) := by decide +kernel
theorem dX1_init_56 : decode cX1_init 56 = .ok (.iload_n 1, 1) := by decide +kernel
theorem dX1_init_57 : decode cX1_init 57 = .ok (.iconst 3, 1) := by decide +kernel
theorem dX1_init_58 : decode cX1_init 58 = .ok (.iastore, 1) := by decide +kernel
theorem dX1_init_59 : decode cX1_init 59 = .ok (.aload_n 0, 1) := by decide +kernel
theorem dX1_init_60 : decode cX1_init 60 = .ok (.getfield 18, 3) := by decide +kernel
theorem dX1_init_63 : decode cX1_init 63 = .ok (.iload_n 1, 1) := by decide +kernel
theorem dX1_init_64 : decode cX1_init 64 = .ok (.iload_n 1, 1) := by decide +kernel
theorem dX1_init_65 : decode cX1_init 65 = .ok (.iastore, 1) := by decide +kernel
theorem dX1_init_66 : decode cX1_init 66 = .ok (.iinc 1 1, 3) := by decide +kernel
theorem dX1_init_69 : decode cX1_init 69 = .ok (.goto (-31), 3) := by decide +kernel
theorem dX1_init_72 : decode cX1_init 72 = .ok (.aload_n 0, 1) := by decide +kernel
theorem dX1_init_73 : decode cX1_init 73 = .ok (.bipush 6, 2) := by decide +kernel
theorem dX1_init_75 : decode cX1_init 75 = .ok (.newarray .int, 2) := by decide +kernel
theorem dX1_init_77 : decode cX1_init 77 = .ok (.putfield 24, 3) := by decide +kernel
theorem dX1_init_80 : decode cX1_init 80 = .ok (.aload_n 0, 1) := by decide +kernel
theorem dX1_init_81 : decode cX1_init 81 = .ok (.bipush 6, 2) := by decide +kernel
theorem dX1_init_83 : decode cX1_init 83 = .ok (.newarray .int, 2) := by decide +kernel
theorem dX1_init_85 : decode cX1_init 85 = .ok (.putfield 27, 3) := by decide +kernel
theorem dX1_init_88 : decode cX1_init 88 = .ok (.aload_n 0, 1) := by decide +kernel
theorem dX1_init_89 : decode cX1_init 89 = .ok (.bipush 6, 2) := by decide +kernel
theorem dX1_init_91 : decode cX1_init 91 = .ok (.newarray .int, 2) := by decide +kernel
theorem dX1_init_93 : decode cX1_init 93 = .ok (.putfield 30, 3) := by decide +kernel
theorem dX1_init_96 : decode cX1_init 96 = .ok (.aload_n 0, 1) := by decide +kernel
theorem dX1_init_97 : decode cX1_init 97 = .ok (.bipush 6, 2) := by decide +kernel
theorem dX1_init_99 : decode cX1_init 99 = .ok (.newarray .int, 2) := by decide +kernel
theorem dX1_init_101 : decode cX1_init 101 = .ok (.putfield 33, 3) := by decide +kernel
theorem dX1_init_104 : decode cX1_init 104 = .ok (.aload_n 0, 1) := by decide +kernel
theorem dX1_init_105 : decode cX1_init 105 = .ok (.bipush 6, 2) := by decide +kernel
theorem dX1_init_107 : decode cX1_init 107 = .ok (.newarray .int, 2) := by decide +kernel
theorem dX1_init_109 : decode cX1_init 109 = .ok (.putfield 36, 3) := by decide +kernel
theorem dX1_init_112 : decode cX1_init 112 = .ok (.aload_n 0, 1) := by decide +kernel
theorem dX1_init_113 : decode cX1_init 113 = .ok (.bipush 6, 2) := by decide +kernel
theorem dX1_init_115 : decode cX1_init 115 = .ok (.newarray .int, 2) := by decide +kernel
theorem dX1_init_117 : decode cX1_init 117 = .ok (.putfield 39, 3) := by decide +kernel
theorem dX1_init_120 : decode cX1_init 120 = .ok (.aload_n 0, 1) := by decide +kernel
theorem dX1_init_121 : decode cX1_init 121 = .ok (.bipush 6, 2) := by decide +kernel
theorem dX1_init_123 : decode cX1_init 123 = .ok (.newarray .int, 2) := by decide +kernel
theorem dX1_init_125 : decode cX1_init 125 = .ok (.putfield 42, 3) := by decide +kernel
theorem dX1_init_128 : decode cX1_init 128 = .ok (.iconst 0, 1) := by decide +kernel
theorem dX1_init_129 : decode cX1_init 129 = .ok (.istore_n 1, 1) := by decide +kernel
theorem dX1_init_130 : decode cX1_init 130 = .ok (.iload_n 1, 1) := by decide +kernel
theorem dX1_init_131 : decode cX1_init 131 = .ok (.bipush 6, 2) := by decide +kernel
theorem dX1_init_133 : decode cX1_init 133 = .ok (.if_icmp .ge 32, 3) := by decide +kernel
theorem dX1_init_136 : decode cX1_init 136 = .ok (.aload_n 0, 1) := by decide +kernel
theorem dX1_init_137 : decode cX1_init 137 = .ok (.getfield 24, 3) := by decide +kernel
theorem dX1_init_140 : decode cX1_init 140 = .ok (.iload_n 1, 1) := by decide +kernel
theorem dX1_init_141 : decode cX1_init 141 = .ok (.bipush 60, 2) := by decide +kernel
theorem dX1_init_143 : decode cX1_init 143 = .ok (.iastore, 1) := by decide +kernel
theorem dX1_init_144 : decode cX1_init 144 = .ok (.aload_n 0, 1) := by decide +kernel
theorem dX1_init_145 : decode cX1_init 145 = .ok (.getfield 27, 3) := by decide +kernel
theorem dX1_init_148 : decode cX1_init 148 = .ok (.iload_n 1, 1) := by decide +kernel
theorem dX1_init_149 : decode cX1_init 149 = .ok (.bipush 20, 2) := by decide +kernel
theorem dX1_init_151 : decode cX1_init 151 = .ok (.iastore, 1) := by decide +kernel
theorem dX1_init_152 : decode cX1_init 152 = .ok (.aload_n 0, 1) := by decide +kernel
theorem dX1_init_153 : decode cX1_init 153 = .ok (.getfield 33, 3) := by decide +kernel
theorem dX1_init_156 : decode cX1_init 156 = .ok (.iload_n 1, 1) := by decide +kernel
theorem dX1_init_157 : decode cX1_init 157 = .ok (.iconst (-1), 1) := by decide +kernel
theorem dX1_init_158 : decode cX1_init 158 = .ok (.iastore, 1) := by decide +kernel
theorem dX1_init_159 : decode cX1_init 159 = .ok (.iinc 1 1, 3) := by decide +kernel
theorem dX1_init_162 : decode cX1_init 162 = .ok (.goto (-32), 3) := by decide +kernel
theorem dX1_init_165 : decode cX1_init 165 = .ok (.aload_n 0, 1) := by decide +kernel
theorem dX1_init_166 : decode cX1_init 166 = .ok (.iconst 3, 1) := by decide +kernel
theorem dX1_init_167 : decode cX1_init 167 = .ok (.newarray .int, 2) := by decide +kernel
theorem dX1_init_169 : decode cX1_init 169 = .ok (.putfield 45, 3) := by decide +kernel
theorem dX1_init_172 : decode cX1_init 172 = .ok (.aload_n 0, 1) := by decide +kernel
theorem dX1_init_173 : decode cX1_init 173 = .ok (.getfield 45, 3) := by decide +kernel
theorem dX1_init_176 : decode cX1_init 176 = .ok (.iconst 0, 1) := by decide +kernel
theorem dX1_init_177 : decode cX1_init 177 = .ok (.bipush 100, 2) := by decide +kernel
theorem dX1_init_179 : decode cX1_init 179 = .ok (.iastore, 1) := by decide +kernel
theorem dX1_init_180 : decode cX1_init 180 = .ok (.aload_n 0, 1) := by decide +kernel
theorem dX1_init_181 : decode cX1_init 181 = .ok (.getfield 45, 3) := by decide +kernel
theorem dX1_init_184 : decode cX1_init 184 = .ok (.iconst 1, 1) := by decide +kernel
theorem dX1_init_185 : decode cX1_init 185 = .ok (.iconst 4, 1) := by decide +kernel
theorem dX1_init_186 : decode cX1_init 186 = .ok (.iastore, 1) := by decide +kernel
theorem dX1_init_187 : decode cX1_init 187 = .ok (.aload_n 0, 1) := by decide +kernel
theorem dX1_init_188 : decode cX1_init 188 = .ok (.getfield 45, 3) := by decide +kernel
theorem dX1_init_191 : decode cX1_init 191 = .ok (.iconst 2, 1) := by decide +kernel
theorem dX1_init_192 : decode cX1_init 192 = .ok (.bipush 20, 2) := by decide +kernel
theorem dX1_init_194 : decode cX1_init 194 = .ok (.iastore, 1) := by decide +kernel
theorem dX1_init_195 : decode cX1_init 195 = .ok (.return_, 1) := by decide +kernel
theorem dX1_copyFrom_0 : decode cX1_copyFrom 0 = .ok (.aload_n 1, 1) := by decide +kernel
theorem dX1_copyFrom_1 : decode cX1_copyFrom 1 = .ok (.getfield 9, 3) := by decide +kernel
theorem dX1_copyFrom_4 : decode cX1_copyFrom 4 = .ok (.iconst 0, 1) := by decide +kernel
theorem dX1_copyFrom_5 : decode cX1_copyFrom 5 = .ok (.aload_n 0, 1) := by decide +kernel
theorem dX1_copyFrom_6 : decode cX1_copyFrom 6 = .ok (.getfield 9, 3) := by decide +kernel
theorem dX1_copyFrom_9 : decode cX1_copyFrom 9 = .ok (.iconst 0, 1) := by decide +kernel
theorem dX1_copyFrom_10 : decode cX1_copyFrom 10 = .ok (.bipush 6, 2) := by decide +kernel
theorem dX1_copyFrom_12 : decode cX1_copyFrom 12 = .ok (.invokestatic 48, 3) := by decide +kernel
theorem dX1_copyFrom_15 : decode cX1_copyFrom 15 = .ok (.aload_n 1, 1) := by decide +kernel
theorem dX1_copyFrom_16 : decode cX1_copyFrom 16 = .ok (.getfield 15, 3) := by decide +kernel
theorem dX1_copyFrom_19 : decode cX1_copyFrom 19 = .ok (.iconst 0, 1) := by decide +kernel
theorem dX1_copyFrom_20 : decode cX1_copyFrom 20 = .ok (.aload_n 0, 1) := by decide +kernel
theorem dX1_copyFrom_21 : decode cX1_copyFrom 21 = .ok (.getfield 15, 3) := by decide +kernel
theorem dX1_copyFrom_24 : decode cX1_copyFrom 24 = .ok (.iconst 0, 1) := by decide +kernel
theorem dX1_copyFrom_25 : decode cX1_copyFrom 25 = .ok (.bipush 6, 2) := by decide +kernel
theorem dX1_copyFrom_27 : decode cX1_copyFrom 27 = .ok (.invokestatic 48, 3) := by decide +kernel
theorem dX1_copyFrom_30 : decode cX1_copyFrom 30 = .ok (.aload_n 1, 1) := by decide +kernel
theorem dX1_copyFrom_31 : decode cX1_copyFrom 31 = .ok (.getfield 18, 3) := by decide +kernel
theorem dX1_copyFrom_34 : decode cX1_copyFrom 34 = .ok (.iconst 0, 1) := by decide +kernel
theorem dX1_copyFrom_35 : decode cX1_copyFrom 35 = .ok (.aload_n 0, 1) := by decide +kernel
theorem dX1_copyFrom_36 : decode cX1_copyFrom 36 = .ok (.getfield 18, 3) := by decide +kernel
theorem dX1_copyFrom_39 : decode cX1_copyFrom 39 = .ok (.iconst 0, 1) := by decide +kernel
theorem dX1_copyFrom_40 : decode cX1_copyFrom 40 = .ok (.bipush 6, 2) := by decide +kernel
theorem dX1_copyFrom_42 : decode cX1_copyFrom 42 = .ok (.invokestatic 48, 3) := by decide +kernel
theorem dX1_copyFrom_45 : decode cX1_copyFrom 45 = .ok (.aload_n 1, 1) := by decide +kernel
theorem dX1_copyFrom_46 : decode cX1_copyFrom 46 = .ok (.getfield 21, 3) := by decide +kernel
theorem dX1_copyFrom_49 : decode cX1_copyFrom 49 = .ok (.iconst 0, 1) := by decide +kernel
theorem dX1_copyFrom_50 : decode cX1_copyFrom 50 = .ok (.aload_n 0, 1) := by decide +kernel
theorem dX1_copyFrom_51 : decode cX1_copyFrom 51 = .ok (.getfield 21, 3) := by decide +kernel
theorem dX1_copyFrom_54 : decode cX1_copyFrom 54 = .ok (.iconst 0, 1) := by decide +kernel
theorem dX1_copyFrom_55 : decode cX1_copyFrom 55 = .ok (.bipush 6, 2) := by decide +kernel
theorem dX1_copyFrom_57 : decode cX1_copyFrom 57 = .ok (.invokestatic 48, 3) := by decide +kernel
theorem dX1_copyFrom_60 : decode cX1_copyFrom 60 = .ok (.aload_n 1, 1) := by decide +kernel
theorem dX1_copyFrom_61 : decode cX1_copyFrom 61 = .ok (.getfield 24, 3) := by decide +kernel
theorem dX1_copyFrom_64 : decode cX1_copyFrom 64 = .ok (.iconst 0, 1) := by decide +kernel
theorem dX1_copyFrom_65 : decode cX1_copyFrom 65 = .ok (.aload_n 0, 1) := by decide +kernel
theorem dX1_copyFrom_66 : decode cX1_copyFrom 66 = .ok (.getfield 24, 3) := by decide +kernel
theorem dX1_copyFrom_69 : decode cX1_copyFrom 69 = .ok (.iconst 0, 1) := by decide +kernel
theorem dX1_copyFrom_70 : decode cX1_copyFrom 70 = .ok (.bipush 6, 2) := by decide +kernel
theorem dX1_copyFrom_72 : decode cX1_copyFrom 72 = .ok (.invokestatic 48, 3) := by decide +kernel
theorem dX1_copyFrom_75 : decode cX1_copyFrom 75 = .ok (.aload_n 1, 1) := by decide +kernel
theorem dX1_copyFrom_76 : decode cX1_copyFrom 76 = .ok (.getfield 27, 3) := by decide +kernel
theorem dX1_copyFrom_79 : decode cX1_copyFrom 79 = .ok (.iconst 0, 1) := by decide +kernel
theorem dX1_copyFrom_80 : decode cX1_copyFrom 80 = .ok (.aload_n 0, 1) := by decide +kernel
theorem dX1_copyFrom_81 : decode cX1_copyFrom 81 = .ok (.getfield 27, 3) := by decide +kernel
theorem dX1_copyFrom_84 : decode cX1_copyFrom 84 = .ok (.iconst 0, 1) := by decide +kernel
theorem dX1_copyFrom_85 : decode cX1_copyFrom 85 = .ok (.bipush 6, 2) := by decide +kernel
theorem dX1_copyFrom_87 : decode cX1_copyFrom 87 = .ok (.invokestatic 48, 3) := by decide +kernel
theorem dX1_copyFrom_90 : decode cX1_copyFrom 90 = .ok (.aload_n 1, 1) := by decide +kernel
theorem dX1_copyFrom_91 : decode cX1_copyFrom 91 = .ok (.getfield 30, 3) := by decide +kernel
theorem dX1_copyFrom_94 : decode cX1_copyFrom 94 = .ok (.iconst 0, 1) := by decide +kernel
theorem dX1_copyFrom_95 : decode cX1_copyFrom 95 = .ok (.aload_n 0, 1) := by decide +kernel
theorem dX1_copyFrom_96 : decode cX1_copyFrom 96 = .ok (.getfield 30, 3) := by decide +kernel
theorem dX1_copyFrom_99 : decode cX1_copyFrom 99 = .ok (.iconst 0, 1) := by decide +kernel
theorem dX1_copyFrom_100 : decode cX1_copyFrom 100 = .ok (.bipush 6, 2) := by decide +kernel
theorem dX1_copyFrom_102 : decode cX1_copyFrom 102 = .ok (.invokestatic 48, 3) := by decide +kernel
theorem dX1_copyFrom_105 : decode cX1_copyFrom 105 = .ok (.aload_n 1, 1) := by decide +kernel
theorem dX1_copyFrom_106 : decode cX1_copyFrom 106 = .ok (.getfield 33, 3) := by decide +kernel
theorem dX1_copyFrom_109 : decode cX1_copyFrom 109 = .ok (.iconst 0, 1) := by decide +kernel
theorem dX1_copyFrom_110 : decode cX1_copyFrom 110 = .ok (.aload_n 0, 1) := by decide +kernel
theorem dX1_copyFrom_111 : decode cX1_copyFrom 111 = .ok (.getfield 33, 3) := by decide +kernel
theorem dX1_copyFrom_114 : decode cX1_copyFrom 114 = .ok (.iconst 0, 1) := by decide +kernel
theorem dX1_copyFrom_115 : decode cX1_copyFrom 115 = .ok (.bipush 6, 2) := by decide +kernel
theorem dX1_copyFrom_117 : decode cX1_copyFrom 117 = .ok (.invokestatic 48, 3) := by decide +kernel
theorem dX1_copyFrom_120 : decode cX1_copyFrom 120 = .ok (.aload_n 1, 1) := by decide +kernel
theorem dX1_copyFrom_121 : decode cX1_copyFrom 121 = .ok (.getfield 36, 3) := by decide +kernel
theorem dX1_copyFrom_124 : decode cX1_copyFrom 124 = .ok (.iconst 0, 1) := by decide +kernel
theorem dX1_copyFrom_125 : decode cX1_copyFrom 125 = .ok (.aload_n 0, 1) := by decide +kernel
theorem dX1_copyFrom_126 : decode cX1_copyFrom 126 = .ok (.getfield 36, 3) := by decide +kernel
theorem dX1_copyFrom_129 : decode cX1_copyFrom 129 = .ok (.iconst 0, 1) := by decide +kernel
theorem dX1_copyFrom_130 : decode cX1_copyFrom 130 = .ok (.bipush 6, 2) := by decide +kernel
theorem dX1_copyFrom_132 : decode cX1_copyFrom 132 = .ok (.invokestatic 48, 3) := by decide +kernel
theorem dX1_copyFrom_135 : decode cX1_copyFrom 135 = .ok (.aload_n 1, 1) := by decide +kernel
theorem dX1_copyFrom_136 : decode cX1_copyFrom 136 = .ok (.getfield 39, 3) := by decide +kernel
theorem dX1_copyFrom_139 : decode cX1_copyFrom 139 = .ok (.iconst 0, 1) := by decide +kernel
theorem dX1_copyFrom_140 : decode cX1_copyFrom 140 = .ok (.aload_n 0, 1) := by decide +kernel
theorem dX1_copyFrom_141 : decode cX1_copyFrom 141 = .ok (.getfield 39, 3) := by decide +kernel
theorem dX1_copyFrom_144 : decode cX1_copyFrom 144 = .ok (.iconst 0, 1) := by decide +kernel
theorem dX1_copyFrom_145 : decode cX1_copyFrom 145 = .ok (.bipush 6, 2) := by decide +kernel
theorem dX1_copyFrom_147 : decode cX1_copyFrom 147 = .ok (.invokestatic 48, 3) := by decide +kernel
theorem dX1_copyFrom_150 : decode cX1_copyFrom 150 = .ok (.aload_n 1, 1) := by decide +kernel
theorem dX1_copyFrom_151 : decode cX1_copyFrom 151 = .ok (.getfield 42, 3) := by decide +kernel
theorem dX1_copyFrom_154 : decode cX1_copyFrom 154 = .ok (.iconst 0, 1) := by decide +kernel
theorem dX1_copyFrom_155 : decode cX1_copyFrom 155 = .ok (.aload_n 0, 1) := by decide +kernel
theorem dX1_copyFrom_156 : decode cX1_copyFrom 156 = .ok (.getfield 42, 3) := by decide +kernel
theorem dX1_copyFrom_159 : decode cX1_copyFrom 159 = .ok (.iconst 0, 1) := by decide +kernel
theorem dX1_copyFrom_160 : decode cX1_copyFrom 160 = .ok (.bipush 6, 2) := by decide +kernel
theorem dX1_copyFrom_162 : decode cX1_copyFrom 162 = .ok (.invokestatic 48, 3) := by decide +kernel
theorem dX1_copyFrom_165 : decode cX1_copyFrom 165 = .ok (.aload_n 1, 1) := by decide +kernel
theorem dX1_copyFrom_166 : decode cX1_copyFrom 166 = .ok (.getfield 45, 3) := by decide +kernel
theorem dX1_copyFrom_169 : decode cX1_copyFrom 169 = .ok (.iconst 0, 1) := by decide +kernel
theorem dX1_copyFrom_170 : decode cX1_copyFrom 170 = .ok (.aload_n 0, 1) := by decide +kernel
theorem dX1_copyFrom_171 : decode cX1_copyFrom 171 = .ok (.getfield 45, 3) := by decide +kernel
theorem dX1_copyFrom_174 : decode cX1_copyFrom 174 = .ok (.iconst 0, 1) := by decide +kernel
theorem dX1_copyFrom_175 : decode cX1_copyFrom 175 = .ok (.iconst 3, 1) := by decide +kernel
theorem dX1_copyFrom_176 : decode cX1_copyFrom 176 = .ok (.invokestatic 48, 3) := by decide +kernel
theorem dX1_copyFrom_179 : decode cX1_copyFrom 179 = .ok (.aload_n 0, 1) := by decide +kernel
theorem dX1_copyFrom_180 : decode cX1_copyFrom 180 = .ok (.aload_n 1, 1) := by decide +kernel
theorem dX1_copyFrom_181 : decode cX1_copyFrom 181 = .ok (.getfield 54, 3) := by decide +kernel
theorem dX1_copyFrom_184 : decode cX1_copyFrom 184 = .ok (.putfield 54, 3) := by decide +kernel
theorem dX1_copyFrom_187 : decode cX1_copyFrom 187 = .ok (.aload_n 0, 1) := by decide +kernel
theorem dX1_copyFrom_188 : decode cX1_copyFrom 188 = .ok (.aload_n 1, 1) := by decide +kernel
theorem dX1_copyFrom_189 : decode cX1_copyFrom 189 = .ok (.getfield 58, 3) := by decide +kernel
theorem dX1_copyFrom_192 : decode cX1_copyFrom 192 = .ok (.putfield 58, 3) := by decide +kernel
theorem dX1_copyFrom_195 : decode cX1_copyFrom 195 = .ok (.aload_n 0, 1) := by decide +kernel
theorem dX1_copyFrom_196 : decode cX1_copyFrom 196 = .ok (.aload_n 1, 1) := by decide +kernel
theorem dX1_copyFrom_197 : decode cX1_copyFrom 197 = .ok (.getfield 61, 3) := by decide +kernel
theorem dX1_copyFrom_200 : decode cX1_copyFrom 200 = .ok (.putfield 61, 3) := by decide +kernel
theorem dX1_copyFrom_203 : decode cX1_copyFrom 203 = .ok (.aload_n 0, 1) := by decide +kernel
theorem dX1_copyFrom_204 : decode cX1_copyFrom 204 = .ok (.aload_n 1, 1) := by decide +kernel
theorem dX1_copyFrom_205 : decode cX1_copyFrom 205 = .ok (.getfield 64, 3) := by decide +kernel
theorem dX1_copyFrom_208 : decode cX1_copyFrom 208 = .ok (.putfield 64, 3) := by decide +kernel
theorem dX1_copyFrom_211 : decode cX1_copyFrom 211 = .ok (.return_, 1) := by decide +kernel
theorem dX1_changePlane_0 : decode cX1_changePlane 0 = .ok (.aload_n 0, 1) := by decide +kernel
theorem dX1_changePlane_1 : decode cX1_changePlane 1 = .ok (.getfield 9, 3) := by decide +kernel
theorem dX1_changePlane_4 : decode cX1_changePlane 4 = .ok (.iload_n 1, 1) := by decide +kernel
theorem dX1_changePlane_5 : decode cX1_changePlane 5 = .ok (.iaload, 1) := by decide +kernel
theorem dX1_changePlane_6 : decode cX1_changePlane 6 = .ok (.istore 5, 2) := by decide +kernel
theorem dX1_changePlane_8 : decode cX1_changePlane 8 = .ok (.aload_n 0, 1) := by decide +kernel
theorem dX1_changePlane_9 : decode cX1_changePlane 9 = .ok (.getfield 9, 3) := by decide +kernel
theorem dX1_changePlane_12 : decode cX1_changePlane 12 = .ok (.iload_n 1, 1) := by decide +kernel
theorem dX1_changePlane_13 : decode cX1_changePlane 13 = .ok (.iload_n 2, 1) := by decide +kernel
theorem dX1_changePlane_14 : decode cX1_changePlane 14 = .ok (.iastore, 1) := by decide +kernel
theorem dX1_changePlane_15 : decode cX1_changePlane 15 = .ok (.aload_n 0, 1) := by decide +kernel
theorem dX1_changePlane_16 : decode cX1_changePlane 16 = .ok (.getfield 15, 3) := by decide +kernel
theorem dX1_changePlane_19 : decode cX1_changePlane 19 = .ok (.iload_n 1, 1) := by decide +kernel
theorem dX1_changePlane_20 : decode cX1_changePlane 20 = .ok (.iload_n 3, 1) := by decide +kernel
theorem dX1_changePlane_21 : decode cX1_changePlane 21 = .ok (.iastore, 1) := by decide +kernel
theorem dX1_changePlane_22 : decode cX1_changePlane 22 = .ok (.aload_n 0, 1) := by decide +kernel
theorem dX1_changePlane_23 : decode cX1_changePlane 23 = .ok (.getfield 18, 3) := by decide +kernel
theorem dX1_changePlane_26 : decode cX1_changePlane 26 = .ok (.iload_n 1, 1) := by decide +kernel
theorem dX1_changePlane_27 : decode cX1_changePlane 27 = .ok (.iload 4, 2) := by decide +kernel
theorem dX1_changePlane_29 : decode cX1_changePlane 29 = .ok (.iastore, 1) := by decide +kernel
theorem dX1_changePlane_30 : decode cX1_changePlane 30 = .ok (.iload 5, 2) := by decide +kernel
theorem dX1_changePlane_32 : decode cX1_changePlane 32 = .ok (.ireturn, 1) := by decide +kernel
theorem dX1_changeGutter_0 : decode cX1_changeGutter 0 = .ok (.aload_n 0, 1) := by decide +kernel
theorem dX1_changeGutter_1 : decode cX1_changeGutter 1 = .ok (.getfield 24, 3) := by decide +kernel
theorem dX1_changeGutter_4 : decode cX1_changeGutter 4 = .ok (.iload_n 1, 1) := by decide +kernel
theorem dX1_changeGutter_5 : decode cX1_changeGutter 5 = .ok (.iaload, 1) := by decide +kernel
theorem dX1_changeGutter_6 : decode cX1_changeGutter 6 = .ok (.istore 4, 2) := by decide +kernel
theorem dX1_changeGutter_8 : decode cX1_changeGutter 8 = .ok (.aload_n 0, 1) := by decide +kernel
theorem dX1_changeGutter_9 : decode cX1_changeGutter 9 = .ok (.getfield 24, 3) := by decide +kernel
theorem dX1_changeGutter_12 : decode cX1_changeGutter 12 = .ok (.iload_n 1, 1) := by decide +kernel
theorem dX1_changeGutter_13 : decode cX1_changeGutter 13 = .ok (.iload_n 2, 1) := by decide +kernel
theorem dX1_changeGutter_14 : decode cX1_changeGutter 14 = .ok (.iastore, 1) := by decide +kernel
theorem dX1_changeGutter_15 : decode cX1_changeGutter 15 = .ok (.aload_n 0, 1) := by decide +kernel
theorem dX1_changeGutter_16 : decode cX1_changeGutter 16 = .ok (.getfield 27, 3) := by decide +kernel
theorem dX1_changeGutter_19 : decode cX1_changeGutter 19 = .ok (.iload_n 1, 1) := by decide +kernel
theorem dX1_changeGutter_20 : decode cX1_changeGutter 20 = .ok (.iload_n 3, 1) := by decide +kernel
theorem dX1_changeGutter_21 : decode cX1_changeGutter 21 = .ok (.iastore, 1) := by decide +kernel
theorem dX1_changeGutter_22 : decode cX1_changeGutter 22 = .ok (.iload 4, 2) := by decide +kernel
theorem dX1_changeGutter_24 : decode cX1_changeGutter 24 = .ok (.ireturn, 1) := by decide +kernel
theorem dX1_changeValley_0 : decode cX1_changeValley 0 = .ok (.aload_n 0, 1) := by decide +kernel
theorem dX1_changeValley_1 : decode cX1_changeValley 1 = .ok (.getfield 33, 3) := by decide +kernel
theorem dX1_changeValley_4 : decode cX1_changeValley 4 = .ok (.iload_n 1, 1) := by decide +kernel
theorem dX1_changeValley_5 : decode cX1_changeValley 5 = .ok (.iaload, 1) := by decide +kernel
theorem dX1_changeValley_6 : decode cX1_changeValley 6 = .ok (.istore_n 3, 1) := by decide +kernel
theorem dX1_changeValley_7 : decode cX1_changeValley 7 = .ok (.aload_n 0, 1) := by decide +kernel
theorem dX1_changeValley_8 : decode cX1_changeValley 8 = .ok (.getfield 33, 3) := by decide +kernel
theorem dX1_changeValley_11 : decode cX1_changeValley 11 = .ok (.iload_n 1, 1) := by decide +kernel
theorem dX1_changeValley_12 : decode cX1_changeValley 12 = .ok (.iload_n 2, 1) := by decide +kernel
theorem dX1_changeValley_13 : decode cX1_changeValley 13 = .ok (.iastore, 1) := by decide +kernel
theorem dX1_changeValley_14 : decode cX1_changeValley 14 = .ok (.iload_n 3, 1) := by decide +kernel
theorem dX1_changeValley_15 : decode cX1_changeValley 15 = .ok (.ireturn, 1) := by decide +kernel
theorem dX1_takeLeaves_0 : decode cX1_takeLeaves 0 = .ok (.aload_n 0, 1) := by decide +kernel
theorem dX1_takeLeaves_1 : decode cX1_takeLeaves 1 = .ok (.getfield 30, 3) := by decide +kernel
theorem dX1_takeLeaves_4 : decode cX1_takeLeaves 4 = .ok (.iload_n 1, 1) := by decide +kernel
theorem dX1_takeLeaves_5 : decode cX1_takeLeaves 5 = .ok (.iaload, 1) := by decide +kernel
theorem dX1_takeLeaves_6 : decode cX1_takeLeaves 6 = .ok (.istore_n 2, 1) := by decide +kernel
theorem dX1_takeLeaves_7 : decode cX1_takeLeaves 7 = .ok (.aload_n 0, 1) := by decide +kernel
theorem dX1_takeLeaves_8 : decode cX1_takeLeaves 8 = .ok (.getfield 30, 3) := by decide +kernel
theorem dX1_takeLeaves_11 : decode cX1_takeLeaves 11 = .ok (.iload_n 1, 1) := by decide +kernel
theorem dX1_takeLeaves_12 : decode cX1_takeLeaves 12 = .ok (.iconst 0, 1) := by decide +kernel
theorem dX1_takeLeaves_13 : decode cX1_takeLeaves 13 = .ok (.iastore, 1) := by decide +kernel
theorem dX1_takeLeaves_14 : decode cX1_takeLeaves 14 = .ok (.iload_n 2, 1) := by decide +kernel
theorem dX1_takeLeaves_15 : decode cX1_takeLeaves 15 = .ok (.ireturn, 1) := by decide +kernel
theorem dX1_changeSetting_0 : decode cX1_changeSetting 0 = .ok (.aload_n 0, 1) := by decide +kernel
theorem dX1_changeSetting_1 : decode cX1_changeSetting 1 = .ok (.getfield 45, 3) := by decide +kernel
theorem dX1_changeSetting_4 : decode cX1_changeSetting 4 = .ok (.iload_n 1, 1) := by decide +kernel
theorem dX1_changeSetting_5 : decode cX1_changeSetting 5 = .ok (.iaload, 1) := by decide +kernel
theorem dX1_changeSetting_6 : decode cX1_changeSetting 6 = .ok (.istore_n 3, 1) := by decide +kernel
theorem dX1_changeSetting_7 : decode cX1_changeSetting 7 = .ok (.aload_n 0, 1) := by decide +kernel
theorem dX1_changeSetting_8 : decode cX1_changeSetting 8 = .ok (.getfield 45, 3) := by decide +kernel
theorem dX1_changeSetting_11 : decode cX1_changeSetting 11 = .ok (.iload_n 1, 1) := by decide +kernel
theorem dX1_changeSetting_12 : decode cX1_changeSetting 12 = .ok (.iload_n 2, 1) := by decide +kernel
theorem dX1_changeSetting_13 : decode cX1_changeSetting 13 = .ok (.iastore, 1) := by decide +kernel
theorem dX1_changeSetting_14 : decode cX1_changeSetting 14 = .ok (.iload_n 3, 1) := by decide +kernel
theorem dX1_changeSetting_15 : decode cX1_changeSetting 15 = .ok (.ireturn, 1) := by decide +kernel
set_option maxRecDepth 20000 in
theorem ggX1_valleysLead_X3_isGutter : GoodIn wsX1_valleysLead wsX3_isGutter := goodIn_r _ [4] rfl (by decide +kernel)
set_option maxRecDepth 20000 in
theorem gX1_valleysLead_X3_isGutter_n67 : GoodIn wsX1_valleysLead (wsX3_isGutter) := ggX1_valleysLead_X3_isGutter
theorem dX1_valleysLead_0 : decode cX1_valleysLead 0 = .ok (.iload_n 1, 1) := by decide +kernel
theorem dX1_valleysLead_1 : decode cX1_valleysLead 1 = .ok (.istore_n 3, 1) := by decide +kernel
theorem dX1_valleysLead_2 : decode cX1_valleysLead 2 = .ok (.iconst 0, 1) := by decide +kernel
theorem dX1_valleysLead_3 : decode cX1_valleysLead 3 = .ok (.istore 4, 2) := by decide +kernel
theorem dX1_valleysLead_5 : decode cX1_valleysLead 5 = .ok (.iload 4, 2) := by decide +kernel
theorem dX1_valleysLead_7 : decode cX1_valleysLead 7 = .ok (.bipush 6, 2) := by decide +kernel
theorem dX1_valleysLead_9 : decode cX1_valleysLead 9 = .ok (.if_icmp .ge 30, 3) := by decide +kernel
theorem dX1_valleysLead_12 : decode cX1_valleysLead 12 = .ok (.iload_n 3, 1) := by decide +kernel
theorem dX1_valleysLead_13 : decode cX1_valleysLead 13 = .ok (.invokestatic 67, 3) := by decide +kernel
theorem dX1_valleysLead_16 : decode cX1_valleysLead 16 = .ok (.ifCond .eq 23, 3) := by decide +kernel
theorem dX1_valleysLead_19 : decode cX1_valleysLead 19 = .ok (.iload_n 3, 1) := by decide +kernel
theorem dX1_valleysLead_20 : decode cX1_valleysLead 20 = .ok (.iload_n 2, 1) := by decide +kernel
theorem dX1_valleysLead_21 : decode cX1_valleysLead 21 = .ok (.if_icmp .ne 5, 3) := by decide +kernel
theorem dX1_valleysLead_24 : decode cX1_valleysLead 24 = .ok (.iconst 1, 1) := by decide +kernel
theorem dX1_valleysLead_25 : decode cX1_valleysLead 25 = .ok (.ireturn, 1) := by decide +kernel
theorem dX1_valleysLead_26 : decode cX1_valleysLead 26 = .ok (.aload_n 0, 1) := by decide +kernel
theorem dX1_valleysLead_27 : decode cX1_valleysLead 27 = .ok (.getfield 33, 3) := by decide +kernel
theorem dX1_valleysLead_30 : decode cX1_valleysLead 30 = .ok (.iload_n 3, 1) := by decide +kernel
theorem dX1_valleysLead_31 : decode cX1_valleysLead 31 = .ok (.iaload, 1) := by decide +kernel
theorem dX1_valleysLead_32 : decode cX1_valleysLead 32 = .ok (.istore_n 3, 1) := by decide +kernel
theorem dX1_valleysLead_33 : decode cX1_valleysLead 33 = .ok (.iinc 4 1, 3) := by decide +kernel
theorem dX1_valleysLead_36 : decode cX1_valleysLead 36 = .ok (.goto (-31), 3) := by decide +kernel
theorem dX1_valleysLead_39 : decode cX1_valleysLead 39 = .ok (.iconst 0, 1) := by decide +kernel
theorem dX1_valleysLead_40 : decode cX1_valleysLead 40 = .ok (.ireturn, 1) := by decide +kernel
set_option maxRecDepth 20000 in
theorem ggX1_passMinutes_X1_passMinute : GoodIn wsX1_passMinutes wsX1_passMinute := goodIn_r _ [5, 6, 7, 8, 9, 4, 10, 11, 12, 13, 14, 15, 16, 17, 18, 19, 20, 21, 22, 23, 24, 25, 26, 27, 28, 29, 30, 31, 32, 33, 34, 35, 36, 37, 38, 39, 40, 41, 42, 43, 44, 45, 46, 47, 48, 49, 50, 51, 52, 53, 54, 55, 56, 57, 58, 59, 60, 61, 62, 63] rfl (by decide +kernel)
set_option maxRecDepth 20000 in
theorem gX1_passMinutes_X1_passMinute : GoodIn wsX1_passMinutes (wsV RX1 71 RX1 yX1_passMinute wsX1_passMinute) := goodIn_app (goodIn_of _ (by decide +kernel)) ggX1_passMinutes_X1_passMinute
theorem dX1_passMinutes_0 : decode cX1_passMinutes 0 = .ok (.iconst 0, 1) := by decide +kernel
theorem dX1_passMinutes_1 : decode cX1_passMinutes 1 = .ok (.istore_n 3, 1) := by decide +kernel
theorem dX1_passMinutes_2 : decode cX1_passMinutes 2 = .ok (.iload_n 3, 1) := by decide +kernel
theorem dX1_passMinutes_3 : decode cX1_passMinutes 3 = .ok (.iload_n 2, 1) := by decide +kernel
theorem dX1_passMinutes_4 : decode cX1_passMinutes 4 = .ok (.if_icmp .ge 14, 3) := by decide +kernel
theorem dX1_passMinutes_7 : decode cX1_passMinutes 7 = .ok (.aload_n 0, 1) := by decide +kernel
theorem dX1_passMinutes_8 : decode cX1_passMinutes 8 = .ok (.iload_n 1, 1) := by decide +kernel
theorem dX1_passMinutes_9 : decode cX1_passMinutes 9 = .ok (.invokevirtual 71, 3) := by decide +kernel
theorem dX1_passMinutes_12 : decode cX1_passMinutes 12 = .ok (.iinc 3 1, 3) := by decide +kernel
theorem dX1_passMinutes_15 : decode cX1_passMinutes 15 = .ok (.goto (-13), 3) := by decide +kernel
theorem dX1_passMinutes_18 : decode cX1_passMinutes 18 = .ok (.return_, 1) := by decide +kernel
set_option maxRecDepth 20000 in
theorem ggX1_passMinute_X1_wetPlane : GoodIn wsX1_passMinute wsX1_wetPlane := goodIn_r _ [6, 7, 8, 9, 10, 11, 12, 13, 14, 15, 44, 45, 46, 47, 48, 49, 50, 51, 52, 53, 54, 55, 56, 57, 58, 59] rfl (by decide +kernel)
set_option maxRecDepth 20000 in
theorem gX1_passMinute_X1_wetPlane : GoodIn wsX1_passMinute (wsV RX1 75 RX1 yX1_wetPlane wsX1_wetPlane) := goodIn_app (goodIn_of _ (by decide +kernel)) ggX1_passMinute_X1_wetPlane
set_option maxRecDepth 20000 in
theorem ggX1_passMinute_X1_emptyIntoDrain : GoodIn wsX1_passMinute wsX1_emptyIntoDrain := goodIn_r _ [19, 20, 12, 21, 22, 23, 24, 25, 26, 27, 28, 29, 5, 30, 31, 32, 44, 45, 46, 47, 48, 49, 50, 51, 52, 53, 54, 55, 56, 57, 58, 59] rfl (by decide +kernel)
set_option maxRecDepth 20000 in
theorem gX1_passMinute_X1_emptyIntoDrain : GoodIn wsX1_passMinute (wsV RX1 79 RX1 yX1_emptyIntoDrain wsX1_emptyIntoDrain) := goodIn_app (goodIn_of _ (by decide +kernel)) ggX1_passMinute_X1_emptyIntoDrain
set_option maxRecDepth 20000 in
theorem ggX1_passMinute_X1_overflow : GoodIn wsX1_passMinute wsX1_overflow := goodIn_r _ [36, 12, 37, 38, 39, 40, 41, 5, 42, 43, 32, 13, 14, 15, 44, 45, 46, 47, 48, 49, 50, 51, 52, 53, 54, 55, 56, 57, 58, 59] rfl (by decide +kernel)
set_option maxRecDepth 20000 in
theorem gX1_passMinute_X1_overflow : GoodIn wsX1_passMinute (wsV RX1 82 RX1 yX1_overflow wsX1_overflow) := goodIn_app (goodIn_of _ (by decide +kernel)) ggX1_passMinute_X1_overflow
theorem dX1_passMinute_0 : decode cX1_passMinute 0 = .ok (.iconst 0, 1) := by decide +kernel
theorem dX1_passMinute_1 : decode cX1_passMinute 1 = .ok (.istore_n 2, 1) := by decide +kernel
theorem dX1_passMinute_2 : decode cX1_passMinute 2 = .ok (.iload_n 2, 1) := by decide +kernel
theorem dX1_passMinute_3 : decode cX1_passMinute 3 = .ok (.bipush 6, 2) := by decide +kernel
theorem dX1_passMinute_5 : decode cX1_passMinute 5 = .ok (.if_icmp .ge 15, 3) := by decide +kernel
theorem dX1_passMinute_8 : decode cX1_passMinute 8 = .ok (.aload_n 0, 1) := by decide +kernel
theorem dX1_passMinute_9 : decode cX1_passMinute 9 = .ok (.iload_n 2, 1) := by decide +kernel
theorem dX1_passMinute_10 : decode cX1_passMinute 10 = .ok (.iload_n 1, 1) := by decide +kernel
theorem dX1_passMinute_11 : decode cX1_passMinute 11 = .ok (.invokevirtual 75, 3) := by decide +kernel
theorem dX1_passMinute_14 : decode cX1_passMinute 14 = .ok (.iinc 2 1, 3) := by decide +kernel
theorem dX1_passMinute_17 : decode cX1_passMinute 17 = .ok (.goto (-15), 3) := by decide +kernel
theorem dX1_passMinute_20 : decode cX1_passMinute 20 = .ok (.aload_n 0, 1) := by decide +kernel
theorem dX1_passMinute_21 : decode cX1_passMinute 21 = .ok (.invokevirtual 79, 3) := by decide +kernel
theorem dX1_passMinute_24 : decode cX1_passMinute 24 = .ok (.iconst 0, 1) := by decide +kernel
theorem dX1_passMinute_25 : decode cX1_passMinute 25 = .ok (.istore_n 2, 1) := by decide +kernel
theorem dX1_passMinute_26 : decode cX1_passMinute 26 = .ok (.iload_n 2, 1) := by decide +kernel
theorem dX1_passMinute_27 : decode cX1_passMinute 27 = .ok (.bipush 6, 2) := by decide +kernel
theorem dX1_passMinute_29 : decode cX1_passMinute 29 = .ok (.if_icmp .ge 14, 3) := by decide +kernel
theorem dX1_passMinute_32 : decode cX1_passMinute 32 = .ok (.aload_n 0, 1) := by decide +kernel
theorem dX1_passMinute_33 : decode cX1_passMinute 33 = .ok (.iload_n 2, 1) := by decide +kernel
theorem dX1_passMinute_34 : decode cX1_passMinute 34 = .ok (.invokevirtual 82, 3) := by decide +kernel
theorem dX1_passMinute_37 : decode cX1_passMinute 37 = .ok (.iinc 2 1, 3) := by decide +kernel
theorem dX1_passMinute_40 : decode cX1_passMinute 40 = .ok (.goto (-14), 3) := by decide +kernel
theorem dX1_passMinute_43 : decode cX1_passMinute 43 = .ok (.aload_n 0, 1) := by decide +kernel
theorem dX1_passMinute_44 : decode cX1_passMinute 44 = .ok (.dup, 1) := by decide +kernel
theorem dX1_passMinute_45 : decode cX1_passMinute 45 = .ok (.getfield 54, 3) := by decide +kernel
theorem dX1_passMinute_48 : decode cX1_passMinute 48 = .ok (.iconst 1, 1) := by decide +kernel
theorem dX1_passMinute_49 : decode cX1_passMinute 49 = .ok (.iadd, 1) := by decide +kernel
theorem dX1_passMinute_50 : decode cX1_passMinute 50 = .ok (.putfield 54, 3) := by decide +kernel
theorem dX1_passMinute_53 : decode cX1_passMinute 53 = .ok (.return_, 1) := by decide +kernel
theorem dX1_passWeek_0 : decode cX1_passWeek 0 = .ok (.iconst 0, 1) := by decide +kernel
theorem dX1_passWeek_1 : decode cX1_passWeek 1 = .ok (.istore_n 1, 1) := by decide +kernel
theorem dX1_passWeek_2 : decode cX1_passWeek 2 = .ok (.iload_n 1, 1) := by decide +kernel
theorem dX1_passWeek_3 : decode cX1_passWeek 3 = .ok (.bipush 6, 2) := by decide +kernel
theorem dX1_passWeek_5 : decode cX1_passWeek 5 = .ok (.if_icmp .ge 33, 3) := by decide +kernel
theorem dX1_passWeek_8 : decode cX1_passWeek 8 = .ok (.aload_n 0, 1) := by decide +kernel
theorem dX1_passWeek_9 : decode cX1_passWeek 9 = .ok (.getfield 30, 3) := by decide +kernel
theorem dX1_passWeek_12 : decode cX1_passWeek 12 = .ok (.iload_n 1, 1) := by decide +kernel
theorem dX1_passWeek_13 : decode cX1_passWeek 13 = .ok (.bipush 100, 2) := by decide +kernel
theorem dX1_passWeek_15 : decode cX1_passWeek 15 = .ok (.aload_n 0, 1) := by decide +kernel
theorem dX1_passWeek_16 : decode cX1_passWeek 16 = .ok (.getfield 30, 3) := by decide +kernel
theorem dX1_passWeek_19 : decode cX1_passWeek 19 = .ok (.iload_n 1, 1) := by decide +kernel
theorem dX1_passWeek_20 : decode cX1_passWeek 20 = .ok (.iaload, 1) := by decide +kernel
theorem dX1_passWeek_21 : decode cX1_passWeek 21 = .ok (.aload_n 0, 1) := by decide +kernel
theorem dX1_passWeek_22 : decode cX1_passWeek 22 = .ok (.getfield 45, 3) := by decide +kernel
theorem dX1_passWeek_25 : decode cX1_passWeek 25 = .ok (.iconst 1, 1) := by decide +kernel
theorem dX1_passWeek_26 : decode cX1_passWeek 26 = .ok (.iaload, 1) := by decide +kernel
theorem dX1_passWeek_27 : decode cX1_passWeek 27 = .ok (.iadd, 1) := by decide +kernel
theorem dX1_passWeek_28 : decode cX1_passWeek 28 = .ok (.invokestatic 85, 3) := by decide +kernel
theorem dX1_passWeek_31 : decode cX1_passWeek 31 = .ok (.iastore, 1) := by decide +kernel
theorem dX1_passWeek_32 : decode cX1_passWeek 32 = .ok (.iinc 1 1, 3) := by decide +kernel
theorem dX1_passWeek_35 : decode cX1_passWeek 35 = .ok (.goto (-33), 3) := by decide +kernel
theorem dX1_passWeek_38 : decode cX1_passWeek 38 = .ok (.aload_n 0, 1) := by decide +kernel
theorem dX1_passWeek_39 : decode cX1_passWeek 39 = .ok (.dup, 1) := by decide +kernel
theorem dX1_passWeek_40 : decode cX1_passWeek 40 = .ok (.getfield 58, 3) := by decide +kernel
theorem dX1_passWeek_43 : decode cX1_passWeek 43 = .ok (.iconst 1, 1) := by decide +kernel
theorem dX1_passWeek_44 : decode cX1_passWeek 44 = .ok (.iadd, 1) := by decide +kernel
theorem dX1_passWeek_45 : decode cX1_passWeek 45 = .ok (.putfield 58, 3) := by decide +kernel
theorem dX1_passWeek_48 : decode cX1_passWeek 48 = .ok (.return_, 1) := by decide +kernel
set_option maxRecDepth 20000 in
theorem ggX1_wetPlane_X3_isGutter : GoodIn wsX1_wetPlane wsX3_isGutter := goodIn_r _ [9] rfl (by decide +kernel)
set_option maxRecDepth 20000 in
theorem gX1_wetPlane_X3_isGutter_n67 : GoodIn wsX1_wetPlane (wsX3_isGutter) := ggX1_wetPlane_X3_isGutter
theorem dX1_wetPlane_0 : decode cX1_wetPlane 0 = .ok (.aload_n 0, 1) := by decide +kernel
theorem dX1_wetPlane_1 : decode cX1_wetPlane 1 = .ok (.getfield 9, 3) := by decide +kernel
theorem dX1_wetPlane_4 : decode cX1_wetPlane 4 = .ok (.iload_n 1, 1) := by decide +kernel
theorem dX1_wetPlane_5 : decode cX1_wetPlane 5 = .ok (.iaload, 1) := by decide +kernel
theorem dX1_wetPlane_6 : decode cX1_wetPlane 6 = .ok (.iload_n 2, 1) := by decide +kernel
theorem dX1_wetPlane_7 : decode cX1_wetPlane 7 = .ok (.imul, 1) := by decide +kernel
theorem dX1_wetPlane_8 : decode cX1_wetPlane 8 = .ok (.bipush 10, 2) := by decide +kernel
theorem dX1_wetPlane_10 : decode cX1_wetPlane 10 = .ok (.idiv, 1) := by decide +kernel
theorem dX1_wetPlane_11 : decode cX1_wetPlane 11 = .ok (.istore_n 3, 1) := by decide +kernel
theorem dX1_wetPlane_12 : decode cX1_wetPlane 12 = .ok (.aload_n 0, 1) := by decide +kernel
theorem dX1_wetPlane_13 : decode cX1_wetPlane 13 = .ok (.dup, 1) := by decide +kernel
theorem dX1_wetPlane_14 : decode cX1_wetPlane 14 = .ok (.getfield 61, 3) := by decide +kernel
theorem dX1_wetPlane_17 : decode cX1_wetPlane 17 = .ok (.iload_n 3, 1) := by decide +kernel
theorem dX1_wetPlane_18 : decode cX1_wetPlane 18 = .ok (.iadd, 1) := by decide +kernel
theorem dX1_wetPlane_19 : decode cX1_wetPlane 19 = .ok (.putfield 61, 3) := by decide +kernel
theorem dX1_wetPlane_22 : decode cX1_wetPlane 22 = .ok (.aload_n 0, 1) := by decide +kernel
theorem dX1_wetPlane_23 : decode cX1_wetPlane 23 = .ok (.getfield 21, 3) := by decide +kernel
theorem dX1_wetPlane_26 : decode cX1_wetPlane 26 = .ok (.iload_n 1, 1) := by decide +kernel
theorem dX1_wetPlane_27 : decode cX1_wetPlane 27 = .ok (.dup2, 1) := by decide +kernel
theorem dX1_wetPlane_28 : decode cX1_wetPlane 28 = .ok (.iaload, 1) := by decide +kernel
theorem dX1_wetPlane_29 : decode cX1_wetPlane 29 = .ok (.iload_n 3, 1) := by decide +kernel
theorem dX1_wetPlane_30 : decode cX1_wetPlane 30 = .ok (.iadd, 1) := by decide +kernel
theorem dX1_wetPlane_31 : decode cX1_wetPlane 31 = .ok (.iastore, 1) := by decide +kernel
theorem dX1_wetPlane_32 : decode cX1_wetPlane 32 = .ok (.aload_n 0, 1) := by decide +kernel
theorem dX1_wetPlane_33 : decode cX1_wetPlane 33 = .ok (.getfield 21, 3) := by decide +kernel
theorem dX1_wetPlane_36 : decode cX1_wetPlane 36 = .ok (.iload_n 1, 1) := by decide +kernel
theorem dX1_wetPlane_37 : decode cX1_wetPlane 37 = .ok (.iaload, 1) := by decide +kernel
theorem dX1_wetPlane_38 : decode cX1_wetPlane 38 = .ok (.iconst 5, 1) := by decide +kernel
theorem dX1_wetPlane_39 : decode cX1_wetPlane 39 = .ok (.aload_n 0, 1) := by decide +kernel
theorem dX1_wetPlane_40 : decode cX1_wetPlane 40 = .ok (.getfield 15, 3) := by decide +kernel
theorem dX1_wetPlane_43 : decode cX1_wetPlane 43 = .ok (.iload_n 1, 1) := by decide +kernel
theorem dX1_wetPlane_44 : decode cX1_wetPlane 44 = .ok (.iaload, 1) := by decide +kernel
theorem dX1_wetPlane_45 : decode cX1_wetPlane 45 = .ok (.iadd, 1) := by decide +kernel
theorem dX1_wetPlane_46 : decode cX1_wetPlane 46 = .ok (.imul, 1) := by decide +kernel
theorem dX1_wetPlane_47 : decode cX1_wetPlane 47 = .ok (.bipush 14, 2) := by decide +kernel
theorem dX1_wetPlane_49 : decode cX1_wetPlane 49 = .ok (.idiv, 1) := by decide +kernel
theorem dX1_wetPlane_50 : decode cX1_wetPlane 50 = .ok (.istore 4, 2) := by decide +kernel
theorem dX1_wetPlane_52 : decode cX1_wetPlane 52 = .ok (.iload 4, 2) := by decide +kernel
theorem dX1_wetPlane_54 : decode cX1_wetPlane 54 = .ok (.ifCond .ne 15, 3) := by decide +kernel
theorem dX1_wetPlane_57 : decode cX1_wetPlane 57 = .ok (.aload_n 0, 1) := by decide +kernel
theorem dX1_wetPlane_58 : decode cX1_wetPlane 58 = .ok (.getfield 21, 3) := by decide +kernel
theorem dX1_wetPlane_61 : decode cX1_wetPlane 61 = .ok (.iload_n 1, 1) := by decide +kernel
theorem dX1_wetPlane_62 : decode cX1_wetPlane 62 = .ok (.iaload, 1) := by decide +kernel
theorem dX1_wetPlane_63 : decode cX1_wetPlane 63 = .ok (.ifCond .le 6, 3) := by decide +kernel
theorem dX1_wetPlane_66 : decode cX1_wetPlane 66 = .ok (.iconst 1, 1) := by decide +kernel
theorem dX1_wetPlane_67 : decode cX1_wetPlane 67 = .ok (.istore 4, 2) := by decide +kernel
theorem dX1_wetPlane_69 : decode cX1_wetPlane 69 = .ok (.aload_n 0, 1) := by decide +kernel
theorem dX1_wetPlane_70 : decode cX1_wetPlane 70 = .ok (.getfield 21, 3) := by decide +kernel
theorem dX1_wetPlane_73 : decode cX1_wetPlane 73 = .ok (.iload_n 1, 1) := by decide +kernel
theorem dX1_wetPlane_74 : decode cX1_wetPlane 74 = .ok (.dup2, 1) := by decide +kernel
theorem dX1_wetPlane_75 : decode cX1_wetPlane 75 = .ok (.iaload, 1) := by decide +kernel
theorem dX1_wetPlane_76 : decode cX1_wetPlane 76 = .ok (.iload 4, 2) := by decide +kernel
theorem dX1_wetPlane_78 : decode cX1_wetPlane 78 = .ok (.isub, 1) := by decide +kernel
theorem dX1_wetPlane_79 : decode cX1_wetPlane 79 = .ok (.iastore, 1) := by decide +kernel
theorem dX1_wetPlane_80 : decode cX1_wetPlane 80 = .ok (.aload_n 0, 1) := by decide +kernel
theorem dX1_wetPlane_81 : decode cX1_wetPlane 81 = .ok (.getfield 18, 3) := by decide +kernel
theorem dX1_wetPlane_84 : decode cX1_wetPlane 84 = .ok (.iload_n 1, 1) := by decide +kernel
theorem dX1_wetPlane_85 : decode cX1_wetPlane 85 = .ok (.iaload, 1) := by decide +kernel
theorem dX1_wetPlane_86 : decode cX1_wetPlane 86 = .ok (.istore 5, 2) := by decide +kernel
theorem dX1_wetPlane_88 : decode cX1_wetPlane 88 = .ok (.iload 5, 2) := by decide +kernel
theorem dX1_wetPlane_90 : decode cX1_wetPlane 90 = .ok (.invokestatic 67, 3) := by decide +kernel
theorem dX1_wetPlane_93 : decode cX1_wetPlane 93 = .ok (.ifCond .eq 15, 3) := by decide +kernel
theorem dX1_wetPlane_96 : decode cX1_wetPlane 96 = .ok (.aload_n 0, 1) := by decide +kernel
theorem dX1_wetPlane_97 : decode cX1_wetPlane 97 = .ok (.getfield 36, 3) := by decide +kernel
theorem dX1_wetPlane_100 : decode cX1_wetPlane 100 = .ok (.iload 5, 2) := by decide +kernel
theorem dX1_wetPlane_102 : decode cX1_wetPlane 102 = .ok (.dup2, 1) := by decide +kernel
theorem dX1_wetPlane_103 : decode cX1_wetPlane 103 = .ok (.iaload, 1) := by decide +kernel
theorem dX1_wetPlane_104 : decode cX1_wetPlane 104 = .ok (.iload 4, 2) := by decide +kernel
theorem dX1_wetPlane_106 : decode cX1_wetPlane 106 = .ok (.iadd, 1) := by decide +kernel
theorem dX1_wetPlane_107 : decode cX1_wetPlane 107 = .ok (.iastore, 1) := by decide +kernel
theorem dX1_wetPlane_108 : decode cX1_wetPlane 108 = .ok (.return_, 1) := by decide +kernel
set_option maxRecDepth 20000 in
theorem ggX1_emptyIntoDrain_X1_pipeTakes : GoodIn wsX1_emptyIntoDrain wsX1_pipeTakes := goodIn_r _ [13, 14, 15, 16, 17, 18, 19, 20, 21, 22, 23, 24, 25, 26, 27, 28, 29, 30, 31] rfl (by decide +kernel)
set_option maxRecDepth 20000 in
theorem gX1_emptyIntoDrain_X1_pipeTakes : GoodIn wsX1_emptyIntoDrain (wsV RX1 91 RX1 yX1_pipeTakes wsX1_pipeTakes) := goodIn_app (goodIn_of _ (by decide +kernel)) ggX1_emptyIntoDrain_X1_pipeTakes
theorem dX1_emptyIntoDrain_0 : decode cX1_emptyIntoDrain 0 = .ok (.aload_n 0, 1) := by decide +kernel
theorem dX1_emptyIntoDrain_1 : decode cX1_emptyIntoDrain 1 = .ok (.getfield 45, 3) := by decide +kernel
theorem dX1_emptyIntoDrain_4 : decode cX1_emptyIntoDrain 4 = .ok (.iconst 0, 1) := by decide +kernel
theorem dX1_emptyIntoDrain_5 : decode cX1_emptyIntoDrain 5 = .ok (.iaload, 1) := by decide +kernel
theorem dX1_emptyIntoDrain_6 : decode cX1_emptyIntoDrain 6 = .ok (.istore_n 1, 1) := by decide +kernel
theorem dX1_emptyIntoDrain_7 : decode cX1_emptyIntoDrain 7 = .ok (.iconst 0, 1) := by decide +kernel
theorem dX1_emptyIntoDrain_8 : decode cX1_emptyIntoDrain 8 = .ok (.istore_n 2, 1) := by decide +kernel
theorem dX1_emptyIntoDrain_9 : decode cX1_emptyIntoDrain 9 = .ok (.iconst 0, 1) := by decide +kernel
theorem dX1_emptyIntoDrain_10 : decode cX1_emptyIntoDrain 10 = .ok (.istore_n 3, 1) := by decide +kernel
theorem dX1_emptyIntoDrain_11 : decode cX1_emptyIntoDrain 11 = .ok (.iload_n 3, 1) := by decide +kernel
theorem dX1_emptyIntoDrain_12 : decode cX1_emptyIntoDrain 12 = .ok (.bipush 6, 2) := by decide +kernel
theorem dX1_emptyIntoDrain_14 : decode cX1_emptyIntoDrain 14 = .ok (.if_icmp .ge 77, 3) := by decide +kernel
theorem dX1_emptyIntoDrain_17 : decode cX1_emptyIntoDrain 17 = .ok (.aload_n 0, 1) := by decide +kernel
theorem dX1_emptyIntoDrain_18 : decode cX1_emptyIntoDrain 18 = .ok (.iload_n 3, 1) := by decide +kernel
theorem dX1_emptyIntoDrain_19 : decode cX1_emptyIntoDrain 19 = .ok (.invokevirtual 91, 3) := by decide +kernel
theorem dX1_emptyIntoDrain_22 : decode cX1_emptyIntoDrain 22 = .ok (.aload_n 0, 1) := by decide +kernel
theorem dX1_emptyIntoDrain_23 : decode cX1_emptyIntoDrain 23 = .ok (.getfield 36, 3) := by decide +kernel
theorem dX1_emptyIntoDrain_26 : decode cX1_emptyIntoDrain 26 = .ok (.iload_n 3, 1) := by decide +kernel
theorem dX1_emptyIntoDrain_27 : decode cX1_emptyIntoDrain 27 = .ok (.iaload, 1) := by decide +kernel
theorem dX1_emptyIntoDrain_28 : decode cX1_emptyIntoDrain 28 = .ok (.invokestatic 85, 3) := by decide +kernel
theorem dX1_emptyIntoDrain_31 : decode cX1_emptyIntoDrain 31 = .ok (.istore 4, 2) := by decide +kernel
theorem dX1_emptyIntoDrain_33 : decode cX1_emptyIntoDrain 33 = .ok (.iload 4, 2) := by decide +kernel
theorem dX1_emptyIntoDrain_35 : decode cX1_emptyIntoDrain 35 = .ok (.iload_n 1, 1) := by decide +kernel
theorem dX1_emptyIntoDrain_36 : decode cX1_emptyIntoDrain 36 = .ok (.invokestatic 85, 3) := by decide +kernel
theorem dX1_emptyIntoDrain_39 : decode cX1_emptyIntoDrain 39 = .ok (.istore 5, 2) := by decide +kernel
theorem dX1_emptyIntoDrain_41 : decode cX1_emptyIntoDrain 41 = .ok (.aload_n 0, 1) := by decide +kernel
theorem dX1_emptyIntoDrain_42 : decode cX1_emptyIntoDrain 42 = .ok (.getfield 36, 3) := by decide +kernel
theorem dX1_emptyIntoDrain_45 : decode cX1_emptyIntoDrain 45 = .ok (.iload_n 3, 1) := by decide +kernel
theorem dX1_emptyIntoDrain_46 : decode cX1_emptyIntoDrain 46 = .ok (.dup2, 1) := by decide +kernel
theorem dX1_emptyIntoDrain_47 : decode cX1_emptyIntoDrain 47 = .ok (.iaload, 1) := by decide +kernel
theorem dX1_emptyIntoDrain_48 : decode cX1_emptyIntoDrain 48 = .ok (.iload 5, 2) := by decide +kernel
theorem dX1_emptyIntoDrain_50 : decode cX1_emptyIntoDrain 50 = .ok (.isub, 1) := by decide +kernel
theorem dX1_emptyIntoDrain_51 : decode cX1_emptyIntoDrain 51 = .ok (.iastore, 1) := by decide +kernel
theorem dX1_emptyIntoDrain_52 : decode cX1_emptyIntoDrain 52 = .ok (.aload_n 0, 1) := by decide +kernel
theorem dX1_emptyIntoDrain_53 : decode cX1_emptyIntoDrain 53 = .ok (.getfield 42, 3) := by decide +kernel
theorem dX1_emptyIntoDrain_56 : decode cX1_emptyIntoDrain 56 = .ok (.iload_n 3, 1) := by decide +kernel
theorem dX1_emptyIntoDrain_57 : decode cX1_emptyIntoDrain 57 = .ok (.dup2, 1) := by decide +kernel
theorem dX1_emptyIntoDrain_58 : decode cX1_emptyIntoDrain 58 = .ok (.iaload, 1) := by decide +kernel
theorem dX1_emptyIntoDrain_59 : decode cX1_emptyIntoDrain 59 = .ok (.iload 5, 2) := by decide +kernel
theorem dX1_emptyIntoDrain_61 : decode cX1_emptyIntoDrain 61 = .ok (.iadd, 1) := by decide +kernel
theorem dX1_emptyIntoDrain_62 : decode cX1_emptyIntoDrain 62 = .ok (.iastore, 1) := by decide +kernel
theorem dX1_emptyIntoDrain_63 : decode cX1_emptyIntoDrain 63 = .ok (.iload_n 1, 1) := by decide +kernel
theorem dX1_emptyIntoDrain_64 : decode cX1_emptyIntoDrain 64 = .ok (.iload 5, 2) := by decide +kernel
theorem dX1_emptyIntoDrain_66 : decode cX1_emptyIntoDrain 66 = .ok (.isub, 1) := by decide +kernel
theorem dX1_emptyIntoDrain_67 : decode cX1_emptyIntoDrain 67 = .ok (.istore_n 1, 1) := by decide +kernel
theorem dX1_emptyIntoDrain_68 : decode cX1_emptyIntoDrain 68 = .ok (.iload_n 2, 1) := by decide +kernel
theorem dX1_emptyIntoDrain_69 : decode cX1_emptyIntoDrain 69 = .ok (.ifCond .ne 10, 3) := by decide +kernel
theorem dX1_emptyIntoDrain_72 : decode cX1_emptyIntoDrain 72 = .ok (.iload 5, 2) := by decide +kernel
theorem dX1_emptyIntoDrain_74 : decode cX1_emptyIntoDrain 74 = .ok (.iload 4, 2) := by decide +kernel
theorem dX1_emptyIntoDrain_76 : decode cX1_emptyIntoDrain 76 = .ok (.if_icmp .ge 7, 3) := by decide +kernel
theorem dX1_emptyIntoDrain_79 : decode cX1_emptyIntoDrain 79 = .ok (.iconst 1, 1) := by decide +kernel
theorem dX1_emptyIntoDrain_80 : decode cX1_emptyIntoDrain 80 = .ok (.goto 4, 3) := by decide +kernel
theorem dX1_emptyIntoDrain_83 : decode cX1_emptyIntoDrain 83 = .ok (.iconst 0, 1) := by decide +kernel
theorem dX1_emptyIntoDrain_84 : decode cX1_emptyIntoDrain 84 = .ok (.istore_n 2, 1) := by decide +kernel
theorem dX1_emptyIntoDrain_85 : decode cX1_emptyIntoDrain 85 = .ok (.iinc 3 1, 3) := by decide +kernel
theorem dX1_emptyIntoDrain_88 : decode cX1_emptyIntoDrain 88 = .ok (.goto (-77), 3) := by decide +kernel
theorem dX1_emptyIntoDrain_91 : decode cX1_emptyIntoDrain 91 = .ok (.iload_n 2, 1) := by decide +kernel
theorem dX1_emptyIntoDrain_92 : decode cX1_emptyIntoDrain 92 = .ok (.ifCond .eq 13, 3) := by decide +kernel
theorem dX1_emptyIntoDrain_95 : decode cX1_emptyIntoDrain 95 = .ok (.aload_n 0, 1) := by decide +kernel
theorem dX1_emptyIntoDrain_96 : decode cX1_emptyIntoDrain 96 = .ok (.dup, 1) := by decide +kernel
theorem dX1_emptyIntoDrain_97 : decode cX1_emptyIntoDrain 97 = .ok (.getfield 64, 3) := by decide +kernel
theorem dX1_emptyIntoDrain_100 : decode cX1_emptyIntoDrain 100 = .ok (.iconst 1, 1) := by decide +kernel
theorem dX1_emptyIntoDrain_101 : decode cX1_emptyIntoDrain 101 = .ok (.iadd, 1) := by decide +kernel
theorem dX1_emptyIntoDrain_102 : decode cX1_emptyIntoDrain 102 = .ok (.putfield 64, 3) := by decide +kernel
theorem dX1_emptyIntoDrain_105 : decode cX1_emptyIntoDrain 105 = .ok (.return_, 1) := by decide +kernel
set_option maxRecDepth 20000 in
theorem ggX1_overflow_X1_room : GoodIn wsX1_overflow wsX1_room := goodIn_r _ [8, 9, 10, 14, 15, 16, 17, 18, 19, 20, 21, 22, 23, 24, 25, 26, 27, 28, 29] rfl (by decide +kernel)
set_option maxRecDepth 20000 in
theorem gX1_overflow_X1_room : GoodIn wsX1_overflow (wsV RX1 95 RX1 yX1_room wsX1_room) := goodIn_app (goodIn_of _ (by decide +kernel)) ggX1_overflow_X1_room
set_option maxRecDepth 20000 in
theorem ggX1_overflow_X3_isGutter : GoodIn wsX1_overflow wsX3_isGutter := goodIn_r _ [13] rfl (by decide +kernel)
set_option maxRecDepth 20000 in
theorem gX1_overflow_X3_isGutter_n67 : GoodIn wsX1_overflow (wsX3_isGutter) := ggX1_overflow_X3_isGutter
theorem dX1_overflow_0 : decode cX1_overflow 0 = .ok (.aload_n 0, 1) := by decide +kernel
theorem dX1_overflow_1 : decode cX1_overflow 1 = .ok (.getfield 36, 3) := by decide +kernel
theorem dX1_overflow_4 : decode cX1_overflow 4 = .ok (.iload_n 1, 1) := by decide +kernel
theorem dX1_overflow_5 : decode cX1_overflow 5 = .ok (.iaload, 1) := by decide +kernel
theorem dX1_overflow_6 : decode cX1_overflow 6 = .ok (.aload_n 0, 1) := by decide +kernel
theorem dX1_overflow_7 : decode cX1_overflow 7 = .ok (.iload_n 1, 1) := by decide +kernel
theorem dX1_overflow_8 : decode cX1_overflow 8 = .ok (.invokevirtual 95, 3) := by decide +kernel
theorem dX1_overflow_11 : decode cX1_overflow 11 = .ok (.isub, 1) := by decide +kernel
theorem dX1_overflow_12 : decode cX1_overflow 12 = .ok (.istore_n 2, 1) := by decide +kernel
theorem dX1_overflow_13 : decode cX1_overflow 13 = .ok (.iload_n 2, 1) := by decide +kernel
theorem dX1_overflow_14 : decode cX1_overflow 14 = .ok (.ifCond .gt 4, 3) := by decide +kernel
theorem dX1_overflow_17 : decode cX1_overflow 17 = .ok (.return_, 1) := by decide +kernel
theorem dX1_overflow_18 : decode cX1_overflow 18 = .ok (.aload_n 0, 1) := by decide +kernel
theorem dX1_overflow_19 : decode cX1_overflow 19 = .ok (.getfield 36, 3) := by decide +kernel
theorem dX1_overflow_22 : decode cX1_overflow 22 = .ok (.iload_n 1, 1) := by decide +kernel
theorem dX1_overflow_23 : decode cX1_overflow 23 = .ok (.dup2, 1) := by decide +kernel
theorem dX1_overflow_24 : decode cX1_overflow 24 = .ok (.iaload, 1) := by decide +kernel
theorem dX1_overflow_25 : decode cX1_overflow 25 = .ok (.iload_n 2, 1) := by decide +kernel
theorem dX1_overflow_26 : decode cX1_overflow 26 = .ok (.isub, 1) := by decide +kernel
theorem dX1_overflow_27 : decode cX1_overflow 27 = .ok (.iastore, 1) := by decide +kernel
theorem dX1_overflow_28 : decode cX1_overflow 28 = .ok (.aload_n 0, 1) := by decide +kernel
theorem dX1_overflow_29 : decode cX1_overflow 29 = .ok (.getfield 33, 3) := by decide +kernel
theorem dX1_overflow_32 : decode cX1_overflow 32 = .ok (.iload_n 1, 1) := by decide +kernel
theorem dX1_overflow_33 : decode cX1_overflow 33 = .ok (.iaload, 1) := by decide +kernel
theorem dX1_overflow_34 : decode cX1_overflow 34 = .ok (.istore_n 3, 1) := by decide +kernel
theorem dX1_overflow_35 : decode cX1_overflow 35 = .ok (.iload_n 3, 1) := by decide +kernel
theorem dX1_overflow_36 : decode cX1_overflow 36 = .ok (.invokestatic 67, 3) := by decide +kernel
theorem dX1_overflow_39 : decode cX1_overflow 39 = .ok (.ifCond .eq 16, 3) := by decide +kernel
theorem dX1_overflow_42 : decode cX1_overflow 42 = .ok (.aload_n 0, 1) := by decide +kernel
theorem dX1_overflow_43 : decode cX1_overflow 43 = .ok (.getfield 36, 3) := by decide +kernel
theorem dX1_overflow_46 : decode cX1_overflow 46 = .ok (.iload_n 3, 1) := by decide +kernel
theorem dX1_overflow_47 : decode cX1_overflow 47 = .ok (.dup2, 1) := by decide +kernel
theorem dX1_overflow_48 : decode cX1_overflow 48 = .ok (.iaload, 1) := by decide +kernel
theorem dX1_overflow_49 : decode cX1_overflow 49 = .ok (.iload_n 2, 1) := by decide +kernel
theorem dX1_overflow_50 : decode cX1_overflow 50 = .ok (.iadd, 1) := by decide +kernel
theorem dX1_overflow_51 : decode cX1_overflow 51 = .ok (.iastore, 1) := by decide +kernel
theorem dX1_overflow_52 : decode cX1_overflow 52 = .ok (.goto 13, 3) := by decide +kernel
theorem dX1_overflow_55 : decode cX1_overflow 55 = .ok (.aload_n 0, 1) := by decide +kernel
theorem dX1_overflow_56 : decode cX1_overflow 56 = .ok (.getfield 39, 3) := by decide +kernel
theorem dX1_overflow_59 : decode cX1_overflow 59 = .ok (.iload_n 1, 1) := by decide +kernel
theorem dX1_overflow_60 : decode cX1_overflow 60 = .ok (.dup2, 1) := by decide +kernel
theorem dX1_overflow_61 : decode cX1_overflow 61 = .ok (.iaload, 1) := by decide +kernel
theorem dX1_overflow_62 : decode cX1_overflow 62 = .ok (.iload_n 2, 1) := by decide +kernel
theorem dX1_overflow_63 : decode cX1_overflow 63 = .ok (.iadd, 1) := by decide +kernel
theorem dX1_overflow_64 : decode cX1_overflow 64 = .ok (.iastore, 1) := by decide +kernel
theorem dX1_overflow_65 : decode cX1_overflow 65 = .ok (.return_, 1) := by decide +kernel
theorem dX1_room_0 : decode cX1_room 0 = .ok (.aload_n 0, 1) := by decide +kernel
theorem dX1_room_1 : decode cX1_room 1 = .ok (.getfield 24, 3) := by decide +kernel
theorem dX1_room_4 : decode cX1_room 4 = .ok (.iload_n 1, 1) := by decide +kernel
theorem dX1_room_5 : decode cX1_room 5 = .ok (.iaload, 1) := by decide +kernel
theorem dX1_room_6 : decode cX1_room 6 = .ok (.bipush 100, 2) := by decide +kernel
theorem dX1_room_8 : decode cX1_room 8 = .ok (.aload_n 0, 1) := by decide +kernel
theorem dX1_room_9 : decode cX1_room 9 = .ok (.getfield 30, 3) := by decide +kernel
theorem dX1_room_12 : decode cX1_room 12 = .ok (.iload_n 1, 1) := by decide +kernel
theorem dX1_room_13 : decode cX1_room 13 = .ok (.iaload, 1) := by decide +kernel
theorem dX1_room_14 : decode cX1_room 14 = .ok (.isub, 1) := by decide +kernel
theorem dX1_room_15 : decode cX1_room 15 = .ok (.imul, 1) := by decide +kernel
theorem dX1_room_16 : decode cX1_room 16 = .ok (.bipush 100, 2) := by decide +kernel
theorem dX1_room_18 : decode cX1_room 18 = .ok (.idiv, 1) := by decide +kernel
theorem dX1_room_19 : decode cX1_room 19 = .ok (.ireturn, 1) := by decide +kernel
theorem dX1_pipeTakes_0 : decode cX1_pipeTakes 0 = .ok (.aload_n 0, 1) := by decide +kernel
theorem dX1_pipeTakes_1 : decode cX1_pipeTakes 1 = .ok (.getfield 27, 3) := by decide +kernel
theorem dX1_pipeTakes_4 : decode cX1_pipeTakes 4 = .ok (.iload_n 1, 1) := by decide +kernel
theorem dX1_pipeTakes_5 : decode cX1_pipeTakes 5 = .ok (.iaload, 1) := by decide +kernel
theorem dX1_pipeTakes_6 : decode cX1_pipeTakes 6 = .ok (.bipush 100, 2) := by decide +kernel
theorem dX1_pipeTakes_8 : decode cX1_pipeTakes 8 = .ok (.aload_n 0, 1) := by decide +kernel
theorem dX1_pipeTakes_9 : decode cX1_pipeTakes 9 = .ok (.getfield 30, 3) := by decide +kernel
theorem dX1_pipeTakes_12 : decode cX1_pipeTakes 12 = .ok (.iload_n 1, 1) := by decide +kernel
theorem dX1_pipeTakes_13 : decode cX1_pipeTakes 13 = .ok (.iaload, 1) := by decide +kernel
theorem dX1_pipeTakes_14 : decode cX1_pipeTakes 14 = .ok (.isub, 1) := by decide +kernel
theorem dX1_pipeTakes_15 : decode cX1_pipeTakes 15 = .ok (.imul, 1) := by decide +kernel
theorem dX1_pipeTakes_16 : decode cX1_pipeTakes 16 = .ok (.bipush 100, 2) := by decide +kernel
theorem dX1_pipeTakes_18 : decode cX1_pipeTakes 18 = .ok (.idiv, 1) := by decide +kernel
theorem dX1_pipeTakes_19 : decode cX1_pipeTakes 19 = .ok (.istore_n 2, 1) := by decide +kernel
theorem dX1_pipeTakes_20 : decode cX1_pipeTakes 20 = .ok (.iload_n 2, 1) := by decide +kernel
theorem dX1_pipeTakes_21 : decode cX1_pipeTakes 21 = .ok (.ifCond .ne 16, 3) := by decide +kernel
theorem dX1_pipeTakes_24 : decode cX1_pipeTakes 24 = .ok (.aload_n 0, 1) := by decide +kernel
theorem dX1_pipeTakes_25 : decode cX1_pipeTakes 25 = .ok (.getfield 27, 3) := by decide +kernel
theorem dX1_pipeTakes_28 : decode cX1_pipeTakes 28 = .ok (.iload_n 1, 1) := by decide +kernel
theorem dX1_pipeTakes_29 : decode cX1_pipeTakes 29 = .ok (.iaload, 1) := by decide +kernel
theorem dX1_pipeTakes_30 : decode cX1_pipeTakes 30 = .ok (.ifCond .eq 7, 3) := by decide +kernel
theorem dX1_pipeTakes_33 : decode cX1_pipeTakes 33 = .ok (.iconst 1, 1) := by decide +kernel
theorem dX1_pipeTakes_34 : decode cX1_pipeTakes 34 = .ok (.goto 4, 3) := by decide +kernel
theorem dX1_pipeTakes_37 : decode cX1_pipeTakes 37 = .ok (.iload_n 2, 1) := by decide +kernel
theorem dX1_pipeTakes_38 : decode cX1_pipeTakes 38 = .ok (.ireturn, 1) := by decide +kernel
theorem dX1_planeNumber_0 : decode cX1_planeNumber 0 = .ok (.iload_n 2, 1) := by decide +kernel
theorem dX1_planeNumber_1 : decode cX1_planeNumber 1 = .ok (.tableswitch 48 0 2 #[27, 34, 41], 27) := by decide +kernel
theorem dX1_planeNumber_28 : decode cX1_planeNumber 28 = .ok (.aload_n 0, 1) := by decide +kernel
theorem dX1_planeNumber_29 : decode cX1_planeNumber 29 = .ok (.getfield 9, 3) := by decide +kernel
theorem dX1_planeNumber_32 : decode cX1_planeNumber 32 = .ok (.iload_n 1, 1) := by decide +kernel
theorem dX1_planeNumber_33 : decode cX1_planeNumber 33 = .ok (.iaload, 1) := by decide +kernel
theorem dX1_planeNumber_34 : decode cX1_planeNumber 34 = .ok (.ireturn, 1) := by decide +kernel
theorem dX1_planeNumber_35 : decode cX1_planeNumber 35 = .ok (.aload_n 0, 1) := by decide +kernel
theorem dX1_planeNumber_36 : decode cX1_planeNumber 36 = .ok (.getfield 15, 3) := by decide +kernel
theorem dX1_planeNumber_39 : decode cX1_planeNumber 39 = .ok (.iload_n 1, 1) := by decide +kernel
theorem dX1_planeNumber_40 : decode cX1_planeNumber 40 = .ok (.iaload, 1) := by decide +kernel
theorem dX1_planeNumber_41 : decode cX1_planeNumber 41 = .ok (.ireturn, 1) := by decide +kernel
theorem dX1_planeNumber_42 : decode cX1_planeNumber 42 = .ok (.aload_n 0, 1) := by decide +kernel
theorem dX1_planeNumber_43 : decode cX1_planeNumber 43 = .ok (.getfield 18, 3) := by decide +kernel
theorem dX1_planeNumber_46 : decode cX1_planeNumber 46 = .ok (.iload_n 1, 1) := by decide +kernel
theorem dX1_planeNumber_47 : decode cX1_planeNumber 47 = .ok (.iaload, 1) := by decide +kernel
theorem dX1_planeNumber_48 : decode cX1_planeNumber 48 = .ok (.ireturn, 1) := by decide +kernel
theorem dX1_planeNumber_49 : decode cX1_planeNumber 49 = .ok (.aload_n 0, 1) := by decide +kernel
theorem dX1_planeNumber_50 : decode cX1_planeNumber 50 = .ok (.getfield 21, 3) := by decide +kernel
theorem dX1_planeNumber_53 : decode cX1_planeNumber 53 = .ok (.iload_n 1, 1) := by decide +kernel
theorem dX1_planeNumber_54 : decode cX1_planeNumber 54 = .ok (.iaload, 1) := by decide +kernel
theorem dX1_planeNumber_55 : decode cX1_planeNumber 55 = .ok (.ireturn, 1) := by decide +kernel
set_option maxRecDepth 20000 in
theorem ggX1_gutterNumber_X1_room : GoodIn wsX1_gutterNumber wsX1_room := goodIn_r _ [12, 1, 3, 17, 18, 19, 20, 21, 22, 23, 24, 25, 26, 27, 28, 29, 30, 31, 32] rfl (by decide +kernel)
set_option maxRecDepth 20000 in
theorem gX1_gutterNumber_X1_room : GoodIn wsX1_gutterNumber (wsV RX1 95 RX1 yX1_room wsX1_room) := goodIn_app (goodIn_of _ (by decide +kernel)) ggX1_gutterNumber_X1_room
set_option maxRecDepth 20000 in
theorem ggX1_gutterNumber_X1_pipeTakes : GoodIn wsX1_gutterNumber wsX1_pipeTakes := goodIn_r _ [16, 2, 3, 17, 18, 19, 20, 21, 22, 23, 24, 25, 26, 27, 28, 29, 30, 31, 32] rfl (by decide +kernel)
set_option maxRecDepth 20000 in
theorem gX1_gutterNumber_X1_pipeTakes : GoodIn wsX1_gutterNumber (wsV RX1 91 RX1 yX1_pipeTakes wsX1_pipeTakes) := goodIn_app (goodIn_of _ (by decide +kernel)) ggX1_gutterNumber_X1_pipeTakes
theorem dX1_gutterNumber_0 : decode cX1_gutterNumber 0 = .ok (.iload_n 2, 1) := by decide +kernel
theorem dX1_gutterNumber_1 : decode cX1_gutterNumber 1 = .ok (.tableswitch 101 0 7 #[47, 54, 61, 68, 75, 82, 88, 94], 47) := by decide +kernel
theorem dX1_gutterNumber_48 : decode cX1_gutterNumber 48 = .ok (.aload_n 0, 1) := by decide +kernel
theorem dX1_gutterNumber_49 : decode cX1_gutterNumber 49 = .ok (.getfield 24, 3) := by decide +kernel
theorem dX1_gutterNumber_52 : decode cX1_gutterNumber 52 = .ok (.iload_n 1, 1) := by decide +kernel
theorem dX1_gutterNumber_53 : decode cX1_gutterNumber 53 = .ok (.iaload, 1) := by decide +kernel
theorem dX1_gutterNumber_54 : decode cX1_gutterNumber 54 = .ok (.ireturn, 1) := by decide +kernel
theorem dX1_gutterNumber_55 : decode cX1_gutterNumber 55 = .ok (.aload_n 0, 1) := by decide +kernel
theorem dX1_gutterNumber_56 : decode cX1_gutterNumber 56 = .ok (.getfield 27, 3) := by decide +kernel
theorem dX1_gutterNumber_59 : decode cX1_gutterNumber 59 = .ok (.iload_n 1, 1) := by decide +kernel
theorem dX1_gutterNumber_60 : decode cX1_gutterNumber 60 = .ok (.iaload, 1) := by decide +kernel
theorem dX1_gutterNumber_61 : decode cX1_gutterNumber 61 = .ok (.ireturn, 1) := by decide +kernel
theorem dX1_gutterNumber_62 : decode cX1_gutterNumber 62 = .ok (.aload_n 0, 1) := by decide +kernel
theorem dX1_gutterNumber_63 : decode cX1_gutterNumber 63 = .ok (.getfield 30, 3) := by decide +kernel
theorem dX1_gutterNumber_66 : decode cX1_gutterNumber 66 = .ok (.iload_n 1, 1) := by decide +kernel
theorem dX1_gutterNumber_67 : decode cX1_gutterNumber 67 = .ok (.iaload, 1) := by decide +kernel
theorem dX1_gutterNumber_68 : decode cX1_gutterNumber 68 = .ok (.ireturn, 1) := by decide +kernel
theorem dX1_gutterNumber_69 : decode cX1_gutterNumber 69 = .ok (.aload_n 0, 1) := by decide +kernel
theorem dX1_gutterNumber_70 : decode cX1_gutterNumber 70 = .ok (.getfield 33, 3) := by decide +kernel
theorem dX1_gutterNumber_73 : decode cX1_gutterNumber 73 = .ok (.iload_n 1, 1) := by decide +kernel
theorem dX1_gutterNumber_74 : decode cX1_gutterNumber 74 = .ok (.iaload, 1) := by decide +kernel
theorem dX1_gutterNumber_75 : decode cX1_gutterNumber 75 = .ok (.ireturn, 1) := by decide +kernel
theorem dX1_gutterNumber_76 : decode cX1_gutterNumber 76 = .ok (.aload_n 0, 1) := by decide +kernel
theorem dX1_gutterNumber_77 : decode cX1_gutterNumber 77 = .ok (.getfield 36, 3) := by decide +kernel
theorem dX1_gutterNumber_80 : decode cX1_gutterNumber 80 = .ok (.iload_n 1, 1) := by decide +kernel
theorem dX1_gutterNumber_81 : decode cX1_gutterNumber 81 = .ok (.iaload, 1) := by decide +kernel
theorem dX1_gutterNumber_82 : decode cX1_gutterNumber 82 = .ok (.ireturn, 1) := by decide +kernel
theorem dX1_gutterNumber_83 : decode cX1_gutterNumber 83 = .ok (.aload_n 0, 1) := by decide +kernel
theorem dX1_gutterNumber_84 : decode cX1_gutterNumber 84 = .ok (.iload_n 1, 1) := by decide +kernel
theorem dX1_gutterNumber_85 : decode cX1_gutterNumber 85 = .ok (.invokevirtual 95, 3) := by decide +kernel
theorem dX1_gutterNumber_88 : decode cX1_gutterNumber 88 = .ok (.ireturn, 1) := by decide +kernel
theorem dX1_gutterNumber_89 : decode cX1_gutterNumber 89 = .ok (.aload_n 0, 1) := by decide +kernel
theorem dX1_gutterNumber_90 : decode cX1_gutterNumber 90 = .ok (.iload_n 1, 1) := by decide +kernel
theorem dX1_gutterNumber_91 : decode cX1_gutterNumber 91 = .ok (.invokevirtual 91, 3) := by decide +kernel
theorem dX1_gutterNumber_94 : decode cX1_gutterNumber 94 = .ok (.ireturn, 1) := by decide +kernel
theorem dX1_gutterNumber_95 : decode cX1_gutterNumber 95 = .ok (.aload_n 0, 1) := by decide +kernel
theorem dX1_gutterNumber_96 : decode cX1_gutterNumber 96 = .ok (.getfield 39, 3) := by decide +kernel
theorem dX1_gutterNumber_99 : decode cX1_gutterNumber 99 = .ok (.iload_n 1, 1) := by decide +kernel
theorem dX1_gutterNumber_100 : decode cX1_gutterNumber 100 = .ok (.iaload, 1) := by decide +kernel
theorem dX1_gutterNumber_101 : decode cX1_gutterNumber 101 = .ok (.ireturn, 1) := by decide +kernel
theorem dX1_gutterNumber_102 : decode cX1_gutterNumber 102 = .ok (.aload_n 0, 1) := by decide +kernel
theorem dX1_gutterNumber_103 : decode cX1_gutterNumber 103 = .ok (.getfield 42, 3) := by decide +kernel
theorem dX1_gutterNumber_106 : decode cX1_gutterNumber 106 = .ok (.iload_n 1, 1) := by decide +kernel
theorem dX1_gutterNumber_107 : decode cX1_gutterNumber 107 = .ok (.iaload, 1) := by decide +kernel
theorem dX1_gutterNumber_108 : decode cX1_gutterNumber 108 = .ok (.ireturn, 1) := by decide +kernel
theorem dX1_settingValue_0 : decode cX1_settingValue 0 = .ok (.aload_n 0, 1) := by decide +kernel
theorem dX1_settingValue_1 : decode cX1_settingValue 1 = .ok (.getfield 45, 3) := by decide +kernel
theorem dX1_settingValue_4 : decode cX1_settingValue 4 = .ok (.iload_n 1, 1) := by decide +kernel
theorem dX1_settingValue_5 : decode cX1_settingValue 5 = .ok (.iaload, 1) := by decide +kernel
theorem dX1_settingValue_6 : decode cX1_settingValue 6 = .ok (.ireturn, 1) := by decide +kernel
theorem dX1_minutesGone_0 : decode cX1_minutesGone 0 = .ok (.aload_n 0, 1) := by decide +kernel
theorem dX1_minutesGone_1 : decode cX1_minutesGone 1 = .ok (.getfield 54, 3) := by decide +kernel
theorem dX1_minutesGone_4 : decode cX1_minutesGone 4 = .ok (.ireturn, 1) := by decide +kernel
theorem dX1_weeksPassed_0 : decode cX1_weeksPassed 0 = .ok (.aload_n 0, 1) := by decide +kernel
theorem dX1_weeksPassed_1 : decode cX1_weeksPassed 1 = .ok (.getfield 58, 3) := by decide +kernel
theorem dX1_weeksPassed_4 : decode cX1_weeksPassed 4 = .ok (.ireturn, 1) := by decide +kernel
theorem dX1_rainedLitres_0 : decode cX1_rainedLitres 0 = .ok (.aload_n 0, 1) := by decide +kernel
theorem dX1_rainedLitres_1 : decode cX1_rainedLitres 1 = .ok (.getfield 61, 3) := by decide +kernel
theorem dX1_rainedLitres_4 : decode cX1_rainedLitres 4 = .ok (.ireturn, 1) := by decide +kernel
theorem dX1_backedUpMinutes_0 : decode cX1_backedUpMinutes 0 = .ok (.aload_n 0, 1) := by decide +kernel
theorem dX1_backedUpMinutes_1 : decode cX1_backedUpMinutes 1 = .ok (.getfield 64, 3) := by decide +kernel
theorem dX1_backedUpMinutes_4 : decode cX1_backedUpMinutes 4 = .ok (.ireturn, 1) := by decide +kernel
set_option maxRecDepth 20000 in
theorem ggX1_standingLitres_X1_sumOf : GoodIn wsX1_standingLitres wsX1_sumOf := goodIn_r _ [6] rfl (by decide +kernel)
set_option maxRecDepth 20000 in
theorem gX1_standingLitres_X1_sumOf : GoodIn wsX1_standingLitres (va_wsS RX1 98 yX1_sumOf wsX1_sumOf) := goodIn_app (goodIn_of _ (by decide +kernel)) ggX1_standingLitres_X1_sumOf
theorem dX1_standingLitres_0 : decode cX1_standingLitres 0 = .ok (.aload_n 0, 1) := by decide +kernel
theorem dX1_standingLitres_1 : decode cX1_standingLitres 1 = .ok (.getfield 21, 3) := by decide +kernel
theorem dX1_standingLitres_4 : decode cX1_standingLitres 4 = .ok (.invokestatic 98, 3) := by decide +kernel
theorem dX1_standingLitres_7 : decode cX1_standingLitres 7 = .ok (.aload_n 0, 1) := by decide +kernel
theorem dX1_standingLitres_8 : decode cX1_standingLitres 8 = .ok (.getfield 36, 3) := by decide +kernel
theorem dX1_standingLitres_11 : decode cX1_standingLitres 11 = .ok (.invokestatic 98, 3) := by decide +kernel
theorem dX1_standingLitres_14 : decode cX1_standingLitres 14 = .ok (.iadd, 1) := by decide +kernel
theorem dX1_standingLitres_15 : decode cX1_standingLitres 15 = .ok (.ireturn, 1) := by decide +kernel
set_option maxRecDepth 20000 in
theorem ggX1_drainedLitres_X1_sumOf : GoodIn wsX1_drainedLitres wsX1_sumOf := goodIn_r _ [5] rfl (by decide +kernel)
set_option maxRecDepth 20000 in
theorem gX1_drainedLitres_X1_sumOf : GoodIn wsX1_drainedLitres (va_wsS RX1 98 yX1_sumOf wsX1_sumOf) := goodIn_app (goodIn_of _ (by decide +kernel)) ggX1_drainedLitres_X1_sumOf
theorem dX1_drainedLitres_0 : decode cX1_drainedLitres 0 = .ok (.aload_n 0, 1) := by decide +kernel
theorem dX1_drainedLitres_1 : decode cX1_drainedLitres 1 = .ok (.getfield 42, 3) := by decide +kernel
theorem dX1_drainedLitres_4 : decode cX1_drainedLitres 4 = .ok (.invokestatic 98, 3) := by decide +kernel
theorem dX1_drainedLitres_7 : decode cX1_drainedLitres 7 = .ok (.ireturn, 1) := by decide +kernel
set_option maxRecDepth 20000 in
theorem ggX1_spiltLitres_X1_sumOf : GoodIn wsX1_spiltLitres wsX1_sumOf := goodIn_r _ [5] rfl (by decide +kernel)
set_option maxRecDepth 20000 in
theorem gX1_spiltLitres_X1_sumOf : GoodIn wsX1_spiltLitres (va_wsS RX1 98 yX1_sumOf wsX1_sumOf) := goodIn_app (goodIn_of _ (by decide +kernel)) ggX1_spiltLitres_X1_sumOf
theorem dX1_spiltLitres_0 : decode cX1_spiltLitres 0 = .ok (.aload_n 0, 1) := by decide +kernel
theorem dX1_spiltLitres_1 : decode cX1_spiltLitres 1 = .ok (.getfield 39, 3) := by decide +kernel
theorem dX1_spiltLitres_4 : decode cX1_spiltLitres 4 = .ok (.invokestatic 98, 3) := by decide +kernel
theorem dX1_spiltLitres_7 : decode cX1_spiltLitres 7 = .ok (.ireturn, 1) := by decide +kernel
set_option maxRecDepth 20000 in
theorem ggX1_leavesTogether_X1_sumOf : GoodIn wsX1_leavesTogether wsX1_sumOf := goodIn_r _ [5] rfl (by decide +kernel)
set_option maxRecDepth 20000 in
theorem gX1_leavesTogether_X1_sumOf : GoodIn wsX1_leavesTogether (va_wsS RX1 98 yX1_sumOf wsX1_sumOf) := goodIn_app (goodIn_of _ (by decide +kernel)) ggX1_leavesTogether_X1_sumOf
theorem dX1_leavesTogether_0 : decode cX1_leavesTogether 0 = .ok (.aload_n 0, 1) := by decide +kernel
theorem dX1_leavesTogether_1 : decode cX1_leavesTogether 1 = .ok (.getfield 30, 3) := by decide +kernel
theorem dX1_leavesTogether_4 : decode cX1_leavesTogether 4 = .ok (.invokestatic 98, 3) := by decide +kernel
theorem dX1_leavesTogether_7 : decode cX1_leavesTogether 7 = .ok (.ireturn, 1) := by decide +kernel
theorem dX1_sumOf_0 : decode cX1_sumOf 0 = .ok (.iconst 0, 1) := by decide +kernel
theorem dX1_sumOf_1 : decode cX1_sumOf 1 = .ok (.istore_n 1, 1) := by decide +kernel
theorem dX1_sumOf_2 : decode cX1_sumOf 2 = .ok (.aload_n 0, 1) := by decide +kernel
theorem dX1_sumOf_3 : decode cX1_sumOf 3 = .ok (.astore_n 2, 1) := by decide +kernel
theorem dX1_sumOf_4 : decode cX1_sumOf 4 = .ok (.aload_n 2, 1) := by decide +kernel
theorem dX1_sumOf_5 : decode cX1_sumOf 5 = .ok (.arraylength, 1) := by decide +kernel
theorem dX1_sumOf_6 : decode cX1_sumOf 6 = .ok (.istore_n 3, 1) := by decide +kernel
theorem dX1_sumOf_7 : decode cX1_sumOf 7 = .ok (.iconst 0, 1) := by decide +kernel
theorem dX1_sumOf_8 : decode cX1_sumOf 8 = .ok (.istore 4, 2) := by decide +kernel
theorem dX1_sumOf_10 : decode cX1_sumOf 10 = .ok (.iload 4, 2) := by decide +kernel
theorem dX1_sumOf_12 : decode cX1_sumOf 12 = .ok (.iload_n 3, 1) := by decide +kernel
theorem dX1_sumOf_13 : decode cX1_sumOf 13 = .ok (.if_icmp .ge 20, 3) := by decide +kernel
theorem dX1_sumOf_16 : decode cX1_sumOf 16 = .ok (.aload_n 2, 1) := by decide +kernel
theorem dX1_sumOf_17 : decode cX1_sumOf 17 = .ok (.iload 4, 2) := by decide +kernel
theorem dX1_sumOf_19 : decode cX1_sumOf 19 = .ok (.iaload, 1) := by decide +kernel
theorem dX1_sumOf_20 : decode cX1_sumOf 20 = .ok (.istore 5, 2) := by decide +kernel
theorem dX1_sumOf_22 : decode cX1_sumOf 22 = .ok (.iload_n 1, 1) := by decide +kernel
theorem dX1_sumOf_23 : decode cX1_sumOf 23 = .ok (.iload 5, 2) := by decide +kernel
theorem dX1_sumOf_25 : decode cX1_sumOf 25 = .ok (.iadd, 1) := by decide +kernel
theorem dX1_sumOf_26 : decode cX1_sumOf 26 = .ok (.istore_n 1, 1) := by decide +kernel
theorem dX1_sumOf_27 : decode cX1_sumOf 27 = .ok (.iinc 4 1, 3) := by decide +kernel
theorem dX1_sumOf_30 : decode cX1_sumOf 30 = .ok (.goto (-20), 3) := by decide +kernel
theorem dX1_sumOf_33 : decode cX1_sumOf 33 = .ok (.iload_n 1, 1) := by decide +kernel
theorem dX1_sumOf_34 : decode cX1_sumOf 34 = .ok (.ireturn, 1) := by decide +kernel
theorem dX2_init_0 : decode cX2_init 0 = .ok (.aload_n 0, 1) := by decide +kernel
theorem dX2_init_1 : decode cX2_init 1 = .ok (.invokespecial 1, 3) := by decide +kernel
theorem dX2_init_4 : decode cX2_init 4 = .ok (.aload_n 0, 1) := by decide +kernel
theorem dX2_init_5 : decode cX2_init 5 = .ok (.bipush 6, 2) := by decide +kernel
theorem dX2_init_7 : decode cX2_init 7 = .ok (.anewarray 9, 3) := by decide +kernel
theorem dX2_init_10 : decode cX2_init 10 = .ok (.putfield 11, 3) := by decide +kernel
theorem dX2_init_13 : decode cX2_init 13 = .ok (.return_, 1) := by decide +kernel
theorem dX2_held_0 : decode cX2_held 0 = .ok (.aload_n 0, 1) := by decide +kernel
theorem dX2_held_1 : decode cX2_held 1 = .ok (.getfield 15, 3) := by decide +kernel
theorem dX2_held_4 : decode cX2_held 4 = .ok (.ireturn, 1) := by decide +kernel
set_option maxRecDepth 20000 in
theorem ggX2_keep_X1_init : GoodIn wsX2_keep wsX1_init := goodIn_r _ [9, 10, 11, 12, 13, 14, 15, 16, 17, 18, 19, 20, 21, 22, 23, 24, 25, 41, 42, 43, 44, 45, 46, 47, 48, 49, 50, 51, 52, 53, 54, 55, 56] rfl (by decide +kernel)
set_option maxRecDepth 20000 in
theorem gX2_keep_X1_init : GoodIn wsX2_keep (wsX1_init) := ggX2_keep_X1_init
set_option maxRecDepth 20000 in
theorem ggX2_keep_X1_copyFrom : GoodIn wsX2_keep wsX1_copyFrom := goodIn_r _ [29, 14, 30, 31, 32, 33, 15, 16, 17, 18, 19, 20, 21, 22, 23, 24, 25, 34, 35, 36, 37, 41, 42, 43, 44, 45, 46, 47, 48, 49, 50, 51, 52, 53, 54, 55, 56] rfl (by decide +kernel)
set_option maxRecDepth 20000 in
theorem gX2_keep_X1_copyFrom : GoodIn wsX2_keep (wsV RX2 23 RX1 yX1_copyFrom wsX1_copyFrom) := goodIn_app (goodIn_of _ (by decide +kernel)) ggX2_keep_X1_copyFrom
theorem dX2_keep_0 : decode cX2_keep 0 = .ok (.aload_n 0, 1) := by decide +kernel
theorem dX2_keep_1 : decode cX2_keep 1 = .ok (.getfield 15, 3) := by decide +kernel
theorem dX2_keep_4 : decode cX2_keep 4 = .ok (.bipush 6, 2) := by decide +kernel
theorem dX2_keep_6 : decode cX2_keep 6 = .ok (.if_icmp .ne 26, 3) := by decide +kernel
theorem dX2_keep_9 : decode cX2_keep 9 = .ok (.aload_n 0, 1) := by decide +kernel
theorem dX2_keep_10 : decode cX2_keep 10 = .ok (.aload_n 0, 1) := by decide +kernel
theorem dX2_keep_11 : decode cX2_keep 11 = .ok (.getfield 19, 3) := by decide +kernel
theorem dX2_keep_14 : decode cX2_keep 14 = .ok (.iconst 1, 1) := by decide +kernel
theorem dX2_keep_15 : decode cX2_keep 15 = .ok (.iadd, 1) := by decide +kernel
theorem dX2_keep_16 : decode cX2_keep 16 = .ok (.bipush 6, 2) := by decide +kernel
theorem dX2_keep_18 : decode cX2_keep 18 = .ok (.irem, 1) := by decide +kernel
theorem dX2_keep_19 : decode cX2_keep 19 = .ok (.putfield 19, 3) := by decide +kernel
theorem dX2_keep_22 : decode cX2_keep 22 = .ok (.aload_n 0, 1) := by decide +kernel
theorem dX2_keep_23 : decode cX2_keep 23 = .ok (.dup, 1) := by decide +kernel
theorem dX2_keep_24 : decode cX2_keep 24 = .ok (.getfield 15, 3) := by decide +kernel
theorem dX2_keep_27 : decode cX2_keep 27 = .ok (.iconst 1, 1) := by decide +kernel
theorem dX2_keep_28 : decode cX2_keep 28 = .ok (.isub, 1) := by decide +kernel
theorem dX2_keep_29 : decode cX2_keep 29 = .ok (.putfield 15, 3) := by decide +kernel
theorem dX2_keep_32 : decode cX2_keep 32 = .ok (.aload_n 0, 1) := by decide +kernel
theorem dX2_keep_33 : decode cX2_keep 33 = .ok (.getfield 19, 3) := by decide +kernel
theorem dX2_keep_36 : decode cX2_keep 36 = .ok (.aload_n 0, 1) := by decide +kernel
theorem dX2_keep_37 : decode cX2_keep 37 = .ok (.getfield 15, 3) := by decide +kernel
theorem dX2_keep_40 : decode cX2_keep 40 = .ok (.iadd, 1) := by decide +kernel
theorem dX2_keep_41 : decode cX2_keep 41 = .ok (.bipush 6, 2) := by decide +kernel
theorem dX2_keep_43 : decode cX2_keep 43 = .ok (.irem, 1) := by decide +kernel
theorem dX2_keep_44 : decode cX2_keep 44 = .ok (.istore_n 2, 1) := by decide +kernel
theorem dX2_keep_45 : decode cX2_keep 45 = .ok (.aload_n 0, 1) := by decide +kernel
theorem dX2_keep_46 : decode cX2_keep 46 = .ok (.getfield 11, 3) := by decide +kernel
theorem dX2_keep_49 : decode cX2_keep 49 = .ok (.iload_n 2, 1) := by decide +kernel
theorem dX2_keep_50 : decode cX2_keep 50 = .ok (.aaload, 1) := by decide +kernel
theorem dX2_keep_51 : decode cX2_keep 51 = .ok (.astore_n 3, 1) := by decide +kernel
theorem dX2_keep_52 : decode cX2_keep 52 = .ok (.aload_n 3, 1) := by decide +kernel
theorem dX2_keep_53 : decode cX2_keep 53 = .ok (.ifnonnull 18, 3) := by decide +kernel
theorem dX2_keep_56 : decode cX2_keep 56 = .ok (.new 9, 3) := by decide +kernel
theorem dX2_keep_59 : decode cX2_keep 59 = .ok (.dup, 1) := by decide +kernel
theorem dX2_keep_60 : decode cX2_keep 60 = .ok (.invokespecial 22, 3) := by decide +kernel
theorem dX2_keep_63 : decode cX2_keep 63 = .ok (.astore_n 3, 1) := by decide +kernel
theorem dX2_keep_64 : decode cX2_keep 64 = .ok (.aload_n 0, 1) := by decide +kernel
theorem dX2_keep_65 : decode cX2_keep 65 = .ok (.getfield 11, 3) := by decide +kernel
theorem dX2_keep_68 : decode cX2_keep 68 = .ok (.iload_n 2, 1) := by decide +kernel
theorem dX2_keep_69 : decode cX2_keep 69 = .ok (.aload_n 3, 1) := by decide +kernel
theorem dX2_keep_70 : decode cX2_keep 70 = .ok (.aastore, 1) := by decide +kernel
theorem dX2_keep_71 : decode cX2_keep 71 = .ok (.aload_n 3, 1) := by decide +kernel
theorem dX2_keep_72 : decode cX2_keep 72 = .ok (.aload_n 1, 1) := by decide +kernel
theorem dX2_keep_73 : decode cX2_keep 73 = .ok (.invokevirtual 23, 3) := by decide +kernel
theorem dX2_keep_76 : decode cX2_keep 76 = .ok (.aload_n 0, 1) := by decide +kernel
theorem dX2_keep_77 : decode cX2_keep 77 = .ok (.dup, 1) := by decide +kernel
theorem dX2_keep_78 : decode cX2_keep 78 = .ok (.getfield 15, 3) := by decide +kernel
theorem dX2_keep_81 : decode cX2_keep 81 = .ok (.iconst 1, 1) := by decide +kernel
theorem dX2_keep_82 : decode cX2_keep 82 = .ok (.iadd, 1) := by decide +kernel
theorem dX2_keep_83 : decode cX2_keep 83 = .ok (.putfield 15, 3) := by decide +kernel
theorem dX2_keep_86 : decode cX2_keep 86 = .ok (.return_, 1) := by decide +kernel
theorem dX2_dropLatest_0 : decode cX2_dropLatest 0 = .ok (.aload_n 0, 1) := by decide +kernel
theorem dX2_dropLatest_1 : decode cX2_dropLatest 1 = .ok (.getfield 15, 3) := by decide +kernel
theorem dX2_dropLatest_4 : decode cX2_dropLatest 4 = .ok (.ifCond .ne 5, 3) := by decide +kernel
theorem dX2_dropLatest_7 : decode cX2_dropLatest 7 = .ok (.aconst_null, 1) := by decide +kernel
theorem dX2_dropLatest_8 : decode cX2_dropLatest 8 = .ok (.areturn, 1) := by decide +kernel
theorem dX2_dropLatest_9 : decode cX2_dropLatest 9 = .ok (.aload_n 0, 1) := by decide +kernel
theorem dX2_dropLatest_10 : decode cX2_dropLatest 10 = .ok (.dup, 1) := by decide +kernel
theorem dX2_dropLatest_11 : decode cX2_dropLatest 11 = .ok (.getfield 15, 3) := by decide +kernel
theorem dX2_dropLatest_14 : decode cX2_dropLatest 14 = .ok (.iconst 1, 1) := by decide +kernel
theorem dX2_dropLatest_15 : decode cX2_dropLatest 15 = .ok (.isub, 1) := by decide +kernel
theorem dX2_dropLatest_16 : decode cX2_dropLatest 16 = .ok (.putfield 15, 3) := by decide +kernel
theorem dX2_dropLatest_19 : decode cX2_dropLatest 19 = .ok (.aload_n 0, 1) := by decide +kernel
theorem dX2_dropLatest_20 : decode cX2_dropLatest 20 = .ok (.getfield 11, 3) := by decide +kernel
theorem dX2_dropLatest_23 : decode cX2_dropLatest 23 = .ok (.aload_n 0, 1) := by decide +kernel
theorem dX2_dropLatest_24 : decode cX2_dropLatest 24 = .ok (.getfield 19, 3) := by decide +kernel
theorem dX2_dropLatest_27 : decode cX2_dropLatest 27 = .ok (.aload_n 0, 1) := by decide +kernel
theorem dX2_dropLatest_28 : decode cX2_dropLatest 28 = .ok (.getfield 15, 3) := by decide +kernel
theorem dX2_dropLatest_31 : decode cX2_dropLatest 31 = .ok (.iadd, 1) := by decide +kernel
theorem dX2_dropLatest_32 : decode cX2_dropLatest 32 = .ok (.bipush 6, 2) := by decide +kernel
theorem dX2_dropLatest_34 : decode cX2_dropLatest 34 = .ok (.irem, 1) := by decide +kernel
theorem dX2_dropLatest_35 : decode cX2_dropLatest 35 = .ok (.aaload, 1) := by decide +kernel
theorem dX2_dropLatest_36 : decode cX2_dropLatest 36 = .ok (.areturn, 1) := by decide +kernel
end
section
set_option maxRecDepth 20000 in
theorem ggX3_init_X1_init : GoodIn wsX3_init wsX1_init := goodIn_r _ [19, 20, 2, 3, 21, 22, 23, 24, 25, 26, 27, 28, 29, 30, 31, 32, 33, 45, 46, 47, 48, 49, 50, 51, 52, 53, 54, 55, 56, 57, 58, 59, 60] rfl (by decide +kernel)
set_option maxRecDepth 20000 in
theorem gX3_init_X1_init : GoodIn wsX3_init (wsX1_init) := ggX3_init_X1_init
set_option maxRecDepth 20000 in
theorem ggX3_init_X2_init : GoodIn wsX3_init wsX2_init := goodIn_r _ [36, 37, 2, 3, 38, 39, 65, 66, 67] rfl (by decide +kernel)
set_option maxRecDepth 20000 in
theorem gX3_init_X2_init : GoodIn wsX3_init (wsX2_init) := ggX3_init_X2_init
set_option maxRecDepth 20000 in
theorem ggX3_init_X0_init : GoodIn wsX3_init wsX0_init := goodIn_r _ [42, 43, 2, 3, 21, 44, 68, 69] rfl (by decide +kernel)
set_option maxRecDepth 20000 in
theorem gX3_init_X0_init : GoodIn wsX3_init (wsX0_init) := ggX3_init_X0_init
theorem dX3_init_0 : decode cX3_init 0 = .ok (.aload_n 0, 1) := by decide +kernel
theorem dX3_init_1 : decode cX3_init 1 = .ok (.invokespecial 1, 3) := by decide +kernel
theorem dX3_init_4 : decode cX3_init 4 = .ok (.aload_n 0, 1) := by decide +kernel
theorem dX3_init_5 : decode cX3_init 5 = .ok (.new 7, 3) := by decide +kernel
theorem dX3_init_8 : decode cX3_init 8 = .ok (.dup, 1) := by decide +kernel
theorem dX3_init_9 : decode cX3_init 9 = .ok (.invokespecial 9, 3) := by decide +kernel
theorem dX3_init_12 : decode cX3_init 12 = .ok (.putfield 10, 3) := by decide +kernel
theorem dX3_init_15 : decode cX3_init 15 = .ok (.aload_n 0, 1) := by decide +kernel
theorem dX3_init_16 : decode cX3_init 16 = .ok (.new 7, 3) := by decide +kernel
theorem dX3_init_19 : decode cX3_init 19 = .ok (.dup, 1) := by decide +kernel
theorem dX3_init_20 : decode cX3_init 20 = .ok (.invokespecial 9, 3) := by decide +kernel
theorem dX3_init_23 : decode cX3_init 23 = .ok (.putfield 16, 3) := by decide +kernel
theorem dX3_init_26 : decode cX3_init 26 = .ok (.aload_n 0, 1) := by decide +kernel
theorem dX3_init_27 : decode cX3_init 27 = .ok (.new 19, 3) := by decide +kernel
theorem dX3_init_30 : decode cX3_init 30 = .ok (.dup, 1) := by decide +kernel
theorem dX3_init_31 : decode cX3_init 31 = .ok (.invokespecial 21, 3) := by decide +kernel
theorem dX3_init_34 : decode cX3_init 34 = .ok (.putfield 22, 3) := by decide +kernel
theorem dX3_init_37 : decode cX3_init 37 = .ok (.aload_n 0, 1) := by decide +kernel
theorem dX3_init_38 : decode cX3_init 38 = .ok (.new 26, 3) := by decide +kernel
theorem dX3_init_41 : decode cX3_init 41 = .ok (.dup, 1) := by decide +kernel
theorem dX3_init_42 : decode cX3_init 42 = .ok (.invokespecial 28, 3) := by decide +kernel
theorem dX3_init_45 : decode cX3_init 45 = .ok (.putfield 29, 3) := by decide +kernel
theorem dX3_init_48 : decode cX3_init 48 = .ok (.return_, 1) := by decide +kernel
set_option maxRecDepth 20000 in
theorem ggX3_plane_X3_isPlane : GoodIn wsX3_plane wsX3_isPlane := goodIn_r _ [10] rfl (by decide +kernel)
set_option maxRecDepth 20000 in
theorem gX3_plane_X3_isPlane : GoodIn wsX3_plane (va_wsS RX3 33 yX3_isPlane wsX3_isPlane) := goodIn_app (goodIn_of _ (by decide +kernel)) ggX3_plane_X3_isPlane
set_option maxRecDepth 20000 in
theorem ggX3_plane_X3_isGutter : GoodIn wsX3_plane wsX3_isGutter := goodIn_r _ [13] rfl (by decide +kernel)
set_option maxRecDepth 20000 in
theorem gX3_plane_X3_isGutter : GoodIn wsX3_plane (va_wsS RX3 37 yX3_isGutter wsX3_isGutter) := goodIn_app (goodIn_of _ (by decide +kernel)) ggX3_plane_X3_isGutter
set_option maxRecDepth 20000 in
theorem ggX3_plane_X3_isWithin : GoodIn wsX3_plane wsX3_isWithin := goodIn_r _ [16] rfl (by decide +kernel)
set_option maxRecDepth 20000 in
theorem gX3_plane_X3_isWithin : GoodIn wsX3_plane (va_wsS RX3 47 yX3_isWithin wsX3_isWithin) := goodIn_app (goodIn_of _ (by decide +kernel)) ggX3_plane_X3_isWithin
set_option maxRecDepth 20000 in
theorem ggX3_plane_X2_keep : GoodIn wsX3_plane wsX2_keep := goodIn_r _ [21, 22, 23, 24, 25, 26, 27, 28, 29, 30, 31, 32, 33, 34, 35, 36, 37, 38, 39, 40, 41, 42, 43, 44, 45, 46, 47, 48, 49, 50, 51, 52, 53, 54, 55, 56, 57, 58, 67, 68, 69, 70, 71, 72, 73, 74, 75, 76, 77, 78, 79, 80, 81, 82, 83, 84, 85] rfl (by decide +kernel)
set_option maxRecDepth 20000 in
theorem gX3_plane_X2_keep : GoodIn wsX3_plane (wsV RX3 56 RX2 yX2_keep wsX2_keep) := goodIn_app (goodIn_of _ (by decide +kernel)) ggX3_plane_X2_keep
set_option maxRecDepth 20000 in
theorem ggX3_plane_X1_changePlane : GoodIn wsX3_plane wsX1_changePlane := goodIn_r _ [62, 35, 36, 37, 70, 71, 72, 73, 74, 75, 76, 77, 78, 79, 80, 81, 82, 83, 84, 85] rfl (by decide +kernel)
set_option maxRecDepth 20000 in
theorem gX3_plane_X1_changePlane : GoodIn wsX3_plane (wsV RX3 60 RX1 yX1_changePlane wsX1_changePlane) := goodIn_app (goodIn_of _ (by decide +kernel)) ggX3_plane_X1_changePlane
theorem dX3_plane_0 : decode cX3_plane 0 = .ok (.iload_n 1, 1) := by decide +kernel
theorem dX3_plane_1 : decode cX3_plane 1 = .ok (.invokestatic 33, 3) := by decide +kernel
theorem dX3_plane_4 : decode cX3_plane 4 = .ok (.ifCond .eq 11, 3) := by decide +kernel
theorem dX3_plane_7 : decode cX3_plane 7 = .ok (.iload 4, 2) := by decide +kernel
theorem dX3_plane_9 : decode cX3_plane 9 = .ok (.invokestatic 37, 3) := by decide +kernel
theorem dX3_plane_12 : decode cX3_plane 12 = .ok (.ifCond .ne 13, 3) := by decide +kernel
theorem dX3_plane_15 : decode cX3_plane 15 = .ok (.new 40, 3) := by decide +kernel
theorem dX3_plane_18 : decode cX3_plane 18 = .ok (.dup, 1) := by decide +kernel
theorem dX3_plane_19 : decode cX3_plane 19 = .ok (.ldc 42, 2) := by decide +kernel
theorem dX3_plane_21 : decode cX3_plane 21 = .ok (.invokespecial 44, 3) := by decide +kernel
theorem dX3_plane_24 : decode cX3_plane 24 = .ok (.athrow, 1) := by decide +kernel
theorem dX3_plane_25 : decode cX3_plane 25 = .ok (.iload_n 2, 1) := by decide +kernel
theorem dX3_plane_26 : decode cX3_plane 26 = .ok (.iconst 0, 1) := by decide +kernel
theorem dX3_plane_27 : decode cX3_plane 27 = .ok (.sipush 200, 3) := by decide +kernel
theorem dX3_plane_30 : decode cX3_plane 30 = .ok (.invokestatic 47, 3) := by decide +kernel
theorem dX3_plane_33 : decode cX3_plane 33 = .ok (.ifCond .eq 13, 3) := by decide +kernel
theorem dX3_plane_36 : decode cX3_plane 36 = .ok (.iload_n 3, 1) := by decide +kernel
theorem dX3_plane_37 : decode cX3_plane 37 = .ok (.iconst 0, 1) := by decide +kernel
theorem dX3_plane_38 : decode cX3_plane 38 = .ok (.bipush 9, 2) := by decide +kernel
theorem dX3_plane_40 : decode cX3_plane 40 = .ok (.invokestatic 47, 3) := by decide +kernel
theorem dX3_plane_43 : decode cX3_plane 43 = .ok (.ifCond .ne 13, 3) := by decide +kernel
theorem dX3_plane_46 : decode cX3_plane 46 = .ok (.new 51, 3) := by decide +kernel
theorem dX3_plane_49 : decode cX3_plane 49 = .ok (.dup, 1) := by decide +kernel
theorem dX3_plane_50 : decode cX3_plane 50 = .ok (.ldc 53, 2) := by decide +kernel
theorem dX3_plane_52 : decode cX3_plane 52 = .ok (.invokespecial 55, 3) := by decide +kernel
theorem dX3_plane_55 : decode cX3_plane 55 = .ok (.athrow, 1) := by decide +kernel
theorem dX3_plane_56 : decode cX3_plane 56 = .ok (.aload_n 0, 1) := by decide +kernel
theorem dX3_plane_57 : decode cX3_plane 57 = .ok (.getfield 22, 3) := by decide +kernel
theorem dX3_plane_60 : decode cX3_plane 60 = .ok (.aload_n 0, 1) := by decide +kernel
theorem dX3_plane_61 : decode cX3_plane 61 = .ok (.getfield 10, 3) := by decide +kernel
theorem dX3_plane_64 : decode cX3_plane 64 = .ok (.invokevirtual 56, 3) := by decide +kernel
theorem dX3_plane_67 : decode cX3_plane 67 = .ok (.aload_n 0, 1) := by decide +kernel
theorem dX3_plane_68 : decode cX3_plane 68 = .ok (.getfield 10, 3) := by decide +kernel
theorem dX3_plane_71 : decode cX3_plane 71 = .ok (.iload_n 1, 1) := by decide +kernel
theorem dX3_plane_72 : decode cX3_plane 72 = .ok (.iload_n 2, 1) := by decide +kernel
theorem dX3_plane_73 : decode cX3_plane 73 = .ok (.iload_n 3, 1) := by decide +kernel
theorem dX3_plane_74 : decode cX3_plane 74 = .ok (.iload 4, 2) := by decide +kernel
theorem dX3_plane_76 : decode cX3_plane 76 = .ok (.invokevirtual 60, 3) := by decide +kernel
theorem dX3_plane_79 : decode cX3_plane 79 = .ok (.ireturn, 1) := by decide +kernel
set_option maxRecDepth 20000 in
theorem ggX3_gutter_X3_isGutter : GoodIn wsX3_gutter wsX3_isGutter := goodIn_r _ [10] rfl (by decide +kernel)
set_option maxRecDepth 20000 in
theorem gX3_gutter_X3_isGutter : GoodIn wsX3_gutter (va_wsS RX3 37 yX3_isGutter wsX3_isGutter) := goodIn_app (goodIn_of _ (by decide +kernel)) ggX3_gutter_X3_isGutter
set_option maxRecDepth 20000 in
theorem ggX3_gutter_X3_isWithin : GoodIn wsX3_gutter wsX3_isWithin := goodIn_r _ [13] rfl (by decide +kernel)
set_option maxRecDepth 20000 in
theorem gX3_gutter_X3_isWithin : GoodIn wsX3_gutter (va_wsS RX3 47 yX3_isWithin wsX3_isWithin) := goodIn_app (goodIn_of _ (by decide +kernel)) ggX3_gutter_X3_isWithin
set_option maxRecDepth 20000 in
theorem ggX3_gutter_X2_keep : GoodIn wsX3_gutter wsX2_keep := goodIn_r _ [18, 19, 20, 21, 22, 23, 24, 25, 26, 27, 28, 29, 30, 31, 32, 33, 34, 35, 36, 37, 38, 39, 40, 41, 42, 43, 44, 45, 46, 47, 48, 49, 50, 51, 52, 53, 54, 55, 64, 65, 66, 67, 68, 69, 70, 71, 72, 73, 74, 75, 76, 77, 78, 79, 80, 81, 82] rfl (by decide +kernel)
set_option maxRecDepth 20000 in
theorem gX3_gutter_X2_keep : GoodIn wsX3_gutter (wsV RX3 56 RX2 yX2_keep wsX2_keep) := goodIn_app (goodIn_of _ (by decide +kernel)) ggX3_gutter_X2_keep
set_option maxRecDepth 20000 in
theorem ggX3_gutter_X1_changeGutter : GoodIn wsX3_gutter wsX1_changeGutter := goodIn_r _ [59, 36, 37, 67, 68, 69, 70, 71, 72, 73, 74, 75, 76, 77, 78, 79, 80, 81, 82] rfl (by decide +kernel)
set_option maxRecDepth 20000 in
theorem gX3_gutter_X1_changeGutter : GoodIn wsX3_gutter (wsV RX3 68 RX1 yX1_changeGutter wsX1_changeGutter) := goodIn_app (goodIn_of _ (by decide +kernel)) ggX3_gutter_X1_changeGutter
theorem dX3_gutter_0 : decode cX3_gutter 0 = .ok (.iload_n 1, 1) := by decide +kernel
theorem dX3_gutter_1 : decode cX3_gutter 1 = .ok (.invokestatic 37, 3) := by decide +kernel
theorem dX3_gutter_4 : decode cX3_gutter 4 = .ok (.ifCond .ne 13, 3) := by decide +kernel
theorem dX3_gutter_7 : decode cX3_gutter 7 = .ok (.new 40, 3) := by decide +kernel
theorem dX3_gutter_10 : decode cX3_gutter 10 = .ok (.dup, 1) := by decide +kernel
theorem dX3_gutter_11 : decode cX3_gutter 11 = .ok (.ldc 64, 2) := by decide +kernel
theorem dX3_gutter_13 : decode cX3_gutter 13 = .ok (.invokespecial 44, 3) := by decide +kernel
theorem dX3_gutter_16 : decode cX3_gutter 16 = .ok (.athrow, 1) := by decide +kernel
theorem dX3_gutter_17 : decode cX3_gutter 17 = .ok (.iload_n 2, 1) := by decide +kernel
theorem dX3_gutter_18 : decode cX3_gutter 18 = .ok (.iconst 1, 1) := by decide +kernel
theorem dX3_gutter_19 : decode cX3_gutter 19 = .ok (.sipush 500, 3) := by decide +kernel
theorem dX3_gutter_22 : decode cX3_gutter 22 = .ok (.invokestatic 47, 3) := by decide +kernel
theorem dX3_gutter_25 : decode cX3_gutter 25 = .ok (.ifCond .eq 13, 3) := by decide +kernel
theorem dX3_gutter_28 : decode cX3_gutter 28 = .ok (.iload_n 3, 1) := by decide +kernel
theorem dX3_gutter_29 : decode cX3_gutter 29 = .ok (.iconst 0, 1) := by decide +kernel
theorem dX3_gutter_30 : decode cX3_gutter 30 = .ok (.bipush 99, 2) := by decide +kernel
theorem dX3_gutter_32 : decode cX3_gutter 32 = .ok (.invokestatic 47, 3) := by decide +kernel
theorem dX3_gutter_35 : decode cX3_gutter 35 = .ok (.ifCond .ne 13, 3) := by decide +kernel
theorem dX3_gutter_38 : decode cX3_gutter 38 = .ok (.new 51, 3) := by decide +kernel
theorem dX3_gutter_41 : decode cX3_gutter 41 = .ok (.dup, 1) := by decide +kernel
theorem dX3_gutter_42 : decode cX3_gutter 42 = .ok (.ldc 66, 2) := by decide +kernel
theorem dX3_gutter_44 : decode cX3_gutter 44 = .ok (.invokespecial 55, 3) := by decide +kernel
theorem dX3_gutter_47 : decode cX3_gutter 47 = .ok (.athrow, 1) := by decide +kernel
theorem dX3_gutter_48 : decode cX3_gutter 48 = .ok (.aload_n 0, 1) := by decide +kernel
theorem dX3_gutter_49 : decode cX3_gutter 49 = .ok (.getfield 22, 3) := by decide +kernel
theorem dX3_gutter_52 : decode cX3_gutter 52 = .ok (.aload_n 0, 1) := by decide +kernel
theorem dX3_gutter_53 : decode cX3_gutter 53 = .ok (.getfield 10, 3) := by decide +kernel
theorem dX3_gutter_56 : decode cX3_gutter 56 = .ok (.invokevirtual 56, 3) := by decide +kernel
theorem dX3_gutter_59 : decode cX3_gutter 59 = .ok (.aload_n 0, 1) := by decide +kernel
theorem dX3_gutter_60 : decode cX3_gutter 60 = .ok (.getfield 10, 3) := by decide +kernel
theorem dX3_gutter_63 : decode cX3_gutter 63 = .ok (.iload_n 1, 1) := by decide +kernel
theorem dX3_gutter_64 : decode cX3_gutter 64 = .ok (.iload_n 2, 1) := by decide +kernel
theorem dX3_gutter_65 : decode cX3_gutter 65 = .ok (.iload_n 3, 1) := by decide +kernel
theorem dX3_gutter_66 : decode cX3_gutter 66 = .ok (.invokevirtual 68, 3) := by decide +kernel
theorem dX3_gutter_69 : decode cX3_gutter 69 = .ok (.ireturn, 1) := by decide +kernel
set_option maxRecDepth 20000 in
theorem ggX3_valley_X3_isGutter : GoodIn wsX3_valley wsX3_isGutter := goodIn_r _ [12] rfl (by decide +kernel)
set_option maxRecDepth 20000 in
theorem gX3_valley_X3_isGutter : GoodIn wsX3_valley (va_wsS RX3 37 yX3_isGutter wsX3_isGutter) := goodIn_app (goodIn_of _ (by decide +kernel)) ggX3_valley_X3_isGutter
set_option maxRecDepth 20000 in
theorem ggX3_valley_X1_valleysLead : GoodIn wsX3_valley wsX1_valleysLead := goodIn_r _ [17, 18, 10, 11, 12, 67, 68, 69, 70, 71, 72, 73, 74, 75, 76, 77, 78, 79, 80, 81, 82] rfl (by decide +kernel)
set_option maxRecDepth 20000 in
theorem gX3_valley_X1_valleysLead : GoodIn wsX3_valley (wsV RX3 74 RX1 yX1_valleysLead wsX1_valleysLead) := goodIn_app (goodIn_of _ (by decide +kernel)) ggX3_valley_X1_valleysLead
set_option maxRecDepth 20000 in
theorem ggX3_valley_X2_keep : GoodIn wsX3_valley wsX2_keep := goodIn_r _ [23, 24, 25, 26, 27, 28, 16, 29, 30, 31, 32, 33, 34, 35, 36, 37, 38, 39, 40, 41, 42, 18, 43, 44, 45, 46, 47, 48, 49, 50, 51, 52, 53, 54, 55, 56, 57, 58, 83, 84, 85, 67, 68, 69, 70, 71, 72, 73, 74, 75, 76, 77, 78, 79, 80, 81, 82] rfl (by decide +kernel)
set_option maxRecDepth 20000 in
theorem gX3_valley_X2_keep : GoodIn wsX3_valley (wsV RX3 56 RX2 yX2_keep wsX2_keep) := goodIn_app (goodIn_of _ (by decide +kernel)) ggX3_valley_X2_keep
set_option maxRecDepth 20000 in
theorem ggX3_valley_X1_changeValley : GoodIn wsX3_valley wsX1_changeValley := goodIn_r _ [62, 18, 67, 68, 69, 70, 71, 72, 73, 74, 75, 76, 77, 78, 79, 80, 81, 82] rfl (by decide +kernel)
set_option maxRecDepth 20000 in
theorem gX3_valley_X1_changeValley : GoodIn wsX3_valley (wsV RX3 83 RX1 yX1_changeValley wsX1_changeValley) := goodIn_app (goodIn_of _ (by decide +kernel)) ggX3_valley_X1_changeValley
theorem dX3_valley_0 : decode cX3_valley 0 = .ok (.iload_n 1, 1) := by decide +kernel
theorem dX3_valley_1 : decode cX3_valley 1 = .ok (.invokestatic 37, 3) := by decide +kernel
theorem dX3_valley_4 : decode cX3_valley 4 = .ok (.ifCond .eq 15, 3) := by decide +kernel
theorem dX3_valley_7 : decode cX3_valley 7 = .ok (.iload_n 2, 1) := by decide +kernel
theorem dX3_valley_8 : decode cX3_valley 8 = .ok (.iconst (-1), 1) := by decide +kernel
theorem dX3_valley_9 : decode cX3_valley 9 = .ok (.if_icmp .eq 20, 3) := by decide +kernel
theorem dX3_valley_12 : decode cX3_valley 12 = .ok (.iload_n 2, 1) := by decide +kernel
theorem dX3_valley_13 : decode cX3_valley 13 = .ok (.invokestatic 37, 3) := by decide +kernel
theorem dX3_valley_16 : decode cX3_valley 16 = .ok (.ifCond .ne 13, 3) := by decide +kernel
theorem dX3_valley_19 : decode cX3_valley 19 = .ok (.new 40, 3) := by decide +kernel
theorem dX3_valley_22 : decode cX3_valley 22 = .ok (.dup, 1) := by decide +kernel
theorem dX3_valley_23 : decode cX3_valley 23 = .ok (.ldc 64, 2) := by decide +kernel
theorem dX3_valley_25 : decode cX3_valley 25 = .ok (.invokespecial 44, 3) := by decide +kernel
theorem dX3_valley_28 : decode cX3_valley 28 = .ok (.athrow, 1) := by decide +kernel
theorem dX3_valley_29 : decode cX3_valley 29 = .ok (.iload_n 1, 1) := by decide +kernel
theorem dX3_valley_30 : decode cX3_valley 30 = .ok (.iload_n 2, 1) := by decide +kernel
theorem dX3_valley_31 : decode cX3_valley 31 = .ok (.if_icmp .ne 13, 3) := by decide +kernel
theorem dX3_valley_34 : decode cX3_valley 34 = .ok (.new 51, 3) := by decide +kernel
theorem dX3_valley_37 : decode cX3_valley 37 = .ok (.dup, 1) := by decide +kernel
theorem dX3_valley_38 : decode cX3_valley 38 = .ok (.ldc 72, 2) := by decide +kernel
theorem dX3_valley_40 : decode cX3_valley 40 = .ok (.invokespecial 55, 3) := by decide +kernel
theorem dX3_valley_43 : decode cX3_valley 43 = .ok (.athrow, 1) := by decide +kernel
theorem dX3_valley_44 : decode cX3_valley 44 = .ok (.aload_n 0, 1) := by decide +kernel
theorem dX3_valley_45 : decode cX3_valley 45 = .ok (.getfield 10, 3) := by decide +kernel
theorem dX3_valley_48 : decode cX3_valley 48 = .ok (.iload_n 2, 1) := by decide +kernel
theorem dX3_valley_49 : decode cX3_valley 49 = .ok (.iload_n 1, 1) := by decide +kernel
theorem dX3_valley_50 : decode cX3_valley 50 = .ok (.invokevirtual 74, 3) := by decide +kernel
theorem dX3_valley_53 : decode cX3_valley 53 = .ok (.ifCond .eq 13, 3) := by decide +kernel
theorem dX3_valley_56 : decode cX3_valley 56 = .ok (.new 78, 3) := by decide +kernel
theorem dX3_valley_59 : decode cX3_valley 59 = .ok (.dup, 1) := by decide +kernel
theorem dX3_valley_60 : decode cX3_valley 60 = .ok (.ldc 80, 2) := by decide +kernel
theorem dX3_valley_62 : decode cX3_valley 62 = .ok (.invokespecial 82, 3) := by decide +kernel
theorem dX3_valley_65 : decode cX3_valley 65 = .ok (.athrow, 1) := by decide +kernel
theorem dX3_valley_66 : decode cX3_valley 66 = .ok (.aload_n 0, 1) := by decide +kernel
theorem dX3_valley_67 : decode cX3_valley 67 = .ok (.getfield 22, 3) := by decide +kernel
theorem dX3_valley_70 : decode cX3_valley 70 = .ok (.aload_n 0, 1) := by decide +kernel
theorem dX3_valley_71 : decode cX3_valley 71 = .ok (.getfield 10, 3) := by decide +kernel
theorem dX3_valley_74 : decode cX3_valley 74 = .ok (.invokevirtual 56, 3) := by decide +kernel
theorem dX3_valley_77 : decode cX3_valley 77 = .ok (.aload_n 0, 1) := by decide +kernel
theorem dX3_valley_78 : decode cX3_valley 78 = .ok (.getfield 10, 3) := by decide +kernel
theorem dX3_valley_81 : decode cX3_valley 81 = .ok (.iload_n 1, 1) := by decide +kernel
theorem dX3_valley_82 : decode cX3_valley 82 = .ok (.iload_n 2, 1) := by decide +kernel
theorem dX3_valley_83 : decode cX3_valley 83 = .ok (.invokevirtual 83, 3) := by decide +kernel
theorem dX3_valley_86 : decode cX3_valley 86 = .ok (.ireturn, 1) := by decide +kernel
set_option maxRecDepth 20000 in
theorem ggX3_clean_X3_isGutter : GoodIn wsX3_clean wsX3_isGutter := goodIn_r _ [8] rfl (by decide +kernel)
set_option maxRecDepth 20000 in
theorem gX3_clean_X3_isGutter : GoodIn wsX3_clean (va_wsS RX3 37 yX3_isGutter wsX3_isGutter) := goodIn_app (goodIn_of _ (by decide +kernel)) ggX3_clean_X3_isGutter
set_option maxRecDepth 20000 in
theorem ggX3_clean_X2_keep : GoodIn wsX3_clean wsX2_keep := goodIn_r _ [13, 14, 15, 16, 17, 18, 19, 20, 21, 22, 23, 24, 25, 26, 27, 28, 29, 30, 31, 32, 33, 34, 35, 36, 37, 38, 39, 40, 41, 42, 43, 44, 45, 46, 47, 48, 49, 50, 59, 60, 61, 62, 63, 64, 65, 66, 67, 68, 69, 70, 71, 72, 73, 74, 75, 76, 77] rfl (by decide +kernel)
set_option maxRecDepth 20000 in
theorem gX3_clean_X2_keep : GoodIn wsX3_clean (wsV RX3 56 RX2 yX2_keep wsX2_keep) := goodIn_app (goodIn_of _ (by decide +kernel)) ggX3_clean_X2_keep
set_option maxRecDepth 20000 in
theorem ggX3_clean_X1_takeLeaves : GoodIn wsX3_clean wsX1_takeLeaves := goodIn_r _ [54, 33, 62, 63, 64, 65, 66, 67, 68, 69, 70, 71, 72, 73, 74, 75, 76, 77] rfl (by decide +kernel)
set_option maxRecDepth 20000 in
theorem gX3_clean_X1_takeLeaves : GoodIn wsX3_clean (wsV RX3 87 RX1 yX1_takeLeaves wsX1_takeLeaves) := goodIn_app (goodIn_of _ (by decide +kernel)) ggX3_clean_X1_takeLeaves
theorem dX3_clean_0 : decode cX3_clean 0 = .ok (.iload_n 1, 1) := by decide +kernel
theorem dX3_clean_1 : decode cX3_clean 1 = .ok (.invokestatic 37, 3) := by decide +kernel
theorem dX3_clean_4 : decode cX3_clean 4 = .ok (.ifCond .ne 13, 3) := by decide +kernel
theorem dX3_clean_7 : decode cX3_clean 7 = .ok (.new 40, 3) := by decide +kernel
theorem dX3_clean_10 : decode cX3_clean 10 = .ok (.dup, 1) := by decide +kernel
theorem dX3_clean_11 : decode cX3_clean 11 = .ok (.ldc 64, 2) := by decide +kernel
theorem dX3_clean_13 : decode cX3_clean 13 = .ok (.invokespecial 44, 3) := by decide +kernel
theorem dX3_clean_16 : decode cX3_clean 16 = .ok (.athrow, 1) := by decide +kernel
theorem dX3_clean_17 : decode cX3_clean 17 = .ok (.aload_n 0, 1) := by decide +kernel
theorem dX3_clean_18 : decode cX3_clean 18 = .ok (.getfield 22, 3) := by decide +kernel
theorem dX3_clean_21 : decode cX3_clean 21 = .ok (.aload_n 0, 1) := by decide +kernel
theorem dX3_clean_22 : decode cX3_clean 22 = .ok (.getfield 10, 3) := by decide +kernel
theorem dX3_clean_25 : decode cX3_clean 25 = .ok (.invokevirtual 56, 3) := by decide +kernel
theorem dX3_clean_28 : decode cX3_clean 28 = .ok (.aload_n 0, 1) := by decide +kernel
theorem dX3_clean_29 : decode cX3_clean 29 = .ok (.getfield 10, 3) := by decide +kernel
theorem dX3_clean_32 : decode cX3_clean 32 = .ok (.iload_n 1, 1) := by decide +kernel
theorem dX3_clean_33 : decode cX3_clean 33 = .ok (.invokevirtual 87, 3) := by decide +kernel
theorem dX3_clean_36 : decode cX3_clean 36 = .ok (.ireturn, 1) := by decide +kernel
set_option maxRecDepth 20000 in
theorem ggX3_set_X3_isSetting : GoodIn wsX3_set wsX3_isSetting := goodIn_r _ [11] rfl (by decide +kernel)
set_option maxRecDepth 20000 in
theorem gX3_set_X3_isSetting : GoodIn wsX3_set (va_wsS RX3 91 yX3_isSetting wsX3_isSetting) := goodIn_app (goodIn_of _ (by decide +kernel)) ggX3_set_X3_isSetting
set_option maxRecDepth 20000 in
theorem ggX3_set_X3_isWithin : GoodIn wsX3_set wsX3_isWithin := goodIn_r _ [14] rfl (by decide +kernel)
set_option maxRecDepth 20000 in
theorem gX3_set_X3_isWithin : GoodIn wsX3_set (va_wsS RX3 47 yX3_isWithin wsX3_isWithin) := goodIn_app (goodIn_of _ (by decide +kernel)) ggX3_set_X3_isWithin
set_option maxRecDepth 20000 in
theorem ggX3_set_X2_keep : GoodIn wsX3_set wsX2_keep := goodIn_r _ [19, 20, 21, 22, 23, 24, 25, 26, 27, 28, 29, 30, 31, 32, 33, 34, 35, 36, 37, 38, 39, 40, 41, 42, 43, 44, 45, 46, 47, 48, 49, 50, 51, 52, 53, 54, 55, 56, 65, 66, 67, 68, 69, 70, 71, 72, 73, 74, 75, 76, 77, 78, 79, 80, 81, 82, 83] rfl (by decide +kernel)
set_option maxRecDepth 20000 in
theorem gX3_set_X2_keep : GoodIn wsX3_set (wsV RX3 56 RX2 yX2_keep wsX2_keep) := goodIn_app (goodIn_of _ (by decide +kernel)) ggX3_set_X2_keep
set_option maxRecDepth 20000 in
theorem ggX3_set_X1_changeSetting : GoodIn wsX3_set wsX1_changeSetting := goodIn_r _ [60, 44, 68, 69, 70, 71, 72, 73, 74, 75, 76, 77, 78, 79, 80, 81, 82, 83] rfl (by decide +kernel)
set_option maxRecDepth 20000 in
theorem gX3_set_X1_changeSetting : GoodIn wsX3_set (wsV RX3 102 RX1 yX1_changeSetting wsX1_changeSetting) := goodIn_app (goodIn_of _ (by decide +kernel)) ggX3_set_X1_changeSetting
theorem dX3_set_0 : decode cX3_set 0 = .ok (.iload_n 1, 1) := by decide +kernel
theorem dX3_set_1 : decode cX3_set 1 = .ok (.invokestatic 91, 3) := by decide +kernel
theorem dX3_set_4 : decode cX3_set 4 = .ok (.ifCond .ne 13, 3) := by decide +kernel
theorem dX3_set_7 : decode cX3_set 7 = .ok (.new 40, 3) := by decide +kernel
theorem dX3_set_10 : decode cX3_set 10 = .ok (.dup, 1) := by decide +kernel
theorem dX3_set_11 : decode cX3_set 11 = .ok (.ldc 94, 2) := by decide +kernel
theorem dX3_set_13 : decode cX3_set 13 = .ok (.invokespecial 44, 3) := by decide +kernel
theorem dX3_set_16 : decode cX3_set 16 = .ok (.athrow, 1) := by decide +kernel
theorem dX3_set_17 : decode cX3_set 17 = .ok (.iload_n 2, 1) := by decide +kernel
theorem dX3_set_18 : decode cX3_set 18 = .ok (.iconst 0, 1) := by decide +kernel
theorem dX3_set_19 : decode cX3_set 19 = .ok (.getstatic 96, 3) := by decide +kernel
theorem dX3_set_22 : decode cX3_set 22 = .ok (.iload_n 1, 1) := by decide +kernel
theorem dX3_set_23 : decode cX3_set 23 = .ok (.iaload, 1) := by decide +kernel
theorem dX3_set_24 : decode cX3_set 24 = .ok (.invokestatic 47, 3) := by decide +kernel
theorem dX3_set_27 : decode cX3_set 27 = .ok (.ifCond .ne 13, 3) := by decide +kernel
theorem dX3_set_30 : decode cX3_set 30 = .ok (.new 51, 3) := by decide +kernel
theorem dX3_set_33 : decode cX3_set 33 = .ok (.dup, 1) := by decide +kernel
theorem dX3_set_34 : decode cX3_set 34 = .ok (.ldc 100, 2) := by decide +kernel
theorem dX3_set_36 : decode cX3_set 36 = .ok (.invokespecial 55, 3) := by decide +kernel
theorem dX3_set_39 : decode cX3_set 39 = .ok (.athrow, 1) := by decide +kernel
theorem dX3_set_40 : decode cX3_set 40 = .ok (.aload_n 0, 1) := by decide +kernel
theorem dX3_set_41 : decode cX3_set 41 = .ok (.getfield 22, 3) := by decide +kernel
theorem dX3_set_44 : decode cX3_set 44 = .ok (.aload_n 0, 1) := by decide +kernel
theorem dX3_set_45 : decode cX3_set 45 = .ok (.getfield 10, 3) := by decide +kernel
theorem dX3_set_48 : decode cX3_set 48 = .ok (.invokevirtual 56, 3) := by decide +kernel
theorem dX3_set_51 : decode cX3_set 51 = .ok (.aload_n 0, 1) := by decide +kernel
theorem dX3_set_52 : decode cX3_set 52 = .ok (.getfield 10, 3) := by decide +kernel
theorem dX3_set_55 : decode cX3_set 55 = .ok (.iload_n 1, 1) := by decide +kernel
theorem dX3_set_56 : decode cX3_set 56 = .ok (.iload_n 2, 1) := by decide +kernel
theorem dX3_set_57 : decode cX3_set 57 = .ok (.invokevirtual 102, 3) := by decide +kernel
theorem dX3_set_60 : decode cX3_set 60 = .ok (.ireturn, 1) := by decide +kernel
set_option maxRecDepth 20000 in
theorem ggX3_rain_X3_isWithin : GoodIn wsX3_rain wsX3_isWithin := goodIn_r _ [8] rfl (by decide +kernel)
set_option maxRecDepth 20000 in
theorem gX3_rain_X3_isWithin : GoodIn wsX3_rain (va_wsS RX3 47 yX3_isWithin wsX3_isWithin) := goodIn_app (goodIn_of _ (by decide +kernel)) ggX3_rain_X3_isWithin
set_option maxRecDepth 20000 in
theorem ggX3_rain_X2_keep : GoodIn wsX3_rain wsX2_keep := goodIn_r _ [13, 14, 15, 16, 17, 18, 19, 20, 21, 22, 23, 24, 25, 26, 27, 28, 29, 30, 31, 32, 33, 34, 35, 36, 37, 38, 39, 40, 41, 42, 43, 44, 45, 46, 47, 48, 49, 50, 96, 97, 98, 99, 100, 101, 102, 103, 104, 105, 106, 107, 108, 109, 110, 111, 112, 113, 114] rfl (by decide +kernel)
set_option maxRecDepth 20000 in
theorem gX3_rain_X2_keep : GoodIn wsX3_rain (wsV RX3 56 RX2 yX2_keep wsX2_keep) := goodIn_app (goodIn_of _ (by decide +kernel)) ggX3_rain_X2_keep
set_option maxRecDepth 20000 in
theorem ggX3_rain_X1_spiltLitres : GoodIn wsX3_rain wsX1_spiltLitres := goodIn_r _ [54, 36, 55, 56, 19, 57, 99, 100, 101, 102, 103, 104, 105, 106, 107, 108, 109, 110, 111, 112, 113, 114] rfl (by decide +kernel)
set_option maxRecDepth 20000 in
theorem gX3_rain_X1_spiltLitres : GoodIn wsX3_rain (wsV RX3 107 RX1 yX1_spiltLitres wsX1_spiltLitres) := goodIn_app (goodIn_of _ (by decide +kernel)) ggX3_rain_X1_spiltLitres
set_option maxRecDepth 20000 in
theorem ggX3_rain_X1_passMinutes : GoodIn wsX3_rain wsX1_passMinutes := goodIn_r _ [61, 62, 63, 64, 19, 65, 47, 66, 67, 68, 69, 27, 49, 30, 28, 29, 35, 70, 7, 71, 72, 73, 74, 75, 38, 76, 77, 78, 79, 37, 50, 80, 81, 82, 83, 32, 33, 84, 85, 86, 87, 34, 36, 88, 89, 90, 91, 31, 99, 100, 101, 102, 103, 104, 105, 106, 107, 108, 109, 110, 111, 112, 113, 114] rfl (by decide +kernel)
set_option maxRecDepth 20000 in
theorem gX3_rain_X1_passMinutes : GoodIn wsX3_rain (wsV RX3 111 RX1 yX1_passMinutes wsX1_passMinutes) := goodIn_app (goodIn_of _ (by decide +kernel)) ggX3_rain_X1_passMinutes
theorem dX3_rain_0 : decode cX3_rain 0 = .ok (.iload_n 1, 1) := by decide +kernel
theorem dX3_rain_1 : decode cX3_rain 1 = .ok (.iconst 0, 1) := by decide +kernel
theorem dX3_rain_2 : decode cX3_rain 2 = .ok (.bipush 99, 2) := by decide +kernel
theorem dX3_rain_4 : decode cX3_rain 4 = .ok (.invokestatic 47, 3) := by decide +kernel
theorem dX3_rain_7 : decode cX3_rain 7 = .ok (.ifCond .eq 13, 3) := by decide +kernel
theorem dX3_rain_10 : decode cX3_rain 10 = .ok (.iload_n 2, 1) := by decide +kernel
theorem dX3_rain_11 : decode cX3_rain 11 = .ok (.iconst 1, 1) := by decide +kernel
theorem dX3_rain_12 : decode cX3_rain 12 = .ok (.bipush 60, 2) := by decide +kernel
theorem dX3_rain_14 : decode cX3_rain 14 = .ok (.invokestatic 47, 3) := by decide +kernel
theorem dX3_rain_17 : decode cX3_rain 17 = .ok (.ifCond .ne 13, 3) := by decide +kernel
theorem dX3_rain_20 : decode cX3_rain 20 = .ok (.new 51, 3) := by decide +kernel
theorem dX3_rain_23 : decode cX3_rain 23 = .ok (.dup, 1) := by decide +kernel
theorem dX3_rain_24 : decode cX3_rain 24 = .ok (.ldc 105, 2) := by decide +kernel
theorem dX3_rain_26 : decode cX3_rain 26 = .ok (.invokespecial 55, 3) := by decide +kernel
theorem dX3_rain_29 : decode cX3_rain 29 = .ok (.athrow, 1) := by decide +kernel
theorem dX3_rain_30 : decode cX3_rain 30 = .ok (.aload_n 0, 1) := by decide +kernel
theorem dX3_rain_31 : decode cX3_rain 31 = .ok (.getfield 22, 3) := by decide +kernel
theorem dX3_rain_34 : decode cX3_rain 34 = .ok (.aload_n 0, 1) := by decide +kernel
theorem dX3_rain_35 : decode cX3_rain 35 = .ok (.getfield 10, 3) := by decide +kernel
theorem dX3_rain_38 : decode cX3_rain 38 = .ok (.invokevirtual 56, 3) := by decide +kernel
theorem dX3_rain_41 : decode cX3_rain 41 = .ok (.aload_n 0, 1) := by decide +kernel
theorem dX3_rain_42 : decode cX3_rain 42 = .ok (.getfield 10, 3) := by decide +kernel
theorem dX3_rain_45 : decode cX3_rain 45 = .ok (.invokevirtual 107, 3) := by decide +kernel
theorem dX3_rain_48 : decode cX3_rain 48 = .ok (.istore_n 3, 1) := by decide +kernel
theorem dX3_rain_49 : decode cX3_rain 49 = .ok (.aload_n 0, 1) := by decide +kernel
theorem dX3_rain_50 : decode cX3_rain 50 = .ok (.getfield 10, 3) := by decide +kernel
theorem dX3_rain_53 : decode cX3_rain 53 = .ok (.iload_n 1, 1) := by decide +kernel
theorem dX3_rain_54 : decode cX3_rain 54 = .ok (.iload_n 2, 1) := by decide +kernel
theorem dX3_rain_55 : decode cX3_rain 55 = .ok (.invokevirtual 111, 3) := by decide +kernel
theorem dX3_rain_58 : decode cX3_rain 58 = .ok (.aload_n 0, 1) := by decide +kernel
theorem dX3_rain_59 : decode cX3_rain 59 = .ok (.getfield 10, 3) := by decide +kernel
theorem dX3_rain_62 : decode cX3_rain 62 = .ok (.invokevirtual 107, 3) := by decide +kernel
theorem dX3_rain_65 : decode cX3_rain 65 = .ok (.iload_n 3, 1) := by decide +kernel
theorem dX3_rain_66 : decode cX3_rain 66 = .ok (.isub, 1) := by decide +kernel
theorem dX3_rain_67 : decode cX3_rain 67 = .ok (.ireturn, 1) := by decide +kernel
set_option maxRecDepth 20000 in
theorem ggX3_weeks_X3_isWithin : GoodIn wsX3_weeks wsX3_isWithin := goodIn_r _ [8] rfl (by decide +kernel)
set_option maxRecDepth 20000 in
theorem gX3_weeks_X3_isWithin : GoodIn wsX3_weeks (va_wsS RX3 47 yX3_isWithin wsX3_isWithin) := goodIn_app (goodIn_of _ (by decide +kernel)) ggX3_weeks_X3_isWithin
set_option maxRecDepth 20000 in
theorem ggX3_weeks_X2_keep : GoodIn wsX3_weeks wsX2_keep := goodIn_r _ [13, 14, 15, 16, 17, 18, 19, 20, 21, 22, 23, 24, 25, 26, 27, 28, 29, 30, 31, 32, 33, 34, 35, 36, 37, 38, 39, 40, 41, 42, 43, 44, 45, 46, 47, 48, 49, 50, 70, 71, 72, 73, 74, 75, 76, 77, 78, 79, 80, 81, 82, 83, 84, 85, 86, 87, 88] rfl (by decide +kernel)
set_option maxRecDepth 20000 in
theorem gX3_weeks_X2_keep : GoodIn wsX3_weeks (wsV RX3 56 RX2 yX2_keep wsX2_keep) := goodIn_app (goodIn_of _ (by decide +kernel)) ggX3_weeks_X2_keep
set_option maxRecDepth 20000 in
theorem ggX3_weeks_X1_passWeek : GoodIn wsX3_weeks wsX1_passWeek := goodIn_r _ [54, 33, 38, 55, 56, 57, 58, 48, 73, 74, 75, 76, 77, 78, 79, 80, 81, 82, 83, 84, 85, 86, 87, 88] rfl (by decide +kernel)
set_option maxRecDepth 20000 in
theorem gX3_weeks_X1_passWeek : GoodIn wsX3_weeks (wsV RX3 117 RX1 yX1_passWeek wsX1_passWeek) := goodIn_app (goodIn_of _ (by decide +kernel)) ggX3_weeks_X1_passWeek
set_option maxRecDepth 20000 in
theorem ggX3_weeks_X1_leavesTogether : GoodIn wsX3_weeks wsX1_leavesTogether := goodIn_r _ [62, 33, 63, 64, 19, 65, 73, 74, 75, 76, 77, 78, 79, 80, 81, 82, 83, 84, 85, 86, 87, 88] rfl (by decide +kernel)
set_option maxRecDepth 20000 in
theorem gX3_weeks_X1_leavesTogether : GoodIn wsX3_weeks (wsV RX3 120 RX1 yX1_leavesTogether wsX1_leavesTogether) := goodIn_app (goodIn_of _ (by decide +kernel)) ggX3_weeks_X1_leavesTogether
theorem dX3_weeks_0 : decode cX3_weeks 0 = .ok (.iload_n 1, 1) := by decide +kernel
theorem dX3_weeks_1 : decode cX3_weeks 1 = .ok (.iconst 1, 1) := by decide +kernel
theorem dX3_weeks_2 : decode cX3_weeks 2 = .ok (.bipush 52, 2) := by decide +kernel
theorem dX3_weeks_4 : decode cX3_weeks 4 = .ok (.invokestatic 47, 3) := by decide +kernel
theorem dX3_weeks_7 : decode cX3_weeks 7 = .ok (.ifCond .ne 13, 3) := by decide +kernel
theorem dX3_weeks_10 : decode cX3_weeks 10 = .ok (.new 51, 3) := by decide +kernel
theorem dX3_weeks_13 : decode cX3_weeks 13 = .ok (.dup, 1) := by decide +kernel
theorem dX3_weeks_14 : decode cX3_weeks 14 = .ok (.ldc 115, 2) := by decide +kernel
theorem dX3_weeks_16 : decode cX3_weeks 16 = .ok (.invokespecial 55, 3) := by decide +kernel
theorem dX3_weeks_19 : decode cX3_weeks 19 = .ok (.athrow, 1) := by decide +kernel
theorem dX3_weeks_20 : decode cX3_weeks 20 = .ok (.aload_n 0, 1) := by decide +kernel
theorem dX3_weeks_21 : decode cX3_weeks 21 = .ok (.getfield 22, 3) := by decide +kernel
theorem dX3_weeks_24 : decode cX3_weeks 24 = .ok (.aload_n 0, 1) := by decide +kernel
theorem dX3_weeks_25 : decode cX3_weeks 25 = .ok (.getfield 10, 3) := by decide +kernel
theorem dX3_weeks_28 : decode cX3_weeks 28 = .ok (.invokevirtual 56, 3) := by decide +kernel
theorem dX3_weeks_31 : decode cX3_weeks 31 = .ok (.iconst 0, 1) := by decide +kernel
theorem dX3_weeks_32 : decode cX3_weeks 32 = .ok (.istore_n 2, 1) := by decide +kernel
theorem dX3_weeks_33 : decode cX3_weeks 33 = .ok (.iload_n 2, 1) := by decide +kernel
theorem dX3_weeks_34 : decode cX3_weeks 34 = .ok (.iload_n 1, 1) := by decide +kernel
theorem dX3_weeks_35 : decode cX3_weeks 35 = .ok (.if_icmp .ge 16, 3) := by decide +kernel
theorem dX3_weeks_38 : decode cX3_weeks 38 = .ok (.aload_n 0, 1) := by decide +kernel
theorem dX3_weeks_39 : decode cX3_weeks 39 = .ok (.getfield 10, 3) := by decide +kernel
theorem dX3_weeks_42 : decode cX3_weeks 42 = .ok (.invokevirtual 117, 3) := by decide +kernel
theorem dX3_weeks_45 : decode cX3_weeks 45 = .ok (.iinc 2 1, 3) := by decide +kernel
theorem dX3_weeks_48 : decode cX3_weeks 48 = .ok (.goto (-15), 3) := by decide +kernel
theorem dX3_weeks_51 : decode cX3_weeks 51 = .ok (.aload_n 0, 1) := by decide +kernel
theorem dX3_weeks_52 : decode cX3_weeks 52 = .ok (.getfield 10, 3) := by decide +kernel
theorem dX3_weeks_55 : decode cX3_weeks 55 = .ok (.invokevirtual 120, 3) := by decide +kernel
theorem dX3_weeks_58 : decode cX3_weeks 58 = .ok (.ireturn, 1) := by decide +kernel
set_option maxRecDepth 20000 in
theorem ggX3_undo_X2_dropLatest : GoodIn wsX3_undo wsX2_dropLatest := goodIn_r _ [9, 10, 11, 12, 46, 47, 48] rfl (by decide +kernel)
set_option maxRecDepth 20000 in
theorem gX3_undo_X2_dropLatest : GoodIn wsX3_undo (wsV RX3 152 RX2 yX2_dropLatest wsX2_dropLatest) := goodIn_app (goodIn_of _ (by decide +kernel)) ggX3_undo_X2_dropLatest
set_option maxRecDepth 20000 in
theorem ggX3_undo_X1_copyFrom : GoodIn wsX3_undo wsX1_copyFrom := goodIn_r _ [17, 18, 19, 20, 21, 22, 23, 24, 25, 26, 27, 28, 29, 30, 31, 32, 33, 34, 35, 36, 37, 49, 50, 51, 52, 53, 54, 55, 56, 57, 58, 59, 60, 61, 62, 63, 64] rfl (by decide +kernel)
set_option maxRecDepth 20000 in
theorem gX3_undo_X1_copyFrom : GoodIn wsX3_undo (wsV RX3 158 RX1 yX1_copyFrom wsX1_copyFrom) := goodIn_app (goodIn_of _ (by decide +kernel)) ggX3_undo_X1_copyFrom
set_option maxRecDepth 20000 in
theorem ggX3_undo_X2_held : GoodIn wsX3_undo wsX2_held := goodIn_r _ [41, 10, 46, 47, 48] rfl (by decide +kernel)
set_option maxRecDepth 20000 in
theorem gX3_undo_X2_held : GoodIn wsX3_undo (wsV RX3 161 RX2 yX2_held wsX2_held) := goodIn_app (goodIn_of _ (by decide +kernel)) ggX3_undo_X2_held
theorem dX3_undo_0 : decode cX3_undo 0 = .ok (.aload_n 0, 1) := by decide +kernel
theorem dX3_undo_1 : decode cX3_undo 1 = .ok (.getfield 22, 3) := by decide +kernel
theorem dX3_undo_4 : decode cX3_undo 4 = .ok (.invokevirtual 152, 3) := by decide +kernel
theorem dX3_undo_7 : decode cX3_undo 7 = .ok (.astore_n 1, 1) := by decide +kernel
theorem dX3_undo_8 : decode cX3_undo 8 = .ok (.aload_n 1, 1) := by decide +kernel
theorem dX3_undo_9 : decode cX3_undo 9 = .ok (.ifnonnull 13, 3) := by decide +kernel
theorem dX3_undo_12 : decode cX3_undo 12 = .ok (.new 78, 3) := by decide +kernel
theorem dX3_undo_15 : decode cX3_undo 15 = .ok (.dup, 1) := by decide +kernel
theorem dX3_undo_16 : decode cX3_undo 16 = .ok (.ldc 156, 2) := by decide +kernel
theorem dX3_undo_18 : decode cX3_undo 18 = .ok (.invokespecial 82, 3) := by decide +kernel
theorem dX3_undo_21 : decode cX3_undo 21 = .ok (.athrow, 1) := by decide +kernel
theorem dX3_undo_22 : decode cX3_undo 22 = .ok (.aload_n 0, 1) := by decide +kernel
theorem dX3_undo_23 : decode cX3_undo 23 = .ok (.getfield 10, 3) := by decide +kernel
theorem dX3_undo_26 : decode cX3_undo 26 = .ok (.aload_n 1, 1) := by decide +kernel
theorem dX3_undo_27 : decode cX3_undo 27 = .ok (.invokevirtual 158, 3) := by decide +kernel
theorem dX3_undo_30 : decode cX3_undo 30 = .ok (.aload_n 0, 1) := by decide +kernel
theorem dX3_undo_31 : decode cX3_undo 31 = .ok (.getfield 22, 3) := by decide +kernel
theorem dX3_undo_34 : decode cX3_undo 34 = .ok (.invokevirtual 161, 3) := by decide +kernel
theorem dX3_undo_37 : decode cX3_undo 37 = .ok (.ireturn, 1) := by decide +kernel
set_option maxRecDepth 20000 in
theorem ggX3_planeOf_X3_isPlane : GoodIn wsX3_planeOf wsX3_isPlane := goodIn_r _ [9] rfl (by decide +kernel)
set_option maxRecDepth 20000 in
theorem gX3_planeOf_X3_isPlane : GoodIn wsX3_planeOf (va_wsS RX3 33 yX3_isPlane wsX3_isPlane) := goodIn_app (goodIn_of _ (by decide +kernel)) ggX3_planeOf_X3_isPlane
set_option maxRecDepth 20000 in
theorem ggX3_planeOf_X3_isWithin : GoodIn wsX3_planeOf wsX3_isWithin := goodIn_r _ [12] rfl (by decide +kernel)
set_option maxRecDepth 20000 in
theorem gX3_planeOf_X3_isWithin : GoodIn wsX3_planeOf (va_wsS RX3 47 yX3_isWithin wsX3_isWithin) := goodIn_app (goodIn_of _ (by decide +kernel)) ggX3_planeOf_X3_isWithin
set_option maxRecDepth 20000 in
theorem ggX3_planeOf_X1_planeNumber : GoodIn wsX3_planeOf wsX1_planeNumber := goodIn_r _ [17, 18, 19, 20, 21, 26, 27, 28, 29, 30, 31, 32, 33, 34, 35, 36, 37, 38, 39, 40, 41] rfl (by decide +kernel)
set_option maxRecDepth 20000 in
theorem gX3_planeOf_X1_planeNumber : GoodIn wsX3_planeOf (wsV RX3 168 RX1 yX1_planeNumber wsX1_planeNumber) := goodIn_app (goodIn_of _ (by decide +kernel)) ggX3_planeOf_X1_planeNumber
theorem dX3_planeOf_0 : decode cX3_planeOf 0 = .ok (.iload_n 1, 1) := by decide +kernel
theorem dX3_planeOf_1 : decode cX3_planeOf 1 = .ok (.invokestatic 33, 3) := by decide +kernel
theorem dX3_planeOf_4 : decode cX3_planeOf 4 = .ok (.ifCond .ne 13, 3) := by decide +kernel
theorem dX3_planeOf_7 : decode cX3_planeOf 7 = .ok (.new 40, 3) := by decide +kernel
theorem dX3_planeOf_10 : decode cX3_planeOf 10 = .ok (.dup, 1) := by decide +kernel
theorem dX3_planeOf_11 : decode cX3_planeOf 11 = .ok (.ldc 164, 2) := by decide +kernel
theorem dX3_planeOf_13 : decode cX3_planeOf 13 = .ok (.invokespecial 44, 3) := by decide +kernel
theorem dX3_planeOf_16 : decode cX3_planeOf 16 = .ok (.athrow, 1) := by decide +kernel
theorem dX3_planeOf_17 : decode cX3_planeOf 17 = .ok (.iload_n 2, 1) := by decide +kernel
theorem dX3_planeOf_18 : decode cX3_planeOf 18 = .ok (.iconst 0, 1) := by decide +kernel
theorem dX3_planeOf_19 : decode cX3_planeOf 19 = .ok (.iconst 3, 1) := by decide +kernel
theorem dX3_planeOf_20 : decode cX3_planeOf 20 = .ok (.invokestatic 47, 3) := by decide +kernel
theorem dX3_planeOf_23 : decode cX3_planeOf 23 = .ok (.ifCond .ne 13, 3) := by decide +kernel
theorem dX3_planeOf_26 : decode cX3_planeOf 26 = .ok (.new 51, 3) := by decide +kernel
theorem dX3_planeOf_29 : decode cX3_planeOf 29 = .ok (.dup, 1) := by decide +kernel
theorem dX3_planeOf_30 : decode cX3_planeOf 30 = .ok (.ldc 166, 2) := by decide +kernel
theorem dX3_planeOf_32 : decode cX3_planeOf 32 = .ok (.invokespecial 55, 3) := by decide +kernel
theorem dX3_planeOf_35 : decode cX3_planeOf 35 = .ok (.athrow, 1) := by decide +kernel
theorem dX3_planeOf_36 : decode cX3_planeOf 36 = .ok (.aload_n 0, 1) := by decide +kernel
theorem dX3_planeOf_37 : decode cX3_planeOf 37 = .ok (.getfield 10, 3) := by decide +kernel
theorem dX3_planeOf_40 : decode cX3_planeOf 40 = .ok (.iload_n 1, 1) := by decide +kernel
theorem dX3_planeOf_41 : decode cX3_planeOf 41 = .ok (.iload_n 2, 1) := by decide +kernel
theorem dX3_planeOf_42 : decode cX3_planeOf 42 = .ok (.invokevirtual 168, 3) := by decide +kernel
theorem dX3_planeOf_45 : decode cX3_planeOf 45 = .ok (.ireturn, 1) := by decide +kernel
set_option maxRecDepth 20000 in
theorem ggX3_gutterOf_X3_isGutter : GoodIn wsX3_gutterOf wsX3_isGutter := goodIn_r _ [9] rfl (by decide +kernel)
set_option maxRecDepth 20000 in
theorem gX3_gutterOf_X3_isGutter : GoodIn wsX3_gutterOf (va_wsS RX3 37 yX3_isGutter wsX3_isGutter) := goodIn_app (goodIn_of _ (by decide +kernel)) ggX3_gutterOf_X3_isGutter
set_option maxRecDepth 20000 in
theorem ggX3_gutterOf_X3_isWithin : GoodIn wsX3_gutterOf wsX3_isWithin := goodIn_r _ [12] rfl (by decide +kernel)
set_option maxRecDepth 20000 in
theorem gX3_gutterOf_X3_isWithin : GoodIn wsX3_gutterOf (va_wsS RX3 47 yX3_isWithin wsX3_isWithin) := goodIn_app (goodIn_of _ (by decide +kernel)) ggX3_gutterOf_X3_isWithin
set_option maxRecDepth 20000 in
theorem ggX3_gutterOf_X1_gutterNumber : GoodIn wsX3_gutterOf wsX1_gutterNumber := goodIn_r _ [17, 18, 19, 20, 21, 22, 23, 24, 25, 26, 27, 16, 28, 29, 30, 31, 32, 37, 38, 39, 40, 41, 42, 43, 44, 45, 46, 47, 48, 49, 50, 51, 52] rfl (by decide +kernel)
set_option maxRecDepth 20000 in
theorem gX3_gutterOf_X1_gutterNumber : GoodIn wsX3_gutterOf (wsV RX3 173 RX1 yX1_gutterNumber wsX1_gutterNumber) := goodIn_app (goodIn_of _ (by decide +kernel)) ggX3_gutterOf_X1_gutterNumber
theorem dX3_gutterOf_0 : decode cX3_gutterOf 0 = .ok (.iload_n 1, 1) := by decide +kernel
theorem dX3_gutterOf_1 : decode cX3_gutterOf 1 = .ok (.invokestatic 37, 3) := by decide +kernel
theorem dX3_gutterOf_4 : decode cX3_gutterOf 4 = .ok (.ifCond .ne 13, 3) := by decide +kernel
theorem dX3_gutterOf_7 : decode cX3_gutterOf 7 = .ok (.new 40, 3) := by decide +kernel
theorem dX3_gutterOf_10 : decode cX3_gutterOf 10 = .ok (.dup, 1) := by decide +kernel
theorem dX3_gutterOf_11 : decode cX3_gutterOf 11 = .ok (.ldc 64, 2) := by decide +kernel
theorem dX3_gutterOf_13 : decode cX3_gutterOf 13 = .ok (.invokespecial 44, 3) := by decide +kernel
theorem dX3_gutterOf_16 : decode cX3_gutterOf 16 = .ok (.athrow, 1) := by decide +kernel
theorem dX3_gutterOf_17 : decode cX3_gutterOf 17 = .ok (.iload_n 2, 1) := by decide +kernel
theorem dX3_gutterOf_18 : decode cX3_gutterOf 18 = .ok (.iconst 0, 1) := by decide +kernel
theorem dX3_gutterOf_19 : decode cX3_gutterOf 19 = .ok (.bipush 8, 2) := by decide +kernel
theorem dX3_gutterOf_21 : decode cX3_gutterOf 21 = .ok (.invokestatic 47, 3) := by decide +kernel
theorem dX3_gutterOf_24 : decode cX3_gutterOf 24 = .ok (.ifCond .ne 13, 3) := by decide +kernel
theorem dX3_gutterOf_27 : decode cX3_gutterOf 27 = .ok (.new 51, 3) := by decide +kernel
theorem dX3_gutterOf_30 : decode cX3_gutterOf 30 = .ok (.dup, 1) := by decide +kernel
theorem dX3_gutterOf_31 : decode cX3_gutterOf 31 = .ok (.ldc 171, 2) := by decide +kernel
theorem dX3_gutterOf_33 : decode cX3_gutterOf 33 = .ok (.invokespecial 55, 3) := by decide +kernel
theorem dX3_gutterOf_36 : decode cX3_gutterOf 36 = .ok (.athrow, 1) := by decide +kernel
theorem dX3_gutterOf_37 : decode cX3_gutterOf 37 = .ok (.aload_n 0, 1) := by decide +kernel
theorem dX3_gutterOf_38 : decode cX3_gutterOf 38 = .ok (.getfield 10, 3) := by decide +kernel
theorem dX3_gutterOf_41 : decode cX3_gutterOf 41 = .ok (.iload_n 1, 1) := by decide +kernel
theorem dX3_gutterOf_42 : decode cX3_gutterOf 42 = .ok (.iload_n 2, 1) := by decide +kernel
theorem dX3_gutterOf_43 : decode cX3_gutterOf 43 = .ok (.invokevirtual 173, 3) := by decide +kernel
theorem dX3_gutterOf_46 : decode cX3_gutterOf 46 = .ok (.ireturn, 1) := by decide +kernel
set_option maxRecDepth 20000 in
theorem ggX3_count_X1_minutesGone : GoodIn wsX3_count wsX1_minutesGone := goodIn_r _ [9, 10, 60, 61, 62, 63, 64, 65, 66, 67, 68, 69, 70, 71, 72, 73, 74, 75] rfl (by decide +kernel)
set_option maxRecDepth 20000 in
theorem gX3_count_X1_minutesGone : GoodIn wsX3_count (wsV RX3 176 RX1 yX1_minutesGone wsX1_minutesGone) := goodIn_app (goodIn_of _ (by decide +kernel)) ggX3_count_X1_minutesGone
set_option maxRecDepth 20000 in
theorem ggX3_count_X1_weeksPassed : GoodIn wsX3_count wsX1_weeksPassed := goodIn_r _ [14, 15, 60, 61, 62, 63, 64, 65, 66, 67, 68, 69, 70, 71, 72, 73, 74, 75] rfl (by decide +kernel)
set_option maxRecDepth 20000 in
theorem gX3_count_X1_weeksPassed : GoodIn wsX3_count (wsV RX3 179 RX1 yX1_weeksPassed wsX1_weeksPassed) := goodIn_app (goodIn_of _ (by decide +kernel)) ggX3_count_X1_weeksPassed
set_option maxRecDepth 20000 in
theorem ggX3_count_X1_rainedLitres : GoodIn wsX3_count wsX1_rainedLitres := goodIn_r _ [19, 20, 60, 61, 62, 63, 64, 65, 66, 67, 68, 69, 70, 71, 72, 73, 74, 75] rfl (by decide +kernel)
set_option maxRecDepth 20000 in
theorem gX3_count_X1_rainedLitres : GoodIn wsX3_count (wsV RX3 182 RX1 yX1_rainedLitres wsX1_rainedLitres) := goodIn_app (goodIn_of _ (by decide +kernel)) ggX3_count_X1_rainedLitres
set_option maxRecDepth 20000 in
theorem ggX3_count_X1_standingLitres : GoodIn wsX3_count wsX1_standingLitres := goodIn_r _ [24, 25, 26, 27, 28, 8, 29, 60, 61, 62, 63, 64, 65, 66, 67, 68, 69, 70, 71, 72, 73, 74, 75] rfl (by decide +kernel)
set_option maxRecDepth 20000 in
theorem gX3_count_X1_standingLitres : GoodIn wsX3_count (wsV RX3 185 RX1 yX1_standingLitres wsX1_standingLitres) := goodIn_app (goodIn_of _ (by decide +kernel)) ggX3_count_X1_standingLitres
set_option maxRecDepth 20000 in
theorem ggX3_count_X1_drainedLitres : GoodIn wsX3_count wsX1_drainedLitres := goodIn_r _ [33, 34, 27, 28, 8, 29, 60, 61, 62, 63, 64, 65, 66, 67, 68, 69, 70, 71, 72, 73, 74, 75] rfl (by decide +kernel)
set_option maxRecDepth 20000 in
theorem gX3_count_X1_drainedLitres : GoodIn wsX3_count (wsV RX3 188 RX1 yX1_drainedLitres wsX1_drainedLitres) := goodIn_app (goodIn_of _ (by decide +kernel)) ggX3_count_X1_drainedLitres
set_option maxRecDepth 20000 in
theorem ggX3_count_X1_spiltLitres : GoodIn wsX3_count wsX1_spiltLitres := goodIn_r _ [38, 39, 27, 28, 8, 29, 60, 61, 62, 63, 64, 65, 66, 67, 68, 69, 70, 71, 72, 73, 74, 75] rfl (by decide +kernel)
set_option maxRecDepth 20000 in
theorem gX3_count_X1_spiltLitres : GoodIn wsX3_count (wsV RX3 107 RX1 yX1_spiltLitres wsX1_spiltLitres) := goodIn_app (goodIn_of _ (by decide +kernel)) ggX3_count_X1_spiltLitres
set_option maxRecDepth 20000 in
theorem ggX3_count_X1_backedUpMinutes : GoodIn wsX3_count wsX1_backedUpMinutes := goodIn_r _ [43, 44, 60, 61, 62, 63, 64, 65, 66, 67, 68, 69, 70, 71, 72, 73, 74, 75] rfl (by decide +kernel)
set_option maxRecDepth 20000 in
theorem gX3_count_X1_backedUpMinutes : GoodIn wsX3_count (wsV RX3 191 RX1 yX1_backedUpMinutes wsX1_backedUpMinutes) := goodIn_app (goodIn_of _ (by decide +kernel)) ggX3_count_X1_backedUpMinutes
set_option maxRecDepth 20000 in
theorem ggX3_count_X1_leavesTogether : GoodIn wsX3_count wsX1_leavesTogether := goodIn_r _ [48, 49, 27, 28, 8, 29, 60, 61, 62, 63, 64, 65, 66, 67, 68, 69, 70, 71, 72, 73, 74, 75] rfl (by decide +kernel)
set_option maxRecDepth 20000 in
theorem gX3_count_X1_leavesTogether : GoodIn wsX3_count (wsV RX3 120 RX1 yX1_leavesTogether wsX1_leavesTogether) := goodIn_app (goodIn_of _ (by decide +kernel)) ggX3_count_X1_leavesTogether
set_option maxRecDepth 20000 in
theorem ggX3_count_X2_held : GoodIn wsX3_count wsX2_held := goodIn_r _ [54, 55, 76, 77, 78] rfl (by decide +kernel)
set_option maxRecDepth 20000 in
theorem gX3_count_X2_held : GoodIn wsX3_count (wsV RX3 161 RX2 yX2_held wsX2_held) := goodIn_app (goodIn_of _ (by decide +kernel)) ggX3_count_X2_held
theorem dX3_count_0 : decode cX3_count 0 = .ok (.iload_n 1, 1) := by decide +kernel
theorem dX3_count_1 : decode cX3_count 1 = .ok (.tableswitch 123 0 8 #[51, 59, 67, 75, 83, 91, 99, 107, 115], 51) := by decide +kernel
theorem dX3_count_52 : decode cX3_count 52 = .ok (.aload_n 0, 1) := by decide +kernel
theorem dX3_count_53 : decode cX3_count 53 = .ok (.getfield 10, 3) := by decide +kernel
theorem dX3_count_56 : decode cX3_count 56 = .ok (.invokevirtual 176, 3) := by decide +kernel
theorem dX3_count_59 : decode cX3_count 59 = .ok (.ireturn, 1) := by decide +kernel
theorem dX3_count_60 : decode cX3_count 60 = .ok (.aload_n 0, 1) := by decide +kernel
theorem dX3_count_61 : decode cX3_count 61 = .ok (.getfield 10, 3) := by decide +kernel
theorem dX3_count_64 : decode cX3_count 64 = .ok (.invokevirtual 179, 3) := by decide +kernel
theorem dX3_count_67 : decode cX3_count 67 = .ok (.ireturn, 1) := by decide +kernel
theorem dX3_count_68 : decode cX3_count 68 = .ok (.aload_n 0, 1) := by decide +kernel
theorem dX3_count_69 : decode cX3_count 69 = .ok (.getfield 10, 3) := by decide +kernel
theorem dX3_count_72 : decode cX3_count 72 = .ok (.invokevirtual 182, 3) := by decide +kernel
theorem dX3_count_75 : decode cX3_count 75 = .ok (.ireturn, 1) := by decide +kernel
theorem dX3_count_76 : decode cX3_count 76 = .ok (.aload_n 0, 1) := by decide +kernel
theorem dX3_count_77 : decode cX3_count 77 = .ok (.getfield 10, 3) := by decide +kernel
theorem dX3_count_80 : decode cX3_count 80 = .ok (.invokevirtual 185, 3) := by decide +kernel
theorem dX3_count_83 : decode cX3_count 83 = .ok (.ireturn, 1) := by decide +kernel
theorem dX3_count_84 : decode cX3_count 84 = .ok (.aload_n 0, 1) := by decide +kernel
theorem dX3_count_85 : decode cX3_count 85 = .ok (.getfield 10, 3) := by decide +kernel
theorem dX3_count_88 : decode cX3_count 88 = .ok (.invokevirtual 188, 3) := by decide +kernel
theorem dX3_count_91 : decode cX3_count 91 = .ok (.ireturn, 1) := by decide +kernel
theorem dX3_count_92 : decode cX3_count 92 = .ok (.aload_n 0, 1) := by decide +kernel
theorem dX3_count_93 : decode cX3_count 93 = .ok (.getfield 10, 3) := by decide +kernel
theorem dX3_count_96 : decode cX3_count 96 = .ok (.invokevirtual 107, 3) := by decide +kernel
theorem dX3_count_99 : decode cX3_count 99 = .ok (.ireturn, 1) := by decide +kernel
theorem dX3_count_100 : decode cX3_count 100 = .ok (.aload_n 0, 1) := by decide +kernel
theorem dX3_count_101 : decode cX3_count 101 = .ok (.getfield 10, 3) := by decide +kernel
theorem dX3_count_104 : decode cX3_count 104 = .ok (.invokevirtual 191, 3) := by decide +kernel
theorem dX3_count_107 : decode cX3_count 107 = .ok (.ireturn, 1) := by decide +kernel
theorem dX3_count_108 : decode cX3_count 108 = .ok (.aload_n 0, 1) := by decide +kernel
theorem dX3_count_109 : decode cX3_count 109 = .ok (.getfield 10, 3) := by decide +kernel
theorem dX3_count_112 : decode cX3_count 112 = .ok (.invokevirtual 120, 3) := by decide +kernel
theorem dX3_count_115 : decode cX3_count 115 = .ok (.ireturn, 1) := by decide +kernel
theorem dX3_count_116 : decode cX3_count 116 = .ok (.aload_n 0, 1) := by decide +kernel
theorem dX3_count_117 : decode cX3_count 117 = .ok (.getfield 22, 3) := by decide +kernel
theorem dX3_count_120 : decode cX3_count 120 = .ok (.invokevirtual 161, 3) := by decide +kernel
theorem dX3_count_123 : decode cX3_count 123 = .ok (.ireturn, 1) := by decide +kernel
theorem dX3_count_124 : decode cX3_count 124 = .ok (.new 51, 3) := by decide +kernel
theorem dX3_count_127 : decode cX3_count 127 = .ok (.dup, 1) := by decide +kernel
theorem dX3_count_128 : decode cX3_count 128 = .ok (.ldc 171, 2) := by decide +kernel
theorem dX3_count_130 : decode cX3_count 130 = .ok (.invokespecial 55, 3) := by decide +kernel
theorem dX3_count_133 : decode cX3_count 133 = .ok (.athrow, 1) := by decide +kernel
set_option maxRecDepth 20000 in
theorem ggX3_setting_X3_isSetting : GoodIn wsX3_setting wsX3_isSetting := goodIn_r _ [7] rfl (by decide +kernel)
set_option maxRecDepth 20000 in
theorem gX3_setting_X3_isSetting : GoodIn wsX3_setting (va_wsS RX3 91 yX3_isSetting wsX3_isSetting) := goodIn_app (goodIn_of _ (by decide +kernel)) ggX3_setting_X3_isSetting
set_option maxRecDepth 20000 in
theorem ggX3_setting_X1_settingValue : GoodIn wsX3_setting wsX1_settingValue := goodIn_r _ [12, 13, 18, 19, 20, 21, 22, 23, 24, 25, 26, 27, 28, 29, 30, 31, 32, 33] rfl (by decide +kernel)
set_option maxRecDepth 20000 in
theorem gX3_setting_X1_settingValue : GoodIn wsX3_setting (wsV RX3 194 RX1 yX1_settingValue wsX1_settingValue) := goodIn_app (goodIn_of _ (by decide +kernel)) ggX3_setting_X1_settingValue
theorem dX3_setting_0 : decode cX3_setting 0 = .ok (.iload_n 1, 1) := by decide +kernel
theorem dX3_setting_1 : decode cX3_setting 1 = .ok (.invokestatic 91, 3) := by decide +kernel
theorem dX3_setting_4 : decode cX3_setting 4 = .ok (.ifCond .ne 13, 3) := by decide +kernel
theorem dX3_setting_7 : decode cX3_setting 7 = .ok (.new 40, 3) := by decide +kernel
theorem dX3_setting_10 : decode cX3_setting 10 = .ok (.dup, 1) := by decide +kernel
theorem dX3_setting_11 : decode cX3_setting 11 = .ok (.ldc 94, 2) := by decide +kernel
theorem dX3_setting_13 : decode cX3_setting 13 = .ok (.invokespecial 44, 3) := by decide +kernel
theorem dX3_setting_16 : decode cX3_setting 16 = .ok (.athrow, 1) := by decide +kernel
theorem dX3_setting_17 : decode cX3_setting 17 = .ok (.aload_n 0, 1) := by decide +kernel
theorem dX3_setting_18 : decode cX3_setting 18 = .ok (.getfield 10, 3) := by decide +kernel
theorem dX3_setting_21 : decode cX3_setting 21 = .ok (.iload_n 1, 1) := by decide +kernel
theorem dX3_setting_22 : decode cX3_setting 22 = .ok (.invokevirtual 194, 3) := by decide +kernel
theorem dX3_setting_25 : decode cX3_setting 25 = .ok (.ireturn, 1) := by decide +kernel
set_option maxRecDepth 20000 in
theorem ggX3_dryIn_X1_copyFrom : GoodIn wsX3_dryIn wsX1_copyFrom := goodIn_r _ [7, 8, 9, 10, 11, 12, 13, 14, 15, 16, 17, 18, 19, 20, 21, 22, 23, 24, 25, 26, 27, 70, 71, 72, 73, 74, 75, 76, 77, 78, 79, 80, 81, 82, 83, 84, 85] rfl (by decide +kernel)
set_option maxRecDepth 20000 in
theorem gX3_dryIn_X1_copyFrom : GoodIn wsX3_dryIn (wsV RX3 158 RX1 yX1_copyFrom wsX1_copyFrom) := goodIn_app (goodIn_of _ (by decide +kernel)) ggX3_dryIn_X1_copyFrom
set_option maxRecDepth 20000 in
theorem ggX3_dryIn_X1_standingLitres : GoodIn wsX3_dryIn wsX1_standingLitres := goodIn_r _ [31, 15, 20, 32, 33, 6, 34, 70, 71, 72, 73, 74, 75, 76, 77, 78, 79, 80, 81, 82, 83, 84, 85] rfl (by decide +kernel)
set_option maxRecDepth 20000 in
theorem gX3_dryIn_X1_standingLitres : GoodIn wsX3_dryIn (wsV RX3 185 RX1 yX1_standingLitres wsX1_standingLitres) := goodIn_app (goodIn_of _ (by decide +kernel)) ggX3_dryIn_X1_standingLitres
set_option maxRecDepth 20000 in
theorem ggX3_dryIn_X1_passMinute : GoodIn wsX3_dryIn wsX1_passMinute := goodIn_r _ [38, 24, 39, 40, 41, 6, 42, 8, 26, 15, 13, 14, 20, 43, 44, 45, 46, 47, 48, 49, 23, 50, 51, 52, 53, 22, 27, 54, 55, 56, 57, 17, 18, 58, 59, 60, 61, 19, 21, 62, 63, 64, 65, 16, 70, 71, 72, 73, 74, 75, 76, 77, 78, 79, 80, 81, 82, 83, 84, 85] rfl (by decide +kernel)
set_option maxRecDepth 20000 in
theorem gX3_dryIn_X1_passMinute : GoodIn wsX3_dryIn (wsV RX3 201 RX1 yX1_passMinute wsX1_passMinute) := goodIn_app (goodIn_of _ (by decide +kernel)) ggX3_dryIn_X1_passMinute
theorem dX3_dryIn_0 : decode cX3_dryIn 0 = .ok (.aload_n 0, 1) := by decide +kernel
theorem dX3_dryIn_1 : decode cX3_dryIn 1 = .ok (.getfield 16, 3) := by decide +kernel
theorem dX3_dryIn_4 : decode cX3_dryIn 4 = .ok (.aload_n 0, 1) := by decide +kernel
theorem dX3_dryIn_5 : decode cX3_dryIn 5 = .ok (.getfield 10, 3) := by decide +kernel
theorem dX3_dryIn_8 : decode cX3_dryIn 8 = .ok (.invokevirtual 158, 3) := by decide +kernel
theorem dX3_dryIn_11 : decode cX3_dryIn 11 = .ok (.iconst 0, 1) := by decide +kernel
theorem dX3_dryIn_12 : decode cX3_dryIn 12 = .ok (.istore_n 1, 1) := by decide +kernel
theorem dX3_dryIn_13 : decode cX3_dryIn 13 = .ok (.iload_n 1, 1) := by decide +kernel
theorem dX3_dryIn_14 : decode cX3_dryIn 14 = .ok (.sipush 300, 3) := by decide +kernel
theorem dX3_dryIn_17 : decode cX3_dryIn 17 = .ok (.if_icmp .gt 29, 3) := by decide +kernel
theorem dX3_dryIn_20 : decode cX3_dryIn 20 = .ok (.aload_n 0, 1) := by decide +kernel
theorem dX3_dryIn_21 : decode cX3_dryIn 21 = .ok (.getfield 16, 3) := by decide +kernel
theorem dX3_dryIn_24 : decode cX3_dryIn 24 = .ok (.invokevirtual 185, 3) := by decide +kernel
theorem dX3_dryIn_27 : decode cX3_dryIn 27 = .ok (.ifCond .ne 5, 3) := by decide +kernel
theorem dX3_dryIn_30 : decode cX3_dryIn 30 = .ok (.iload_n 1, 1) := by decide +kernel
theorem dX3_dryIn_31 : decode cX3_dryIn 31 = .ok (.ireturn, 1) := by decide +kernel
theorem dX3_dryIn_32 : decode cX3_dryIn 32 = .ok (.aload_n 0, 1) := by decide +kernel
theorem dX3_dryIn_33 : decode cX3_dryIn 33 = .ok (.getfield 16, 3) := by decide +kernel
theorem dX3_dryIn_36 : decode cX3_dryIn 36 = .ok (.iconst 0, 1) := by decide +kernel
theorem dX3_dryIn_37 : decode cX3_dryIn 37 = .ok (.invokevirtual 201, 3) := by decide +kernel
theorem dX3_dryIn_40 : decode cX3_dryIn 40 = .ok (.iinc 1 1, 3) := by decide +kernel
theorem dX3_dryIn_43 : decode cX3_dryIn 43 = .ok (.goto (-30), 3) := by decide +kernel
theorem dX3_dryIn_46 : decode cX3_dryIn 46 = .ok (.iconst (-1), 1) := by decide +kernel
theorem dX3_dryIn_47 : decode cX3_dryIn 47 = .ok (.ireturn, 1) := by decide +kernel
set_option maxRecDepth 20000 in
theorem ggX3_drainedShare_X1_rainedLitres : GoodIn wsX3_drainedShare wsX1_rainedLitres := goodIn_r _ [6, 7, 20, 21, 22, 23, 24, 25, 26, 27, 28, 29, 30, 31, 32, 33, 34, 35] rfl (by decide +kernel)
set_option maxRecDepth 20000 in
theorem gX3_drainedShare_X1_rainedLitres : GoodIn wsX3_drainedShare (wsV RX3 182 RX1 yX1_rainedLitres wsX1_rainedLitres) := goodIn_app (goodIn_of _ (by decide +kernel)) ggX3_drainedShare_X1_rainedLitres
set_option maxRecDepth 20000 in
theorem ggX3_drainedShare_X1_drainedLitres : GoodIn wsX3_drainedShare wsX1_drainedLitres := goodIn_r _ [11, 12, 13, 14, 5, 15, 20, 21, 22, 23, 24, 25, 26, 27, 28, 29, 30, 31, 32, 33, 34, 35] rfl (by decide +kernel)
set_option maxRecDepth 20000 in
theorem gX3_drainedShare_X1_drainedLitres : GoodIn wsX3_drainedShare (wsV RX3 188 RX1 yX1_drainedLitres wsX1_drainedLitres) := goodIn_app (goodIn_of _ (by decide +kernel)) ggX3_drainedShare_X1_drainedLitres
theorem dX3_drainedShare_0 : decode cX3_drainedShare 0 = .ok (.aload_n 0, 1) := by decide +kernel
theorem dX3_drainedShare_1 : decode cX3_drainedShare 1 = .ok (.getfield 10, 3) := by decide +kernel
theorem dX3_drainedShare_4 : decode cX3_drainedShare 4 = .ok (.invokevirtual 182, 3) := by decide +kernel
theorem dX3_drainedShare_7 : decode cX3_drainedShare 7 = .ok (.istore_n 1, 1) := by decide +kernel
theorem dX3_drainedShare_8 : decode cX3_drainedShare 8 = .ok (.iload_n 1, 1) := by decide +kernel
theorem dX3_drainedShare_9 : decode cX3_drainedShare 9 = .ok (.ifCond .ne 7, 3) := by decide +kernel
theorem dX3_drainedShare_12 : decode cX3_drainedShare 12 = .ok (.dconst 1, 1) := by decide +kernel
theorem dX3_drainedShare_13 : decode cX3_drainedShare 13 = .ok (.goto 14, 3) := by decide +kernel
theorem dX3_drainedShare_16 : decode cX3_drainedShare 16 = .ok (.aload_n 0, 1) := by decide +kernel
theorem dX3_drainedShare_17 : decode cX3_drainedShare 17 = .ok (.getfield 10, 3) := by decide +kernel
theorem dX3_drainedShare_20 : decode cX3_drainedShare 20 = .ok (.invokevirtual 188, 3) := by decide +kernel
theorem dX3_drainedShare_23 : decode cX3_drainedShare 23 = .ok (.i2d, 1) := by decide +kernel
theorem dX3_drainedShare_24 : decode cX3_drainedShare 24 = .ok (.iload_n 1, 1) := by decide +kernel
theorem dX3_drainedShare_25 : decode cX3_drainedShare 25 = .ok (.i2d, 1) := by decide +kernel
theorem dX3_drainedShare_26 : decode cX3_drainedShare 26 = .ok (.ddiv, 1) := by decide +kernel
theorem dX3_drainedShare_27 : decode cX3_drainedShare 27 = .ok (.dreturn, 1) := by decide +kernel
theorem dX3_isWithin_0 : decode cX3_isWithin 0 = .ok (.iload_n 0, 1) := by decide +kernel
theorem dX3_isWithin_1 : decode cX3_isWithin 1 = .ok (.iload_n 1, 1) := by decide +kernel
theorem dX3_isWithin_2 : decode cX3_isWithin 2 = .ok (.if_icmp .lt 12, 3) := by decide +kernel
theorem dX3_isWithin_5 : decode cX3_isWithin 5 = .ok (.iload_n 0, 1) := by decide +kernel
theorem dX3_isWithin_6 : decode cX3_isWithin 6 = .ok (.iload_n 2, 1) := by decide +kernel
theorem dX3_isWithin_7 : decode cX3_isWithin 7 = .ok (.if_icmp .gt 7, 3) := by decide +kernel
theorem dX3_isWithin_10 : decode cX3_isWithin 10 = .ok (.iconst 1, 1) := by decide +kernel
theorem dX3_isWithin_11 : decode cX3_isWithin 11 = .ok (.goto 4, 3) := by decide +kernel
theorem dX3_isWithin_14 : decode cX3_isWithin 14 = .ok (.iconst 0, 1) := by decide +kernel
theorem dX3_isWithin_15 : decode cX3_isWithin 15 = .ok (.ireturn, 1) := by decide +kernel
theorem dX3_isPlane_0 : decode cX3_isPlane 0 = .ok (.iload_n 0, 1) := by decide +kernel
theorem dX3_isPlane_1 : decode cX3_isPlane 1 = .ok (.ifCond .lt 13, 3) := by decide +kernel
theorem dX3_isPlane_4 : decode cX3_isPlane 4 = .ok (.iload_n 0, 1) := by decide +kernel
theorem dX3_isPlane_5 : decode cX3_isPlane 5 = .ok (.bipush 6, 2) := by decide +kernel
theorem dX3_isPlane_7 : decode cX3_isPlane 7 = .ok (.if_icmp .ge 7, 3) := by decide +kernel
theorem dX3_isPlane_10 : decode cX3_isPlane 10 = .ok (.iconst 1, 1) := by decide +kernel
theorem dX3_isPlane_11 : decode cX3_isPlane 11 = .ok (.goto 4, 3) := by decide +kernel
theorem dX3_isPlane_14 : decode cX3_isPlane 14 = .ok (.iconst 0, 1) := by decide +kernel
theorem dX3_isPlane_15 : decode cX3_isPlane 15 = .ok (.ireturn, 1) := by decide +kernel
theorem dX3_isGutter_0 : decode cX3_isGutter 0 = .ok (.iload_n 0, 1) := by decide +kernel
theorem dX3_isGutter_1 : decode cX3_isGutter 1 = .ok (.ifCond .lt 13, 3) := by decide +kernel
theorem dX3_isGutter_4 : decode cX3_isGutter 4 = .ok (.iload_n 0, 1) := by decide +kernel
theorem dX3_isGutter_5 : decode cX3_isGutter 5 = .ok (.bipush 6, 2) := by decide +kernel
theorem dX3_isGutter_7 : decode cX3_isGutter 7 = .ok (.if_icmp .ge 7, 3) := by decide +kernel
theorem dX3_isGutter_10 : decode cX3_isGutter 10 = .ok (.iconst 1, 1) := by decide +kernel
theorem dX3_isGutter_11 : decode cX3_isGutter 11 = .ok (.goto 4, 3) := by decide +kernel
theorem dX3_isGutter_14 : decode cX3_isGutter 14 = .ok (.iconst 0, 1) := by decide +kernel
theorem dX3_isGutter_15 : decode cX3_isGutter 15 = .ok (.ireturn, 1) := by decide +kernel
theorem dX3_isSetting_0 : decode cX3_isSetting 0 = .ok (.iload_n 0, 1) := by decide +kernel
theorem dX3_isSetting_1 : decode cX3_isSetting 1 = .ok (.ifCond .lt 12, 3) := by decide +kernel
theorem dX3_isSetting_4 : decode cX3_isSetting 4 = .ok (.iload_n 0, 1) := by decide +kernel
theorem dX3_isSetting_5 : decode cX3_isSetting 5 = .ok (.iconst 3, 1) := by decide +kernel
theorem dX3_isSetting_6 : decode cX3_isSetting 6 = .ok (.if_icmp .ge 7, 3) := by decide +kernel
theorem dX3_isSetting_9 : decode cX3_isSetting 9 = .ok (.iconst 1, 1) := by decide +kernel
theorem dX3_isSetting_10 : decode cX3_isSetting 10 = .ok (.goto 4, 3) := by decide +kernel
theorem dX3_isSetting_13 : decode cX3_isSetting 13 = .ok (.iconst 0, 1) := by decide +kernel
theorem dX3_isSetting_14 : decode cX3_isSetting 14 = .ok (.ireturn, 1) := by decide +kernel
theorem dJ9_min_7cf53_0 : decode cJ9_min_7cf53 0 = .ok (.iload_n 0, 1) := by decide +kernel
theorem dJ9_min_7cf53_1 : decode cJ9_min_7cf53 1 = .ok (.iload_n 1, 1) := by decide +kernel
theorem dJ9_min_7cf53_2 : decode cJ9_min_7cf53 2 = .ok (.if_icmp .gt 7, 3) := by decide +kernel
theorem dJ9_min_7cf53_5 : decode cJ9_min_7cf53 5 = .ok (.iload_n 0, 1) := by decide +kernel
theorem dJ9_min_7cf53_6 : decode cJ9_min_7cf53 6 = .ok (.goto 4, 3) := by decide +kernel
theorem dJ9_min_7cf53_9 : decode cJ9_min_7cf53 9 = .ok (.iload_n 1, 1) := by decide +kernel
theorem dJ9_min_7cf53_10 : decode cJ9_min_7cf53 10 = .ok (.ireturn, 1) := by decide +kernel
end
