section
-- ===== PART A: goes FIRST, ahead of the names: the tables' words, and 'selects' of the private methods out of them =====
/-- a private method of a class that the tables say can be made, by its rows of tables_1 -/
def lw_okq (q : MethodName × Nat) : Prop := (q.1.cls ≠ "java/lang/invoke/MethodHandle" ∧ q.1.cls ≠ "java/lang/invoke/VarHandle") ∧ Cond.instantiable q.1.cls q.2 ∈ tables_1 ∧ Cond.privateMethod q.1 ∈ tables_1 ∧ Cond.instanceMethod q.1 ∈ tables_1
theorem lw_p0 : lw_okq (⟨"java/lang/Throwable", "fillInStackTrace", "(I)Ljava/lang/Throwable;"⟩, 6) := ⟨⟨by decide +kernel, by decide +kernel⟩, List.mem_of_getElem? (i := 167) (by decide +kernel), List.mem_of_getElem? (i := 165) (by decide +kernel), List.mem_of_getElem? (i := 166) (by decide +kernel)⟩
theorem lw_p1 : lw_okq (⟨"RoofDrains$Roof", "room", "(I)I"⟩, 16) := ⟨⟨by decide +kernel, by decide +kernel⟩, List.mem_of_getElem? (i := 22) (by decide +kernel), List.mem_of_getElem? (i := 313) (by decide +kernel), List.mem_of_getElem? (i := 314) (by decide +kernel)⟩
theorem lw_p2 : lw_okq (⟨"RoofDrains$Roof", "pipeTakes", "(I)I"⟩, 16) := ⟨⟨by decide +kernel, by decide +kernel⟩, List.mem_of_getElem? (i := 22) (by decide +kernel), List.mem_of_getElem? (i := 317) (by decide +kernel), List.mem_of_getElem? (i := 318) (by decide +kernel)⟩
theorem lw_p3 : lw_okq (⟨"RoofDrains$Roof", "wetPlane", "(II)V"⟩, 16) := ⟨⟨by decide +kernel, by decide +kernel⟩, List.mem_of_getElem? (i := 22) (by decide +kernel), List.mem_of_getElem? (i := 428) (by decide +kernel), List.mem_of_getElem? (i := 429) (by decide +kernel)⟩
theorem lw_p4 : lw_okq (⟨"RoofDrains$Roof", "emptyIntoDrain", "()V"⟩, 16) := ⟨⟨by decide +kernel, by decide +kernel⟩, List.mem_of_getElem? (i := 22) (by decide +kernel), List.mem_of_getElem? (i := 432) (by decide +kernel), List.mem_of_getElem? (i := 433) (by decide +kernel)⟩
theorem lw_p5 : lw_okq (⟨"RoofDrains$Roof", "overflow", "(I)V"⟩, 16) := ⟨⟨by decide +kernel, by decide +kernel⟩, List.mem_of_getElem? (i := 22) (by decide +kernel), List.mem_of_getElem? (i := 436) (by decide +kernel), List.mem_of_getElem? (i := 437) (by decide +kernel)⟩
def lw_privs_1 : List (MethodName × Nat) := [(⟨"java/lang/Throwable", "fillInStackTrace", "(I)Ljava/lang/Throwable;"⟩, 6), (⟨"RoofDrains$Roof", "room", "(I)I"⟩, 16), (⟨"RoofDrains$Roof", "pipeTakes", "(I)I"⟩, 16), (⟨"RoofDrains$Roof", "wetPlane", "(II)V"⟩, 16), (⟨"RoofDrains$Roof", "emptyIntoDrain", "()V"⟩, 16), (⟨"RoofDrains$Roof", "overflow", "(I)V"⟩, 16)]
theorem lw_r1 : ∀ q ∈ lw_privs_1, lw_okq q := List.forall_mem_cons.mpr ⟨lw_p0, List.forall_mem_cons.mpr ⟨lw_p1, List.forall_mem_cons.mpr ⟨lw_p2, List.forall_mem_cons.mpr ⟨lw_p3, List.forall_mem_cons.mpr ⟨lw_p4, List.forall_mem_cons.mpr ⟨lw_p5, fun _ h => absurd h List.not_mem_nil⟩⟩⟩⟩⟩⟩
def lw_privs : List (MethodName × Nat) := lw_privs_1
def lw_tbl : List Cond := k2_sels lw_privs ++ tables_1
theorem lw_privs_ok : ∀ q ∈ lw_privs, lw_okq q := lw_r1
/-- the streams that the claim lets the run draw from -/
abbrev lw_cs : List Choice := [Jvm.Choice.named "NaN.bits"]
theorem lw_bits : nanBits ∈ lw_cs := by first | decide | exact List.mem_cons_self | simp [lw_cs, nanBits]
end
section
/-! ===== BEGIN words of one list among another's, by their places ===== -/
theorem goodIn_r {big : List Cond} (ws : List Cond) (ps : List Nat) (hp : ws = ps.filterMap (fun i => big[i]?)) (h : ws.all goodWord = true) : GoodIn big ws := by
  intro w hw
  have h1 := List.all_eq_true.mp h w hw
  rw [hp] at hw
  obtain ⟨i, -, hi⟩ := List.mem_filterMap.mp hw
  have hm : w ∈ big := by first | exact List.mem_of_getElem? hi | exact List.getElem?_mem hi
  exact ⟨hm, good_of_word h1⟩
theorem goodIn_app {big a b : List Cond} (ha : GoodIn big a) (hb : GoodIn big b) : GoodIn big (a ++ b) := fun w h => (List.mem_append.mp h).elim (ha w) (hb w)
theorem goodIn_ca {big a b : List Cond} {c : Cond} (ha : GoodIn big (c :: a)) (hb : GoodIn big b) : GoodIn big (c :: (a ++ b)) := fun w h => (List.mem_cons.mp h).elim (fun e => ha w (List.mem_cons.mpr (Or.inl e))) (fun h => (List.mem_append.mp h).elim (fun h => ha w (List.mem_cons.mpr (Or.inr h))) (hb w))
theorem goodIn_sub {big ws : List Cond} (hm : ∀ w ∈ ws, w ∈ big) (h : ws.all goodWord = true) : GoodIn big ws := fun w hw => ⟨hm w hw, good_of_word (List.all_eq_true.mp h w hw)⟩
/-! ===== END ===== -/

/-! ===== BEGIN exceptions that leave a method, and their catching by the caller (launches without stack traces) ===== -/
section VXA
/-! The laws vx_back, vx_callV, vx_callS, vx_callSW, vx_throw0, vx_throwS follow proofs of the library, with one case more: JvmDerived/Free/Laws.lean (Back.of_free), Shelf42/LK1.lean (callV, callS), Shelf/KitTraced.lean (throwNew0V, throwNewS). -/
/-- where a method has thrown q: the class by its name, the cell, what was written, the world -/
def vx_T (XC : String → State → State → Prop) (st : State) (q : Addr) (t : State) (mc ms : Nat) (free : Addr → Prop) : Prop :=
  ∃ (E : String) (ce : Cell) (L : List Loc), XC E st t ∧ t.heap[q]? = some ce ∧ ce.vm = .none ∧ st.vm.findClass E = some ce.cls ∧ st.WarmedH t.vm ∧ st.sameButNew ({ t with vm := st.vm } : State) L mc ms ∧ ∀ z ∈ L, free z.base
def vx_Q (Qc : Array Value → State → Outcome → State → Prop) (XC : String → State → State → Prop) (mc ms : Nat) (free : Addr → Prop) : Array Value → State → Outcome → State → Prop := fun a st o t =>
  (Qc a st o t ∧ ∃ L, FrameEnd st o t L mc ms ∧ ∀ q ∈ L, free q.base) ∨ ∃ q, o = .threw q ∧ vx_T XC st q t mc ms free
/-- a callee that returns or throws -/
def vx_Met (l : Launch) (y : MethodName) (ws : List Cond) (rm : Room) (Pc : Array Value → State → Prop) (Qc : Array Value → State → Outcome → State → Prop) (XC : String → State → State → Prop) (mc ms : Nat) (free : Addr → Prop) : Prop :=
  MetFree l y (headSpec ws rm) Pc (fun _ _ _ _ _ => True) (vx_Q Qc XC mc ms free)
def vx_Post (XC : String → State → State → Prop) (mc ms : Nat) (free : Addr → Prop) : Pt → Array Value → Addr → Pt → Prop := fun A a q B =>
  ∃ (g : JFrame) (mk : MethodId) (t : State) (L : List Loc) (E : String) (ce : Cell), B.U.heap = t.heap ∧ B.U.vm = t.vm ∧ XC E (A.U.calling g mk a) t ∧ t.heap[q]? = some ce ∧ ce.vm = .none ∧ A.U.vm.findClass E = some ce.cls ∧ B.locs = A.locs ++ L ∧ (∀ z ∈ L, free z.base) ∧ B.cells = A.cells + mc ∧ B.slots = A.slots + ms
def vx_Back (l : Launch) (R : Room) (p : Program) (e : Env) (below : List Frame) (s : State) (sargs : Array Value) (y : MethodName) (len W9 : Nat)
    (Pre : Pt → Array Value → Prop) (Post : Pt → Array Value → Option Value → Pt → Prop) (PostX : Pt → Array Value → Addr → Pt → Prop) : Prop :=
  ∀ (m : MethodId) (meth : Method) (c : Code) (A : Pt) (g : JFrame) (ig : Instr) (mk : MethodId) (a : Array Value),
    Stand p l e R s m sargs below meth c A.U A.locs A.cells A.slots → g.method = m → g.locals.size = c.maxLocals → decode c.code g.pc = .ok (ig, len) →
    2 * g.monitorRoom + (g.stack.map fun v => v.category).sum ≤ W9 → A.U.methodNamed? y = some mk → Pre A a →
    (∃ (v : Option Value) (B : Pt), Stand p l e R s m sargs below meth c B.U B.locs B.cells B.slots ∧ Post A a v B ∧
      Steps p.tables e below (doInvoke e (A.U.setTop g) [] mk a).1 (B.U.setTop { g with pc := g.pc + len, stack := v.toList ++ g.stack })) ∨
    (∃ (q : Addr) (B : Pt), Stand p l e R s m sargs below meth c B.U B.locs B.cells B.slots ∧ PostX A a q B ∧
      Steps p.tables e below (doInvoke e (A.U.setTop g) [] mk a).1 ((B.U.setTop g).pushFrame (.throwing q)))
section Payer
variable {l : Launch} {R : Room} {p : Program} {e : Env} {below : List Frame} {s : State} {sargs : Array Value} {y : MethodName} {len W9 : Nat}
theorem vx_back {ws : List Cond} {rm : Room} {Pc : Array Value → State → Prop} {Qc : Array Value → State → Outcome → State → Prop} {XC : String → State → State → Prop} {mc ms : Nat} {free : Addr → Prop} {bytes : ByteArray} {maxL : Nat} {ret : Option FieldType}
    (hM : vx_Met l y ws rm Pc Qc XC mc ms free) (hblind : FrameBlind Pc) (hrc : rm.cells = mc) (hrs : rm.slots = ms)
    (hframes : rm.frames + 1 ≤ R.frames) (hlocals : W9 + (maxL + 11) + rm.locals ≤ R.locals)
    (hws : ∀ w ∈ ws, ∀ a' U, s.WarmedH U.vm → w.before a' U = true) (hcode : Cond.code y bytes maxL ret ∈ ws) (hinit : ∀ a' U, s.WarmedH U.vm → (Cond.initialized y.cls).before a' U = true) :
    vx_Back l R p e below s sargs y len W9 (PreOf R mc ms Pc) (PostOf Qc mc ms free) (vx_Post XC mc ms free) := by
  intro m meth c A g ig mk a X hg hsize hdg hW hn hp
  have h1 : (headSpec ws rm).pre.before a A.U = true := atoms_intro fun w hw => hws w hw _ _ X.warmed
  have h2 : (Cond.code y bytes maxL ret).before a A.U = true := hws _ hcode _ _ X.warmed
  have h3 : (Cond.initialized y.cls).before a A.U = true := hinit _ _ X.warmed
  have h4 : A.cells + (headSpec ws rm).room.cells ≤ R.cells := by rw [show (headSpec ws rm).room.cells = mc from hrc]; exact hp.1
  have h5 : A.slots + (headSpec ws rm).room.slots ≤ R.slots := by rw [show (headSpec ws rm).room.slots = ms from hrs]; exact hp.2.1
  have hPc : Pc a (A.U.calling g mk a) := hblind _ _ _ _ hp.2.2
  obtain ⟨U, Ls, c0, s0⟩ := A
  dsimp only [Pt.U, Pt.locs, Pt.cells, Pt.slots] at h1 h2 h3 h4 h5 X hn hPc ⊢
  obtain ⟨methY, cY, hmY, hcY, -, hlY, -, -, -, -⟩ := Cond.code_spec hn h2
  obtain ⟨kY, hkY, -⟩ := className_of_methodNamed hn
  have hinitY : kY.init = .initialized := Cond.initialized_spec (findClass_of_methodNamed hn) hkY h3
  have h : At U g.method c below := by rw [hg]; exact X.here
  have hlocals9 : W9 + (maxL + 11) + (headSpec ws rm).room.locals ≤ R.locals := hlocals
  have happ : (headSpec ws rm).appliesLoose y e.platform (U.calling g mk a) = true :=
    Spec.appliesLoose_calling (g := g) h hdg hn hkY hinitY
      (X.room_calling (g := g) (R' := (headSpec ws rm).room) hsize hmY hcY hframes (by rw [hlY]; omega) h4 h5) h1
  obtain ⟨mid, hmid⟩ := h.above
  have hfr : (U.setTop g).frames = (.java g :: mid) ++ below := by rw [State.frames_setTop' g h.top, hmid]; rfl
  obtain ⟨o, s₂, hsteps, -, hend, hq⟩ := Steps.callFree hM p X.admits X.cas X.clock (acts := []) hfr happ hPc trivial
  have hq' : vx_Q Qc XC mc ms free a (U.calling g mk a) o s₂ := hq
  rw [State.frames_setTop' g h.top] at hend
  obtain ⟨g₀, hg0⟩ := Option.isSome_iff_exists.mp h.top
  obtain ⟨r, hr⟩ := State.topJava?_eq_some.mp hg0
  have hr' : (({ U with heap := s₂.heap, slotsUsed := s₂.slotsUsed } : State).setVm s₂.vm).frames = .java g₀ :: r := hr
  rcases hq' with ⟨hqc, L, hfe, hL⟩ | ⟨q, rfl, E, ce, L, hx, hce, hcv, hcl, hW₂, hsm, hL⟩
  · obtain ⟨⟨v, rfl⟩, hW₂, e2, q2, q3, q4, q5, q6⟩ := id hfe
    have e3 : s₂ = ({ (U.calling g mk a).setFrames s₂.frames with heap := s₂.heap, slotsUsed := s₂.slotsUsed } : State).setVm s₂.vm := by
      have : s₂ = ({ s₂ with vm := (U.calling g mk a).vm } : State).setVm s₂.vm := rfl
      rw [e2] at this
      exact this
    obtain ⟨c₂, i₂, len₂, hc₂, hd₂, hf₂⟩ := hend
    have hW' : U.WarmedH s₂.vm := hW₂
    have hcc : c₂ = c := by
      have h1 : s₂.code? g.method = U.code? g.method := by
        rw [State.code?_eq, State.code?_eq, hW'.alike.method?]
      exact Option.some.inj (hc₂.symm.trans (h1.trans h.code))
    subst hcc
    have hlen : len₂ = len := by rw [hdg] at hd₂; cases hd₂; rfl
    subst hlen
    have hs₂ : s₂ = (({ U with heap := s₂.heap, slotsUsed := s₂.slotsUsed } : State).setVm s₂.vm).setTop { g with pc := g.pc + len₂, stack := v.toList ++ g.stack } := by
      refine e3.trans ?_
      rw [hf₂, State.calling_eq h.top, State.setFrames_setFrames, State.setTop_of_frames _ hr', hr]
      rfl
    have hsame : U.sameButNew ({ U with heap := s₂.heap, slotsUsed := s₂.slotsUsed } : State) L mc ms := by
      refine ⟨?_, q2, q3, q4, q5, q6⟩
      obtain ⟨t, ht, -⟩ := State.frames_cons hr
      show ({ U with heap := s₂.heap, slotsUsed := s₂.slotsUsed } : State) = { U.setFrames U.frames with heap := s₂.heap, slotsUsed := s₂.slotsUsed }
      rw [State.setFrames_self ht]
    subst hg
    refine Or.inl ⟨v, ⟨(({ U with heap := s₂.heap, slotsUsed := s₂.slotsUsed } : State).setVm s₂.vm), Ls ++ L, c0 + mc, s0 + ms⟩,
      ⟨X.admits, X.cas, X.clock, X.frames, X.room, X.hears, X.method, X.code, (X.here.setHeapUsed s₂.heap s₂.slotsUsed).setVm hW'.alike, X.tail, State.WarmedH.trans X.warmed hW', X.limits, X.bytes, X.same.trans (hsame.setVm s.vm)⟩,
      ⟨g, mk, s₂, L, rfl, rfl, hqc, rfl, hL, rfl, rfl⟩, ?_⟩
    show Steps p.tables e below _ ((({ U with heap := s₂.heap, slotsUsed := s₂.slotsUsed } : State).setVm s₂.vm).setTop { g with pc := g.pc + len₂, stack := v.toList ++ g.stack })
    rw [← hs₂]
    exact hsteps
  · obtain ⟨e2, q2, q3, q4, q5, q6⟩ := id hsm
    have e3 : s₂ = ({ (U.calling g mk a).setFrames s₂.frames with heap := s₂.heap, slotsUsed := s₂.slotsUsed } : State).setVm s₂.vm := by
      have : s₂ = ({ s₂ with vm := (U.calling g mk a).vm } : State).setVm s₂.vm := rfl
      rw [e2] at this
      exact this
    have hf₂ : s₂.frames = .throwing q :: .java g :: U.frames.tail := hend
    have hW' : U.WarmedH s₂.vm := hW₂
    have hs₂ : s₂ = ((({ U with heap := s₂.heap, slotsUsed := s₂.slotsUsed } : State).setVm s₂.vm).setTop g).pushFrame (.throwing q) := by
      refine e3.trans ?_
      rw [hf₂, State.calling_eq h.top, State.setFrames_setFrames, State.pushFrame, State.frames_setTop _ hr', State.setTop_of_frames _ hr', State.setFrames_setFrames, hr]
      rfl
    have hsame : U.sameButNew ({ U with heap := s₂.heap, slotsUsed := s₂.slotsUsed } : State) L mc ms := by
      refine ⟨?_, q2, q3, q4, q5, q6⟩
      obtain ⟨t, ht, -⟩ := State.frames_cons hr
      show ({ U with heap := s₂.heap, slotsUsed := s₂.slotsUsed } : State) = { U.setFrames U.frames with heap := s₂.heap, slotsUsed := s₂.slotsUsed }
      rw [State.setFrames_self ht]
    subst hg
    refine Or.inr ⟨q, ⟨(({ U with heap := s₂.heap, slotsUsed := s₂.slotsUsed } : State).setVm s₂.vm), Ls ++ L, c0 + mc, s0 + ms⟩,
      ⟨X.admits, X.cas, X.clock, X.frames, X.room, X.hears, X.method, X.code, (X.here.setHeapUsed s₂.heap s₂.slotsUsed).setVm hW'.alike, X.tail, State.WarmedH.trans X.warmed hW', X.limits, X.bytes, X.same.trans (hsame.setVm s.vm)⟩,
      ⟨g, mk, s₂, L, E, ce, rfl, rfl, hx, hce, hcv, hcl, rfl, hL, rfl, rfl⟩, ?_⟩
    show Steps p.tables e below _ (((({ U with heap := s₂.heap, slotsUsed := s₂.slotsUsed } : State).setVm s₂.vm).setTop g).pushFrame (.throwing q))
    rw [← hs₂]
    exact hsteps
end Payer
section Calls
variable {p : Program} {l : Launch} {e : Env} {R : Room} {s : State} {m : MethodId} {args : Array Value} {below : List Frame} {meth : Method} {c : Code} {T : State} {locs : List Loc} {cells slots : Nat}
theorem vx_callV (X : Stand p l e R s m args below meth c T locs cells slots) (hexec : p.tables.exec = Jvm.exec) {own C : String} {index : Nat} {y : MethodName} {bytes : ByteArray} {maxL : Nat} {ret : Option FieldType}
    (hown : s.vm.findClass own = some m.cls) (hlink : (Cond.methodLink own index y).before args s = true) (hinst : (Cond.instanceMethod y).before args s = true) (hsel : (Cond.selects C y y).before args s = true)
    (hcode : (Cond.code y bytes maxL ret).before args s = true) (hy : y.cls ≠ "java/lang/invoke/MethodHandle" ∧ y.cls ≠ "java/lang/invoke/VarHandle")
    {W9 : Nat} {Pre : Pt → Array Value → Prop} {Post : Pt → Array Value → Option Value → Pt → Prop} {PostX : Pt → Array Value → Addr → Pt → Prop} (hK : vx_Back l R p e below s args y 3 W9 Pre Post PostX)
    {b : Addr} {cellB : Cell} (hcell : T.heap[b]? = some cellB) (hobj : cellB.vm.isStatics = false) (hcls : s.vm.findClass C = some cellB.cls)
    {g : JFrame} (hg : g.method = m) (hsize : g.locals.size = c.maxLocals) {argsL rest : List Value} (hlen : ∀ sig, parseMethodDescriptor y.desc = some sig → argsL.length = sig.parameters.length)
    (hstack : g.stack = argsL.reverse ++ .ref b :: rest) (hW : 2 * g.monitorRoom + (rest.map fun v => v.category).sum ≤ W9) (hdg : decode c.code g.pc = .ok (.invokevirtual index, 3))
    (hpre : ∀ vm₁, s.WarmedH vm₁ → Pre ⟨T.setVm vm₁, locs, cells, slots⟩ (Value.ref b :: argsL).toArray) :
    (∃ (v : Option Value) (vm₁ : Vm) (B : Pt), s.WarmedH vm₁ ∧ Stand p l e R s m args below meth c B.U B.locs B.cells B.slots ∧ Post ⟨T.setVm vm₁, locs, cells, slots⟩ (Value.ref b :: argsL).toArray v B ∧
      ∀ target, Steps p.tables e below (B.U.setTop { g with pc := g.pc + 3, stack := v.toList ++ rest }) target → Steps p.tables e below (T.setTop g) target) ∨
    (∃ (q : Addr) (vm₁ : Vm) (B : Pt), s.WarmedH vm₁ ∧ Stand p l e R s m args below meth c B.U B.locs B.cells B.slots ∧ PostX ⟨T.setVm vm₁, locs, cells, slots⟩ (Value.ref b :: argsL).toArray q B ∧
      Steps p.tables e below (T.setTop g) ((B.U.setTop { g with stack := rest }).pushFrame (.throwing q))) := by
  obtain ⟨mk, methM, hnamed, hmethM, hstM, habM⟩ := Cond.instanceMethod_spec hinst
  obtain ⟨methM', cM, hmethM', -, -, -, -, -, -, hsigM⟩ := Cond.code_spec hnamed hcode
  cases hmethM.symm.trans hmethM'
  obtain ⟨c2, r2, m2, q1, q2, q3, q4, kP, hkP, hkPi⟩ := Cond.selects_spec hsel
  cases hcls.symm.trans q1
  cases (State.methodFound?_of_named hnamed hy).symm.trans q2
  cases hnamed.symm.trans q3
  have hselP : selectMethod e.platform s.vm cellB.cls mk = .method mk := by rw [Launch.admits_selectMethod X.admits]; exact q4
  obtain ⟨vm₁, X₁, hstep₁⟩ := X.invokevirtual hexec hown hlink hnamed hmethM hstM hkP hkPi hy (a := b) (cell := cellB) hcell
    (fun z h => by rw [h] at hobj; cases hobj) hselP hmethM habM hkP hkPi (g := g) hg (argsL := argsL) (rest := rest) (hlen _ hsigM) hstack hdg
  rcases hK m meth c ⟨T.setVm vm₁, locs, cells, slots⟩ { g with stack := rest } (.invokevirtual index) mk (Value.ref b :: argsL).toArray X₁ hg hsize hdg hW (X₁.named hnamed) (hpre vm₁ X₁.warmed) with ⟨v, B, X', hpost, hsteps⟩ | ⟨q, B, X', hpost, hsteps⟩
  · exact Or.inl ⟨v, vm₁, B, X₁.warmed, X', hpost, fun target h => hstep₁ _ fun acts => by rw [doInvoke_state]; exact hsteps.trans h⟩
  · exact Or.inr ⟨q, vm₁, B, X₁.warmed, X', hpost, hstep₁ _ fun acts => by rw [doInvoke_state]; exact hsteps⟩
theorem vx_callS (X : Stand p l e R s m args below meth c T locs cells slots) (hexec : p.tables.exec = Jvm.exec) {own : String} {index : Nat} {y : MethodName} {bytes : ByteArray} {maxL : Nat} {ret : Option FieldType}
    (hown : s.vm.findClass own = some m.cls) (hlink : (Cond.methodLink own index y).before args s = true) (hstat : (Cond.static y).before args s = true) (hinit : (Cond.initialized y.cls).before args s = true)
    (hcode : (Cond.code y bytes maxL ret).before args s = true) (hy : y.cls ≠ "java/lang/invoke/MethodHandle" ∧ y.cls ≠ "java/lang/invoke/VarHandle")
    {W9 : Nat} {Pre : Pt → Array Value → Prop} {Post : Pt → Array Value → Option Value → Pt → Prop} {PostX : Pt → Array Value → Addr → Pt → Prop} (hK : vx_Back l R p e below s args y 3 W9 Pre Post PostX)
    {g : JFrame} (hg : g.method = m) (hsize : g.locals.size = c.maxLocals) {argsL rest : List Value} (hlen : ∀ sig, parseMethodDescriptor y.desc = some sig → argsL.length = sig.parameters.length)
    (hstack : g.stack = argsL.reverse ++ rest) (hW : 2 * g.monitorRoom + (rest.map fun v => v.category).sum ≤ W9) (hdg : decode c.code g.pc = .ok (.invokestatic index, 3))
    (hpre : ∀ vm₁, s.WarmedH vm₁ → Pre ⟨T.setVm vm₁, locs, cells, slots⟩ argsL.toArray) :
    (∃ (v : Option Value) (vm₁ : Vm) (B : Pt), s.WarmedH vm₁ ∧ Stand p l e R s m args below meth c B.U B.locs B.cells B.slots ∧ Post ⟨T.setVm vm₁, locs, cells, slots⟩ argsL.toArray v B ∧
      ∀ target, Steps p.tables e below (B.U.setTop { g with pc := g.pc + 3, stack := v.toList ++ rest }) target → Steps p.tables e below (T.setTop g) target) ∨
    (∃ (q : Addr) (vm₁ : Vm) (B : Pt), s.WarmedH vm₁ ∧ Stand p l e R s m args below meth c B.U B.locs B.cells B.slots ∧ PostX ⟨T.setVm vm₁, locs, cells, slots⟩ argsL.toArray q B ∧
      Steps p.tables e below (T.setTop g) ((B.U.setTop { g with stack := rest }).pushFrame (.throwing q))) := by
  obtain ⟨mk, hnamed⟩ := Cond.code_named hcode
  obtain ⟨methM, cM, hmethM, -, -, -, -, -, -, hsigM⟩ := Cond.code_spec hnamed hcode
  have hstatic : methM.isStatic = true := Cond.static_spec hnamed hmethM hstat
  obtain ⟨kP, hkP, -⟩ := className_of_methodNamed hnamed
  have hinitP : kP.init = .initialized := Cond.initialized_spec (findClass_of_methodNamed hnamed) hkP hinit
  obtain ⟨vm₁, X₁, hstep₁⟩ := X.invokestatic hexec hown hlink hnamed hmethM hstatic hkP hinitP hy (g := g) hg (argsL := argsL) (rest := rest) (hlen _ hsigM) hstack hdg
  rcases hK m meth c ⟨T.setVm vm₁, locs, cells, slots⟩ { g with stack := rest } (.invokestatic index) mk argsL.toArray X₁ hg hsize hdg hW (X₁.named hnamed) (hpre vm₁ X₁.warmed) with ⟨v, B, X', hpost, hsteps⟩ | ⟨q, B, X', hpost, hsteps⟩
  · exact Or.inl ⟨v, vm₁, B, X₁.warmed, X', hpost, fun target h => hstep₁ _ fun acts => by rw [doInvoke_state]; exact hsteps.trans h⟩
  · exact Or.inr ⟨q, vm₁, B, X₁.warmed, X', hpost, hstep₁ _ fun acts => by rw [doInvoke_state]; exact hsteps⟩
end Calls
theorem vx_cls {s : State} {T : State} {vm₁ : Vm} {E : String} {k : ClassId} (hW : s.WarmedH vm₁) (h : (T.setVm vm₁).vm.findClass E = some k) : s.vm.findClass E = some k := by
  have h1 : vm₁.findClass E = some k := h
  rw [hW.alike.findClass] at h1
  exact h1
/-- the method's frame g, with q thrown over it -/
def vx_W (p : Program) (l : Launch) (e : Env) (R : Room) (s : State) (m : MethodId) (args : Array Value) (below : List Frame) (meth : Method) (c : Code) (H : Heap) (locs : List Loc) (cells slots : Nat) (Q : State → Prop) (g : JFrame) (q : Addr) : Prop :=
  ∀ T : State, T.heap = H → Stand p l e R s m args below meth c T locs cells slots → ∃ t, Steps p.tables e below ((T.setTop g).pushFrame (.throwing q)) t ∧ Q t
def vx_Run (p : Program) (l : Launch) (e : Env) (R : Room) (s : State) (m : MethodId) (args : Array Value) (below : List Frame) (meth : Method) (c : Code) (H : Heap) (locs : List Loc) (cells slots mc ms : Nat) (g : JFrame) (rest : List Value) (Qa : State → Outcome → State → Prop) (XC : String → State → State → Prop) (free : Addr → Prop) : Prop :=
  ∀ T : State, T.heap = H → Stand p l e R s m args below meth c T locs cells slots →
    (∃ (v : Option Value) (st₀ t T' : State) (L : List Loc), st₀.heap = H ∧ Stand p l e R s m args below meth c T' (locs ++ L) (cells + mc) (slots + ms) ∧ (∀ q ∈ L, free q.base) ∧ T'.heap = t.heap ∧ T'.vm = t.vm ∧ Qa st₀ (.returned v) t ∧
      Goes p e below T g T' { g with pc := g.pc + 3, stack := v.toList ++ rest }) ∨
    (∃ (q : Addr) (st₀ t T' : State) (L : List Loc) (E : String) (ce : Cell), st₀.heap = H ∧ Stand p l e R s m args below meth c T' (locs ++ L) (cells + mc) (slots + ms) ∧ (∀ z ∈ L, free z.base) ∧ T'.heap = t.heap ∧ T'.vm = t.vm ∧ XC E st₀ t ∧ t.heap[q]? = some ce ∧ ce.vm = .none ∧ s.vm.findClass E = some ce.cls ∧
      Steps p.tables e below (T.setTop g) ((T'.setTop { g with stack := rest }).pushFrame (.throwing q)))
def vx_X {S : Type} (px : S → Prop) (B : String → S → State → Prop) (A : Nat → Prop) : String → State → State → Prop := fun E st t => ∃ u : S, px u ∧ B E u t ∧ va_F A st t
section Runs
variable {p : Program} {l : Launch} {e : Env} {R : Room} {s : State} {m : MethodId} {args : Array Value} {below : List Frame} {meth : Method} {c : Code} {H : Heap} {locs : List Loc} {cells slots : Nat}
variable {y : MethodName} {bytes cc : ByteArray} {maxL nL mc ms n index : Nat} {ret : Option FieldType} {ws : List Cond} {rm : Room} {Pc : Array Value → State → Prop} {Qc : Array Value → State → Outcome → State → Prop} {XC : String → State → State → Prop} {free : Addr → Prop} {Ts : List Cond} {own C : String} {b : Addr} {As rest : List Value} {g : JFrame}
theorem vx_callBack (cb : CallB R s args own index y bytes maxL ret ws rm mc ms n) (hM : vx_Met l y ws rm Pc Qc XC mc ms free) (hbl : FrameBlind Pc) : vx_Back l R p e below s args y 3 8 (PreOf R mc ms Pc) (PostOf Qc mc ms free) (vx_Post XC mc ms free) := by
  obtain ⟨hrc, hrs, hfr, hlo, hws, hcw, -, hini, -⟩ := cb
  exact vx_back (bytes := bytes) (maxL := maxL) (ret := ret) hM hbl hrc hrs hfr hlo hws hcw (fun a' U hW => word_at hW (Or.inl (by first | rfl | simp [Cond.onTables, Cond.keeps, Cond.steady])) hini)
theorem vx_runV (S : CallFix p m c cc nL s args Ts own) (hM : vx_Met l y ws rm Pc Qc XC mc ms free) (cw : CallW R s args own C index y bytes maxL ret ws rm mc ms n) (hp : PreV s H C b Pc As)
    (hg : g.method = m) (hn : As.length = n) (hsize : g.locals.size = nL) (hstack : g.stack = As.reverse ++ .ref b :: rest) (hW : 2 * g.monitorRoom + (rest.map fun v => v.category).sum ≤ 8) (hdg : decode cc g.pc = .ok (.invokevirtual index, 3)) (hf : cells + mc ≤ R.cells ∧ slots + ms ≤ R.slots) :
    vx_Run p l e R s m args below meth c H locs cells slots mc ms g rest (Qc (Value.ref b :: As).toArray) XC free := by
  have hK : vx_Back l R p e below s args y 3 8 (PreOf R mc ms Pc) (PostOf Qc mc ms free) (vx_Post XC mc ms free) := vx_callBack cw.1 hM hp.1
  obtain ⟨⟨-, -, -, -, -, -, hcode, -, hy, hlen, hl⟩, hin, hse⟩ := cw
  obtain ⟨hx, hb, hml, ho, -⟩ := S
  obtain ⟨-, ⟨cellB, hcB, hoB, hclB⟩, hPc⟩ := hp
  intro T hT X
  rcases vx_callV X hx (C := C) (bytes := bytes) (maxL := maxL) (ret := ret) ho hl hin hse hcode hy hK (by rw [hT]; exact hcB) hoB hclB hg (hsize.trans hml.symm) (argsL := As) (rest := rest) (fun sig h => hn.trans (hlen sig h)) hstack hW (by rw [hb]; exact hdg)
    (fun vm₁ hW₁ => ⟨hf.1, hf.2, hPc (T.setVm vm₁) hT hW₁⟩) with ⟨v, vm₁, ⟨U', l2, c2, s2⟩, hW₁, X', ⟨g', mk, t, L, e1, e2, hq, h1, hL, h2, h3⟩, st⟩ | ⟨q, vm₁, ⟨U', l2, c2, s2⟩, hW₁, X', ⟨g', mk, t, L, E, ce, e1, e2, hq, hce, hcv, hcl, h1, hL, h2, h3⟩, st⟩
  · dsimp only [Pt.U, Pt.locs, Pt.cells, Pt.slots] at X' e1 e2 h1 h2 h3 st
    subst h1; subst h2; subst h3
    exact Or.inl ⟨v, (T.setVm vm₁).calling g' mk (Value.ref b :: As).toArray, t, U', L, hT, X', hL, e1, e2, hq, st⟩
  · dsimp only [Pt.U, Pt.locs, Pt.cells, Pt.slots] at X' e1 e2 h1 h2 h3 st hcl
    subst h1; subst h2; subst h3
    exact Or.inr ⟨q, (T.setVm vm₁).calling g' mk (Value.ref b :: As).toArray, t, U', L, E, ce, hT, X', hL, e1, e2, hq, hce, hcv, vx_cls hW₁ hcl, st⟩
theorem vx_runS (S : CallFix p m c cc nL s args Ts own) (hM : vx_Met l y ws rm Pc Qc XC mc ms free) (cw : CallB R s args own index y bytes maxL ret ws rm mc ms n ∧ (Cond.static y).before args s = true) (hp : PreS s H Pc As)
    (hg : g.method = m) (hn : As.length = n) (hsize : g.locals.size = nL) (hstack : g.stack = As.reverse ++ rest) (hW : 2 * g.monitorRoom + (rest.map fun v => v.category).sum ≤ 8) (hdg : decode cc g.pc = .ok (.invokestatic index, 3)) (hf : cells + mc ≤ R.cells ∧ slots + ms ≤ R.slots) :
    vx_Run p l e R s m args below meth c H locs cells slots mc ms g rest (Qc As.toArray) XC free := by
  have hK : vx_Back l R p e below s args y 3 8 (PreOf R mc ms Pc) (PostOf Qc mc ms free) (vx_Post XC mc ms free) := vx_callBack cw.1 hM hp.1
  obtain ⟨⟨-, -, -, -, -, -, hcode, hini, hy, hlen, hl⟩, hstt⟩ := cw
  obtain ⟨hx, hb, hml, ho, -⟩ := S
  intro T hT X
  rcases vx_callS X hx (bytes := bytes) (maxL := maxL) (ret := ret) ho hl hstt hini hcode hy hK hg (hsize.trans hml.symm) (argsL := As) (rest := rest) (fun sig h => hn.trans (hlen sig h)) hstack hW (by rw [hb]; exact hdg)
    (fun vm₁ hW₁ => ⟨hf.1, hf.2, hp.2 (T.setVm vm₁) hT hW₁⟩) with ⟨v, vm₁, ⟨U', l2, c2, s2⟩, hW₁, X', ⟨g', mk, t, L, e1, e2, hq, h1, hL, h2, h3⟩, st⟩ | ⟨q, vm₁, ⟨U', l2, c2, s2⟩, hW₁, X', ⟨g', mk, t, L, E, ce, e1, e2, hq, hce, hcv, hcl, h1, hL, h2, h3⟩, st⟩
  · dsimp only [Pt.U, Pt.locs, Pt.cells, Pt.slots] at X' e1 e2 h1 h2 h3 st
    subst h1; subst h2; subst h3
    exact Or.inl ⟨v, (T.setVm vm₁).calling g' mk As.toArray, t, U', L, hT, X', hL, e1, e2, hq, st⟩
  · dsimp only [Pt.U, Pt.locs, Pt.cells, Pt.slots] at X' e1 e2 h1 h2 h3 st hcl
    subst h1; subst h2; subst h3
    exact Or.inr ⟨q, (T.setVm vm₁).calling g' mk As.toArray, t, U', L, E, ce, hT, X', hL, e1, e2, hq, hce, hcv, vx_cls hW₁ hcl, st⟩
end Runs
section Rows
variable {p : Program} {l : Launch} {e : Env} {R : Room} {s : State} {m : MethodId} {args : Array Value} {below : List Frame} {meth : Method} {c : Code} {H : Heap} {locs : List Loc} {cells slots : Nat} {Q : State → Prop}
variable {mc ms : Nat} {free : Addr → Prop} {A0 A1 : Nat → Prop} {H0 : Heap} {a : Array Value} {pc : Nat} {ls : Array Slot} {st0 rest : List Value}
theorem vx_keep {st₀ t T' : State} {L : List Loc} (h0 : st₀.heap = H) (e1 : T'.heap = t.heap) (hS : va_S A0 H0 H locs) (hA : ∀ q, q < H.size → A1 q → A0 q) (hf : ∀ q, free q → A0 q) (hL : ∀ q ∈ L, free q.base) (hF : va_F A1 st₀ t) :
    H.size ≤ T'.heap.size ∧ (∀ q : Nat, q < H.size → ¬ A1 q → T'.heap[q]? = H[q]?) ∧ va_S A0 H0 T'.heap (locs ++ L) := by
  obtain ⟨hz, hk⟩ := hF
  rw [h0] at hz hk
  exact ⟨by rw [e1]; exact hz, fun q h1 h2 => by rw [e1]; exact hk q h1 h2,
    ⟨Nat.le_trans hS.1 (by rw [e1]; exact hz), fun q h1 h2 => by rw [e1, hk q (Nat.lt_of_lt_of_le h1 hS.1) (fun z => h2 (hA q (Nat.lt_of_lt_of_le h1 hS.1) z))]; exact hS.2.1 q h1 h2, fun q hq => by
      rcases List.mem_append.mp hq with h | h
      · exact hS.2.2 q h
      · exact hf _ (hL q h)⟩⟩
theorem vx_calli {S SX : Type} {post : Int32 → S → Prop} {px : SX → Prop} {B : S → State → Prop} {BX : String → SX → State → Prop} {AX : Nat → Prop} (hr : vx_Run p l e R s m args below meth c H locs cells slots mc ms (F0 m pc ls st0) rest (va_Qi post B A1 a) (vx_X px BX AX) free) (hS : va_S A0 H0 H locs) (hA : ∀ q, q < H.size → A1 q → A0 q) (hf : ∀ q, free q → A0 q) (hAX : ∀ q, q < H.size → AX q → A0 q)
    (kx : ∀ (E : String) (ce : Cell) (q9 : Addr) (u : SX) (t : State) (H1 : Heap) (locs1 : List Loc), t.heap = H1 → s.vm.Alike t.vm → px u → BX E u t → H.size ≤ H1.size → (∀ q : Nat, q < H.size → ¬ AX q → H1[q]? = H[q]?) → va_S A0 H0 H1 locs1 → H1[q9]? = some ce → ce.vm = .none → s.vm.findClass E = some ce.cls → vx_W p l e R s m args below meth c H1 locs1 (cells + mc) (slots + ms) Q (F0 m pc ls rest) q9)
    (kk : ∀ (r : Int32) (u : S) (t : State) (H1 : Heap) (locs1 : List Loc), t.heap = H1 → s.vm.Alike t.vm → post r u → B u t → H.size ≤ H1.size → (∀ q : Nat, q < H.size → ¬ A1 q → H1[q]? = H[q]?) → va_S A0 H0 H1 locs1 → W p l e R s m args below meth c H1 locs1 (cells + mc) (slots + ms) Q (F0 m (pc + 3) ls (.int r :: rest))) : W p l e R s m args below meth c H locs cells slots Q (F0 m pc ls st0) := by
  intro T hT X
  rcases hr T hT X with ⟨v, st₀, t, T', L, h0, X', hL, e1, e2, ⟨⟨r, u, hv, hp, hb⟩, hF⟩, st⟩ | ⟨q, st₀, t, T', L, E, ce, h0, X', hL, e1, e2, ⟨u, hp, hb, hF⟩, hce, hcv, hcl, st⟩
  · cases hv
    obtain ⟨k1, k2, k3⟩ := vx_keep h0 e1 hS hA hf hL hF
    obtain ⟨t2, a1, b1⟩ := kk r u t T'.heap (locs ++ L) e1.symm (by rw [← e2]; exact X'.warmed.alike) hp hb k1 k2 k3 T' rfl X'
    exact ⟨t2, st t2 a1, b1⟩
  · obtain ⟨k1, k2, k3⟩ := vx_keep h0 e1 hS hAX hf hL hF
    obtain ⟨t2, a1, b1⟩ := kx E ce q u t T'.heap (locs ++ L) e1.symm (by rw [← e2]; exact X'.warmed.alike) hp hb k1 k2 k3 (by rw [e1]; exact hce) hcv hcl T' rfl X'
    exact ⟨t2, st.trans a1, b1⟩
theorem vx_calll {S SX : Type} {post : Int64 → S → Prop} {px : SX → Prop} {B : S → State → Prop} {BX : String → SX → State → Prop} {AX : Nat → Prop} (hr : vx_Run p l e R s m args below meth c H locs cells slots mc ms (F0 m pc ls st0) rest (va_Ql post B A1 a) (vx_X px BX AX) free) (hS : va_S A0 H0 H locs) (hA : ∀ q, q < H.size → A1 q → A0 q) (hf : ∀ q, free q → A0 q) (hAX : ∀ q, q < H.size → AX q → A0 q)
    (kx : ∀ (E : String) (ce : Cell) (q9 : Addr) (u : SX) (t : State) (H1 : Heap) (locs1 : List Loc), t.heap = H1 → s.vm.Alike t.vm → px u → BX E u t → H.size ≤ H1.size → (∀ q : Nat, q < H.size → ¬ AX q → H1[q]? = H[q]?) → va_S A0 H0 H1 locs1 → H1[q9]? = some ce → ce.vm = .none → s.vm.findClass E = some ce.cls → vx_W p l e R s m args below meth c H1 locs1 (cells + mc) (slots + ms) Q (F0 m pc ls rest) q9)
    (kk : ∀ (r : Int64) (u : S) (t : State) (H1 : Heap) (locs1 : List Loc), t.heap = H1 → s.vm.Alike t.vm → post r u → B u t → H.size ≤ H1.size → (∀ q : Nat, q < H.size → ¬ A1 q → H1[q]? = H[q]?) → va_S A0 H0 H1 locs1 → W p l e R s m args below meth c H1 locs1 (cells + mc) (slots + ms) Q (F0 m (pc + 3) ls (.long r :: rest))) : W p l e R s m args below meth c H locs cells slots Q (F0 m pc ls st0) := by
  intro T hT X
  rcases hr T hT X with ⟨v, st₀, t, T', L, h0, X', hL, e1, e2, ⟨⟨r, u, hv, hp, hb⟩, hF⟩, st⟩ | ⟨q, st₀, t, T', L, E, ce, h0, X', hL, e1, e2, ⟨u, hp, hb, hF⟩, hce, hcv, hcl, st⟩
  · cases hv
    obtain ⟨k1, k2, k3⟩ := vx_keep h0 e1 hS hA hf hL hF
    obtain ⟨t2, a1, b1⟩ := kk r u t T'.heap (locs ++ L) e1.symm (by rw [← e2]; exact X'.warmed.alike) hp hb k1 k2 k3 T' rfl X'
    exact ⟨t2, st t2 a1, b1⟩
  · obtain ⟨k1, k2, k3⟩ := vx_keep h0 e1 hS hAX hf hL hF
    obtain ⟨t2, a1, b1⟩ := kx E ce q u t T'.heap (locs ++ L) e1.symm (by rw [← e2]; exact X'.warmed.alike) hp hb k1 k2 k3 (by rw [e1]; exact hce) hcv hcl T' rfl X'
    exact ⟨t2, st.trans a1, b1⟩
theorem vx_callf {S SX : Type} {post : UInt32 → S → Prop} {px : SX → Prop} {B : S → State → Prop} {BX : String → SX → State → Prop} {AX : Nat → Prop} (hr : vx_Run p l e R s m args below meth c H locs cells slots mc ms (F0 m pc ls st0) rest (va_Qf post B A1 a) (vx_X px BX AX) free) (hS : va_S A0 H0 H locs) (hA : ∀ q, q < H.size → A1 q → A0 q) (hf : ∀ q, free q → A0 q) (hAX : ∀ q, q < H.size → AX q → A0 q)
    (kx : ∀ (E : String) (ce : Cell) (q9 : Addr) (u : SX) (t : State) (H1 : Heap) (locs1 : List Loc), t.heap = H1 → s.vm.Alike t.vm → px u → BX E u t → H.size ≤ H1.size → (∀ q : Nat, q < H.size → ¬ AX q → H1[q]? = H[q]?) → va_S A0 H0 H1 locs1 → H1[q9]? = some ce → ce.vm = .none → s.vm.findClass E = some ce.cls → vx_W p l e R s m args below meth c H1 locs1 (cells + mc) (slots + ms) Q (F0 m pc ls rest) q9)
    (kk : ∀ (r : UInt32) (u : S) (t : State) (H1 : Heap) (locs1 : List Loc), t.heap = H1 → s.vm.Alike t.vm → post r u → B u t → H.size ≤ H1.size → (∀ q : Nat, q < H.size → ¬ A1 q → H1[q]? = H[q]?) → va_S A0 H0 H1 locs1 → W p l e R s m args below meth c H1 locs1 (cells + mc) (slots + ms) Q (F0 m (pc + 3) ls (.float r :: rest))) : W p l e R s m args below meth c H locs cells slots Q (F0 m pc ls st0) := by
  intro T hT X
  rcases hr T hT X with ⟨v, st₀, t, T', L, h0, X', hL, e1, e2, ⟨⟨r, u, hv, hp, hb⟩, hF⟩, st⟩ | ⟨q, st₀, t, T', L, E, ce, h0, X', hL, e1, e2, ⟨u, hp, hb, hF⟩, hce, hcv, hcl, st⟩
  · cases hv
    obtain ⟨k1, k2, k3⟩ := vx_keep h0 e1 hS hA hf hL hF
    obtain ⟨t2, a1, b1⟩ := kk r u t T'.heap (locs ++ L) e1.symm (by rw [← e2]; exact X'.warmed.alike) hp hb k1 k2 k3 T' rfl X'
    exact ⟨t2, st t2 a1, b1⟩
  · obtain ⟨k1, k2, k3⟩ := vx_keep h0 e1 hS hAX hf hL hF
    obtain ⟨t2, a1, b1⟩ := kx E ce q u t T'.heap (locs ++ L) e1.symm (by rw [← e2]; exact X'.warmed.alike) hp hb k1 k2 k3 (by rw [e1]; exact hce) hcv hcl T' rfl X'
    exact ⟨t2, st.trans a1, b1⟩
theorem vx_calld {S SX : Type} {post : UInt64 → S → Prop} {px : SX → Prop} {B : S → State → Prop} {BX : String → SX → State → Prop} {AX : Nat → Prop} (hr : vx_Run p l e R s m args below meth c H locs cells slots mc ms (F0 m pc ls st0) rest (va_Qd post B A1 a) (vx_X px BX AX) free) (hS : va_S A0 H0 H locs) (hA : ∀ q, q < H.size → A1 q → A0 q) (hf : ∀ q, free q → A0 q) (hAX : ∀ q, q < H.size → AX q → A0 q)
    (kx : ∀ (E : String) (ce : Cell) (q9 : Addr) (u : SX) (t : State) (H1 : Heap) (locs1 : List Loc), t.heap = H1 → s.vm.Alike t.vm → px u → BX E u t → H.size ≤ H1.size → (∀ q : Nat, q < H.size → ¬ AX q → H1[q]? = H[q]?) → va_S A0 H0 H1 locs1 → H1[q9]? = some ce → ce.vm = .none → s.vm.findClass E = some ce.cls → vx_W p l e R s m args below meth c H1 locs1 (cells + mc) (slots + ms) Q (F0 m pc ls rest) q9)
    (kk : ∀ (r : UInt64) (u : S) (t : State) (H1 : Heap) (locs1 : List Loc), t.heap = H1 → s.vm.Alike t.vm → post r u → B u t → H.size ≤ H1.size → (∀ q : Nat, q < H.size → ¬ A1 q → H1[q]? = H[q]?) → va_S A0 H0 H1 locs1 → W p l e R s m args below meth c H1 locs1 (cells + mc) (slots + ms) Q (F0 m (pc + 3) ls (.double r :: rest))) : W p l e R s m args below meth c H locs cells slots Q (F0 m pc ls st0) := by
  intro T hT X
  rcases hr T hT X with ⟨v, st₀, t, T', L, h0, X', hL, e1, e2, ⟨⟨r, u, hv, hp, hb⟩, hF⟩, st⟩ | ⟨q, st₀, t, T', L, E, ce, h0, X', hL, e1, e2, ⟨u, hp, hb, hF⟩, hce, hcv, hcl, st⟩
  · cases hv
    obtain ⟨k1, k2, k3⟩ := vx_keep h0 e1 hS hA hf hL hF
    obtain ⟨t2, a1, b1⟩ := kk r u t T'.heap (locs ++ L) e1.symm (by rw [← e2]; exact X'.warmed.alike) hp hb k1 k2 k3 T' rfl X'
    exact ⟨t2, st t2 a1, b1⟩
  · obtain ⟨k1, k2, k3⟩ := vx_keep h0 e1 hS hAX hf hL hF
    obtain ⟨t2, a1, b1⟩ := kx E ce q u t T'.heap (locs ++ L) e1.symm (by rw [← e2]; exact X'.warmed.alike) hp hb k1 k2 k3 (by rw [e1]; exact hce) hcv hcl T' rfl X'
    exact ⟨t2, st.trans a1, b1⟩
theorem vx_callv {S SX : Type} {post : S → Prop} {px : SX → Prop} {B : S → State → Prop} {BX : String → SX → State → Prop} {AX : Nat → Prop} (hr : vx_Run p l e R s m args below meth c H locs cells slots mc ms (F0 m pc ls st0) rest (va_Qv post B A1 a) (vx_X px BX AX) free) (hS : va_S A0 H0 H locs) (hA : ∀ q, q < H.size → A1 q → A0 q) (hf : ∀ q, free q → A0 q) (hAX : ∀ q, q < H.size → AX q → A0 q)
    (kx : ∀ (E : String) (ce : Cell) (q9 : Addr) (u : SX) (t : State) (H1 : Heap) (locs1 : List Loc), t.heap = H1 → s.vm.Alike t.vm → px u → BX E u t → H.size ≤ H1.size → (∀ q : Nat, q < H.size → ¬ AX q → H1[q]? = H[q]?) → va_S A0 H0 H1 locs1 → H1[q9]? = some ce → ce.vm = .none → s.vm.findClass E = some ce.cls → vx_W p l e R s m args below meth c H1 locs1 (cells + mc) (slots + ms) Q (F0 m pc ls rest) q9)
    (kk : ∀ (u : S) (t : State) (H1 : Heap) (locs1 : List Loc), t.heap = H1 → s.vm.Alike t.vm → post u → B u t → H.size ≤ H1.size → (∀ q : Nat, q < H.size → ¬ A1 q → H1[q]? = H[q]?) → va_S A0 H0 H1 locs1 → W p l e R s m args below meth c H1 locs1 (cells + mc) (slots + ms) Q (F0 m (pc + 3) ls (rest))) : W p l e R s m args below meth c H locs cells slots Q (F0 m pc ls st0) := by
  intro T hT X
  rcases hr T hT X with ⟨v, st₀, t, T', L, h0, X', hL, e1, e2, ⟨⟨u, hv, hp, hb⟩, hF⟩, st⟩ | ⟨q, st₀, t, T', L, E, ce, h0, X', hL, e1, e2, ⟨u, hp, hb, hF⟩, hce, hcv, hcl, st⟩
  · cases hv
    obtain ⟨k1, k2, k3⟩ := vx_keep h0 e1 hS hA hf hL hF
    obtain ⟨t2, a1, b1⟩ := kk u t T'.heap (locs ++ L) e1.symm (by rw [← e2]; exact X'.warmed.alike) hp hb k1 k2 k3 T' rfl X'
    exact ⟨t2, st t2 a1, b1⟩
  · obtain ⟨k1, k2, k3⟩ := vx_keep h0 e1 hS hAX hf hL hF
    obtain ⟨t2, a1, b1⟩ := kx E ce q u t T'.heap (locs ++ L) e1.symm (by rw [← e2]; exact X'.warmed.alike) hp hb k1 k2 k3 (by rw [e1]; exact hce) hcv hcl T' rfl X'
    exact ⟨t2, st.trans a1, b1⟩
/-- caught by the row x of this method's table; the rows ahead don't take it -/
theorem vx_catch {own name : String} {E : String} {ce : Cell} {q : Addr} (hown : s.vm.findClass own = some m.cls) (pre : List ExceptionTableEntry) (x : ExceptionTableEntry) (suf : List ExceptionTableEntry) (hsplit : c.exceptionTable.toList = pre ++ x :: suf)
    (hpass : ∀ z ∈ pre, covers z pc = false ∨ (z.catchType ≠ 0 ∧ ∃ nm : String, (Cond.classLink own z.catchType nm).before args s = true ∧ va_Nc E nm s)) (hx : covers x pc = true) (h0 : x.catchType ≠ 0)
    (hlink : (Cond.classLink own x.catchType name).before args s = true) (hcast : (Cond.castable E name).before args s = true) (hcell : H[q]? = some ce) (hv : ce.vm = .none) (hcl : s.vm.findClass E = some ce.cls)
    (kk : W p l e R s m args below meth c H locs cells slots Q (F0 m x.handlerPc ls [.ref q])) : vx_W p l e R s m args below meth c H locs cells slots Q (F0 m pc ls rest) q := by
  intro T hT X
  have hpl : e.platform.magicAccessors = ({} : Platform).magicAccessors := by rw [X.admits.platform]
  obtain ⟨c3, c4, hc3, hc4, hasg⟩ := Cond.castable_spec hcast
  cases Option.some.inj (hc3.symm.trans hcl)
  obtain ⟨c5, hc5, hcl5⟩ := Cond.classLink_spec hown hlink e.platform hpl
  cases Option.some.inj (hc4.symm.trans hc5)
  obtain ⟨vm', X', st⟩ := X.thenCaughtThrough q (g := F0 m pc ls rest) rfl (Steps.refl _) (by rw [hT]; exact hcell) (by rw [hv]; rfl) (by obtain ⟨k9, h9, -⟩ := Vm.findClass_spec hcl; exact ⟨k9, h9⟩) pre x suf hsplit
    (fun z hz => by
      rcases hpass z hz with h | ⟨hz0, nm, hl1, hn1⟩
      · exact Or.inl h
      · obtain ⟨c6, hc6, hcl6⟩ := Cond.classLink_spec hown hl1 e.platform hpl
        obtain ⟨a8, b8, h1, h2, h3⟩ := hn1
        cases Option.some.inj (h1.symm.trans hcl)
        cases Option.some.inj (h2.symm.trans hc6)
        exact Or.inr ⟨hz0, _, hcl6, h3⟩) hx (Or.inr ⟨h0, c4, hcl5, hasg⟩)
  obtain ⟨t, a1, b1⟩ := kk (T.setVm vm') hT X'
  exact ⟨t, st.trans a1, b1⟩
end Rows
section Ends
variable {p : Program} {l : Launch} {e : Env} {R : Room} {s : State} {m : MethodId} {args : Array Value} {below : List Frame} {meth : Method} {c : Code} {H : Heap} {locs : List Loc} {cells slots : Nat} {Q : State → Prop}
variable {mc ms : Nat} {free : Addr → Prop} {A0 A1 : Nat → Prop} {H0 : Heap} {a : Array Value} {ls : Array Slot} {st0 rest : List Value}
variable {Qc : Array Value → State → Outcome → State → Prop} {XC : String → State → State → Prop}
/-- what a body that may throw owes at its end -/
def vx_MQ (below : List Frame) (Qc : Array Value → State → Outcome → State → Prop) (XC : String → State → State → Prop) (a : Array Value) (s : State) (mc ms : Nat) (free : Addr → Prop) : State → Prop := fun t =>
  ∃ o, t.status = .running ∧ Ended t below o ∧ vx_Q Qc XC mc ms free a s o t
theorem vx_ret {g : JFrame} {mc ms : Nat} (k : W p l e R s m args below meth c H locs cells slots (MQ below Qc args s mc ms free) g) : W p l e R s m args below meth c H locs cells slots (vx_MQ below Qc XC args s mc ms free) g := by
  intro T hT X
  obtain ⟨t, a1, o, b1, b2, b3, b4⟩ := k T hT X
  exact ⟨t, a1, o, b1, b2, Or.inl ⟨b3, b4⟩⟩
/-- not caught here: it goes on to the caller -/
theorem vx_widen {g : JFrame} {q : Addr} {k n : Nat} (h1 : cells ≤ k) (h2 : slots ≤ n) (kk : vx_W p l e R s m args below meth c H locs k n Q g q) : vx_W p l e R s m args below meth c H locs cells slots Q g q := fun T hT X => kk T hT (stand_widen X h1 h2)
theorem vx_out {pc : Nat} {E : String} {ce : Cell} {q : Addr} {mc ms : Nat} (hout : ∀ x ∈ c.exceptionTable.toList, covers x pc = false) (hlocks : meth.locks = false) (hcell : H[q]? = some ce) (hv : ce.vm = .none) (hcl : s.vm.findClass E = some ce.cls)
    (hx : ∀ t : State, t.heap = H → s.vm.Alike t.vm → XC E s t) (hf : ∀ z ∈ locs, free z.base) (hc : cells ≤ mc) (hs : slots ≤ ms) :
    vx_W p l e R s m args below meth c H locs cells slots (vx_MQ below Qc XC args s mc ms free) (F0 m pc ls rest) q := by
  intro T hT X
  obtain ⟨st1, hrun, hend, hW, hsm⟩ := X.leaveThrown q (g := F0 m pc ls rest) rfl rfl rfl hout hlocks
  have hcell9 : (T.setFrames (.throwing q :: below)).heap[q]? = some ce := by
    show T.heap[q]? = some ce
    rw [hT]; exact hcell
  exact ⟨_, st1, .threw q, hrun, hend, Or.inr ⟨q, rfl, E, ce, locs, hx _ hT hW.alike, hcell9, hv, hcl, hW, hsm.mono hc hs, hf⟩⟩
theorem vx_frame {U : State} {k n : Nat} (h : s.sameButNew ({ U with vm := s.vm } : State) locs k n) : s.heap.size ≤ U.heap.size ∧ ∀ q : Nat, q < s.heap.size → (∀ z ∈ locs, z.base ≠ q) → U.heap[q]? = s.heap[q]? := by
  obtain ⟨-, h2, -, -, -, h6⟩ := h
  refine ⟨h2, fun q hq hz => ?_⟩
  obtain ⟨c9, e1, e2, e3, e4⟩ := h6 q _ (Array.getElem?_eq_getElem hq)
  have hs : c9.slots = (s.heap[q]).slots := Array.ext_getElem? fun i => e4 i fun hm => hz _ hm rfl
  have h9 : c9 = s.heap[q] := by
    rw [hs] at e2
    exact e2
  have e5 : U.heap[q]? = some c9 := e1
  rw [e5, h9, Array.getElem?_eq_getElem hq]
/-- the words of a throw but the four that speak of the heap -/
def vx_no (w : Cond) : Bool := decide (w ≠ .isRef (.static Bundle.tN "UNASSIGNED_STACK" Bundle.steD)) && decide (w ≠ .isRef (.static Bundle.tN "SUPPRESSED_SENTINEL" Bundle.listD)) && decide (w ≠ .laysStatic Bundle.tN "UNASSIGNED_STACK" Bundle.steD) && decide (w ≠ .laysStatic Bundle.tN "SUPPRESSED_SENTINEL" Bundle.listD)
def vx_at0 (own : String) (ic : Nat) (X : String) (names : List String) : List Cond := (Bundle.ownAtoms0 own ic X names).filter vx_no
def vx_atS (own : String) (ic : Nat) (X : String) (names : List String) : List Cond := (Bundle.ownAtoms own ic X names).filter vx_no
/-- a word that the tables alone decide, or a good one -/
def vx_ot (w : Cond) : Bool := w.onTables || goodWord w
theorem vx_ot_at {args a' : Array Value} {s U : State} {w : Cond} (hW : s.WarmedH U.vm) (hvm : s.vm = U.vm) (hg : vx_ot w = true) (h : w.before args s = true) : w.before a' U = true := by
  simp only [vx_ot, Bool.or_eq_true] at hg
  rcases hg with hg | hg
  · exact va_tabs hg hvm h
  · exact word_at hW (good_of_word hg) h
/-- a list's words: the good ones out of the method's own list, the others by premises of their own -/
theorem vx_hat {args : Array Value} {s : State} {L B : List Cond} (h1 : ∀ w ∈ L.filter goodWord, w.before args s = true) (h2 : ∀ w ∈ L.filter (fun w => !goodWord w), w ∈ B) (h3 : ∀ w ∈ B, w.before args s = true) : ∀ w ∈ L, w.before args s = true := by
  intro w hw
  by_cases g : goodWord w = true
  · exact h1 w (List.mem_filter.mpr ⟨hw, g⟩)
  · refine h3 w (h2 w (List.mem_filter.mpr ⟨hw, ?_⟩))
    show (!goodWord w) = true
    cases hgw : goodWord w
    · rfl
    · exact absurd hgw g
theorem vx_c {args : Array Value} {s : State} {w : Cond} {B : List Cond} (h : w.before args s = true) (t : ∀ w ∈ B, w.before args s = true) : ∀ w' ∈ w :: B, w'.before args s = true := fun w' h' => (List.mem_cons.mp h').elim (fun e => by rw [e]; exact h) (t w')
theorem vx_n {args : Array Value} {s : State} : ∀ w ∈ ([] : List Cond), w.before args s = true := fun _ h => nomatch h
theorem vx_own {args : Array Value} {s : State} {L : List Cond} (h1 : ∀ w ∈ L.filter vx_no, w.before args s = true)
    (hU : (Cond.isRef (.static Bundle.tN "UNASSIGNED_STACK" Bundle.steD)).before args s = true) (hN : (Cond.isRef (.static Bundle.tN "SUPPRESSED_SENTINEL" Bundle.listD)).before args s = true)
    (lU : (Cond.laysStatic Bundle.tN "UNASSIGNED_STACK" Bundle.steD).before args s = true) (lN : (Cond.laysStatic Bundle.tN "SUPPRESSED_SENTINEL" Bundle.listD).before args s = true) : ∀ w ∈ L, w.before args s = true := by
  intro w hw
  by_cases e1 : w = .isRef (.static Bundle.tN "UNASSIGNED_STACK" Bundle.steD)
  · rw [e1]; exact hU
  · by_cases e2 : w = .isRef (.static Bundle.tN "SUPPRESSED_SENTINEL" Bundle.listD)
    · rw [e2]; exact hN
    · by_cases e3 : w = .laysStatic Bundle.tN "UNASSIGNED_STACK" Bundle.steD
      · rw [e3]; exact lU
      · by_cases e4 : w = .laysStatic Bundle.tN "SUPPRESSED_SENTINEL" Bundle.listD
        · rw [e4]; exact lN
        · exact h1 w (List.mem_filter.mpr ⟨hw, by unfold vx_no; rw [decide_eq_true e1, decide_eq_true e2, decide_eq_true e3, decide_eq_true e4]; rfl⟩)
/-- where a static field lies, its class's statics cell in H -/
def vx_L (C n d : String) (A : Nat → Prop) (U : State) (H : Heap) : Prop := ∃ (c : ClassId) (k : Class) (i : Nat) (f : Field) (a : Nat) (cell : Cell), U.vm.findClass C = some c ∧ U.fieldFound? C n d = some (c, k, i, f) ∧ f.isStatic = true ∧ k.statics = some a ∧ H[a]? = some cell ∧ cell.vm.isStatics = true ∧ cell.cls = c ∧ f.slot < cell.slots.size ∧ k.staticTypes[f.slot]? = some f.type ∧ ¬ A a
theorem vx_L.moved {C n d : String} {A : Nat → Prop} {u U : State} {H : Heap} (hvm : u.vm.Alike U.vm) (h : vx_L C n d A u H) : vx_L C n d A U H := by
  obtain ⟨c, k, i, f, a, cell, h1, h2, h3, h4, h5, h6, h7, h8, h9, h10⟩ := h
  obtain ⟨k', hi', he⟩ := State.fieldFound?_setVm hvm h2
  exact ⟨c, k', i, f, a, cell, by rw [hvm.findClass]; exact h1, hi', h3, by rw [he]; exact h4, h5, h6, h7, h8, by rw [he]; exact h9, h10⟩
theorem vx_L.kept {C n d : String} {A : Nat → Prop} {U : State} {H H1 : Heap} (h : vx_L C n d A U H) (hq : ∀ a : Nat, a < H.size → ¬ A a → H1[a]? = H[a]?) : vx_L C n d A U H1 := by
  obtain ⟨c, k, i, f, a, cell, h1, h2, h3, h4, h5, h6, h7, h8, h9, h10⟩ := h
  exact ⟨c, k, i, f, a, cell, h1, h2, h3, h4, by rw [hq a (Array.getElem?_eq_some_iff.mp h5).1 h10]; exact h5, h6, h7, h8, h9, h10⟩
theorem vx_L.narrow {C n d : String} {A B : Nat → Prop} {U : State} {H : Heap} (h : vx_L C n d A U H) (hAB : ∀ q, B q → A q) : vx_L C n d B U H := by
  obtain ⟨c, k, i, f, a, cell, h1, h2, h3, h4, h5, h6, h7, h8, h9, h10⟩ := h
  exact ⟨c, k, i, f, a, cell, h1, h2, h3, h4, h5, h6, h7, h8, h9, fun z => h10 (hAB _ z)⟩
theorem vx_L.word {C n d : String} {A : Nat → Prop} {s : State} {args : Array Value} (h : vx_L C n d A s s.heap) : (Cond.laysStatic C n d).before args s = true := by
  obtain ⟨c, k, i, f, a, cell, h1, h2, h3, h4, h5, h6, h7, h8, h9, -⟩ := h
  show (Cond.laysStatic C n d).holds args s none s [] = true
  exact Cond.laysStatic_of h1 h2 h3 h4 h5 h6 h7 h8 h9
/-- .. and what it holds: null or some reference -/
def vx_Zq (C n d : String) (A : Nat → Prop) (U : State) (H : Heap) : Prop := va_Zq C n d A U H ∧ vx_L C n d A U H
theorem vx_Zq.moved {C n d : String} {A : Nat → Prop} {u U : State} {H : Heap} (hvm : u.vm.Alike U.vm) (h : vx_Zq C n d A u H) : vx_Zq C n d A U H := ⟨va_Zq.moved hvm h.1, vx_L.moved hvm h.2⟩
theorem vx_Zq.kept {C n d : String} {A : Nat → Prop} {U : State} {H H1 : Heap} (h : vx_Zq C n d A U H) (hq : ∀ a : Nat, a < H.size → ¬ A a → H1[a]? = H[a]?) : vx_Zq C n d A U H1 := ⟨va_Zq.kept h.1 hq, vx_L.kept h.2 hq⟩
theorem vx_Zq.narrow {C n d : String} {A B : Nat → Prop} {U : State} {H : Heap} (h : vx_Zq C n d A U H) (hAB : ∀ q, B q → A q) : vx_Zq C n d B U H := ⟨va_Zq.narrow h.1 hAB, vx_L.narrow h.2 hAB⟩
theorem vx_Zqof {args : Array Value} {s : State} {C n d : String} {A : Nat → Prop} (hl : (Cond.laysStatic C n d).before args s = true) (hini : (Cond.initialized C).before args s = true) (h : (Cond.isRef (.static C n d)).before args s = true) (hA : ∀ a : Nat, a < s.heap.size → ¬ A a) : vx_Zq C n d A s s.heap := by
  refine ⟨va_Zqof hl hini h hA, ?_⟩
  obtain ⟨c, k, i, f, a, cell, h1, h2, h3, h4, h5, h6, h7, h8, h9⟩ := Cond.laysStatic_spec hl
  exact ⟨c, k, i, f, a, cell, h1, h2, h3, h4, h5, h6, h7, h8, h9, hA a (Array.getElem?_eq_some_iff.mp h5).1⟩
theorem vx_isRef {C n d : String} {v : Value} {A : Nat → Prop} {s : State} {args : Array Value} (h : va_Z C n d v A s s.heap) (hv : v.isRef = true) : (Cond.isRef (.static C n d)).before args s = true := by
  obtain ⟨cf, kf, fi, f, a, cell, h1, h2, h3, h4, h5, h6, h7, -⟩ := h
  have he : (Term.static C n d).eval args s none [] s = some v := by
    simp [Term.eval, State.fieldNamed?, h1, h2, h4, h5, h6, h7]
  simp only [Cond.before, Cond.holds, Cond.value, he]
  cases v <;> simp_all [Value.isRef]
theorem vx_isRefq {C n d : String} {A : Nat → Prop} {s : State} {args : Array Value} (h : va_Zq C n d A s s.heap) : (Cond.isRef (.static C n d)).before args s = true := by
  rcases h with h | ⟨t, h⟩
  · exact vx_isRef h rfl
  · exact vx_isRef h rfl
/-- the same frame, seen from here: as if the method were called anew in this heap -/
theorem vx_rebase {T : State} (X : Stand p l e R s m args below meth c T locs cells slots) {R' : Room} (hf : R'.frames ≤ R.frames) (hl : R'.locals ≤ R.locals) (hc : cells + R'.cells ≤ R.cells) (hs : slots + R'.slots ≤ R.slots) :
    Stand p l e R' ((T.setVm s.vm).setFrames (.invoking m args :: below)) m args below meth c T [] 0 0 := by
  have htop : (T.setVm s.vm).topJava?.isSome := X.here.top
  have hF : ((T.setVm s.vm).setFrames (.invoking m args :: below)).frames = .invoking m args :: below := State.frames_setFrames _ (State.cur_lt_of_top htop)
  obtain ⟨g₀, hg0⟩ := Option.isSome_iff_exists.mp htop
  obtain ⟨r, hr⟩ := State.topJava?_eq_some.mp hg0
  have hl9 : e.platform.stackLimits (T.setVm s.vm).me = e.platform.stackLimits s.me := X.limits
  have hb9 : (T.setVm s.vm).me.stackBytes = s.me.stackBytes := X.bytes
  refine ⟨X.admits, X.cas, X.clock, hF, ?_, X.hears, X.method, X.code, X.here, X.tail, X.warmed, ?_, ?_, ?_⟩
  · have h := X.room
    have hU : ((T.setVm s.vm).setFrames (.invoking m args :: below)).localsInUse = s.localsInUse := by
      rw [State.localsInUse_invoking hF (meth := meth) (c := c) X.method X.code, State.localsInUse_invoking X.frames X.method X.code]
    simp only [State.hasRoom, Bool.and_eq_true, decide_eq_true_eq] at h ⊢
    obtain ⟨⟨⟨⟨h1, h2, h3, h4, h5, h6⟩, h7⟩, h8⟩, h9⟩ := h
    rw [X.frames, List.length_cons] at h2 h3
    have q1 := X.heapSize
    have q2 := X.used
    simp only [hF, hU, List.length_cons, State.stackLimits_setFrames, State.stackBytes_setFrames, hl9, hb9]
    refine ⟨⟨⟨⟨by omega, by omega, by omega, by omega, by omega, h6⟩, ?_⟩, ?_⟩, X.book⟩
    · show T.heap.size + R'.cells ≤ e.platform.maxCells
      omega
    · show T.slotsUsed + R'.slots ≤ e.platform.maxSlots
      omega
  · rw [State.stackLimits_setFrames]; rfl
  · rw [State.stackBytes_setFrames]; rfl
  · refine ⟨?_, Nat.le_refl _, Nat.le_refl _, ?_, ?_, fun a c9 h9 => ⟨c9, h9, rfl, rfl, fun _ _ => rfl⟩⟩
    · obtain ⟨t, ht, -⟩ := State.frames_cons hr
      show T.setVm s.vm = { ((T.setVm s.vm).setFrames (.invoking m args :: below)).setFrames (T.setVm s.vm).frames with heap := T.heap, slotsUsed := T.slotsUsed }
      rw [State.setFrames_setFrames, State.setFrames_self ht]
      rfl
    · show T.slotsUsed = T.slotsUsed + ((T.heap.toList.drop T.heap.size).map (·.slots.size)).sum
      rw [List.drop_eq_nil_of_le (Nat.le_of_eq Array.length_toList)]
      rfl
    · show ((T.heap.toList.drop T.heap.size).map (·.slots.size)).sum ≤ 0
      rw [List.drop_eq_nil_of_le (Nat.le_of_eq Array.length_toList)]
      exact Nat.le_refl _
/-- 'throw new E()': new; dup; invokespecial; athrow -/
theorem vx_throw0 {cc : ByteArray} {pc : Nat} (hexec : p.tables.exec = Jvm.exec) (hb : c.code = cc) (hl : l.stackTraces = false) {own cls : String} {names : List String} {ik ic mc ms : Nat} {A : Nat → Prop}
    (hown : s.vm.findClass own = some m.cls) (hcls : Bundle.fit cls = true) (hnames : ∀ n ∈ names, Bundle.fit n = true)
    (hk : (Cond.classLink own ik cls).before args s = true) (hini : (Cond.initialized cls).before args s = true) (hat : ∀ w ∈ vx_at0 own ic cls names, w.before args s = true)
    (hgood : ∀ w ∈ Cond.classLink own ik cls :: Cond.initialized cls :: vx_at0 own ic cls names, vx_ot w = true)
    (hU : vx_Zq Bundle.tN "UNASSIGNED_STACK" Bundle.steD A s s.heap) (hN : vx_Zq Bundle.tN "SUPPRESSED_SENTINEL" Bundle.listD A s s.heap) (hS : va_S A s.heap H locs) (hsize : ls.size = c.maxLocals)
    (d0 : decode cc pc = .ok (.new ik, 3)) (d3 : decode cc (pc + 3) = .ok (.dup, 1)) (d4 : decode cc (pc + 4) = .ok (.invokespecial ic, 3)) (d7 : decode cc (pc + 7) = .ok (.athrow, 1))
    (hout : ∀ x ∈ c.exceptionTable.toList, covers x (pc + 7) = false)
    (hRframes : names.length + 3 < R.frames) (hRlocals : (rest.map fun v => v.category).sum + (13 * (names.length + 1) + 42) ≤ R.locals) (hRcells : cells + 1 ≤ R.cells) (hRslots : slots + 6 ≤ R.slots) (hlocks : meth.locks = false)
    (hx : ∀ t : State, s.vm.Alike t.vm → H.size ≤ t.heap.size → (∀ q : Nat, q < H.size → t.heap[q]? = H[q]?) → XC cls s t)
    (hf : ∀ z ∈ locs, free z.base) (hc : cells + 1 ≤ mc) (hs : slots + 6 ≤ ms) :
    W p l e R s m args below meth c H locs cells slots (vx_MQ below Qc XC args s mc ms free) (F0 m pc ls rest) := by
  intro T hT X
  have htr : e.platform.stackTraces = false := (show e.platform.stackTraces = l.stackTraces by rw [X.admits.platform]).trans hl
  have Y := vx_rebase X (R' := { frames := R.frames, locals := R.locals, cells := 1, slots := 6 }) (Nat.le_refl _) (Nat.le_refl _) hRcells hRslots
  obtain ⟨s', hA⟩ : ∃ z, z = (T.setVm s.vm).setFrames (.invoking m args :: below) := ⟨_, rfl⟩
  rw [← hA] at Y
  have hvm : s'.vm = s.vm := by rw [hA]; rfl
  have hhp : s'.heap = H := by rw [hA]; exact hT
  have hW0 : s.WarmedH s'.vm := by rw [hvm]; exact State.WarmedH.refl s
  have hat' : ∀ w ∈ vx_at0 own ic cls names, w.before args s' = true := fun w hw => vx_ot_at hW0 hvm.symm (hgood w (List.mem_cons_of_mem _ (List.mem_cons_of_mem _ hw))) (hat w hw)
  have hk' : (Cond.classLink own ik cls).before args s' = true := vx_ot_at hW0 hvm.symm (hgood _ List.mem_cons_self) hk
  have hini' : (Cond.initialized cls).before args s' = true := vx_ot_at hW0 hvm.symm (hgood _ (List.mem_cons_of_mem _ List.mem_cons_self)) hini
  have hU' : vx_Zq Bundle.tN "UNASSIGNED_STACK" Bundle.steD A s' s'.heap := by rw [hhp]; exact vx_Zq.moved hW0.alike (hU.kept hS.2.1)
  have hN' : vx_Zq Bundle.tN "SUPPRESSED_SENTINEL" Bundle.listD A s' s'.heap := by rw [hhp]; exact vx_Zq.moved hW0.alike (hN.kept hS.2.1)
  have h : ∀ w ∈ Bundle.ownAtoms0 own ic cls names, w.before args s' = true := vx_own hat' (vx_isRefq hU'.1) (vx_isRefq hN'.1) hU'.2.word hN'.2.word
  have hown' : s'.vm.findClass own = some m.cls := by rw [hvm]; exact hown
  have hins : (Cond.instantiable cls 6).before args s' = true := h _ (by simp [Bundle.ownAtoms0])
  obtain ⟨vm₁, cX, kX, hfX, hkX, -, -, X₁, st1⟩ := Y.newCold hexec (own := own) (C := cls) (index := ik) (n := 6) hown' hk' hins hini'
    (g := F0 m pc ls rest) rfl (by rw [hb]; exact d0) (Nat.le_refl _) (Nat.le_refl _)
  generalize hT1 : (T.setVm vm₁).pushCell { cls := cX, slots := kX.instanceTypes.map defaultValue, vm := .none } = T1 at X₁ st1
  have hcat : (Value.ref T.heap.size).category = 1 := rfl
  have hcellA : T1.heap[T.heap.size]? = some (freshCell cX kX) := by rw [← hT1]; exact State.heap_pushCell_size _ _
  have d3' : decode c.code (pc + 3) = .ok (.dup, 1) := by rw [hb]; exact d3
  obtain ⟨U, hsteps, hrun, hend, hW, hsame, ce, hce, hO⟩ := X₁.ctorThrow0 hexec htr (own := own) (cls := cls) (names := names) (ic := ic) hown' hcls hnames h (fun x hx => nomatch hx) hfX hkX hcellA (by rw [hhp, hT]; exact Nat.le_refl _)
    (g := { method := m, pc := pc + 4, locals := ls, stack := .ref T.heap.size :: .ref T.heap.size :: rest, locked := none }) rfl hsize rfl rfl (rest := rest) rfl
    (by rw [hb]; exact d4) (by rw [hb]; exact d7) hout hRframes (by simp only [List.map_cons, List.sum_cons, hcat]; omega) hlocks
  obtain ⟨f1, f2⟩ := vx_frame hsame
  rw [hhp] at f1 f2
  have hWs : s.WarmedH U.vm := State.WarmedH.trans hW0 hW
  have hcl : s.vm.findClass cls = some ce.cls := by
    have h9 := hO.cls
    rw [hvm] at h9
    exact h9
  have hall : s.sameButNew ({ U with vm := s.vm } : State) locs mc ms := by
    subst hA
    obtain ⟨e1, e2⟩ := hsame
    rw [State.setFrames_setFrames] at e1
    have h2 : (T.setVm s.vm).sameButNew ({ U with vm := s.vm } : State) [] (0 + 1) (0 + 6) := ⟨e1, e2⟩
    have h3 := X.same.trans h2
    rw [List.append_nil] at h3
    exact h3.mono hc hs
  refine ⟨U, ?_, .threw T.heap.size, hrun, hend, Or.inr ⟨T.heap.size, rfl, cls, ce, locs, hx U hWs.alike f1 (fun q hq => f2 q hq (fun z hz => nomatch hz)), hce, hO.vm, hcl, hWs, hall, hf⟩⟩
  refine st1 _ ?_
  show Steps p.tables e below (T1.setTop { method := m, pc := pc + 3, locals := ls, stack := .ref T.heap.size :: rest, locked := none }) _
  jvm_step X₁.here [X₁.here.top, hexec, d3', Value.category]
  exact hsteps
/-- 'throw new E("text")': new; dup; ldc; invokespecial; athrow -/
theorem vx_throwS {cc : ByteArray} {pc : Nat} (hexec : p.tables.exec = Jvm.exec) (hb : c.code = cc) (hl : l.stackTraces = false) {own cls text : String} {names : List String} {ik is ic mc ms sa : Nat} {A : Nat → Prop}
    (hown : s.vm.findClass own = some m.cls) (hcls : Bundle.fit cls = true) (hnames : ∀ n ∈ names, Bundle.fit n = true)
    (hk : (Cond.classLink own ik cls).before args s = true) (hini : (Cond.initialized cls).before args s = true) (hstr : vk_R own is text sa s) (hat : ∀ w ∈ vx_atS own ic cls names, w.before args s = true)
    (hgood : ∀ w ∈ Cond.classLink own ik cls :: Cond.initialized cls :: vx_atS own ic cls names, vx_ot w = true)
    (hU : vx_Zq Bundle.tN "UNASSIGNED_STACK" Bundle.steD A s s.heap) (hN : vx_Zq Bundle.tN "SUPPRESSED_SENTINEL" Bundle.listD A s s.heap) (hS : va_S A s.heap H locs) (hsize : ls.size = c.maxLocals)
    (d0 : decode cc pc = .ok (.new ik, 3)) (d3 : decode cc (pc + 3) = .ok (.dup, 1)) (d4 : decode cc (pc + 4) = .ok (.ldc is, 2)) (d6 : decode cc (pc + 6) = .ok (.invokespecial ic, 3)) (d9 : decode cc (pc + 9) = .ok (.athrow, 1))
    (hout : ∀ x ∈ c.exceptionTable.toList, covers x (pc + 9) = false)
    (hRframes : names.length + 3 < R.frames) (hRlocals : (rest.map fun v => v.category).sum + (13 * (names.length + 1) + 43) ≤ R.locals) (hRcells : cells + 1 ≤ R.cells) (hRslots : slots + 6 ≤ R.slots) (hlocks : meth.locks = false)
    (hx : ∀ t : State, s.vm.Alike t.vm → H.size ≤ t.heap.size → (∀ q : Nat, q < H.size → t.heap[q]? = H[q]?) → XC cls s t)
    (hf : ∀ z ∈ locs, free z.base) (hc : cells + 1 ≤ mc) (hs : slots + 6 ≤ ms) :
    W p l e R s m args below meth c H locs cells slots (vx_MQ below Qc XC args s mc ms free) (F0 m pc ls rest) := by
  intro T hT X
  have htr : e.platform.stackTraces = false := (show e.platform.stackTraces = l.stackTraces by rw [X.admits.platform]).trans hl
  have Y := vx_rebase X (R' := { frames := R.frames, locals := R.locals, cells := 1, slots := 6 }) (Nat.le_refl _) (Nat.le_refl _) hRcells hRslots
  obtain ⟨s', hA⟩ : ∃ z, z = (T.setVm s.vm).setFrames (.invoking m args :: below) := ⟨_, rfl⟩
  rw [← hA] at Y
  have hvm : s'.vm = s.vm := by rw [hA]; rfl
  have hhp : s'.heap = H := by rw [hA]; exact hT
  have hW0 : s.WarmedH s'.vm := by rw [hvm]; exact State.WarmedH.refl s
  have hat' : ∀ w ∈ vx_atS own ic cls names, w.before args s' = true := fun w hw => vx_ot_at hW0 hvm.symm (hgood w (List.mem_cons_of_mem _ (List.mem_cons_of_mem _ hw))) (hat w hw)
  have hk' : (Cond.classLink own ik cls).before args s' = true := vx_ot_at hW0 hvm.symm (hgood _ List.mem_cons_self) hk
  have hini' : (Cond.initialized cls).before args s' = true := vx_ot_at hW0 hvm.symm (hgood _ (List.mem_cons_of_mem _ List.mem_cons_self)) hini
  have hU' : vx_Zq Bundle.tN "UNASSIGNED_STACK" Bundle.steD A s' s'.heap := by rw [hhp]; exact vx_Zq.moved hW0.alike (hU.kept hS.2.1)
  have hN' : vx_Zq Bundle.tN "SUPPRESSED_SENTINEL" Bundle.listD A s' s'.heap := by rw [hhp]; exact vx_Zq.moved hW0.alike (hN.kept hS.2.1)
  have h : ∀ w ∈ Bundle.ownAtoms own ic cls names, w.before args s' = true := vx_own hat' (vx_isRefq hU'.1) (vx_isRefq hN'.1) hU'.2.word hN'.2.word
  have hown' : s'.vm.findClass own = some m.cls := by rw [hvm]; exact hown
  have hins : (Cond.instantiable cls 6).before args s' = true := h _ (by simp [Bundle.ownAtoms])
  obtain ⟨vm₁, cX, kX, hfX, hkX, -, -, X₁, st1⟩ := Y.newCold hexec (own := own) (C := cls) (index := ik) (n := 6) hown' hk' hins hini'
    (g := F0 m pc ls rest) rfl (by rw [hb]; exact d0) (Nat.le_refl _) (Nat.le_refl _)
  generalize hT1 : (T.setVm vm₁).pushCell { cls := cX, slots := kX.instanceTypes.map defaultValue, vm := .none } = T1 at X₁ st1
  have hcat : (Value.ref T.heap.size).category = 1 := rfl
  have hcellA : T1.heap[T.heap.size]? = some (freshCell cX kX) := by rw [← hT1]; exact State.heap_pushCell_size _ _
  have d3' : decode c.code (pc + 3) = .ok (.dup, 1) := by rw [hb]; exact d3
  have d4' : decode c.code (pc + 4) = .ok (.ldc is, 2) := by rw [hb]; exact d4
  have hstr' : vk_R own is text sa s' := vk_R.warm hW0 hstr
  obtain ⟨U, hsteps, hrun, hend, hW, hsame, ce, hce, hO⟩ := X₁.ctorThrowS hexec htr (own := own) (cls := cls) (names := names) (ic := ic) hown' hcls hnames h (fun x hx => nomatch hx) hfX hkX hcellA (by rw [hhp, hT]; exact Nat.le_refl _) (msg := .ref sa) rfl
    (g := { method := m, pc := pc + 6, locals := ls, stack := .ref sa :: .ref T.heap.size :: .ref T.heap.size :: rest, locked := none }) rfl hsize rfl rfl (rest := rest) rfl
    (by rw [hb]; exact d6) (by rw [hb]; exact d9) hout hRframes (by simp only [List.map_cons, List.sum_cons, hcat]; omega) hlocks
  obtain ⟨f1, f2⟩ := vx_frame hsame
  rw [hhp] at f1 f2
  have hWs : s.WarmedH U.vm := State.WarmedH.trans hW0 hW
  have hcl : s.vm.findClass cls = some ce.cls := by
    have h9 := hO.cls
    rw [hvm] at h9
    exact h9
  have hall : s.sameButNew ({ U with vm := s.vm } : State) locs mc ms := by
    subst hA
    obtain ⟨e1, e2⟩ := hsame
    rw [State.setFrames_setFrames] at e1
    have h2 : (T.setVm s.vm).sameButNew ({ U with vm := s.vm } : State) [] (0 + 1) (0 + 6) := ⟨e1, e2⟩
    have h3 := X.same.trans h2
    rw [List.append_nil] at h3
    exact h3.mono hc hs
  refine ⟨U, ?_, .threw T.heap.size, hrun, hend, Or.inr ⟨T.heap.size, rfl, cls, ce, locs, hx U hWs.alike f1 (fun q hq => f2 q hq (fun z hz => nomatch hz)), hce, hO.vm, hcl, hWs, hall, hf⟩⟩
  refine st1 _ ?_
  show Steps p.tables e below (T1.setTop { method := m, pc := pc + 3, locals := ls, stack := .ref T.heap.size :: rest, locked := none }) _
  jvm_step X₁.here [X₁.here.top, hexec, d3', Value.category]
  exact X₁.ldcString hexec (own := own) (text := text) (index := is) (a := sa) hown' hstr'.1 hstr'.2
    (g := { method := m, pc := pc + 4, locals := ls, stack := .ref T.heap.size :: .ref T.heap.size :: rest, locked := none }) rfl d4' _ hsteps
/-- 'throw new E("text")', the text by a wide index -/
theorem vx_throwSW {cc : ByteArray} {pc : Nat} (hexec : p.tables.exec = Jvm.exec) (hb : c.code = cc) (hl : l.stackTraces = false) {own cls text : String} {names : List String} {ik is ic mc ms sa : Nat} {A : Nat → Prop}
    (hown : s.vm.findClass own = some m.cls) (hcls : Bundle.fit cls = true) (hnames : ∀ n ∈ names, Bundle.fit n = true)
    (hk : (Cond.classLink own ik cls).before args s = true) (hini : (Cond.initialized cls).before args s = true) (hstr : vk_R own is text sa s) (hat : ∀ w ∈ vx_atS own ic cls names, w.before args s = true)
    (hgood : ∀ w ∈ Cond.classLink own ik cls :: Cond.initialized cls :: vx_atS own ic cls names, vx_ot w = true)
    (hU : vx_Zq Bundle.tN "UNASSIGNED_STACK" Bundle.steD A s s.heap) (hN : vx_Zq Bundle.tN "SUPPRESSED_SENTINEL" Bundle.listD A s s.heap) (hS : va_S A s.heap H locs) (hsize : ls.size = c.maxLocals)
    (d0 : decode cc pc = .ok (.new ik, 3)) (d3 : decode cc (pc + 3) = .ok (.dup, 1)) (d4 : decode cc (pc + 4) = .ok (.ldc_w is, 3)) (d7 : decode cc (pc + 7) = .ok (.invokespecial ic, 3)) (d10 : decode cc (pc + 10) = .ok (.athrow, 1))
    (hout : ∀ x ∈ c.exceptionTable.toList, covers x (pc + 10) = false)
    (hRframes : names.length + 3 < R.frames) (hRlocals : (rest.map fun v => v.category).sum + (13 * (names.length + 1) + 43) ≤ R.locals) (hRcells : cells + 1 ≤ R.cells) (hRslots : slots + 6 ≤ R.slots) (hlocks : meth.locks = false)
    (hx : ∀ t : State, s.vm.Alike t.vm → H.size ≤ t.heap.size → (∀ q : Nat, q < H.size → t.heap[q]? = H[q]?) → XC cls s t)
    (hf : ∀ z ∈ locs, free z.base) (hc : cells + 1 ≤ mc) (hs : slots + 6 ≤ ms) :
    W p l e R s m args below meth c H locs cells slots (vx_MQ below Qc XC args s mc ms free) (F0 m pc ls rest) := by
  intro T hT X
  have htr : e.platform.stackTraces = false := (show e.platform.stackTraces = l.stackTraces by rw [X.admits.platform]).trans hl
  have Y := vx_rebase X (R' := { frames := R.frames, locals := R.locals, cells := 1, slots := 6 }) (Nat.le_refl _) (Nat.le_refl _) hRcells hRslots
  obtain ⟨s', hA⟩ : ∃ z, z = (T.setVm s.vm).setFrames (.invoking m args :: below) := ⟨_, rfl⟩
  rw [← hA] at Y
  have hvm : s'.vm = s.vm := by rw [hA]; rfl
  have hhp : s'.heap = H := by rw [hA]; exact hT
  have hW0 : s.WarmedH s'.vm := by rw [hvm]; exact State.WarmedH.refl s
  have hat' : ∀ w ∈ vx_atS own ic cls names, w.before args s' = true := fun w hw => vx_ot_at hW0 hvm.symm (hgood w (List.mem_cons_of_mem _ (List.mem_cons_of_mem _ hw))) (hat w hw)
  have hk' : (Cond.classLink own ik cls).before args s' = true := vx_ot_at hW0 hvm.symm (hgood _ List.mem_cons_self) hk
  have hini' : (Cond.initialized cls).before args s' = true := vx_ot_at hW0 hvm.symm (hgood _ (List.mem_cons_of_mem _ List.mem_cons_self)) hini
  have hU' : vx_Zq Bundle.tN "UNASSIGNED_STACK" Bundle.steD A s' s'.heap := by rw [hhp]; exact vx_Zq.moved hW0.alike (hU.kept hS.2.1)
  have hN' : vx_Zq Bundle.tN "SUPPRESSED_SENTINEL" Bundle.listD A s' s'.heap := by rw [hhp]; exact vx_Zq.moved hW0.alike (hN.kept hS.2.1)
  have h : ∀ w ∈ Bundle.ownAtoms own ic cls names, w.before args s' = true := vx_own hat' (vx_isRefq hU'.1) (vx_isRefq hN'.1) hU'.2.word hN'.2.word
  have hown' : s'.vm.findClass own = some m.cls := by rw [hvm]; exact hown
  have hins : (Cond.instantiable cls 6).before args s' = true := h _ (by simp [Bundle.ownAtoms])
  obtain ⟨vm₁, cX, kX, hfX, hkX, -, -, X₁, st1⟩ := Y.newCold hexec (own := own) (C := cls) (index := ik) (n := 6) hown' hk' hins hini'
    (g := F0 m pc ls rest) rfl (by rw [hb]; exact d0) (Nat.le_refl _) (Nat.le_refl _)
  generalize hT1 : (T.setVm vm₁).pushCell { cls := cX, slots := kX.instanceTypes.map defaultValue, vm := .none } = T1 at X₁ st1
  have hcat : (Value.ref T.heap.size).category = 1 := rfl
  have hcellA : T1.heap[T.heap.size]? = some (freshCell cX kX) := by rw [← hT1]; exact State.heap_pushCell_size _ _
  have d3' : decode c.code (pc + 3) = .ok (.dup, 1) := by rw [hb]; exact d3
  have d4' : decode c.code (pc + 4) = .ok (.ldc_w is, 3) := by rw [hb]; exact d4
  have hstr' : vk_R own is text sa s' := vk_R.warm hW0 hstr
  obtain ⟨U, hsteps, hrun, hend, hW, hsame, ce, hce, hO⟩ := X₁.ctorThrowS hexec htr (own := own) (cls := cls) (names := names) (ic := ic) hown' hcls hnames h (fun x hx => nomatch hx) hfX hkX hcellA (by rw [hhp, hT]; exact Nat.le_refl _) (msg := .ref sa) rfl
    (g := { method := m, pc := pc + 7, locals := ls, stack := .ref sa :: .ref T.heap.size :: .ref T.heap.size :: rest, locked := none }) rfl hsize rfl rfl (rest := rest) rfl
    (by rw [hb]; exact d7) (by rw [hb]; exact d10) hout hRframes (by simp only [List.map_cons, List.sum_cons, hcat]; omega) hlocks
  obtain ⟨f1, f2⟩ := vx_frame hsame
  rw [hhp] at f1 f2
  have hWs : s.WarmedH U.vm := State.WarmedH.trans hW0 hW
  have hcl : s.vm.findClass cls = some ce.cls := by
    have h9 := hO.cls
    rw [hvm] at h9
    exact h9
  have hall : s.sameButNew ({ U with vm := s.vm } : State) locs mc ms := by
    subst hA
    obtain ⟨e1, e2⟩ := hsame
    rw [State.setFrames_setFrames] at e1
    have h2 : (T.setVm s.vm).sameButNew ({ U with vm := s.vm } : State) [] (0 + 1) (0 + 6) := ⟨e1, e2⟩
    have h3 := X.same.trans h2
    rw [List.append_nil] at h3
    exact h3.mono hc hs
  refine ⟨U, ?_, .threw T.heap.size, hrun, hend, Or.inr ⟨T.heap.size, rfl, cls, ce, locs, hx U hWs.alike f1 (fun q hq => f2 q hq (fun z hz => nomatch hz)), hce, hO.vm, hcl, hWs, hall, hf⟩⟩
  refine st1 _ ?_
  show Steps p.tables e below (T1.setTop { method := m, pc := pc + 3, locals := ls, stack := .ref T.heap.size :: rest, locked := none }) _
  jvm_step X₁.here [X₁.here.top, hexec, d3', Value.category]
  exact X₁.ldcStringW hexec (own := own) (text := text) (index := is) (a := sa) hown' hstr'.1 hstr'.2
    (g := { method := m, pc := pc + 4, locals := ls, stack := .ref T.heap.size :: .ref T.heap.size :: rest, locked := none }) rfl d4' _ hsteps
end Ends
section Bodies
variable {l : Launch}
theorem vx_ofW {y : MethodName} {ws ws' : List Cond} {rm : Room} {Pc : Array Value → State → Prop} {Qc : Array Value → State → Outcome → State → Prop} {XC : String → State → State → Prop} {mc ms : Nat} {free : Addr → Prop} {cc : ByteArray} {maxL : Nat} {ret : Option FieldType}
    (hy : plainName y.cls = true) (hw : ws = Cond.code y cc maxL ret :: ws')
    (body : ∀ p e s m args below meth c s₁, BodyLoose p l y (headSpec ws rm) cc maxL ret e s m args below meth c s₁ → c.maxLocals = maxL → (∀ x ∈ c.exceptionTable.toList, False) → Pc args s →
      W p l e (headSpec ws rm).room s m args below meth c s.heap [] 0 0 (vx_MQ below Qc XC args s mc ms free) (entryFrame m args maxL)) : vx_Met l y ws rm Pc Qc XC mc ms free := by
  refine MetFree.of_bodyS (code := cc) (maxLocals := maxL) (ret := ret) hy ?_ ?_
  · intro args s m h hn
    obtain ⟨meth, c, h1, h2, h3, h4, h5, h6, -, -⟩ := Cond.code_spec hn (atoms_spec (ws := ws) h _ (by rw [hw]; exact List.mem_cons_self))
    exact ⟨meth, c, h1, h2, h3, h4, h5, h6⟩
  · intro p e s m args below meth c s₁ B hml hP _
    have hh0 : s₁.heap = s.heap := by rw [B.state]; rfl
    have ht : ∀ x ∈ c.exceptionTable.toList, False := by
      obtain ⟨meth9, c9, h1, h2, -, -, -, -, h7, -⟩ := Cond.code_spec B.named (atoms_spec (ws := ws) B.pre _ (by rw [hw]; exact List.mem_cons_self))
      cases Option.some.inj (h1.symm.trans B.method)
      cases Option.some.inj (h2.symm.trans (Stand.of_body B).code)
      intro x hx
      rw [Array.isEmpty_iff.mp h7] at hx
      cases hx
    obtain ⟨t, a1, o, b1, b2, b3⟩ := body p e s m args below meth c s₁ B hml ht hP s₁ hh0 (Stand.of_body B)
    exact ⟨t, o, a1, b1, b2, b3⟩
/-- the table of a body with handlers -/
theorem vx_table {p : Program} {x y : MethodName} {S : Spec} {cc bytes : ByteArray} {maxL maxL' : Nat} {ret ret' : Option FieldType} {e : Env} {s s₁ : State} {m : MethodId} {args : Array Value} {below : List Frame} {meth : Method} {c : Code} {hh : List (Nat × Nat × Nat × Nat)}
    (B : BodyLoose p l y S cc maxL ret e s m args below meth c s₁) (h : (Cond.codeWith y bytes maxL' ret' hh).before args s = true) : c.exceptionTable.toList = tableOf hh := by
  obtain ⟨m9, meth9, c9, hn9, h1, h2, -, -, h6, -⟩ := Cond.codeWith_spec h
  cases Option.some.inj (hn9.symm.trans B.named)
  cases Option.some.inj (h1.symm.trans B.method)
  cases Option.some.inj (h2.symm.trans (Stand.of_body B).code)
  rw [← h6, table_eq]
end Bodies
end VXA
/-! ===== END ===== -/
/-! ===== BEGIN a static call of a method with an exception table ===== -/
section VXS
variable {p : Program} {l : Launch} {e : Env} {R : Room} {s : State} {m : MethodId} {args : Array Value} {below : List Frame} {meth : Method} {c : Code} {T : State} {H : Heap} {locs : List Loc} {cells slots : Nat}
abbrev vx_CSW (R : Room) (s : State) (args : Array Value) (own : String) (index : Nat) (y : MethodName) (bytes : ByteArray) (maxL : Nat) (ret : Option FieldType) (hh : List (Nat × Nat × Nat × Nat)) (ws : List Cond) (rm : Room) (mc ms n : Nat) : Prop :=
  (rm.cells = mc ∧ rm.slots = ms ∧ rm.frames + 1 ≤ R.frames ∧ 8 + (maxL + 11) + rm.locals ≤ R.locals ∧ (∀ w ∈ ws, ∀ (a' : Array Value) (U : State), s.WarmedH U.vm → w.before a' U = true) ∧ Cond.codeWith y bytes maxL ret hh ∈ ws) ∧
  (Cond.codeWith y bytes maxL ret hh).before args s = true ∧ (Cond.initialized y.cls).before args s = true ∧ (y.cls ≠ "java/lang/invoke/MethodHandle" ∧ y.cls ≠ "java/lang/invoke/VarHandle") ∧
  (∀ sig, parseMethodDescriptor y.desc = some sig → n = sig.parameters.length) ∧ (Cond.methodLink own index y).before args s = true ∧ (Cond.static y).before args s = true
theorem vx_cwSW {own : String} {index maxL mc ms : Nat} {y : MethodName} {bytes : ByteArray} {ret : Option FieldType} {hh : List (Nat × Nat × Nat × Nat)} {Ts ws ws' : List Cond} {rm : Room} (n : Nat) (ht : ∀ w ∈ Ts, w.before args s = true) (hT : GoodIn Ts (va_wsS own index y ws)) (hw : ws = Cond.codeWith y bytes maxL ret hh :: ws') (hrc : rm.cells = mc) (hrs : rm.slots = ms)
    (hd : y.cls ≠ "java/lang/invoke/MethodHandle" ∧ y.cls ≠ "java/lang/invoke/VarHandle" ∧ (parseMethodDescriptor y.desc).map (fun d => d.parameters.length) = some n) (hR : rm.frames + 1 ≤ R.frames ∧ 8 + (maxL + 11) + rm.locals ≤ R.locals) :
    vx_CSW R s args own index y bytes maxL ret hh ws rm mc ms n := by
  have ok : ∀ w ∈ va_wsS own index y ws, w.before args s = true := fun w h => ht w (hT w h).1
  have hG : GoodIn Ts ws := fun w h => hT w (by unfold va_wsS; exact List.mem_append_right _ h)
  have hc : Cond.codeWith y bytes maxL ret hh ∈ ws := by rw [hw]; exact List.mem_cons_self
  refine ⟨⟨hrc, hrs, hR.1, hR.2, pay_in ht hG, hc⟩, ht _ (hG _ hc).1, ok _ (by simp [va_wsS]), ⟨hd.1, hd.2.1⟩, fun sig h => ?_, ok _ (by simp [va_wsS]), ok _ (by simp [va_wsS])⟩
  have h2 := hd.2.2
  rw [h] at h2
  exact (Option.some.inj h2).symm
theorem vx_callSW (X : Stand p l e R s m args below meth c T locs cells slots) (hexec : p.tables.exec = Jvm.exec) {own : String} {index : Nat} {y : MethodName} {bytes : ByteArray} {maxL : Nat} {ret : Option FieldType} {hh : List (Nat × Nat × Nat × Nat)}
    (hown : s.vm.findClass own = some m.cls) (hlink : (Cond.methodLink own index y).before args s = true) (hstat : (Cond.static y).before args s = true) (hinit : (Cond.initialized y.cls).before args s = true)
    (hcode : (Cond.codeWith y bytes maxL ret hh).before args s = true) (hy : y.cls ≠ "java/lang/invoke/MethodHandle" ∧ y.cls ≠ "java/lang/invoke/VarHandle")
    {W9 : Nat} {Pre : Pt → Array Value → Prop} {Post : Pt → Array Value → Option Value → Pt → Prop} (hK : Back l R p e below s args y 3 W9 Pre Post)
    {g : JFrame} (hg : g.method = m) (hsize : g.locals.size = c.maxLocals) {argsL rest : List Value} (hlen : ∀ sig, parseMethodDescriptor y.desc = some sig → argsL.length = sig.parameters.length)
    (hstack : g.stack = argsL.reverse ++ rest) (hW : 2 * g.monitorRoom + (rest.map fun v => v.category).sum ≤ W9) (hdg : decode c.code g.pc = .ok (.invokestatic index, 3))
    (hpre : ∀ vm₁, s.WarmedH vm₁ → Pre ⟨T.setVm vm₁, locs, cells, slots⟩ argsL.toArray) :
    ∃ (v : Option Value) (vm₁ : Vm) (B : Pt), s.WarmedH vm₁ ∧ Stand p l e R s m args below meth c B.U B.locs B.cells B.slots ∧ Post ⟨T.setVm vm₁, locs, cells, slots⟩ argsL.toArray v B ∧
      ∀ target, Steps p.tables e below (B.U.setTop { g with pc := g.pc + 3, stack := v.toList ++ rest }) target → Steps p.tables e below (T.setTop g) target := by
  obtain ⟨mk, methM, cM, hnamed, hmethM, -, -, -, -, -, -, hsigM⟩ := Cond.codeWith_spec hcode
  have hstatic : methM.isStatic = true := Cond.static_spec hnamed hmethM hstat
  obtain ⟨kP, hkP, -⟩ := className_of_methodNamed hnamed
  have hinitP : kP.init = .initialized := Cond.initialized_spec (findClass_of_methodNamed hnamed) hkP hinit
  obtain ⟨vm₁, X₁, hstep₁⟩ := X.invokestatic hexec hown hlink hnamed hmethM hstatic hkP hinitP hy (g := g) hg (argsL := argsL) (rest := rest) (hlen _ hsigM) hstack hdg
  obtain ⟨v, B, X', hpost, hsteps⟩ := hK m meth c ⟨T.setVm vm₁, locs, cells, slots⟩ { g with stack := rest } (.invokestatic index) mk argsL.toArray X₁ hg hsize hdg hW (X₁.named hnamed) (hpre vm₁ X₁.warmed)
  exact ⟨v, vm₁, B, X₁.warmed, X', hpost, fun target h => hstep₁ _ fun acts => by rw [doInvoke_state]; exact hsteps.trans h⟩
theorem vx_runSW {y : MethodName} {bytes cc : ByteArray} {maxL nL mc ms n index : Nat} {ret : Option FieldType} {hh : List (Nat × Nat × Nat × Nat)} {ws : List Cond} {rm : Room} {Pc : Array Value → State → Prop} {Qc : Array Value → State → Outcome → State → Prop} {free : Addr → Prop} {Ts : List Cond} {own : String} {As rest : List Value} {g : JFrame}
    (S : CallFix p m c cc nL s args Ts own) (hM : Met l y ws rm Pc Qc mc ms free) (cw : vx_CSW R s args own index y bytes maxL ret hh ws rm mc ms n) (hp : PreS s H Pc As)
    (hg : g.method = m) (hn : As.length = n) (hsize : g.locals.size = nL) (hstack : g.stack = As.reverse ++ rest) (hW : 2 * g.monitorRoom + (rest.map fun v => v.category).sum ≤ 8) (hdg : decode cc g.pc = .ok (.invokestatic index, 3)) (hf : cells + mc ≤ R.cells ∧ slots + ms ≤ R.slots) :
    va_Run p l e R s m args below meth c H locs cells slots mc ms g rest (Qc As.toArray) (free) := by
  obtain ⟨⟨hrc, hrs, hfr, hlo, hws, hcw⟩, hcode, hini, hy, hlen, hl, hstt⟩ := cw
  have hK : Back l R p e below s args y 3 8 (PreOf R mc ms Pc) (PostOf Qc mc ms free) := va_backW (hh := hh) (bytes := bytes) (maxL := maxL) (ret := ret) hM hp.1 hrc hrs hfr hlo hws hcw (fun a' U hW => word_at hW (Or.inl (by first | rfl | simp [Cond.onTables, Cond.keeps, Cond.steady])) hini)
  obtain ⟨hx, hb, hml, ho, -⟩ := S
  intro T hT X
  obtain ⟨v, vm₁, ⟨U', l2, c2, s2⟩, hW₁, X', ⟨g', mk, t, L, e1, e2, hq, h1, hL, h2, h3⟩, st⟩ := vx_callSW X hx (hh := hh) (bytes := bytes) (maxL := maxL) (ret := ret) ho hl hstt hini hcode hy hK hg (hsize.trans hml.symm) (argsL := As) (rest := rest) (fun sig h => hn.trans (hlen sig h)) hstack hW (by rw [hb]; exact hdg)
    (fun vm₁ hW₁ => ⟨hf.1, hf.2, hp.2 (T.setVm vm₁) hT hW₁⟩)
  dsimp only [Pt.U, Pt.locs, Pt.cells, Pt.slots] at X' e1 e2 h1 h2 h3 st
  subst h1; subst h2; subst h3
  exact ⟨v, (T.setVm vm₁).calling g' mk As.toArray, t, U', L, hT, X', hL, e1, e2, hq, st⟩
/-- not caught here, past rows that name other classes: it goes on to the caller -/
theorem vx_outP {p : Program} {l : Launch} {e : Env} {R : Room} {s : State} {m : MethodId} {args : Array Value} {below : List Frame} {meth : Method} {c : Code} {H : Heap} {locs : List Loc} {cells slots : Nat} {free : Addr → Prop} {ls : Array Slot} {rest : List Value} {Qc : Array Value → State → Outcome → State → Prop} {XC : String → State → State → Prop}
    {pc : Nat} {own E : String} {ce : Cell} {q : Addr} {mc ms : Nat} (hown : s.vm.findClass own = some m.cls) (hlocks : meth.locks = false)
    (hpass : ∀ z ∈ c.exceptionTable.toList, covers z pc = false ∨ (z.catchType ≠ 0 ∧ ∃ nm : String, (Cond.classLink own z.catchType nm).before args s = true ∧ va_Nc E nm s)) (hcell : H[q]? = some ce) (hv : ce.vm = .none) (hcl : s.vm.findClass E = some ce.cls)
    (hx : ∀ t : State, t.heap = H → s.vm.Alike t.vm → XC E s t) (hf : ∀ z ∈ locs, free z.base) (hc : cells ≤ mc) (hs : slots ≤ ms) :
    vx_W p l e R s m args below meth c H locs cells slots (vx_MQ below Qc XC args s mc ms free) (F0 m pc ls rest) q := by
  intro T hT X
  have hpl : e.platform.magicAccessors = ({} : Platform).magicAccessors := by rw [X.admits.platform]
  obtain ⟨vm', hW', X', st⟩ := X.outThrough hlocks q (g := F0 m pc ls rest) rfl rfl rfl (cell := ce) (by rw [hT]; exact hcell) (by rw [hv]; rfl)
    (by obtain ⟨k9, h9, -⟩ := Vm.findClass_spec hcl; exact ⟨k9, h9⟩) (fun z hz => by
      rcases hpass z hz with h | ⟨hz0, nm, hl1, hn1⟩
      · exact Or.inl h
      · obtain ⟨c6, hc6, hcl6⟩ := Cond.classLink_spec hown hl1 e.platform hpl
        obtain ⟨a8, b8, h1, h2, h3⟩ := hn1
        cases Option.some.inj (h1.symm.trans hcl)
        cases Option.some.inj (h2.symm.trans hc6)
        exact Or.inr ⟨hz0, _, hcl6, h3⟩)
  obtain ⟨g₀, hfr⟩ := X'.frames_eq
  have hcell9 : ((T.setVm vm').setFrames (.throwing q :: below)).heap[q]? = some ce := by
    show T.heap[q]? = some ce
    rw [hT]; exact hcell
  have hend : Ended ((T.setVm vm').setFrames (.throwing q :: below)) below (.threw q) := State.frames_setFrames _ (State.cur_lt_of_frames hfr)
  refine ⟨(T.setVm vm').setFrames (.throwing q :: below), ?_, .threw q, X'.here.running, hend, Or.inr ⟨q, rfl, E, ce, locs, hx _ hT (X'.ends _).1.alike, hcell9, hv, hcl, (X'.ends _).1, (X'.ends _).2.mono hc hs, hf⟩⟩
  rw [X.pushThrowing_eq]
  exact st
/-- a thing of a world lies in the heap -/
theorem vx_lt {D : va_G} {cl : List vw_C} {ws : va_W} {H1 : Heap} (h : va_P D cl ws H1) {k : Nat} {q : Nat × va_E} (hk : ws[k]? = some q) : q.1 < H1.size := (h k q hk).lt
end VXS
/-! ===== END ===== -/
/-! ===== BEGIN methods with a table of their own: called by a name, returning or throwing ===== -/
section VXH
/-! vx_backW, vx_callVX, vx_callSX, vx_callVW, vx_runVW, vx_runVX, vx_runSX, vx_ofWH follow the same proofs as their sisters above (Free/Laws.lean, Shelf42/LK1.lean); vx_outP calls Shelf42/NT130.lean (outThrough). -/
section
variable {l : Launch} {R : Room} {p : Program} {e : Env} {below : List Frame} {s : State} {sargs : Array Value} {y : MethodName} {len W9 : Nat}
theorem vx_backW {ws : List Cond} {rm : Room} {Pc : Array Value → State → Prop} {Qc : Array Value → State → Outcome → State → Prop} {XC : String → State → State → Prop} {mc ms : Nat} {free : Addr → Prop} {bytes : ByteArray} {maxL : Nat} {ret : Option FieldType} {hh : List (Nat × Nat × Nat × Nat)}
    (hM : vx_Met l y ws rm Pc Qc XC mc ms free) (hblind : FrameBlind Pc) (hrc : rm.cells = mc) (hrs : rm.slots = ms)
    (hframes : rm.frames + 1 ≤ R.frames) (hlocals : W9 + (maxL + 11) + rm.locals ≤ R.locals)
    (hws : ∀ w ∈ ws, ∀ a' U, s.WarmedH U.vm → w.before a' U = true) (hcode : Cond.codeWith y bytes maxL ret hh ∈ ws) (hinit : ∀ a' U, s.WarmedH U.vm → (Cond.initialized y.cls).before a' U = true) :
    vx_Back l R p e below s sargs y len W9 (PreOf R mc ms Pc) (PostOf Qc mc ms free) (vx_Post XC mc ms free) := by
  intro m meth c A g ig mk a X hg hsize hdg hW hn hp
  have h1 : (headSpec ws rm).pre.before a A.U = true := atoms_intro fun w hw => hws w hw _ _ X.warmed
  have h2 : (Cond.codeWith y bytes maxL ret hh).before a A.U = true := hws _ hcode _ _ X.warmed
  have h3 : (Cond.initialized y.cls).before a A.U = true := hinit _ _ X.warmed
  have h4 : A.cells + (headSpec ws rm).room.cells ≤ R.cells := by rw [show (headSpec ws rm).room.cells = mc from hrc]; exact hp.1
  have h5 : A.slots + (headSpec ws rm).room.slots ≤ R.slots := by rw [show (headSpec ws rm).room.slots = ms from hrs]; exact hp.2.1
  have hPc : Pc a (A.U.calling g mk a) := hblind _ _ _ _ hp.2.2
  obtain ⟨U, Ls, c0, s0⟩ := A
  dsimp only [Pt.U, Pt.locs, Pt.cells, Pt.slots] at h1 h2 h3 h4 h5 X hn hPc ⊢
  obtain ⟨m9, methY, cY, hn9, hmY, hcY, -, hlY, -⟩ := Cond.codeWith_spec h2
  cases Option.some.inj (hn9.symm.trans hn)
  obtain ⟨kY, hkY, -⟩ := className_of_methodNamed hn
  have hinitY : kY.init = .initialized := Cond.initialized_spec (findClass_of_methodNamed hn) hkY h3
  have h : At U g.method c below := by rw [hg]; exact X.here
  have hlocals9 : W9 + (maxL + 11) + (headSpec ws rm).room.locals ≤ R.locals := hlocals
  have happ : (headSpec ws rm).appliesLoose y e.platform (U.calling g mk a) = true :=
    Spec.appliesLoose_calling (g := g) h hdg hn hkY hinitY
      (X.room_calling (g := g) (R' := (headSpec ws rm).room) hsize hmY hcY hframes (by rw [hlY]; omega) h4 h5) h1
  obtain ⟨mid, hmid⟩ := h.above
  have hfr : (U.setTop g).frames = (.java g :: mid) ++ below := by rw [State.frames_setTop' g h.top, hmid]; rfl
  obtain ⟨o, s₂, hsteps, -, hend, hq⟩ := Steps.callFree hM p X.admits X.cas X.clock (acts := []) hfr happ hPc trivial
  have hq' : vx_Q Qc XC mc ms free a (U.calling g mk a) o s₂ := hq
  rw [State.frames_setTop' g h.top] at hend
  obtain ⟨g₀, hg0⟩ := Option.isSome_iff_exists.mp h.top
  obtain ⟨r, hr⟩ := State.topJava?_eq_some.mp hg0
  have hr' : (({ U with heap := s₂.heap, slotsUsed := s₂.slotsUsed } : State).setVm s₂.vm).frames = .java g₀ :: r := hr
  rcases hq' with ⟨hqc, L, hfe, hL⟩ | ⟨q, rfl, E, ce, L, hx, hce, hcv, hcl, hW₂, hsm, hL⟩
  · obtain ⟨⟨v, rfl⟩, hW₂, e2, q2, q3, q4, q5, q6⟩ := id hfe
    have e3 : s₂ = ({ (U.calling g mk a).setFrames s₂.frames with heap := s₂.heap, slotsUsed := s₂.slotsUsed } : State).setVm s₂.vm := by
      have : s₂ = ({ s₂ with vm := (U.calling g mk a).vm } : State).setVm s₂.vm := rfl
      rw [e2] at this
      exact this
    obtain ⟨c₂, i₂, len₂, hc₂, hd₂, hf₂⟩ := hend
    have hW' : U.WarmedH s₂.vm := hW₂
    have hcc : c₂ = c := by
      have h1 : s₂.code? g.method = U.code? g.method := by
        rw [State.code?_eq, State.code?_eq, hW'.alike.method?]
      exact Option.some.inj (hc₂.symm.trans (h1.trans h.code))
    subst hcc
    have hlen : len₂ = len := by rw [hdg] at hd₂; cases hd₂; rfl
    subst hlen
    have hs₂ : s₂ = (({ U with heap := s₂.heap, slotsUsed := s₂.slotsUsed } : State).setVm s₂.vm).setTop { g with pc := g.pc + len₂, stack := v.toList ++ g.stack } := by
      refine e3.trans ?_
      rw [hf₂, State.calling_eq h.top, State.setFrames_setFrames, State.setTop_of_frames _ hr', hr]
      rfl
    have hsame : U.sameButNew ({ U with heap := s₂.heap, slotsUsed := s₂.slotsUsed } : State) L mc ms := by
      refine ⟨?_, q2, q3, q4, q5, q6⟩
      obtain ⟨t, ht, -⟩ := State.frames_cons hr
      show ({ U with heap := s₂.heap, slotsUsed := s₂.slotsUsed } : State) = { U.setFrames U.frames with heap := s₂.heap, slotsUsed := s₂.slotsUsed }
      rw [State.setFrames_self ht]
    subst hg
    refine Or.inl ⟨v, ⟨(({ U with heap := s₂.heap, slotsUsed := s₂.slotsUsed } : State).setVm s₂.vm), Ls ++ L, c0 + mc, s0 + ms⟩,
      ⟨X.admits, X.cas, X.clock, X.frames, X.room, X.hears, X.method, X.code, (X.here.setHeapUsed s₂.heap s₂.slotsUsed).setVm hW'.alike, X.tail, State.WarmedH.trans X.warmed hW', X.limits, X.bytes, X.same.trans (hsame.setVm s.vm)⟩,
      ⟨g, mk, s₂, L, rfl, rfl, hqc, rfl, hL, rfl, rfl⟩, ?_⟩
    show Steps p.tables e below _ ((({ U with heap := s₂.heap, slotsUsed := s₂.slotsUsed } : State).setVm s₂.vm).setTop { g with pc := g.pc + len₂, stack := v.toList ++ g.stack })
    rw [← hs₂]
    exact hsteps
  · obtain ⟨e2, q2, q3, q4, q5, q6⟩ := id hsm
    have e3 : s₂ = ({ (U.calling g mk a).setFrames s₂.frames with heap := s₂.heap, slotsUsed := s₂.slotsUsed } : State).setVm s₂.vm := by
      have : s₂ = ({ s₂ with vm := (U.calling g mk a).vm } : State).setVm s₂.vm := rfl
      rw [e2] at this
      exact this
    have hf₂ : s₂.frames = .throwing q :: .java g :: U.frames.tail := hend
    have hW' : U.WarmedH s₂.vm := hW₂
    have hs₂ : s₂ = ((({ U with heap := s₂.heap, slotsUsed := s₂.slotsUsed } : State).setVm s₂.vm).setTop g).pushFrame (.throwing q) := by
      refine e3.trans ?_
      rw [hf₂, State.calling_eq h.top, State.setFrames_setFrames, State.pushFrame, State.frames_setTop _ hr', State.setTop_of_frames _ hr', State.setFrames_setFrames, hr]
      rfl
    have hsame : U.sameButNew ({ U with heap := s₂.heap, slotsUsed := s₂.slotsUsed } : State) L mc ms := by
      refine ⟨?_, q2, q3, q4, q5, q6⟩
      obtain ⟨t, ht, -⟩ := State.frames_cons hr
      show ({ U with heap := s₂.heap, slotsUsed := s₂.slotsUsed } : State) = { U.setFrames U.frames with heap := s₂.heap, slotsUsed := s₂.slotsUsed }
      rw [State.setFrames_self ht]
    subst hg
    refine Or.inr ⟨q, ⟨(({ U with heap := s₂.heap, slotsUsed := s₂.slotsUsed } : State).setVm s₂.vm), Ls ++ L, c0 + mc, s0 + ms⟩,
      ⟨X.admits, X.cas, X.clock, X.frames, X.room, X.hears, X.method, X.code, (X.here.setHeapUsed s₂.heap s₂.slotsUsed).setVm hW'.alike, X.tail, State.WarmedH.trans X.warmed hW', X.limits, X.bytes, X.same.trans (hsame.setVm s.vm)⟩,
      ⟨g, mk, s₂, L, E, ce, rfl, rfl, hx, hce, hcv, hcl, rfl, hL, rfl, rfl⟩, ?_⟩
    show Steps p.tables e below _ (((({ U with heap := s₂.heap, slotsUsed := s₂.slotsUsed } : State).setVm s₂.vm).setTop g).pushFrame (.throwing q))
    rw [← hs₂]
    exact hsteps
end
variable {p : Program} {l : Launch} {e : Env} {R : Room} {s : State} {m : MethodId} {args : Array Value} {below : List Frame} {meth : Method} {c : Code} {T : State} {H : Heap} {locs : List Loc} {cells slots : Nat}
theorem vx_callVX (X : Stand p l e R s m args below meth c T locs cells slots) (hexec : p.tables.exec = Jvm.exec) {own C : String} {index : Nat} {y : MethodName} {bytes : ByteArray} {maxL : Nat} {ret : Option FieldType} {hh : List (Nat × Nat × Nat × Nat)}
    (hown : s.vm.findClass own = some m.cls) (hlink : (Cond.methodLink own index y).before args s = true) (hinst : (Cond.instanceMethod y).before args s = true) (hsel : (Cond.selects C y y).before args s = true)
    (hcode : (Cond.codeWith y bytes maxL ret hh).before args s = true) (hy : y.cls ≠ "java/lang/invoke/MethodHandle" ∧ y.cls ≠ "java/lang/invoke/VarHandle")
    {W9 : Nat} {Pre : Pt → Array Value → Prop} {Post : Pt → Array Value → Option Value → Pt → Prop} {PostX : Pt → Array Value → Addr → Pt → Prop} (hK : vx_Back l R p e below s args y 3 W9 Pre Post PostX)
    {b : Addr} {cellB : Cell} (hcell : T.heap[b]? = some cellB) (hobj : cellB.vm.isStatics = false) (hcls : s.vm.findClass C = some cellB.cls)
    {g : JFrame} (hg : g.method = m) (hsize : g.locals.size = c.maxLocals) {argsL rest : List Value} (hlen : ∀ sig, parseMethodDescriptor y.desc = some sig → argsL.length = sig.parameters.length)
    (hstack : g.stack = argsL.reverse ++ .ref b :: rest) (hW : 2 * g.monitorRoom + (rest.map fun v => v.category).sum ≤ W9) (hdg : decode c.code g.pc = .ok (.invokevirtual index, 3))
    (hpre : ∀ vm₁, s.WarmedH vm₁ → Pre ⟨T.setVm vm₁, locs, cells, slots⟩ (Value.ref b :: argsL).toArray) :
    (∃ (v : Option Value) (vm₁ : Vm) (B : Pt), s.WarmedH vm₁ ∧ Stand p l e R s m args below meth c B.U B.locs B.cells B.slots ∧ Post ⟨T.setVm vm₁, locs, cells, slots⟩ (Value.ref b :: argsL).toArray v B ∧
      ∀ target, Steps p.tables e below (B.U.setTop { g with pc := g.pc + 3, stack := v.toList ++ rest }) target → Steps p.tables e below (T.setTop g) target) ∨
    (∃ (q : Addr) (vm₁ : Vm) (B : Pt), s.WarmedH vm₁ ∧ Stand p l e R s m args below meth c B.U B.locs B.cells B.slots ∧ PostX ⟨T.setVm vm₁, locs, cells, slots⟩ (Value.ref b :: argsL).toArray q B ∧
      Steps p.tables e below (T.setTop g) ((B.U.setTop { g with stack := rest }).pushFrame (.throwing q))) := by
  obtain ⟨mk, methM, hnamed, hmethM, hstM, habM⟩ := Cond.instanceMethod_spec hinst
  obtain ⟨m8, methM', cM, hn8, hmethM', -, -, -, -, -, -, hsigM⟩ := Cond.codeWith_spec hcode
  cases Option.some.inj (hn8.symm.trans hnamed)
  cases hmethM.symm.trans hmethM'
  obtain ⟨c2, r2, m2, q1, q2, q3, q4, kP, hkP, hkPi⟩ := Cond.selects_spec hsel
  cases hcls.symm.trans q1
  cases (State.methodFound?_of_named hnamed hy).symm.trans q2
  cases hnamed.symm.trans q3
  have hselP : selectMethod e.platform s.vm cellB.cls mk = .method mk := by rw [Launch.admits_selectMethod X.admits]; exact q4
  obtain ⟨vm₁, X₁, hstep₁⟩ := X.invokevirtual hexec hown hlink hnamed hmethM hstM hkP hkPi hy (a := b) (cell := cellB) hcell
    (fun z h => by rw [h] at hobj; cases hobj) hselP hmethM habM hkP hkPi (g := g) hg (argsL := argsL) (rest := rest) (hlen _ hsigM) hstack hdg
  rcases hK m meth c ⟨T.setVm vm₁, locs, cells, slots⟩ { g with stack := rest } (.invokevirtual index) mk (Value.ref b :: argsL).toArray X₁ hg hsize hdg hW (X₁.named hnamed) (hpre vm₁ X₁.warmed) with ⟨v, B, X', hpost, hsteps⟩ | ⟨q, B, X', hpost, hsteps⟩
  · exact Or.inl ⟨v, vm₁, B, X₁.warmed, X', hpost, fun target h => hstep₁ _ fun acts => by rw [doInvoke_state]; exact hsteps.trans h⟩
  · exact Or.inr ⟨q, vm₁, B, X₁.warmed, X', hpost, hstep₁ _ fun acts => by rw [doInvoke_state]; exact hsteps⟩
theorem vx_callSX (X : Stand p l e R s m args below meth c T locs cells slots) (hexec : p.tables.exec = Jvm.exec) {own : String} {index : Nat} {y : MethodName} {bytes : ByteArray} {maxL : Nat} {ret : Option FieldType} {hh : List (Nat × Nat × Nat × Nat)}
    (hown : s.vm.findClass own = some m.cls) (hlink : (Cond.methodLink own index y).before args s = true) (hstat : (Cond.static y).before args s = true) (hinit : (Cond.initialized y.cls).before args s = true)
    (hcode : (Cond.codeWith y bytes maxL ret hh).before args s = true) (hy : y.cls ≠ "java/lang/invoke/MethodHandle" ∧ y.cls ≠ "java/lang/invoke/VarHandle")
    {W9 : Nat} {Pre : Pt → Array Value → Prop} {Post : Pt → Array Value → Option Value → Pt → Prop} {PostX : Pt → Array Value → Addr → Pt → Prop} (hK : vx_Back l R p e below s args y 3 W9 Pre Post PostX)
    {g : JFrame} (hg : g.method = m) (hsize : g.locals.size = c.maxLocals) {argsL rest : List Value} (hlen : ∀ sig, parseMethodDescriptor y.desc = some sig → argsL.length = sig.parameters.length)
    (hstack : g.stack = argsL.reverse ++ rest) (hW : 2 * g.monitorRoom + (rest.map fun v => v.category).sum ≤ W9) (hdg : decode c.code g.pc = .ok (.invokestatic index, 3))
    (hpre : ∀ vm₁, s.WarmedH vm₁ → Pre ⟨T.setVm vm₁, locs, cells, slots⟩ argsL.toArray) :
    (∃ (v : Option Value) (vm₁ : Vm) (B : Pt), s.WarmedH vm₁ ∧ Stand p l e R s m args below meth c B.U B.locs B.cells B.slots ∧ Post ⟨T.setVm vm₁, locs, cells, slots⟩ argsL.toArray v B ∧
      ∀ target, Steps p.tables e below (B.U.setTop { g with pc := g.pc + 3, stack := v.toList ++ rest }) target → Steps p.tables e below (T.setTop g) target) ∨
    (∃ (q : Addr) (vm₁ : Vm) (B : Pt), s.WarmedH vm₁ ∧ Stand p l e R s m args below meth c B.U B.locs B.cells B.slots ∧ PostX ⟨T.setVm vm₁, locs, cells, slots⟩ argsL.toArray q B ∧
      Steps p.tables e below (T.setTop g) ((B.U.setTop { g with stack := rest }).pushFrame (.throwing q))) := by
  obtain ⟨mk, methM, cM, hnamed, hmethM, -, -, -, -, -, -, hsigM⟩ := Cond.codeWith_spec hcode
  have hstatic : methM.isStatic = true := Cond.static_spec hnamed hmethM hstat
  obtain ⟨kP, hkP, -⟩ := className_of_methodNamed hnamed
  have hinitP : kP.init = .initialized := Cond.initialized_spec (findClass_of_methodNamed hnamed) hkP hinit
  obtain ⟨vm₁, X₁, hstep₁⟩ := X.invokestatic hexec hown hlink hnamed hmethM hstatic hkP hinitP hy (g := g) hg (argsL := argsL) (rest := rest) (hlen _ hsigM) hstack hdg
  rcases hK m meth c ⟨T.setVm vm₁, locs, cells, slots⟩ { g with stack := rest } (.invokestatic index) mk argsL.toArray X₁ hg hsize hdg hW (X₁.named hnamed) (hpre vm₁ X₁.warmed) with ⟨v, B, X', hpost, hsteps⟩ | ⟨q, B, X', hpost, hsteps⟩
  · exact Or.inl ⟨v, vm₁, B, X₁.warmed, X', hpost, fun target h => hstep₁ _ fun acts => by rw [doInvoke_state]; exact hsteps.trans h⟩
  · exact Or.inr ⟨q, vm₁, B, X₁.warmed, X', hpost, hstep₁ _ fun acts => by rw [doInvoke_state]; exact hsteps⟩
theorem vx_callVW (X : Stand p l e R s m args below meth c T locs cells slots) (hexec : p.tables.exec = Jvm.exec) {own C : String} {index : Nat} {y : MethodName} {bytes : ByteArray} {maxL : Nat} {ret : Option FieldType} {hh : List (Nat × Nat × Nat × Nat)}
    (hown : s.vm.findClass own = some m.cls) (hlink : (Cond.methodLink own index y).before args s = true) (hinst : (Cond.instanceMethod y).before args s = true) (hsel : (Cond.selects C y y).before args s = true)
    (hcode : (Cond.codeWith y bytes maxL ret hh).before args s = true) (hy : y.cls ≠ "java/lang/invoke/MethodHandle" ∧ y.cls ≠ "java/lang/invoke/VarHandle")
    {W9 : Nat} {Pre : Pt → Array Value → Prop} {Post : Pt → Array Value → Option Value → Pt → Prop} (hK : Back l R p e below s args y 3 W9 Pre Post)
    {b : Addr} {cellB : Cell} (hcell : T.heap[b]? = some cellB) (hobj : cellB.vm.isStatics = false) (hcls : s.vm.findClass C = some cellB.cls)
    {g : JFrame} (hg : g.method = m) (hsize : g.locals.size = c.maxLocals) {argsL rest : List Value} (hlen : ∀ sig, parseMethodDescriptor y.desc = some sig → argsL.length = sig.parameters.length)
    (hstack : g.stack = argsL.reverse ++ .ref b :: rest) (hW : 2 * g.monitorRoom + (rest.map fun v => v.category).sum ≤ W9) (hdg : decode c.code g.pc = .ok (.invokevirtual index, 3))
    (hpre : ∀ vm₁, s.WarmedH vm₁ → Pre ⟨T.setVm vm₁, locs, cells, slots⟩ (Value.ref b :: argsL).toArray) :
    ∃ (v : Option Value) (vm₁ : Vm) (B : Pt), s.WarmedH vm₁ ∧ Stand p l e R s m args below meth c B.U B.locs B.cells B.slots ∧ Post ⟨T.setVm vm₁, locs, cells, slots⟩ (Value.ref b :: argsL).toArray v B ∧
      ∀ target, Steps p.tables e below (B.U.setTop { g with pc := g.pc + 3, stack := v.toList ++ rest }) target → Steps p.tables e below (T.setTop g) target := by
  obtain ⟨mk, methM, hnamed, hmethM, hstM, habM⟩ := Cond.instanceMethod_spec hinst
  obtain ⟨m8, methM', cM, hn8, hmethM', -, -, -, -, -, -, hsigM⟩ := Cond.codeWith_spec hcode
  cases Option.some.inj (hn8.symm.trans hnamed)
  cases hmethM.symm.trans hmethM'
  obtain ⟨c2, r2, m2, q1, q2, q3, q4, kP, hkP, hkPi⟩ := Cond.selects_spec hsel
  cases hcls.symm.trans q1
  cases (State.methodFound?_of_named hnamed hy).symm.trans q2
  cases hnamed.symm.trans q3
  have hselP : selectMethod e.platform s.vm cellB.cls mk = .method mk := by rw [Launch.admits_selectMethod X.admits]; exact q4
  obtain ⟨vm₁, X₁, hstep₁⟩ := X.invokevirtual hexec hown hlink hnamed hmethM hstM hkP hkPi hy (a := b) (cell := cellB) hcell
    (fun z h => by rw [h] at hobj; cases hobj) hselP hmethM habM hkP hkPi (g := g) hg (argsL := argsL) (rest := rest) (hlen _ hsigM) hstack hdg
  obtain ⟨v, B, X', hpost, hsteps⟩ := hK m meth c ⟨T.setVm vm₁, locs, cells, slots⟩ { g with stack := rest } (.invokevirtual index) mk (Value.ref b :: argsL).toArray X₁ hg hsize hdg hW (X₁.named hnamed) (hpre vm₁ X₁.warmed)
  exact ⟨v, vm₁, B, X₁.warmed, X', hpost, fun target h => hstep₁ _ fun acts => by rw [doInvoke_state]; exact hsteps.trans h⟩
abbrev vx_CVW (R : Room) (s : State) (args : Array Value) (own C : String) (index : Nat) (y : MethodName) (bytes : ByteArray) (maxL : Nat) (ret : Option FieldType) (hh : List (Nat × Nat × Nat × Nat)) (ws : List Cond) (rm : Room) (mc ms n : Nat) : Prop :=
  (rm.cells = mc ∧ rm.slots = ms ∧ rm.frames + 1 ≤ R.frames ∧ 8 + (maxL + 11) + rm.locals ≤ R.locals ∧ (∀ w ∈ ws, ∀ (a' : Array Value) (U : State), s.WarmedH U.vm → w.before a' U = true) ∧ Cond.codeWith y bytes maxL ret hh ∈ ws) ∧
  (Cond.codeWith y bytes maxL ret hh).before args s = true ∧ (Cond.initialized y.cls).before args s = true ∧ (y.cls ≠ "java/lang/invoke/MethodHandle" ∧ y.cls ≠ "java/lang/invoke/VarHandle") ∧
  (∀ sig, parseMethodDescriptor y.desc = some sig → n = sig.parameters.length) ∧ (Cond.methodLink own index y).before args s = true ∧ (Cond.instanceMethod y).before args s = true ∧ (Cond.selects C y y).before args s = true
theorem vx_cwVW {own C : String} {index maxL mc ms : Nat} {y : MethodName} {bytes : ByteArray} {ret : Option FieldType} {hh : List (Nat × Nat × Nat × Nat)} {Ts ws ws' : List Cond} {rm : Room} (n : Nat) (ht : ∀ w ∈ Ts, w.before args s = true) (hT : GoodIn Ts (wsV own index C y ws)) (hw : ws = Cond.codeWith y bytes maxL ret hh :: ws') (hrc : rm.cells = mc) (hrs : rm.slots = ms)
    (hd : y.cls = C ∧ y.cls ≠ "java/lang/invoke/MethodHandle" ∧ y.cls ≠ "java/lang/invoke/VarHandle" ∧ (parseMethodDescriptor y.desc).map (fun d => d.parameters.length) = some n) (hR : rm.frames + 1 ≤ R.frames ∧ 8 + (maxL + 11) + rm.locals ≤ R.locals) :
    vx_CVW R s args own C index y bytes maxL ret hh ws rm mc ms n := by
  obtain ⟨hC, hd⟩ := hd
  subst hC
  have ok : ∀ w ∈ wsV own index y.cls y ws, w.before args s = true := fun w h => ht w (hT w h).1
  have hG : GoodIn Ts ws := fun w h => hT w (by unfold wsV; exact List.mem_append_right _ h)
  have hc : Cond.codeWith y bytes maxL ret hh ∈ ws := by rw [hw]; exact List.mem_cons_self
  refine ⟨⟨hrc, hrs, hR.1, hR.2, pay_in ht hG, hc⟩, ht _ (hG _ hc).1, ok _ (by simp [wsV]), ⟨hd.1, hd.2.1⟩, fun sig h => ?_, ok _ (by simp [wsV]), ok _ (by simp [wsV]), ok _ (by simp [wsV])⟩
  have h2 := hd.2.2
  rw [h] at h2
  exact (Option.some.inj h2).symm
theorem vx_runVW {y : MethodName} {bytes cc : ByteArray} {maxL nL mc ms n index : Nat} {ret : Option FieldType} {hh : List (Nat × Nat × Nat × Nat)} {ws : List Cond} {rm : Room} {Pc : Array Value → State → Prop} {Qc : Array Value → State → Outcome → State → Prop} {free : Addr → Prop} {Ts : List Cond} {own C : String} {b : Addr} {As rest : List Value} {g : JFrame}
    (S : CallFix p m c cc nL s args Ts own) (hM : Met l y ws rm Pc Qc mc ms free) (cw : vx_CVW R s args own C index y bytes maxL ret hh ws rm mc ms n) (hp : PreV s H C b Pc As)
    (hg : g.method = m) (hn : As.length = n) (hsize : g.locals.size = nL) (hstack : g.stack = As.reverse ++ .ref b :: rest) (hW : 2 * g.monitorRoom + (rest.map fun v => v.category).sum ≤ 8) (hdg : decode cc g.pc = .ok (.invokevirtual index, 3)) (hf : cells + mc ≤ R.cells ∧ slots + ms ≤ R.slots) :
    va_Run p l e R s m args below meth c H locs cells slots mc ms g rest (Qc (Value.ref b :: As).toArray) free := by
  obtain ⟨⟨hrc, hrs, hfr, hlo, hws, hcw⟩, hcode, hini, hy, hlen, hl, hin, hse⟩ := cw
  have hK : Back l R p e below s args y 3 8 (PreOf R mc ms Pc) (PostOf Qc mc ms free) := va_backW (hh := hh) (bytes := bytes) (maxL := maxL) (ret := ret) hM hp.1 hrc hrs hfr hlo hws hcw (fun a' U hW => word_at hW (Or.inl (by first | rfl | simp [Cond.onTables, Cond.keeps, Cond.steady])) hini)
  obtain ⟨hx, hb, hml, ho, -⟩ := S
  obtain ⟨-, ⟨cellB, hcB, hoB, hclB⟩, hPc⟩ := hp
  intro T hT X
  obtain ⟨v, vm₁, ⟨U', l2, c2, s2⟩, hW₁, X', ⟨g', mk, t, L, e1, e2, hq, h1, hL, h2, h3⟩, st⟩ := vx_callVW X hx (C := C) (hh := hh) (bytes := bytes) (maxL := maxL) (ret := ret) ho hl hin hse hcode hy hK (by rw [hT]; exact hcB) hoB hclB hg (hsize.trans hml.symm) (argsL := As) (rest := rest) (fun sig h => hn.trans (hlen sig h)) hstack hW (by rw [hb]; exact hdg)
    (fun vm₁ hW₁ => ⟨hf.1, hf.2, hPc (T.setVm vm₁) hT hW₁⟩)
  dsimp only [Pt.U, Pt.locs, Pt.cells, Pt.slots] at X' e1 e2 h1 h2 h3 st
  subst h1; subst h2; subst h3
  exact ⟨v, (T.setVm vm₁).calling g' mk (Value.ref b :: As).toArray, t, U', L, hT, X', hL, e1, e2, hq, st⟩
section
variable {y : MethodName} {bytes cc : ByteArray} {maxL nL mc ms n index : Nat} {ret : Option FieldType} {ws : List Cond} {rm : Room} {Pc : Array Value → State → Prop} {Qc : Array Value → State → Outcome → State → Prop} {XC : String → State → State → Prop} {free : Addr → Prop} {Ts : List Cond} {own C : String} {b : Addr} {As rest : List Value} {g : JFrame}
theorem vx_runVX {hh : List (Nat × Nat × Nat × Nat)} (S : CallFix p m c cc nL s args Ts own) (hM : vx_Met l y ws rm Pc Qc XC mc ms free) (cw : vx_CVW R s args own C index y bytes maxL ret hh ws rm mc ms n) (hp : PreV s H C b Pc As)
    (hg : g.method = m) (hn : As.length = n) (hsize : g.locals.size = nL) (hstack : g.stack = As.reverse ++ .ref b :: rest) (hW : 2 * g.monitorRoom + (rest.map fun v => v.category).sum ≤ 8) (hdg : decode cc g.pc = .ok (.invokevirtual index, 3)) (hf : cells + mc ≤ R.cells ∧ slots + ms ≤ R.slots) :
    vx_Run p l e R s m args below meth c H locs cells slots mc ms g rest (Qc (Value.ref b :: As).toArray) XC free := by
  obtain ⟨⟨hrc, hrs, hfr, hlo, hws, hcw⟩, hcode, hini, hy, hlen, hl, hin, hse⟩ := cw
  have hK : vx_Back l R p e below s args y 3 8 (PreOf R mc ms Pc) (PostOf Qc mc ms free) (vx_Post XC mc ms free) := vx_backW (hh := hh) (bytes := bytes) (maxL := maxL) (ret := ret) hM hp.1 hrc hrs hfr hlo hws hcw (fun a' U hW => word_at hW (Or.inl (by first | rfl | simp [Cond.onTables, Cond.keeps, Cond.steady])) hini)
  obtain ⟨hx, hb, hml, ho, -⟩ := S
  obtain ⟨-, ⟨cellB, hcB, hoB, hclB⟩, hPc⟩ := hp
  intro T hT X
  rcases vx_callVX X hx (C := C) (hh := hh) (bytes := bytes) (maxL := maxL) (ret := ret) ho hl hin hse hcode hy hK (by rw [hT]; exact hcB) hoB hclB hg (hsize.trans hml.symm) (argsL := As) (rest := rest) (fun sig h => hn.trans (hlen sig h)) hstack hW (by rw [hb]; exact hdg)
    (fun vm₁ hW₁ => ⟨hf.1, hf.2, hPc (T.setVm vm₁) hT hW₁⟩) with ⟨v, vm₁, ⟨U', l2, c2, s2⟩, hW₁, X', ⟨g', mk, t, L, e1, e2, hq, h1, hL, h2, h3⟩, st⟩ | ⟨q, vm₁, ⟨U', l2, c2, s2⟩, hW₁, X', ⟨g', mk, t, L, E, ce, e1, e2, hq, hce, hcv, hcl, h1, hL, h2, h3⟩, st⟩
  · dsimp only [Pt.U, Pt.locs, Pt.cells, Pt.slots] at X' e1 e2 h1 h2 h3 st
    subst h1; subst h2; subst h3
    exact Or.inl ⟨v, (T.setVm vm₁).calling g' mk (Value.ref b :: As).toArray, t, U', L, hT, X', hL, e1, e2, hq, st⟩
  · dsimp only [Pt.U, Pt.locs, Pt.cells, Pt.slots] at X' e1 e2 h1 h2 h3 st hcl
    subst h1; subst h2; subst h3
    exact Or.inr ⟨q, (T.setVm vm₁).calling g' mk (Value.ref b :: As).toArray, t, U', L, E, ce, hT, X', hL, e1, e2, hq, hce, hcv, vx_cls hW₁ hcl, st⟩
theorem vx_runSX {hh : List (Nat × Nat × Nat × Nat)} (S : CallFix p m c cc nL s args Ts own) (hM : vx_Met l y ws rm Pc Qc XC mc ms free) (cw : vx_CSW R s args own index y bytes maxL ret hh ws rm mc ms n) (hp : PreS s H Pc As)
    (hg : g.method = m) (hn : As.length = n) (hsize : g.locals.size = nL) (hstack : g.stack = As.reverse ++ rest) (hW : 2 * g.monitorRoom + (rest.map fun v => v.category).sum ≤ 8) (hdg : decode cc g.pc = .ok (.invokestatic index, 3)) (hf : cells + mc ≤ R.cells ∧ slots + ms ≤ R.slots) :
    vx_Run p l e R s m args below meth c H locs cells slots mc ms g rest (Qc As.toArray) XC free := by
  obtain ⟨⟨hrc, hrs, hfr, hlo, hws, hcw⟩, hcode, hini, hy, hlen, hl, hstt⟩ := cw
  have hK : vx_Back l R p e below s args y 3 8 (PreOf R mc ms Pc) (PostOf Qc mc ms free) (vx_Post XC mc ms free) := vx_backW (hh := hh) (bytes := bytes) (maxL := maxL) (ret := ret) hM hp.1 hrc hrs hfr hlo hws hcw (fun a' U hW => word_at hW (Or.inl (by first | rfl | simp [Cond.onTables, Cond.keeps, Cond.steady])) hini)
  obtain ⟨hx, hb, hml, ho, -⟩ := S
  intro T hT X
  rcases vx_callSX X hx (hh := hh) (bytes := bytes) (maxL := maxL) (ret := ret) ho hl hstt hini hcode hy hK hg (hsize.trans hml.symm) (argsL := As) (rest := rest) (fun sig h => hn.trans (hlen sig h)) hstack hW (by rw [hb]; exact hdg)
    (fun vm₁ hW₁ => ⟨hf.1, hf.2, hp.2 (T.setVm vm₁) hT hW₁⟩) with ⟨v, vm₁, ⟨U', l2, c2, s2⟩, hW₁, X', ⟨g', mk, t, L, e1, e2, hq, h1, hL, h2, h3⟩, st⟩ | ⟨q, vm₁, ⟨U', l2, c2, s2⟩, hW₁, X', ⟨g', mk, t, L, E, ce, e1, e2, hq, hce, hcv, hcl, h1, hL, h2, h3⟩, st⟩
  · dsimp only [Pt.U, Pt.locs, Pt.cells, Pt.slots] at X' e1 e2 h1 h2 h3 st
    subst h1; subst h2; subst h3
    exact Or.inl ⟨v, (T.setVm vm₁).calling g' mk As.toArray, t, U', L, hT, X', hL, e1, e2, hq, st⟩
  · dsimp only [Pt.U, Pt.locs, Pt.cells, Pt.slots] at X' e1 e2 h1 h2 h3 st hcl
    subst h1; subst h2; subst h3
    exact Or.inr ⟨q, (T.setVm vm₁).calling g' mk As.toArray, t, U', L, E, ce, hT, X', hL, e1, e2, hq, hce, hcv, vx_cls hW₁ hcl, st⟩
end
end VXH
theorem vx_ofWH {l : Launch} {y : MethodName} {ws ws' : List Cond} {rm : Room} {Pc : Array Value → State → Prop} {Qc : Array Value → State → Outcome → State → Prop} {XC : String → State → State → Prop} {mc ms : Nat} {free : Addr → Prop} {cc : ByteArray} {maxL : Nat} {ret : Option FieldType} {hh : List (Nat × Nat × Nat × Nat)}
    (hy : plainName y.cls = true) (hw : ws = Cond.codeWith y cc maxL ret hh :: ws')
    (body : ∀ p e s m args below meth c s₁, BodyLoose p l y (headSpec ws rm) cc maxL ret e s m args below meth c s₁ → c.maxLocals = maxL → Pc args s →
      W p l e (headSpec ws rm).room s m args below meth c s.heap [] 0 0 (vx_MQ below Qc XC args s mc ms free) (entryFrame m args maxL)) : vx_Met l y ws rm Pc Qc XC mc ms free := by
  refine MetFree.of_bodyS (code := cc) (maxLocals := maxL) (ret := ret) hy ?_ ?_
  · intro args s m h hn
    obtain ⟨m9, meth, c, hn9, h1, h2, h3, h4, -, h5, h6, -⟩ := Cond.codeWith_spec (atoms_spec (ws := ws) h _ (by rw [hw]; exact List.mem_cons_self))
    cases hn.symm.trans hn9
    exact ⟨meth, c, h1, h2, h3, h4, h5, h6⟩
  · intro p e s m args below meth c s₁ B hml hP _
    have hh0 : s₁.heap = s.heap := by rw [B.state]; rfl
    obtain ⟨t, a1, o, b1, b2, b3⟩ := body p e s m args below meth c s₁ B hml hP s₁ hh0 (Stand.of_body B)
    exact ⟨t, o, a1, b1, b2, b3⟩
/-! ===== END ===== -/
end
section
def RX0 : String := "RoofDrains$RainText"
def TX0 : u_T := fun k => match k with
  | 0 => ("RoofDrains$RainText", "codes", "[I", true)
  | _ => ("RoofDrains$RainText", "length", "I", false)
def tyX0 : Nat → FieldType := fun k => match k with
  | 0 => .array .int
  | _ => .int
abbrev wsX00 : List Cond := u_ws RX0 TX0 2
theorem nmX0 : ∀ a, a < 2 → ∀ b, b < 2 → a ≠ b → (TX0 a).2.1 ≠ (TX0 b).2.1 := by decide +kernel
theorem tyX0_ok : ∀ k, k < 2 → parseFieldDescriptor (TX0 k).2.2.1 = some (tyX0 k) := by decide +kernel
abbrev cX0_init : ByteArray := prog_2_method_1_code
def yX0_init : MethodName := ⟨RX0, "<init>", "()V"⟩
def RX1 : String := "RoofDrains$Roof"
def TX1 : u_T := fun k => match k with
  | 0 => ("RoofDrains$Roof", "area", "[I", true)
  | 1 => ("RoofDrains$Roof", "slope", "[I", true)
  | 2 => ("RoofDrains$Roof", "leadsTo", "[I", true)
  | 3 => ("RoofDrains$Roof", "onPlane", "[I", true)
  | 4 => ("RoofDrains$Roof", "size", "[I", true)
  | 5 => ("RoofDrains$Roof", "bore", "[I", true)
  | 6 => ("RoofDrains$Roof", "leaves", "[I", true)
  | 7 => ("RoofDrains$Roof", "valleyTo", "[I", true)
  | 8 => ("RoofDrains$Roof", "inGutter", "[I", true)
  | 9 => ("RoofDrains$Roof", "spilt", "[I", true)
  | 10 => ("RoofDrains$Roof", "drained", "[I", true)
  | 11 => ("RoofDrains$Roof", "values", "[I", true)
  | 12 => ("RoofDrains$Roof", "minutesGone", "I", false)
  | 13 => ("RoofDrains$Roof", "weeksPassed", "I", false)
  | 14 => ("RoofDrains$Roof", "rained", "I", false)
  | _ => ("RoofDrains$Roof", "backedUp", "I", false)
def tyX1 : Nat → FieldType := fun k => match k with
  | 0 => .array .int
  | 1 => .array .int
  | 2 => .array .int
  | 3 => .array .int
  | 4 => .array .int
  | 5 => .array .int
  | 6 => .array .int
  | 7 => .array .int
  | 8 => .array .int
  | 9 => .array .int
  | 10 => .array .int
  | 11 => .array .int
  | 12 => .int
  | 13 => .int
  | 14 => .int
  | _ => .int
abbrev wsX10 : List Cond := u_ws RX1 TX1 16
theorem nmX1 : ∀ a, a < 16 → ∀ b, b < 16 → a ≠ b → (TX1 a).2.1 ≠ (TX1 b).2.1 := by decide +kernel
theorem tyX1_ok : ∀ k, k < 16 → parseFieldDescriptor (TX1 k).2.2.1 = some (tyX1 k) := by decide +kernel
abbrev cX1_init : ByteArray := prog_3_method_1_code
def yX1_init : MethodName := ⟨RX1, "<init>", "()V"⟩
abbrev cX1_copyFrom : ByteArray := prog_3_method_2_code
def yX1_copyFrom : MethodName := ⟨RX1, "copyFrom", "(LRoofDrains$Roof;)V"⟩
abbrev cX1_changePlane : ByteArray := prog_3_method_3_code
def yX1_changePlane : MethodName := ⟨RX1, "changePlane", "(IIII)I"⟩
abbrev cX1_changeGutter : ByteArray := prog_3_method_4_code
def yX1_changeGutter : MethodName := ⟨RX1, "changeGutter", "(III)I"⟩
abbrev cX1_changeValley : ByteArray := prog_3_method_5_code
def yX1_changeValley : MethodName := ⟨RX1, "changeValley", "(II)I"⟩
abbrev cX1_takeLeaves : ByteArray := prog_3_method_6_code
def yX1_takeLeaves : MethodName := ⟨RX1, "takeLeaves", "(I)I"⟩
abbrev cX1_changeSetting : ByteArray := prog_3_method_7_code
def yX1_changeSetting : MethodName := ⟨RX1, "changeSetting", "(II)I"⟩
abbrev cX1_valleysLead : ByteArray := prog_3_method_8_code
def yX1_valleysLead : MethodName := ⟨RX1, "valleysLead", "(II)Z"⟩
abbrev cX1_passMinutes : ByteArray := prog_3_method_9_code
def yX1_passMinutes : MethodName := ⟨RX1, "passMinutes", "(II)V"⟩
abbrev cX1_passMinute : ByteArray := prog_3_method_10_code
def yX1_passMinute : MethodName := ⟨RX1, "passMinute", "(I)V"⟩
abbrev cX1_passWeek : ByteArray := prog_3_method_11_code
def yX1_passWeek : MethodName := ⟨RX1, "passWeek", "()V"⟩
abbrev cX1_wetPlane : ByteArray := prog_3_method_12_code
def yX1_wetPlane : MethodName := ⟨RX1, "wetPlane", "(II)V"⟩
abbrev cX1_emptyIntoDrain : ByteArray := prog_3_method_13_code
def yX1_emptyIntoDrain : MethodName := ⟨RX1, "emptyIntoDrain", "()V"⟩
abbrev cX1_overflow : ByteArray := prog_3_method_14_code
def yX1_overflow : MethodName := ⟨RX1, "overflow", "(I)V"⟩
abbrev cX1_room : ByteArray := prog_3_method_15_code
def yX1_room : MethodName := ⟨RX1, "room", "(I)I"⟩
abbrev cX1_pipeTakes : ByteArray := prog_3_method_16_code
def yX1_pipeTakes : MethodName := ⟨RX1, "pipeTakes", "(I)I"⟩
abbrev cX1_planeNumber : ByteArray := prog_3_method_17_code
def yX1_planeNumber : MethodName := ⟨RX1, "planeNumber", "(II)I"⟩
abbrev cX1_gutterNumber : ByteArray := prog_3_method_18_code
def yX1_gutterNumber : MethodName := ⟨RX1, "gutterNumber", "(II)I"⟩
abbrev cX1_settingValue : ByteArray := prog_3_method_21_code
def yX1_settingValue : MethodName := ⟨RX1, "settingValue", "(I)I"⟩
abbrev cX1_minutesGone : ByteArray := prog_3_method_22_code
def yX1_minutesGone : MethodName := ⟨RX1, "minutesGone", "()I"⟩
abbrev cX1_weeksPassed : ByteArray := prog_3_method_23_code
def yX1_weeksPassed : MethodName := ⟨RX1, "weeksPassed", "()I"⟩
abbrev cX1_rainedLitres : ByteArray := prog_3_method_24_code
def yX1_rainedLitres : MethodName := ⟨RX1, "rainedLitres", "()I"⟩
abbrev cX1_backedUpMinutes : ByteArray := prog_3_method_25_code
def yX1_backedUpMinutes : MethodName := ⟨RX1, "backedUpMinutes", "()I"⟩
abbrev cX1_standingLitres : ByteArray := prog_3_method_26_code
def yX1_standingLitres : MethodName := ⟨RX1, "standingLitres", "()I"⟩
abbrev cX1_drainedLitres : ByteArray := prog_3_method_27_code
def yX1_drainedLitres : MethodName := ⟨RX1, "drainedLitres", "()I"⟩
abbrev cX1_spiltLitres : ByteArray := prog_3_method_28_code
def yX1_spiltLitres : MethodName := ⟨RX1, "spiltLitres", "()I"⟩
abbrev cX1_leavesTogether : ByteArray := prog_3_method_29_code
def yX1_leavesTogether : MethodName := ⟨RX1, "leavesTogether", "()I"⟩
abbrev cX1_sumOf : ByteArray := prog_3_method_30_code
def yX1_sumOf : MethodName := ⟨RX1, "sumOf", "([I)I"⟩
def RX2 : String := "RoofDrains$SavedRoofs"
def TX2 : u_T := fun k => match k with
  | 0 => ("RoofDrains$SavedRoofs", "rows", "[LRoofDrains$Roof;", true)
  | 1 => ("RoofDrains$SavedRoofs", "oldest", "I", false)
  | _ => ("RoofDrains$SavedRoofs", "held", "I", false)
def tyX2 : Nat → FieldType := fun k => match k with
  | 0 => .array (.object "RoofDrains$Roof")
  | 1 => .int
  | _ => .int
abbrev wsX20 : List Cond := u_ws RX2 TX2 3
theorem nmX2 : ∀ a, a < 3 → ∀ b, b < 3 → a ≠ b → (TX2 a).2.1 ≠ (TX2 b).2.1 := by decide +kernel
theorem tyX2_ok : ∀ k, k < 3 → parseFieldDescriptor (TX2 k).2.2.1 = some (tyX2 k) := by decide +kernel
abbrev cX2_init : ByteArray := prog_4_method_1_code
def yX2_init : MethodName := ⟨RX2, "<init>", "()V"⟩
abbrev cX2_held : ByteArray := prog_4_method_2_code
def yX2_held : MethodName := ⟨RX2, "held", "()I"⟩
abbrev cX2_keep : ByteArray := prog_4_method_3_code
def yX2_keep : MethodName := ⟨RX2, "keep", "(LRoofDrains$Roof;)V"⟩
abbrev cX2_dropLatest : ByteArray := prog_4_method_4_code
def yX2_dropLatest : MethodName := ⟨RX2, "dropLatest", "()LRoofDrains$Roof;"⟩
def RX3 : String := "RoofDrains"
def TX3 : u_T := fun k => match k with
  | 0 => ("RoofDrains", "roof", "LRoofDrains$Roof;", true)
  | 1 => ("RoofDrains", "thought", "LRoofDrains$Roof;", true)
  | 2 => ("RoofDrains", "saved", "LRoofDrains$SavedRoofs;", true)
  | _ => ("RoofDrains", "text", "LRoofDrains$RainText;", true)
def tyX3 : Nat → FieldType := fun k => match k with
  | 0 => .object "RoofDrains$Roof"
  | 1 => .object "RoofDrains$Roof"
  | 2 => .object "RoofDrains$SavedRoofs"
  | _ => .object "RoofDrains$RainText"
abbrev wsX30 : List Cond := u_ws RX3 TX3 4
theorem nmX3 : ∀ a, a < 4 → ∀ b, b < 4 → a ≠ b → (TX3 a).2.1 ≠ (TX3 b).2.1 := by decide +kernel
theorem tyX3_ok : ∀ k, k < 4 → parseFieldDescriptor (TX3 k).2.2.1 = some (tyX3 k) := by decide +kernel
abbrev cX3_init : ByteArray := prog_1_method_1_code
def yX3_init : MethodName := ⟨RX3, "<init>", "()V"⟩
abbrev cX3_plane : ByteArray := prog_1_method_2_code
def yX3_plane : MethodName := ⟨RX3, "plane", "(IIII)I"⟩
abbrev cX3_gutter : ByteArray := prog_1_method_3_code
def yX3_gutter : MethodName := ⟨RX3, "gutter", "(III)I"⟩
abbrev cX3_valley : ByteArray := prog_1_method_4_code
def yX3_valley : MethodName := ⟨RX3, "valley", "(II)I"⟩
abbrev cX3_clean : ByteArray := prog_1_method_5_code
def yX3_clean : MethodName := ⟨RX3, "clean", "(I)I"⟩
abbrev cX3_set : ByteArray := prog_1_method_6_code
def yX3_set : MethodName := ⟨RX3, "set", "(II)I"⟩
abbrev cX3_rain : ByteArray := prog_1_method_7_code
def yX3_rain : MethodName := ⟨RX3, "rain", "(II)I"⟩
abbrev cX3_weeks : ByteArray := prog_1_method_8_code
def yX3_weeks : MethodName := ⟨RX3, "weeks", "(I)I"⟩
abbrev cX3_undo : ByteArray := prog_1_method_13_code
def yX3_undo : MethodName := ⟨RX3, "undo", "()I"⟩
abbrev cX3_planeOf : ByteArray := prog_1_method_14_code
def yX3_planeOf : MethodName := ⟨RX3, "planeOf", "(II)I"⟩
abbrev cX3_gutterOf : ByteArray := prog_1_method_15_code
def yX3_gutterOf : MethodName := ⟨RX3, "gutterOf", "(II)I"⟩
abbrev cX3_count : ByteArray := prog_1_method_16_code
def yX3_count : MethodName := ⟨RX3, "count", "(I)I"⟩
abbrev cX3_setting : ByteArray := prog_1_method_17_code
def yX3_setting : MethodName := ⟨RX3, "setting", "(I)I"⟩
abbrev cX3_dryIn : ByteArray := prog_1_method_22_code
def yX3_dryIn : MethodName := ⟨RX3, "dryIn", "()I"⟩
abbrev cX3_drainedShare : ByteArray := prog_1_method_23_code
def yX3_drainedShare : MethodName := ⟨RX3, "drainedShare", "()D"⟩
abbrev cX3_isWithin : ByteArray := prog_1_method_32_code
def yX3_isWithin : MethodName := ⟨RX3, "isWithin", "(III)Z"⟩
abbrev cX3_isPlane : ByteArray := prog_1_method_33_code
def yX3_isPlane : MethodName := ⟨RX3, "isPlane", "(I)Z"⟩
abbrev cX3_isGutter : ByteArray := prog_1_method_34_code
def yX3_isGutter : MethodName := ⟨RX3, "isGutter", "(I)Z"⟩
abbrev cX3_isSetting : ByteArray := prog_1_method_35_code
def yX3_isSetting : MethodName := ⟨RX3, "isSetting", "(I)Z"⟩
def RX4 : String := "RoofDrainsModel"
def TX4 : u_T := fun k => match k with
  | _ => ("", "", "", false)
def tyX4 : Nat → FieldType := fun k => match k with
  | _ => .int
abbrev wsX40 : List Cond := u_ws RX4 TX4 0
theorem nmX4 : ∀ a, a < 0 → ∀ b, b < 0 → a ≠ b → (TX4 a).2.1 ≠ (TX4 b).2.1 := by decide +kernel
theorem tyX4_ok : ∀ k, k < 0 → parseFieldDescriptor (TX4 k).2.2.1 = some (tyX4 k) := by decide +kernel
def RJ9 : String := "java/lang/Math"
def TJ9 : u_T := fun k => match k with
  | _ => ("", "", "", false)
def tyJ9 : Nat → FieldType := fun k => match k with
  | _ => .int
abbrev wsJ90 : List Cond := u_ws RJ9 TJ9 0
theorem nmJ9 : ∀ a, a < 0 → ∀ b, b < 0 → a ≠ b → (TJ9 a).2.1 ≠ (TJ9 b).2.1 := by decide +kernel
theorem tyJ9_ok : ∀ k, k < 0 → parseFieldDescriptor (TJ9 k).2.2.1 = some (tyJ9 k) := by decide +kernel
abbrev cJ9_min_7cf53 : ByteArray := prog_11_method_69_code
def yJ9_min_7cf53 : MethodName := ⟨RJ9, "min", "(II)I"⟩
def RJ0 : String := "java/lang/String"
def TJ0 : u_T := fun k => match k with
  | _ => ("", "", "", false)
def tyJ0 : Nat → FieldType := fun k => match k with
  | _ => .int
abbrev wsJ00 : List Cond := u_ws RJ0 TJ0 0
theorem nmJ0 : ∀ a, a < 0 → ∀ b, b < 0 → a ≠ b → (TJ0 a).2.1 ≠ (TJ0 b).2.1 := by decide +kernel
theorem tyJ0_ok : ∀ k, k < 0 → parseFieldDescriptor (TJ0 k).2.2.1 = some (tyJ0 k) := by decide +kernel
def RJ10 : String := "java/lang/System"
def TJ10 : u_T := fun k => match k with
  | _ => ("", "", "", false)
def tyJ10 : Nat → FieldType := fun k => match k with
  | _ => .int
abbrev wsJ100 : List Cond := u_ws RJ10 TJ10 0
theorem nmJ10 : ∀ a, a < 0 → ∀ b, b < 0 → a ≠ b → (TJ10 a).2.1 ≠ (TJ10 b).2.1 := by decide +kernel
theorem tyJ10_ok : ∀ k, k < 0 → parseFieldDescriptor (TJ10 k).2.2.1 = some (tyJ10 k) := by decide +kernel
def RL : String := "RoofDrainsLaw"
abbrev cL_cell : ByteArray := method_2_code
def yL_cell : MethodName := ⟨RL, "cell", "([II)I"⟩
abbrev cL_low : ByteArray := method_3_code
def yL_low : MethodName := ⟨RL, "low", "(II)I"⟩
abbrev cL_told : ByteArray := method_4_code
def yL_told : MethodName := ⟨RL, "told", "(LRoofDrains;)J"⟩
abbrev cL_leads : ByteArray := method_5_code
def yL_leads : MethodName := ⟨RL, "leads", "(LRoofDrains;II)Z"⟩
abbrev cL_act : ByteArray := method_6_code
def yL_act : MethodName := ⟨RL, "act", "(LRoofDrains;II)I"⟩
abbrev cL_holds : ByteArray := method_7_code
def yL_holds : MethodName := ⟨RL, "holds", "(LRoofDrains;Z)Z"⟩
abbrev cL_law : ByteArray := code
def yL_law : MethodName := ⟨RL, "law", "([I)Z"⟩
def wsX0_init : List Cond := .code yX0_init cX0_init 1 none :: ([.methodLink RX0 1 objectInit, .instanceMethod objectInit, .code objectInit ⟨#[0xb1]⟩ 1 none, .arrayClass .int, .fieldLink RX0 9 "RoofDrains$RainText" "codes" "[I"] ++ wsX00)
def wsX1_init : List Cond := .code yX1_init cX1_init 2 none :: ([.methodLink RX1 3 objectInit, .instanceMethod objectInit, .code objectInit ⟨#[0xb1]⟩ 1 none, .arrayClass .int, .fieldLink RX1 9 "RoofDrains$Roof" "area" "[I", .fieldLink RX1 15 "RoofDrains$Roof" "slope" "[I", .fieldLink RX1 18 "RoofDrains$Roof" "leadsTo" "[I", .fieldLink RX1 21 "RoofDrains$Roof" "onPlane" "[I", .fieldLink RX1 24 "RoofDrains$Roof" "size" "[I", .fieldLink RX1 27 "RoofDrains$Roof" "bore" "[I", .fieldLink RX1 30 "RoofDrains$Roof" "leaves" "[I", .fieldLink RX1 33 "RoofDrains$Roof" "valleyTo" "[I", .fieldLink RX1 36 "RoofDrains$Roof" "inGutter" "[I", .fieldLink RX1 39 "RoofDrains$Roof" "spilt" "[I", .fieldLink RX1 42 "RoofDrains$Roof" "drained" "[I", .fieldLink RX1 45 "RoofDrains$Roof" "values" "[I"] ++ wsX10)
def wsX1_copyFrom : List Cond := .code yX1_copyFrom cX1_copyFrom 2 none :: ([.fieldLink RX1 9 "RoofDrains$Roof" "area" "[I", .methodLink RX1 48 arraycopyName, .native arraycopyName, .static arraycopyName, .initialized "java/lang/System", .fieldLink RX1 15 "RoofDrains$Roof" "slope" "[I", .fieldLink RX1 18 "RoofDrains$Roof" "leadsTo" "[I", .fieldLink RX1 21 "RoofDrains$Roof" "onPlane" "[I", .fieldLink RX1 24 "RoofDrains$Roof" "size" "[I", .fieldLink RX1 27 "RoofDrains$Roof" "bore" "[I", .fieldLink RX1 30 "RoofDrains$Roof" "leaves" "[I", .fieldLink RX1 33 "RoofDrains$Roof" "valleyTo" "[I", .fieldLink RX1 36 "RoofDrains$Roof" "inGutter" "[I", .fieldLink RX1 39 "RoofDrains$Roof" "spilt" "[I", .fieldLink RX1 42 "RoofDrains$Roof" "drained" "[I", .fieldLink RX1 45 "RoofDrains$Roof" "values" "[I", .fieldLink RX1 54 "RoofDrains$Roof" "minutesGone" "I", .fieldLink RX1 58 "RoofDrains$Roof" "weeksPassed" "I", .fieldLink RX1 61 "RoofDrains$Roof" "rained" "I", .fieldLink RX1 64 "RoofDrains$Roof" "backedUp" "I"] ++ wsX10)
def wsX1_changePlane : List Cond := .code yX1_changePlane cX1_changePlane 6 (some .int) :: ([.fieldLink RX1 9 "RoofDrains$Roof" "area" "[I", .fieldLink RX1 15 "RoofDrains$Roof" "slope" "[I", .fieldLink RX1 18 "RoofDrains$Roof" "leadsTo" "[I"] ++ wsX10)
def wsX1_changeGutter : List Cond := .code yX1_changeGutter cX1_changeGutter 5 (some .int) :: ([.fieldLink RX1 24 "RoofDrains$Roof" "size" "[I", .fieldLink RX1 27 "RoofDrains$Roof" "bore" "[I"] ++ wsX10)
def wsX1_changeValley : List Cond := .code yX1_changeValley cX1_changeValley 4 (some .int) :: ([.fieldLink RX1 33 "RoofDrains$Roof" "valleyTo" "[I"] ++ wsX10)
def wsX1_takeLeaves : List Cond := .code yX1_takeLeaves cX1_takeLeaves 3 (some .int) :: ([.fieldLink RX1 30 "RoofDrains$Roof" "leaves" "[I"] ++ wsX10)
def wsX1_changeSetting : List Cond := .code yX1_changeSetting cX1_changeSetting 4 (some .int) :: ([.fieldLink RX1 45 "RoofDrains$Roof" "values" "[I"] ++ wsX10)
def wsX3_isGutter : List Cond := .code yX3_isGutter cX3_isGutter 1 (some .boolean) :: ([])
def wsX1_valleysLead : List Cond := .code yX1_valleysLead cX1_valleysLead 5 (some .boolean) :: ([.fieldLink RX1 33 "RoofDrains$Roof" "valleyTo" "[I", .static yX3_isGutter, .initialized RX3, .code yX3_isGutter cX3_isGutter 1 (some .boolean)] ++ wsX10)
def wsX1_wetPlane : List Cond := .code yX1_wetPlane cX1_wetPlane 6 none :: ([.fieldLink RX1 9 "RoofDrains$Roof" "area" "[I", .fieldLink RX1 61 "RoofDrains$Roof" "rained" "I", .fieldLink RX1 21 "RoofDrains$Roof" "onPlane" "[I", .fieldLink RX1 15 "RoofDrains$Roof" "slope" "[I", .fieldLink RX1 18 "RoofDrains$Roof" "leadsTo" "[I", .fieldLink RX1 36 "RoofDrains$Roof" "inGutter" "[I", .static yX3_isGutter, .initialized RX3, .code yX3_isGutter cX3_isGutter 1 (some .boolean)] ++ wsX10)
def wsX1_pipeTakes : List Cond := .code yX1_pipeTakes cX1_pipeTakes 3 (some .int) :: ([.fieldLink RX1 27 "RoofDrains$Roof" "bore" "[I", .fieldLink RX1 30 "RoofDrains$Roof" "leaves" "[I"] ++ wsX10)
def wsX1_emptyIntoDrain : List Cond := .code yX1_emptyIntoDrain cX1_emptyIntoDrain 6 none :: ([.fieldLink RX1 45 "RoofDrains$Roof" "values" "[I", .fieldLink RX1 36 "RoofDrains$Roof" "inGutter" "[I", .methodLink RX1 85 Lib.Math.min.name, .static Lib.Math.min.name, .initialized "java/lang/Math", .code Lib.Math.min.name Lib.Math.min.code 2 (some .int), .fieldLink RX1 42 "RoofDrains$Roof" "drained" "[I", .fieldLink RX1 64 "RoofDrains$Roof" "backedUp" "I", .methodLink RX1 91 yX1_pipeTakes, .instanceMethod yX1_pipeTakes, .selects RX1 yX1_pipeTakes yX1_pipeTakes, .initialized RX1, .code yX1_pipeTakes cX1_pipeTakes 3 (some .int), .fieldLink RX1 27 "RoofDrains$Roof" "bore" "[I", .fieldLink RX1 30 "RoofDrains$Roof" "leaves" "[I"] ++ wsX10)
def wsX1_room : List Cond := .code yX1_room cX1_room 2 (some .int) :: ([.fieldLink RX1 24 "RoofDrains$Roof" "size" "[I", .fieldLink RX1 30 "RoofDrains$Roof" "leaves" "[I"] ++ wsX10)
def wsX1_overflow : List Cond := .code yX1_overflow cX1_overflow 4 none :: ([.fieldLink RX1 36 "RoofDrains$Roof" "inGutter" "[I", .fieldLink RX1 33 "RoofDrains$Roof" "valleyTo" "[I", .fieldLink RX1 39 "RoofDrains$Roof" "spilt" "[I", .methodLink RX1 95 yX1_room, .instanceMethod yX1_room, .selects RX1 yX1_room yX1_room, .initialized RX1, .code yX1_room cX1_room 2 (some .int), .fieldLink RX1 24 "RoofDrains$Roof" "size" "[I", .fieldLink RX1 30 "RoofDrains$Roof" "leaves" "[I", .static yX3_isGutter, .initialized RX3, .code yX3_isGutter cX3_isGutter 1 (some .boolean)] ++ wsX10)
def wsX1_passMinute_r1 : List Cond := [Cond.fieldLink RX1 54 "RoofDrains$Roof" "minutesGone" "I", Cond.methodLink RX1 75 yX1_wetPlane, Cond.instanceMethod yX1_wetPlane, Cond.selects RX1 yX1_wetPlane yX1_wetPlane, Cond.initialized RX1, Cond.code yX1_wetPlane cX1_wetPlane 6 none, Cond.fieldLink RX1 9 "RoofDrains$Roof" "area" "[I", Cond.fieldLink RX1 61 "RoofDrains$Roof" "rained" "I", Cond.fieldLink RX1 21 "RoofDrains$Roof" "onPlane" "[I", Cond.fieldLink RX1 15 "RoofDrains$Roof" "slope" "[I", Cond.fieldLink RX1 18 "RoofDrains$Roof" "leadsTo" "[I", Cond.fieldLink RX1 36 "RoofDrains$Roof" "inGutter" "[I", Cond.static yX3_isGutter, Cond.initialized RX3, Cond.code yX3_isGutter cX3_isGutter 1 (some .boolean), Cond.methodLink RX1 79 yX1_emptyIntoDrain, Cond.instanceMethod yX1_emptyIntoDrain, Cond.selects RX1 yX1_emptyIntoDrain yX1_emptyIntoDrain, Cond.code yX1_emptyIntoDrain cX1_emptyIntoDrain 6 none, Cond.fieldLink RX1 45 "RoofDrains$Roof" "values" "[I", Cond.methodLink RX1 85 Lib.Math.min.name, Cond.static Lib.Math.min.name, Cond.initialized "java/lang/Math", Cond.code Lib.Math.min.name Lib.Math.min.code 2 (some .int)]
def wsX1_passMinute_r2 : List Cond := [Cond.fieldLink RX1 42 "RoofDrains$Roof" "drained" "[I", Cond.fieldLink RX1 64 "RoofDrains$Roof" "backedUp" "I", Cond.methodLink RX1 91 yX1_pipeTakes, Cond.instanceMethod yX1_pipeTakes, Cond.selects RX1 yX1_pipeTakes yX1_pipeTakes, Cond.code yX1_pipeTakes cX1_pipeTakes 3 (some .int), Cond.fieldLink RX1 27 "RoofDrains$Roof" "bore" "[I", Cond.fieldLink RX1 30 "RoofDrains$Roof" "leaves" "[I", Cond.methodLink RX1 82 yX1_overflow, Cond.instanceMethod yX1_overflow, Cond.selects RX1 yX1_overflow yX1_overflow, Cond.code yX1_overflow cX1_overflow 4 none, Cond.fieldLink RX1 33 "RoofDrains$Roof" "valleyTo" "[I", Cond.fieldLink RX1 39 "RoofDrains$Roof" "spilt" "[I", Cond.methodLink RX1 95 yX1_room, Cond.instanceMethod yX1_room, Cond.selects RX1 yX1_room yX1_room, Cond.code yX1_room cX1_room 2 (some .int), Cond.fieldLink RX1 24 "RoofDrains$Roof" "size" "[I"]
def wsX1_passMinute : List Cond := .code yX1_passMinute cX1_passMinute 3 none :: ((wsX1_passMinute_r1 ++ wsX1_passMinute_r2) ++ wsX10)
def wsX1_passMinutes_r1 : List Cond := [Cond.methodLink RX1 71 yX1_passMinute, Cond.instanceMethod yX1_passMinute, Cond.selects RX1 yX1_passMinute yX1_passMinute, Cond.initialized RX1, Cond.code yX1_passMinute cX1_passMinute 3 none, Cond.fieldLink RX1 54 "RoofDrains$Roof" "minutesGone" "I", Cond.methodLink RX1 75 yX1_wetPlane, Cond.instanceMethod yX1_wetPlane, Cond.selects RX1 yX1_wetPlane yX1_wetPlane, Cond.code yX1_wetPlane cX1_wetPlane 6 none, Cond.fieldLink RX1 9 "RoofDrains$Roof" "area" "[I", Cond.fieldLink RX1 61 "RoofDrains$Roof" "rained" "I", Cond.fieldLink RX1 21 "RoofDrains$Roof" "onPlane" "[I", Cond.fieldLink RX1 15 "RoofDrains$Roof" "slope" "[I", Cond.fieldLink RX1 18 "RoofDrains$Roof" "leadsTo" "[I", Cond.fieldLink RX1 36 "RoofDrains$Roof" "inGutter" "[I", Cond.static yX3_isGutter, Cond.initialized RX3, Cond.code yX3_isGutter cX3_isGutter 1 (some .boolean), Cond.methodLink RX1 79 yX1_emptyIntoDrain, Cond.instanceMethod yX1_emptyIntoDrain, Cond.selects RX1 yX1_emptyIntoDrain yX1_emptyIntoDrain, Cond.code yX1_emptyIntoDrain cX1_emptyIntoDrain 6 none, Cond.fieldLink RX1 45 "RoofDrains$Roof" "values" "[I"]
def wsX1_passMinutes_r2 : List Cond := [Cond.methodLink RX1 85 Lib.Math.min.name, Cond.static Lib.Math.min.name, Cond.initialized "java/lang/Math", Cond.code Lib.Math.min.name Lib.Math.min.code 2 (some .int), Cond.fieldLink RX1 42 "RoofDrains$Roof" "drained" "[I", Cond.fieldLink RX1 64 "RoofDrains$Roof" "backedUp" "I", Cond.methodLink RX1 91 yX1_pipeTakes, Cond.instanceMethod yX1_pipeTakes, Cond.selects RX1 yX1_pipeTakes yX1_pipeTakes, Cond.code yX1_pipeTakes cX1_pipeTakes 3 (some .int), Cond.fieldLink RX1 27 "RoofDrains$Roof" "bore" "[I", Cond.fieldLink RX1 30 "RoofDrains$Roof" "leaves" "[I", Cond.methodLink RX1 82 yX1_overflow, Cond.instanceMethod yX1_overflow, Cond.selects RX1 yX1_overflow yX1_overflow, Cond.code yX1_overflow cX1_overflow 4 none, Cond.fieldLink RX1 33 "RoofDrains$Roof" "valleyTo" "[I", Cond.fieldLink RX1 39 "RoofDrains$Roof" "spilt" "[I", Cond.methodLink RX1 95 yX1_room, Cond.instanceMethod yX1_room, Cond.selects RX1 yX1_room yX1_room, Cond.code yX1_room cX1_room 2 (some .int), Cond.fieldLink RX1 24 "RoofDrains$Roof" "size" "[I"]
def wsX1_passMinutes : List Cond := .code yX1_passMinutes cX1_passMinutes 4 none :: ((wsX1_passMinutes_r1 ++ wsX1_passMinutes_r2) ++ wsX10)
def wsX1_passWeek : List Cond := .code yX1_passWeek cX1_passWeek 2 none :: ([.fieldLink RX1 30 "RoofDrains$Roof" "leaves" "[I", .fieldLink RX1 45 "RoofDrains$Roof" "values" "[I", .methodLink RX1 85 Lib.Math.min.name, .static Lib.Math.min.name, .initialized "java/lang/Math", .code Lib.Math.min.name Lib.Math.min.code 2 (some .int), .fieldLink RX1 58 "RoofDrains$Roof" "weeksPassed" "I"] ++ wsX10)
def wsX1_planeNumber : List Cond := .code yX1_planeNumber cX1_planeNumber 3 (some .int) :: ([.fieldLink RX1 9 "RoofDrains$Roof" "area" "[I", .fieldLink RX1 15 "RoofDrains$Roof" "slope" "[I", .fieldLink RX1 18 "RoofDrains$Roof" "leadsTo" "[I", .fieldLink RX1 21 "RoofDrains$Roof" "onPlane" "[I"] ++ wsX10)
def wsX1_gutterNumber : List Cond := .code yX1_gutterNumber cX1_gutterNumber 3 (some .int) :: ([.fieldLink RX1 24 "RoofDrains$Roof" "size" "[I", .fieldLink RX1 27 "RoofDrains$Roof" "bore" "[I", .fieldLink RX1 30 "RoofDrains$Roof" "leaves" "[I", .fieldLink RX1 33 "RoofDrains$Roof" "valleyTo" "[I", .fieldLink RX1 36 "RoofDrains$Roof" "inGutter" "[I", .fieldLink RX1 39 "RoofDrains$Roof" "spilt" "[I", .fieldLink RX1 42 "RoofDrains$Roof" "drained" "[I", .methodLink RX1 95 yX1_room, .instanceMethod yX1_room, .selects RX1 yX1_room yX1_room, .initialized RX1, .code yX1_room cX1_room 2 (some .int), .methodLink RX1 91 yX1_pipeTakes, .instanceMethod yX1_pipeTakes, .selects RX1 yX1_pipeTakes yX1_pipeTakes, .code yX1_pipeTakes cX1_pipeTakes 3 (some .int)] ++ wsX10)
def wsX1_settingValue : List Cond := .code yX1_settingValue cX1_settingValue 2 (some .int) :: ([.fieldLink RX1 45 "RoofDrains$Roof" "values" "[I"] ++ wsX10)
def wsX1_minutesGone : List Cond := .code yX1_minutesGone cX1_minutesGone 1 (some .int) :: ([.fieldLink RX1 54 "RoofDrains$Roof" "minutesGone" "I"] ++ wsX10)
def wsX1_weeksPassed : List Cond := .code yX1_weeksPassed cX1_weeksPassed 1 (some .int) :: ([.fieldLink RX1 58 "RoofDrains$Roof" "weeksPassed" "I"] ++ wsX10)
def wsX1_rainedLitres : List Cond := .code yX1_rainedLitres cX1_rainedLitres 1 (some .int) :: ([.fieldLink RX1 61 "RoofDrains$Roof" "rained" "I"] ++ wsX10)
def wsX1_backedUpMinutes : List Cond := .code yX1_backedUpMinutes cX1_backedUpMinutes 1 (some .int) :: ([.fieldLink RX1 64 "RoofDrains$Roof" "backedUp" "I"] ++ wsX10)
def wsX1_sumOf : List Cond := .code yX1_sumOf cX1_sumOf 6 (some .int) :: ([])
def wsX1_standingLitres : List Cond := .code yX1_standingLitres cX1_standingLitres 1 (some .int) :: ([.fieldLink RX1 21 "RoofDrains$Roof" "onPlane" "[I", .fieldLink RX1 36 "RoofDrains$Roof" "inGutter" "[I", .methodLink RX1 98 yX1_sumOf, .static yX1_sumOf, .initialized RX1, .code yX1_sumOf cX1_sumOf 6 (some .int)] ++ wsX10)
def wsX1_drainedLitres : List Cond := .code yX1_drainedLitres cX1_drainedLitres 1 (some .int) :: ([.fieldLink RX1 42 "RoofDrains$Roof" "drained" "[I", .methodLink RX1 98 yX1_sumOf, .static yX1_sumOf, .initialized RX1, .code yX1_sumOf cX1_sumOf 6 (some .int)] ++ wsX10)
def wsX1_spiltLitres : List Cond := .code yX1_spiltLitres cX1_spiltLitres 1 (some .int) :: ([.fieldLink RX1 39 "RoofDrains$Roof" "spilt" "[I", .methodLink RX1 98 yX1_sumOf, .static yX1_sumOf, .initialized RX1, .code yX1_sumOf cX1_sumOf 6 (some .int)] ++ wsX10)
def wsX1_leavesTogether : List Cond := .code yX1_leavesTogether cX1_leavesTogether 1 (some .int) :: ([.fieldLink RX1 30 "RoofDrains$Roof" "leaves" "[I", .methodLink RX1 98 yX1_sumOf, .static yX1_sumOf, .initialized RX1, .code yX1_sumOf cX1_sumOf 6 (some .int)] ++ wsX10)
def wsX2_init : List Cond := .code yX2_init cX2_init 1 none :: ([.methodLink RX2 1 objectInit, .instanceMethod objectInit, .code objectInit ⟨#[0xb1]⟩ 1 none, .classLink RX2 9 RX1, .fieldLink RX2 11 "RoofDrains$SavedRoofs" "rows" "[LRoofDrains$Roof;"] ++ wsX20)
def wsX2_held : List Cond := .code yX2_held cX2_held 1 (some .int) :: ([.fieldLink RX2 15 "RoofDrains$SavedRoofs" "held" "I"] ++ wsX20)
def wsX2_keep_r1 : List Cond := [Cond.fieldLink RX2 15 "RoofDrains$SavedRoofs" "held" "I", Cond.fieldLink RX2 19 "RoofDrains$SavedRoofs" "oldest" "I", Cond.fieldLink RX2 11 "RoofDrains$SavedRoofs" "rows" "[LRoofDrains$Roof;", Cond.classLink RX2 9 RX1, Cond.instantiable RX1 16, Cond.initialized RX1, Cond.methodLink RX2 22 yX1_init, Cond.instanceMethod yX1_init, Cond.code yX1_init cX1_init 2 none, Cond.methodLink RX1 3 objectInit, Cond.instanceMethod objectInit, Cond.code objectInit ⟨#[0xb1]⟩ 1 none, Cond.arrayClass .int, Cond.fieldLink RX1 9 "RoofDrains$Roof" "area" "[I", Cond.fieldLink RX1 15 "RoofDrains$Roof" "slope" "[I", Cond.fieldLink RX1 18 "RoofDrains$Roof" "leadsTo" "[I", Cond.fieldLink RX1 21 "RoofDrains$Roof" "onPlane" "[I", Cond.fieldLink RX1 24 "RoofDrains$Roof" "size" "[I", Cond.fieldLink RX1 27 "RoofDrains$Roof" "bore" "[I", Cond.fieldLink RX1 30 "RoofDrains$Roof" "leaves" "[I", Cond.fieldLink RX1 33 "RoofDrains$Roof" "valleyTo" "[I", Cond.fieldLink RX1 36 "RoofDrains$Roof" "inGutter" "[I", Cond.fieldLink RX1 39 "RoofDrains$Roof" "spilt" "[I", Cond.fieldLink RX1 42 "RoofDrains$Roof" "drained" "[I"]
def wsX2_keep_r2 : List Cond := [Cond.fieldLink RX1 45 "RoofDrains$Roof" "values" "[I", Cond.methodLink RX2 23 yX1_copyFrom, Cond.instanceMethod yX1_copyFrom, Cond.selects RX1 yX1_copyFrom yX1_copyFrom, Cond.code yX1_copyFrom cX1_copyFrom 2 none, Cond.methodLink RX1 48 arraycopyName, Cond.native arraycopyName, Cond.static arraycopyName, Cond.initialized "java/lang/System", Cond.fieldLink RX1 54 "RoofDrains$Roof" "minutesGone" "I", Cond.fieldLink RX1 58 "RoofDrains$Roof" "weeksPassed" "I", Cond.fieldLink RX1 61 "RoofDrains$Roof" "rained" "I", Cond.fieldLink RX1 64 "RoofDrains$Roof" "backedUp" "I"]
def wsX2_keep : List Cond := .code yX2_keep cX2_keep 4 none :: ((wsX2_keep_r1 ++ wsX2_keep_r2) ++ wsX20 ++ wsX10)
def wsX2_dropLatest : List Cond := .code yX2_dropLatest cX2_dropLatest 1 (some (.object "RoofDrains$Roof")) :: ([.fieldLink RX2 15 "RoofDrains$SavedRoofs" "held" "I", .fieldLink RX2 11 "RoofDrains$SavedRoofs" "rows" "[LRoofDrains$Roof;", .fieldLink RX2 19 "RoofDrains$SavedRoofs" "oldest" "I"] ++ wsX20)
def wsX3_init_r1 : List Cond := [Cond.methodLink RX3 1 objectInit, Cond.instanceMethod objectInit, Cond.code objectInit ⟨#[0xb1]⟩ 1 none, Cond.classLink RX3 7 RX1, Cond.instantiable RX1 16, Cond.initialized RX1, Cond.fieldLink RX3 10 "RoofDrains" "roof" "LRoofDrains$Roof;", Cond.fieldLink RX3 16 "RoofDrains" "thought" "LRoofDrains$Roof;", Cond.classLink RX3 19 RX2, Cond.instantiable RX2 3, Cond.initialized RX2, Cond.fieldLink RX3 22 "RoofDrains" "saved" "LRoofDrains$SavedRoofs;", Cond.classLink RX3 26 RX0, Cond.instantiable RX0 2, Cond.initialized RX0, Cond.fieldLink RX3 29 "RoofDrains" "text" "LRoofDrains$RainText;", Cond.methodLink RX3 9 yX1_init, Cond.instanceMethod yX1_init, Cond.code yX1_init cX1_init 2 none, Cond.methodLink RX1 3 objectInit, Cond.arrayClass .int, Cond.fieldLink RX1 9 "RoofDrains$Roof" "area" "[I", Cond.fieldLink RX1 15 "RoofDrains$Roof" "slope" "[I", Cond.fieldLink RX1 18 "RoofDrains$Roof" "leadsTo" "[I"]
def wsX3_init_r2 : List Cond := [Cond.fieldLink RX1 21 "RoofDrains$Roof" "onPlane" "[I", Cond.fieldLink RX1 24 "RoofDrains$Roof" "size" "[I", Cond.fieldLink RX1 27 "RoofDrains$Roof" "bore" "[I", Cond.fieldLink RX1 30 "RoofDrains$Roof" "leaves" "[I", Cond.fieldLink RX1 33 "RoofDrains$Roof" "valleyTo" "[I", Cond.fieldLink RX1 36 "RoofDrains$Roof" "inGutter" "[I", Cond.fieldLink RX1 39 "RoofDrains$Roof" "spilt" "[I", Cond.fieldLink RX1 42 "RoofDrains$Roof" "drained" "[I", Cond.fieldLink RX1 45 "RoofDrains$Roof" "values" "[I", Cond.methodLink RX3 21 yX2_init, Cond.instanceMethod yX2_init, Cond.code yX2_init cX2_init 1 none, Cond.methodLink RX2 1 objectInit, Cond.classLink RX2 9 RX1, Cond.fieldLink RX2 11 "RoofDrains$SavedRoofs" "rows" "[LRoofDrains$Roof;", Cond.methodLink RX3 28 yX0_init, Cond.instanceMethod yX0_init, Cond.code yX0_init cX0_init 1 none, Cond.methodLink RX0 1 objectInit, Cond.fieldLink RX0 9 "RoofDrains$RainText" "codes" "[I"]
def wsX3_init : List Cond := .code yX3_init cX3_init 1 none :: ((wsX3_init_r1 ++ wsX3_init_r2) ++ wsX10 ++ wsX30 ++ wsX20 ++ wsX00)
def wsX3_isPlane : List Cond := .code yX3_isPlane cX3_isPlane 1 (some .boolean) :: ([])
def wsX3_isWithin : List Cond := .code yX3_isWithin cX3_isWithin 3 (some .boolean) :: ([])
def wsX3_plane_r1 : List Cond := [Cond.classLink RX3 40 "java/lang/IndexOutOfBoundsException", Cond.initialized "java/lang/IndexOutOfBoundsException", Cond.classLink RX3 51 "java/lang/IllegalArgumentException", Cond.initialized "java/lang/IllegalArgumentException", Cond.fieldLink RX3 22 "RoofDrains" "saved" "LRoofDrains$SavedRoofs;", Cond.fieldLink RX3 10 "RoofDrains" "roof" "LRoofDrains$Roof;", Cond.methodLink RX3 33 yX3_isPlane, Cond.static yX3_isPlane, Cond.initialized RX3, Cond.code yX3_isPlane cX3_isPlane 1 (some .boolean), Cond.methodLink RX3 37 yX3_isGutter, Cond.static yX3_isGutter, Cond.code yX3_isGutter cX3_isGutter 1 (some .boolean), Cond.methodLink RX3 47 yX3_isWithin, Cond.static yX3_isWithin, Cond.code yX3_isWithin cX3_isWithin 3 (some .boolean), Cond.methodLink RX3 56 yX2_keep, Cond.instanceMethod yX2_keep, Cond.selects RX2 yX2_keep yX2_keep, Cond.initialized RX2, Cond.code yX2_keep cX2_keep 4 none, Cond.fieldLink RX2 15 "RoofDrains$SavedRoofs" "held" "I", Cond.fieldLink RX2 19 "RoofDrains$SavedRoofs" "oldest" "I", Cond.fieldLink RX2 11 "RoofDrains$SavedRoofs" "rows" "[LRoofDrains$Roof;"]
def wsX3_plane_r2 : List Cond := [Cond.classLink RX2 9 RX1, Cond.instantiable RX1 16, Cond.initialized RX1, Cond.methodLink RX2 22 yX1_init, Cond.instanceMethod yX1_init, Cond.code yX1_init cX1_init 2 none, Cond.methodLink RX1 3 objectInit, Cond.instanceMethod objectInit, Cond.code objectInit ⟨#[0xb1]⟩ 1 none, Cond.arrayClass .int, Cond.fieldLink RX1 9 "RoofDrains$Roof" "area" "[I", Cond.fieldLink RX1 15 "RoofDrains$Roof" "slope" "[I", Cond.fieldLink RX1 18 "RoofDrains$Roof" "leadsTo" "[I", Cond.fieldLink RX1 21 "RoofDrains$Roof" "onPlane" "[I", Cond.fieldLink RX1 24 "RoofDrains$Roof" "size" "[I", Cond.fieldLink RX1 27 "RoofDrains$Roof" "bore" "[I", Cond.fieldLink RX1 30 "RoofDrains$Roof" "leaves" "[I", Cond.fieldLink RX1 33 "RoofDrains$Roof" "valleyTo" "[I", Cond.fieldLink RX1 36 "RoofDrains$Roof" "inGutter" "[I", Cond.fieldLink RX1 39 "RoofDrains$Roof" "spilt" "[I", Cond.fieldLink RX1 42 "RoofDrains$Roof" "drained" "[I", Cond.fieldLink RX1 45 "RoofDrains$Roof" "values" "[I", Cond.methodLink RX2 23 yX1_copyFrom, Cond.instanceMethod yX1_copyFrom]
def wsX3_plane_r3 : List Cond := [Cond.selects RX1 yX1_copyFrom yX1_copyFrom, Cond.code yX1_copyFrom cX1_copyFrom 2 none, Cond.methodLink RX1 48 arraycopyName, Cond.native arraycopyName, Cond.static arraycopyName, Cond.initialized "java/lang/System", Cond.fieldLink RX1 54 "RoofDrains$Roof" "minutesGone" "I", Cond.fieldLink RX1 58 "RoofDrains$Roof" "weeksPassed" "I", Cond.fieldLink RX1 61 "RoofDrains$Roof" "rained" "I", Cond.fieldLink RX1 64 "RoofDrains$Roof" "backedUp" "I", Cond.methodLink RX3 60 yX1_changePlane, Cond.instanceMethod yX1_changePlane, Cond.selects RX1 yX1_changePlane yX1_changePlane, Cond.code yX1_changePlane cX1_changePlane 6 (some .int)]
def wsX3_plane : List Cond := .code yX3_plane cX3_plane 5 (some .int) :: ((wsX3_plane_r1 ++ (wsX3_plane_r2 ++ wsX3_plane_r3)) ++ wsX30 ++ wsX20 ++ wsX10 ++ (vx_atS RX3 44 "java/lang/IndexOutOfBoundsException" ["java/lang/RuntimeException", "java/lang/Exception"]).filter goodWord ++ (vx_atS RX3 55 "java/lang/IllegalArgumentException" ["java/lang/RuntimeException", "java/lang/Exception"]).filter goodWord)
def wsX3_gutter_r1 : List Cond := [Cond.classLink RX3 40 "java/lang/IndexOutOfBoundsException", Cond.initialized "java/lang/IndexOutOfBoundsException", Cond.classLink RX3 51 "java/lang/IllegalArgumentException", Cond.initialized "java/lang/IllegalArgumentException", Cond.fieldLink RX3 22 "RoofDrains" "saved" "LRoofDrains$SavedRoofs;", Cond.fieldLink RX3 10 "RoofDrains" "roof" "LRoofDrains$Roof;", Cond.methodLink RX3 37 yX3_isGutter, Cond.static yX3_isGutter, Cond.initialized RX3, Cond.code yX3_isGutter cX3_isGutter 1 (some .boolean), Cond.methodLink RX3 47 yX3_isWithin, Cond.static yX3_isWithin, Cond.code yX3_isWithin cX3_isWithin 3 (some .boolean), Cond.methodLink RX3 56 yX2_keep, Cond.instanceMethod yX2_keep, Cond.selects RX2 yX2_keep yX2_keep, Cond.initialized RX2, Cond.code yX2_keep cX2_keep 4 none, Cond.fieldLink RX2 15 "RoofDrains$SavedRoofs" "held" "I", Cond.fieldLink RX2 19 "RoofDrains$SavedRoofs" "oldest" "I", Cond.fieldLink RX2 11 "RoofDrains$SavedRoofs" "rows" "[LRoofDrains$Roof;", Cond.classLink RX2 9 RX1, Cond.instantiable RX1 16, Cond.initialized RX1]
def wsX3_gutter_r2 : List Cond := [Cond.methodLink RX2 22 yX1_init, Cond.instanceMethod yX1_init, Cond.code yX1_init cX1_init 2 none, Cond.methodLink RX1 3 objectInit, Cond.instanceMethod objectInit, Cond.code objectInit ⟨#[0xb1]⟩ 1 none, Cond.arrayClass .int, Cond.fieldLink RX1 9 "RoofDrains$Roof" "area" "[I", Cond.fieldLink RX1 15 "RoofDrains$Roof" "slope" "[I", Cond.fieldLink RX1 18 "RoofDrains$Roof" "leadsTo" "[I", Cond.fieldLink RX1 21 "RoofDrains$Roof" "onPlane" "[I", Cond.fieldLink RX1 24 "RoofDrains$Roof" "size" "[I", Cond.fieldLink RX1 27 "RoofDrains$Roof" "bore" "[I", Cond.fieldLink RX1 30 "RoofDrains$Roof" "leaves" "[I", Cond.fieldLink RX1 33 "RoofDrains$Roof" "valleyTo" "[I", Cond.fieldLink RX1 36 "RoofDrains$Roof" "inGutter" "[I", Cond.fieldLink RX1 39 "RoofDrains$Roof" "spilt" "[I", Cond.fieldLink RX1 42 "RoofDrains$Roof" "drained" "[I", Cond.fieldLink RX1 45 "RoofDrains$Roof" "values" "[I", Cond.methodLink RX2 23 yX1_copyFrom, Cond.instanceMethod yX1_copyFrom, Cond.selects RX1 yX1_copyFrom yX1_copyFrom, Cond.code yX1_copyFrom cX1_copyFrom 2 none, Cond.methodLink RX1 48 arraycopyName]
def wsX3_gutter_r3 : List Cond := [Cond.native arraycopyName, Cond.static arraycopyName, Cond.initialized "java/lang/System", Cond.fieldLink RX1 54 "RoofDrains$Roof" "minutesGone" "I", Cond.fieldLink RX1 58 "RoofDrains$Roof" "weeksPassed" "I", Cond.fieldLink RX1 61 "RoofDrains$Roof" "rained" "I", Cond.fieldLink RX1 64 "RoofDrains$Roof" "backedUp" "I", Cond.methodLink RX3 68 yX1_changeGutter, Cond.instanceMethod yX1_changeGutter, Cond.selects RX1 yX1_changeGutter yX1_changeGutter, Cond.code yX1_changeGutter cX1_changeGutter 5 (some .int)]
def wsX3_gutter : List Cond := .code yX3_gutter cX3_gutter 4 (some .int) :: ((wsX3_gutter_r1 ++ (wsX3_gutter_r2 ++ wsX3_gutter_r3)) ++ wsX30 ++ wsX20 ++ wsX10 ++ (vx_atS RX3 44 "java/lang/IndexOutOfBoundsException" ["java/lang/RuntimeException", "java/lang/Exception"]).filter goodWord ++ (vx_atS RX3 55 "java/lang/IllegalArgumentException" ["java/lang/RuntimeException", "java/lang/Exception"]).filter goodWord)
def wsX3_valley_r1 : List Cond := [Cond.classLink RX3 40 "java/lang/IndexOutOfBoundsException", Cond.initialized "java/lang/IndexOutOfBoundsException", Cond.classLink RX3 51 "java/lang/IllegalArgumentException", Cond.initialized "java/lang/IllegalArgumentException", Cond.classLink RX3 78 "java/lang/IllegalStateException", Cond.initialized "java/lang/IllegalStateException", Cond.fieldLink RX3 10 "RoofDrains" "roof" "LRoofDrains$Roof;", Cond.fieldLink RX3 22 "RoofDrains" "saved" "LRoofDrains$SavedRoofs;", Cond.methodLink RX3 37 yX3_isGutter, Cond.static yX3_isGutter, Cond.initialized RX3, Cond.code yX3_isGutter cX3_isGutter 1 (some .boolean), Cond.methodLink RX3 74 yX1_valleysLead, Cond.instanceMethod yX1_valleysLead, Cond.selects RX1 yX1_valleysLead yX1_valleysLead, Cond.initialized RX1, Cond.code yX1_valleysLead cX1_valleysLead 5 (some .boolean), Cond.fieldLink RX1 33 "RoofDrains$Roof" "valleyTo" "[I", Cond.methodLink RX3 56 yX2_keep, Cond.instanceMethod yX2_keep, Cond.selects RX2 yX2_keep yX2_keep, Cond.initialized RX2, Cond.code yX2_keep cX2_keep 4 none, Cond.fieldLink RX2 15 "RoofDrains$SavedRoofs" "held" "I"]
def wsX3_valley_r2 : List Cond := [Cond.fieldLink RX2 19 "RoofDrains$SavedRoofs" "oldest" "I", Cond.fieldLink RX2 11 "RoofDrains$SavedRoofs" "rows" "[LRoofDrains$Roof;", Cond.classLink RX2 9 RX1, Cond.instantiable RX1 16, Cond.methodLink RX2 22 yX1_init, Cond.instanceMethod yX1_init, Cond.code yX1_init cX1_init 2 none, Cond.methodLink RX1 3 objectInit, Cond.instanceMethod objectInit, Cond.code objectInit ⟨#[0xb1]⟩ 1 none, Cond.arrayClass .int, Cond.fieldLink RX1 9 "RoofDrains$Roof" "area" "[I", Cond.fieldLink RX1 15 "RoofDrains$Roof" "slope" "[I", Cond.fieldLink RX1 18 "RoofDrains$Roof" "leadsTo" "[I", Cond.fieldLink RX1 21 "RoofDrains$Roof" "onPlane" "[I", Cond.fieldLink RX1 24 "RoofDrains$Roof" "size" "[I", Cond.fieldLink RX1 27 "RoofDrains$Roof" "bore" "[I", Cond.fieldLink RX1 30 "RoofDrains$Roof" "leaves" "[I", Cond.fieldLink RX1 36 "RoofDrains$Roof" "inGutter" "[I", Cond.fieldLink RX1 39 "RoofDrains$Roof" "spilt" "[I", Cond.fieldLink RX1 42 "RoofDrains$Roof" "drained" "[I", Cond.fieldLink RX1 45 "RoofDrains$Roof" "values" "[I", Cond.methodLink RX2 23 yX1_copyFrom, Cond.instanceMethod yX1_copyFrom]
def wsX3_valley_r3 : List Cond := [Cond.selects RX1 yX1_copyFrom yX1_copyFrom, Cond.code yX1_copyFrom cX1_copyFrom 2 none, Cond.methodLink RX1 48 arraycopyName, Cond.native arraycopyName, Cond.static arraycopyName, Cond.initialized "java/lang/System", Cond.fieldLink RX1 54 "RoofDrains$Roof" "minutesGone" "I", Cond.fieldLink RX1 58 "RoofDrains$Roof" "weeksPassed" "I", Cond.fieldLink RX1 61 "RoofDrains$Roof" "rained" "I", Cond.fieldLink RX1 64 "RoofDrains$Roof" "backedUp" "I", Cond.methodLink RX3 83 yX1_changeValley, Cond.instanceMethod yX1_changeValley, Cond.selects RX1 yX1_changeValley yX1_changeValley, Cond.code yX1_changeValley cX1_changeValley 4 (some .int)]
def wsX3_valley : List Cond := .code yX3_valley cX3_valley 3 (some .int) :: ((wsX3_valley_r1 ++ (wsX3_valley_r2 ++ wsX3_valley_r3)) ++ wsX30 ++ wsX10 ++ wsX20 ++ (vx_atS RX3 44 "java/lang/IndexOutOfBoundsException" ["java/lang/RuntimeException", "java/lang/Exception"]).filter goodWord ++ (vx_atS RX3 55 "java/lang/IllegalArgumentException" ["java/lang/RuntimeException", "java/lang/Exception"]).filter goodWord ++ (vx_atS RX3 82 "java/lang/IllegalStateException" ["java/lang/RuntimeException", "java/lang/Exception"]).filter goodWord)
def wsX3_clean_r1 : List Cond := [Cond.classLink RX3 40 "java/lang/IndexOutOfBoundsException", Cond.initialized "java/lang/IndexOutOfBoundsException", Cond.fieldLink RX3 22 "RoofDrains" "saved" "LRoofDrains$SavedRoofs;", Cond.fieldLink RX3 10 "RoofDrains" "roof" "LRoofDrains$Roof;", Cond.methodLink RX3 37 yX3_isGutter, Cond.static yX3_isGutter, Cond.initialized RX3, Cond.code yX3_isGutter cX3_isGutter 1 (some .boolean), Cond.methodLink RX3 56 yX2_keep, Cond.instanceMethod yX2_keep, Cond.selects RX2 yX2_keep yX2_keep, Cond.initialized RX2, Cond.code yX2_keep cX2_keep 4 none, Cond.fieldLink RX2 15 "RoofDrains$SavedRoofs" "held" "I", Cond.fieldLink RX2 19 "RoofDrains$SavedRoofs" "oldest" "I", Cond.fieldLink RX2 11 "RoofDrains$SavedRoofs" "rows" "[LRoofDrains$Roof;", Cond.classLink RX2 9 RX1, Cond.instantiable RX1 16, Cond.initialized RX1, Cond.methodLink RX2 22 yX1_init, Cond.instanceMethod yX1_init, Cond.code yX1_init cX1_init 2 none, Cond.methodLink RX1 3 objectInit, Cond.instanceMethod objectInit]
def wsX3_clean_r2 : List Cond := [Cond.code objectInit ⟨#[0xb1]⟩ 1 none, Cond.arrayClass .int, Cond.fieldLink RX1 9 "RoofDrains$Roof" "area" "[I", Cond.fieldLink RX1 15 "RoofDrains$Roof" "slope" "[I", Cond.fieldLink RX1 18 "RoofDrains$Roof" "leadsTo" "[I", Cond.fieldLink RX1 21 "RoofDrains$Roof" "onPlane" "[I", Cond.fieldLink RX1 24 "RoofDrains$Roof" "size" "[I", Cond.fieldLink RX1 27 "RoofDrains$Roof" "bore" "[I", Cond.fieldLink RX1 30 "RoofDrains$Roof" "leaves" "[I", Cond.fieldLink RX1 33 "RoofDrains$Roof" "valleyTo" "[I", Cond.fieldLink RX1 36 "RoofDrains$Roof" "inGutter" "[I", Cond.fieldLink RX1 39 "RoofDrains$Roof" "spilt" "[I", Cond.fieldLink RX1 42 "RoofDrains$Roof" "drained" "[I", Cond.fieldLink RX1 45 "RoofDrains$Roof" "values" "[I", Cond.methodLink RX2 23 yX1_copyFrom, Cond.instanceMethod yX1_copyFrom, Cond.selects RX1 yX1_copyFrom yX1_copyFrom, Cond.code yX1_copyFrom cX1_copyFrom 2 none, Cond.methodLink RX1 48 arraycopyName, Cond.native arraycopyName, Cond.static arraycopyName, Cond.initialized "java/lang/System", Cond.fieldLink RX1 54 "RoofDrains$Roof" "minutesGone" "I", Cond.fieldLink RX1 58 "RoofDrains$Roof" "weeksPassed" "I"]
def wsX3_clean_r3 : List Cond := [Cond.fieldLink RX1 61 "RoofDrains$Roof" "rained" "I", Cond.fieldLink RX1 64 "RoofDrains$Roof" "backedUp" "I", Cond.methodLink RX3 87 yX1_takeLeaves, Cond.instanceMethod yX1_takeLeaves, Cond.selects RX1 yX1_takeLeaves yX1_takeLeaves, Cond.code yX1_takeLeaves cX1_takeLeaves 3 (some .int)]
def wsX3_clean : List Cond := .code yX3_clean cX3_clean 2 (some .int) :: ((wsX3_clean_r1 ++ (wsX3_clean_r2 ++ wsX3_clean_r3)) ++ wsX30 ++ wsX20 ++ wsX10 ++ (vx_atS RX3 44 "java/lang/IndexOutOfBoundsException" ["java/lang/RuntimeException", "java/lang/Exception"]).filter goodWord)
def wsX3_isSetting : List Cond := .code yX3_isSetting cX3_isSetting 1 (some .boolean) :: ([])
def wsX3_set_r1 : List Cond := [Cond.classLink RX3 40 "java/lang/IndexOutOfBoundsException", Cond.initialized "java/lang/IndexOutOfBoundsException", Cond.classLink RX3 51 "java/lang/IllegalArgumentException", Cond.initialized "java/lang/IllegalArgumentException", Cond.fieldLink RX3 96 "RoofDrains" "MOST_OF_SETTING" "[I", Cond.fieldLink RX3 22 "RoofDrains" "saved" "LRoofDrains$SavedRoofs;", Cond.fieldLink RX3 10 "RoofDrains" "roof" "LRoofDrains$Roof;", Cond.methodLink RX3 91 yX3_isSetting, Cond.static yX3_isSetting, Cond.initialized RX3, Cond.code yX3_isSetting cX3_isSetting 1 (some .boolean), Cond.methodLink RX3 47 yX3_isWithin, Cond.static yX3_isWithin, Cond.code yX3_isWithin cX3_isWithin 3 (some .boolean), Cond.methodLink RX3 56 yX2_keep, Cond.instanceMethod yX2_keep, Cond.selects RX2 yX2_keep yX2_keep, Cond.initialized RX2, Cond.code yX2_keep cX2_keep 4 none, Cond.fieldLink RX2 15 "RoofDrains$SavedRoofs" "held" "I", Cond.fieldLink RX2 19 "RoofDrains$SavedRoofs" "oldest" "I", Cond.fieldLink RX2 11 "RoofDrains$SavedRoofs" "rows" "[LRoofDrains$Roof;", Cond.classLink RX2 9 RX1, Cond.instantiable RX1 16]
def wsX3_set_r2 : List Cond := [Cond.initialized RX1, Cond.methodLink RX2 22 yX1_init, Cond.instanceMethod yX1_init, Cond.code yX1_init cX1_init 2 none, Cond.methodLink RX1 3 objectInit, Cond.instanceMethod objectInit, Cond.code objectInit ⟨#[0xb1]⟩ 1 none, Cond.arrayClass .int, Cond.fieldLink RX1 9 "RoofDrains$Roof" "area" "[I", Cond.fieldLink RX1 15 "RoofDrains$Roof" "slope" "[I", Cond.fieldLink RX1 18 "RoofDrains$Roof" "leadsTo" "[I", Cond.fieldLink RX1 21 "RoofDrains$Roof" "onPlane" "[I", Cond.fieldLink RX1 24 "RoofDrains$Roof" "size" "[I", Cond.fieldLink RX1 27 "RoofDrains$Roof" "bore" "[I", Cond.fieldLink RX1 30 "RoofDrains$Roof" "leaves" "[I", Cond.fieldLink RX1 33 "RoofDrains$Roof" "valleyTo" "[I", Cond.fieldLink RX1 36 "RoofDrains$Roof" "inGutter" "[I", Cond.fieldLink RX1 39 "RoofDrains$Roof" "spilt" "[I", Cond.fieldLink RX1 42 "RoofDrains$Roof" "drained" "[I", Cond.fieldLink RX1 45 "RoofDrains$Roof" "values" "[I", Cond.methodLink RX2 23 yX1_copyFrom, Cond.instanceMethod yX1_copyFrom, Cond.selects RX1 yX1_copyFrom yX1_copyFrom, Cond.code yX1_copyFrom cX1_copyFrom 2 none]
def wsX3_set_r3 : List Cond := [Cond.methodLink RX1 48 arraycopyName, Cond.native arraycopyName, Cond.static arraycopyName, Cond.initialized "java/lang/System", Cond.fieldLink RX1 54 "RoofDrains$Roof" "minutesGone" "I", Cond.fieldLink RX1 58 "RoofDrains$Roof" "weeksPassed" "I", Cond.fieldLink RX1 61 "RoofDrains$Roof" "rained" "I", Cond.fieldLink RX1 64 "RoofDrains$Roof" "backedUp" "I", Cond.methodLink RX3 102 yX1_changeSetting, Cond.instanceMethod yX1_changeSetting, Cond.selects RX1 yX1_changeSetting yX1_changeSetting, Cond.code yX1_changeSetting cX1_changeSetting 4 (some .int)]
def wsX3_set : List Cond := .code yX3_set cX3_set 3 (some .int) :: ((wsX3_set_r1 ++ (wsX3_set_r2 ++ wsX3_set_r3)) ++ wsX30 ++ wsX20 ++ wsX10 ++ (vx_atS RX3 44 "java/lang/IndexOutOfBoundsException" ["java/lang/RuntimeException", "java/lang/Exception"]).filter goodWord ++ (vx_atS RX3 55 "java/lang/IllegalArgumentException" ["java/lang/RuntimeException", "java/lang/Exception"]).filter goodWord)
def wsX3_rain_r1 : List Cond := [Cond.classLink RX3 51 "java/lang/IllegalArgumentException", Cond.initialized "java/lang/IllegalArgumentException", Cond.fieldLink RX3 22 "RoofDrains" "saved" "LRoofDrains$SavedRoofs;", Cond.fieldLink RX3 10 "RoofDrains" "roof" "LRoofDrains$Roof;", Cond.methodLink RX3 47 yX3_isWithin, Cond.static yX3_isWithin, Cond.initialized RX3, Cond.code yX3_isWithin cX3_isWithin 3 (some .boolean), Cond.methodLink RX3 56 yX2_keep, Cond.instanceMethod yX2_keep, Cond.selects RX2 yX2_keep yX2_keep, Cond.initialized RX2, Cond.code yX2_keep cX2_keep 4 none, Cond.fieldLink RX2 15 "RoofDrains$SavedRoofs" "held" "I", Cond.fieldLink RX2 19 "RoofDrains$SavedRoofs" "oldest" "I", Cond.fieldLink RX2 11 "RoofDrains$SavedRoofs" "rows" "[LRoofDrains$Roof;", Cond.classLink RX2 9 RX1, Cond.instantiable RX1 16, Cond.initialized RX1, Cond.methodLink RX2 22 yX1_init, Cond.instanceMethod yX1_init, Cond.code yX1_init cX1_init 2 none, Cond.methodLink RX1 3 objectInit, Cond.instanceMethod objectInit]
def wsX3_rain_r2 : List Cond := [Cond.code objectInit ⟨#[0xb1]⟩ 1 none, Cond.arrayClass .int, Cond.fieldLink RX1 9 "RoofDrains$Roof" "area" "[I", Cond.fieldLink RX1 15 "RoofDrains$Roof" "slope" "[I", Cond.fieldLink RX1 18 "RoofDrains$Roof" "leadsTo" "[I", Cond.fieldLink RX1 21 "RoofDrains$Roof" "onPlane" "[I", Cond.fieldLink RX1 24 "RoofDrains$Roof" "size" "[I", Cond.fieldLink RX1 27 "RoofDrains$Roof" "bore" "[I", Cond.fieldLink RX1 30 "RoofDrains$Roof" "leaves" "[I", Cond.fieldLink RX1 33 "RoofDrains$Roof" "valleyTo" "[I", Cond.fieldLink RX1 36 "RoofDrains$Roof" "inGutter" "[I", Cond.fieldLink RX1 39 "RoofDrains$Roof" "spilt" "[I", Cond.fieldLink RX1 42 "RoofDrains$Roof" "drained" "[I", Cond.fieldLink RX1 45 "RoofDrains$Roof" "values" "[I", Cond.methodLink RX2 23 yX1_copyFrom, Cond.instanceMethod yX1_copyFrom, Cond.selects RX1 yX1_copyFrom yX1_copyFrom, Cond.code yX1_copyFrom cX1_copyFrom 2 none, Cond.methodLink RX1 48 arraycopyName, Cond.native arraycopyName, Cond.static arraycopyName, Cond.initialized "java/lang/System", Cond.fieldLink RX1 54 "RoofDrains$Roof" "minutesGone" "I", Cond.fieldLink RX1 58 "RoofDrains$Roof" "weeksPassed" "I"]
def wsX3_rain_r3 : List Cond := [Cond.fieldLink RX1 61 "RoofDrains$Roof" "rained" "I", Cond.fieldLink RX1 64 "RoofDrains$Roof" "backedUp" "I", Cond.methodLink RX3 107 yX1_spiltLitres, Cond.instanceMethod yX1_spiltLitres, Cond.selects RX1 yX1_spiltLitres yX1_spiltLitres, Cond.code yX1_spiltLitres cX1_spiltLitres 1 (some .int), Cond.methodLink RX1 98 yX1_sumOf, Cond.static yX1_sumOf, Cond.code yX1_sumOf cX1_sumOf 6 (some .int), Cond.methodLink RX3 111 yX1_passMinutes, Cond.instanceMethod yX1_passMinutes, Cond.selects RX1 yX1_passMinutes yX1_passMinutes, Cond.code yX1_passMinutes cX1_passMinutes 4 none, Cond.methodLink RX1 71 yX1_passMinute, Cond.instanceMethod yX1_passMinute, Cond.selects RX1 yX1_passMinute yX1_passMinute, Cond.code yX1_passMinute cX1_passMinute 3 none, Cond.methodLink RX1 75 yX1_wetPlane, Cond.instanceMethod yX1_wetPlane, Cond.selects RX1 yX1_wetPlane yX1_wetPlane, Cond.code yX1_wetPlane cX1_wetPlane 6 none, Cond.static yX3_isGutter, Cond.code yX3_isGutter cX3_isGutter 1 (some .boolean), Cond.methodLink RX1 79 yX1_emptyIntoDrain]
def wsX3_rain_r4 : List Cond := [Cond.instanceMethod yX1_emptyIntoDrain, Cond.selects RX1 yX1_emptyIntoDrain yX1_emptyIntoDrain, Cond.code yX1_emptyIntoDrain cX1_emptyIntoDrain 6 none, Cond.methodLink RX1 85 Lib.Math.min.name, Cond.static Lib.Math.min.name, Cond.initialized "java/lang/Math", Cond.code Lib.Math.min.name Lib.Math.min.code 2 (some .int), Cond.methodLink RX1 91 yX1_pipeTakes, Cond.instanceMethod yX1_pipeTakes, Cond.selects RX1 yX1_pipeTakes yX1_pipeTakes, Cond.code yX1_pipeTakes cX1_pipeTakes 3 (some .int), Cond.methodLink RX1 82 yX1_overflow, Cond.instanceMethod yX1_overflow, Cond.selects RX1 yX1_overflow yX1_overflow, Cond.code yX1_overflow cX1_overflow 4 none, Cond.methodLink RX1 95 yX1_room, Cond.instanceMethod yX1_room, Cond.selects RX1 yX1_room yX1_room, Cond.code yX1_room cX1_room 2 (some .int)]
def wsX3_rain : List Cond := .code yX3_rain cX3_rain 4 (some .int) :: ((wsX3_rain_r1 ++ (wsX3_rain_r2 ++ (wsX3_rain_r3 ++ wsX3_rain_r4))) ++ wsX30 ++ wsX20 ++ wsX10 ++ (vx_atS RX3 55 "java/lang/IllegalArgumentException" ["java/lang/RuntimeException", "java/lang/Exception"]).filter goodWord)
def wsX3_weeks_r1 : List Cond := [Cond.classLink RX3 51 "java/lang/IllegalArgumentException", Cond.initialized "java/lang/IllegalArgumentException", Cond.fieldLink RX3 22 "RoofDrains" "saved" "LRoofDrains$SavedRoofs;", Cond.fieldLink RX3 10 "RoofDrains" "roof" "LRoofDrains$Roof;", Cond.methodLink RX3 47 yX3_isWithin, Cond.static yX3_isWithin, Cond.initialized RX3, Cond.code yX3_isWithin cX3_isWithin 3 (some .boolean), Cond.methodLink RX3 56 yX2_keep, Cond.instanceMethod yX2_keep, Cond.selects RX2 yX2_keep yX2_keep, Cond.initialized RX2, Cond.code yX2_keep cX2_keep 4 none, Cond.fieldLink RX2 15 "RoofDrains$SavedRoofs" "held" "I", Cond.fieldLink RX2 19 "RoofDrains$SavedRoofs" "oldest" "I", Cond.fieldLink RX2 11 "RoofDrains$SavedRoofs" "rows" "[LRoofDrains$Roof;", Cond.classLink RX2 9 RX1, Cond.instantiable RX1 16, Cond.initialized RX1, Cond.methodLink RX2 22 yX1_init, Cond.instanceMethod yX1_init, Cond.code yX1_init cX1_init 2 none, Cond.methodLink RX1 3 objectInit, Cond.instanceMethod objectInit]
def wsX3_weeks_r2 : List Cond := [Cond.code objectInit ⟨#[0xb1]⟩ 1 none, Cond.arrayClass .int, Cond.fieldLink RX1 9 "RoofDrains$Roof" "area" "[I", Cond.fieldLink RX1 15 "RoofDrains$Roof" "slope" "[I", Cond.fieldLink RX1 18 "RoofDrains$Roof" "leadsTo" "[I", Cond.fieldLink RX1 21 "RoofDrains$Roof" "onPlane" "[I", Cond.fieldLink RX1 24 "RoofDrains$Roof" "size" "[I", Cond.fieldLink RX1 27 "RoofDrains$Roof" "bore" "[I", Cond.fieldLink RX1 30 "RoofDrains$Roof" "leaves" "[I", Cond.fieldLink RX1 33 "RoofDrains$Roof" "valleyTo" "[I", Cond.fieldLink RX1 36 "RoofDrains$Roof" "inGutter" "[I", Cond.fieldLink RX1 39 "RoofDrains$Roof" "spilt" "[I", Cond.fieldLink RX1 42 "RoofDrains$Roof" "drained" "[I", Cond.fieldLink RX1 45 "RoofDrains$Roof" "values" "[I", Cond.methodLink RX2 23 yX1_copyFrom, Cond.instanceMethod yX1_copyFrom, Cond.selects RX1 yX1_copyFrom yX1_copyFrom, Cond.code yX1_copyFrom cX1_copyFrom 2 none, Cond.methodLink RX1 48 arraycopyName, Cond.native arraycopyName, Cond.static arraycopyName, Cond.initialized "java/lang/System", Cond.fieldLink RX1 54 "RoofDrains$Roof" "minutesGone" "I", Cond.fieldLink RX1 58 "RoofDrains$Roof" "weeksPassed" "I"]
def wsX3_weeks_r3 : List Cond := [Cond.fieldLink RX1 61 "RoofDrains$Roof" "rained" "I", Cond.fieldLink RX1 64 "RoofDrains$Roof" "backedUp" "I", Cond.methodLink RX3 117 yX1_passWeek, Cond.instanceMethod yX1_passWeek, Cond.selects RX1 yX1_passWeek yX1_passWeek, Cond.code yX1_passWeek cX1_passWeek 2 none, Cond.methodLink RX1 85 Lib.Math.min.name, Cond.static Lib.Math.min.name, Cond.initialized "java/lang/Math", Cond.code Lib.Math.min.name Lib.Math.min.code 2 (some .int), Cond.methodLink RX3 120 yX1_leavesTogether, Cond.instanceMethod yX1_leavesTogether, Cond.selects RX1 yX1_leavesTogether yX1_leavesTogether, Cond.code yX1_leavesTogether cX1_leavesTogether 1 (some .int), Cond.methodLink RX1 98 yX1_sumOf, Cond.static yX1_sumOf, Cond.code yX1_sumOf cX1_sumOf 6 (some .int)]
def wsX3_weeks : List Cond := .code yX3_weeks cX3_weeks 3 (some .int) :: ((wsX3_weeks_r1 ++ (wsX3_weeks_r2 ++ wsX3_weeks_r3)) ++ wsX30 ++ wsX20 ++ wsX10 ++ (vx_atS RX3 55 "java/lang/IllegalArgumentException" ["java/lang/RuntimeException", "java/lang/Exception"]).filter goodWord)
def wsX3_undo_r1 : List Cond := [Cond.classLink RX3 78 "java/lang/IllegalStateException", Cond.initialized "java/lang/IllegalStateException", Cond.fieldLink RX3 22 "RoofDrains" "saved" "LRoofDrains$SavedRoofs;", Cond.fieldLink RX3 10 "RoofDrains" "roof" "LRoofDrains$Roof;", Cond.methodLink RX3 152 yX2_dropLatest, Cond.instanceMethod yX2_dropLatest, Cond.selects RX2 yX2_dropLatest yX2_dropLatest, Cond.initialized RX2, Cond.code yX2_dropLatest cX2_dropLatest 1 (some (.object "RoofDrains$Roof")), Cond.fieldLink RX2 15 "RoofDrains$SavedRoofs" "held" "I", Cond.fieldLink RX2 11 "RoofDrains$SavedRoofs" "rows" "[LRoofDrains$Roof;", Cond.fieldLink RX2 19 "RoofDrains$SavedRoofs" "oldest" "I", Cond.methodLink RX3 158 yX1_copyFrom, Cond.instanceMethod yX1_copyFrom, Cond.selects RX1 yX1_copyFrom yX1_copyFrom, Cond.initialized RX1, Cond.code yX1_copyFrom cX1_copyFrom 2 none, Cond.fieldLink RX1 9 "RoofDrains$Roof" "area" "[I", Cond.methodLink RX1 48 arraycopyName, Cond.native arraycopyName, Cond.static arraycopyName, Cond.initialized "java/lang/System", Cond.fieldLink RX1 15 "RoofDrains$Roof" "slope" "[I", Cond.fieldLink RX1 18 "RoofDrains$Roof" "leadsTo" "[I"]
def wsX3_undo_r2 : List Cond := [Cond.fieldLink RX1 21 "RoofDrains$Roof" "onPlane" "[I", Cond.fieldLink RX1 24 "RoofDrains$Roof" "size" "[I", Cond.fieldLink RX1 27 "RoofDrains$Roof" "bore" "[I", Cond.fieldLink RX1 30 "RoofDrains$Roof" "leaves" "[I", Cond.fieldLink RX1 33 "RoofDrains$Roof" "valleyTo" "[I", Cond.fieldLink RX1 36 "RoofDrains$Roof" "inGutter" "[I", Cond.fieldLink RX1 39 "RoofDrains$Roof" "spilt" "[I", Cond.fieldLink RX1 42 "RoofDrains$Roof" "drained" "[I", Cond.fieldLink RX1 45 "RoofDrains$Roof" "values" "[I", Cond.fieldLink RX1 54 "RoofDrains$Roof" "minutesGone" "I", Cond.fieldLink RX1 58 "RoofDrains$Roof" "weeksPassed" "I", Cond.fieldLink RX1 61 "RoofDrains$Roof" "rained" "I", Cond.fieldLink RX1 64 "RoofDrains$Roof" "backedUp" "I", Cond.methodLink RX3 161 yX2_held, Cond.instanceMethod yX2_held, Cond.selects RX2 yX2_held yX2_held, Cond.code yX2_held cX2_held 1 (some .int)]
def wsX3_undo : List Cond := .code yX3_undo cX3_undo 2 (some .int) :: ((wsX3_undo_r1 ++ wsX3_undo_r2) ++ wsX30 ++ wsX20 ++ wsX10 ++ (vx_atS RX3 82 "java/lang/IllegalStateException" ["java/lang/RuntimeException", "java/lang/Exception"]).filter goodWord)
def wsX3_planeOf : List Cond := .code yX3_planeOf cX3_planeOf 3 (some .int) :: ([.classLink RX3 40 "java/lang/IndexOutOfBoundsException", .initialized "java/lang/IndexOutOfBoundsException", .classLink RX3 51 "java/lang/IllegalArgumentException", .initialized "java/lang/IllegalArgumentException", .fieldLink RX3 10 "RoofDrains" "roof" "LRoofDrains$Roof;", .methodLink RX3 33 yX3_isPlane, .static yX3_isPlane, .initialized RX3, .code yX3_isPlane cX3_isPlane 1 (some .boolean), .methodLink RX3 47 yX3_isWithin, .static yX3_isWithin, .code yX3_isWithin cX3_isWithin 3 (some .boolean), .methodLink RX3 168 yX1_planeNumber, .instanceMethod yX1_planeNumber, .selects RX1 yX1_planeNumber yX1_planeNumber, .initialized RX1, .code yX1_planeNumber cX1_planeNumber 3 (some .int), .fieldLink RX1 9 "RoofDrains$Roof" "area" "[I", .fieldLink RX1 15 "RoofDrains$Roof" "slope" "[I", .fieldLink RX1 18 "RoofDrains$Roof" "leadsTo" "[I", .fieldLink RX1 21 "RoofDrains$Roof" "onPlane" "[I"] ++ wsX30 ++ wsX10 ++ (vx_atS RX3 44 "java/lang/IndexOutOfBoundsException" ["java/lang/RuntimeException", "java/lang/Exception"]).filter goodWord ++ (vx_atS RX3 55 "java/lang/IllegalArgumentException" ["java/lang/RuntimeException", "java/lang/Exception"]).filter goodWord)
def wsX3_gutterOf_r1 : List Cond := [Cond.classLink RX3 40 "java/lang/IndexOutOfBoundsException", Cond.initialized "java/lang/IndexOutOfBoundsException", Cond.classLink RX3 51 "java/lang/IllegalArgumentException", Cond.initialized "java/lang/IllegalArgumentException", Cond.fieldLink RX3 10 "RoofDrains" "roof" "LRoofDrains$Roof;", Cond.methodLink RX3 37 yX3_isGutter, Cond.static yX3_isGutter, Cond.initialized RX3, Cond.code yX3_isGutter cX3_isGutter 1 (some .boolean), Cond.methodLink RX3 47 yX3_isWithin, Cond.static yX3_isWithin, Cond.code yX3_isWithin cX3_isWithin 3 (some .boolean), Cond.methodLink RX3 173 yX1_gutterNumber, Cond.instanceMethod yX1_gutterNumber, Cond.selects RX1 yX1_gutterNumber yX1_gutterNumber, Cond.initialized RX1, Cond.code yX1_gutterNumber cX1_gutterNumber 3 (some .int), Cond.fieldLink RX1 24 "RoofDrains$Roof" "size" "[I", Cond.fieldLink RX1 27 "RoofDrains$Roof" "bore" "[I", Cond.fieldLink RX1 30 "RoofDrains$Roof" "leaves" "[I", Cond.fieldLink RX1 33 "RoofDrains$Roof" "valleyTo" "[I", Cond.fieldLink RX1 36 "RoofDrains$Roof" "inGutter" "[I", Cond.fieldLink RX1 39 "RoofDrains$Roof" "spilt" "[I", Cond.fieldLink RX1 42 "RoofDrains$Roof" "drained" "[I"]
def wsX3_gutterOf_r2 : List Cond := [Cond.methodLink RX1 95 yX1_room, Cond.instanceMethod yX1_room, Cond.selects RX1 yX1_room yX1_room, Cond.code yX1_room cX1_room 2 (some .int), Cond.methodLink RX1 91 yX1_pipeTakes, Cond.instanceMethod yX1_pipeTakes, Cond.selects RX1 yX1_pipeTakes yX1_pipeTakes, Cond.code yX1_pipeTakes cX1_pipeTakes 3 (some .int)]
def wsX3_gutterOf : List Cond := .code yX3_gutterOf cX3_gutterOf 3 (some .int) :: ((wsX3_gutterOf_r1 ++ wsX3_gutterOf_r2) ++ wsX30 ++ wsX10 ++ (vx_atS RX3 44 "java/lang/IndexOutOfBoundsException" ["java/lang/RuntimeException", "java/lang/Exception"]).filter goodWord ++ (vx_atS RX3 55 "java/lang/IllegalArgumentException" ["java/lang/RuntimeException", "java/lang/Exception"]).filter goodWord)
def wsX3_count_r1 : List Cond := [Cond.classLink RX3 51 "java/lang/IllegalArgumentException", Cond.initialized "java/lang/IllegalArgumentException", Cond.fieldLink RX3 10 "RoofDrains" "roof" "LRoofDrains$Roof;", Cond.fieldLink RX3 22 "RoofDrains" "saved" "LRoofDrains$SavedRoofs;", Cond.methodLink RX3 176 yX1_minutesGone, Cond.instanceMethod yX1_minutesGone, Cond.selects RX1 yX1_minutesGone yX1_minutesGone, Cond.initialized RX1, Cond.code yX1_minutesGone cX1_minutesGone 1 (some .int), Cond.fieldLink RX1 54 "RoofDrains$Roof" "minutesGone" "I", Cond.methodLink RX3 179 yX1_weeksPassed, Cond.instanceMethod yX1_weeksPassed, Cond.selects RX1 yX1_weeksPassed yX1_weeksPassed, Cond.code yX1_weeksPassed cX1_weeksPassed 1 (some .int), Cond.fieldLink RX1 58 "RoofDrains$Roof" "weeksPassed" "I", Cond.methodLink RX3 182 yX1_rainedLitres, Cond.instanceMethod yX1_rainedLitres, Cond.selects RX1 yX1_rainedLitres yX1_rainedLitres, Cond.code yX1_rainedLitres cX1_rainedLitres 1 (some .int), Cond.fieldLink RX1 61 "RoofDrains$Roof" "rained" "I", Cond.methodLink RX3 185 yX1_standingLitres, Cond.instanceMethod yX1_standingLitres, Cond.selects RX1 yX1_standingLitres yX1_standingLitres, Cond.code yX1_standingLitres cX1_standingLitres 1 (some .int)]
def wsX3_count_r2 : List Cond := [Cond.fieldLink RX1 21 "RoofDrains$Roof" "onPlane" "[I", Cond.fieldLink RX1 36 "RoofDrains$Roof" "inGutter" "[I", Cond.methodLink RX1 98 yX1_sumOf, Cond.static yX1_sumOf, Cond.code yX1_sumOf cX1_sumOf 6 (some .int), Cond.methodLink RX3 188 yX1_drainedLitres, Cond.instanceMethod yX1_drainedLitres, Cond.selects RX1 yX1_drainedLitres yX1_drainedLitres, Cond.code yX1_drainedLitres cX1_drainedLitres 1 (some .int), Cond.fieldLink RX1 42 "RoofDrains$Roof" "drained" "[I", Cond.methodLink RX3 107 yX1_spiltLitres, Cond.instanceMethod yX1_spiltLitres, Cond.selects RX1 yX1_spiltLitres yX1_spiltLitres, Cond.code yX1_spiltLitres cX1_spiltLitres 1 (some .int), Cond.fieldLink RX1 39 "RoofDrains$Roof" "spilt" "[I", Cond.methodLink RX3 191 yX1_backedUpMinutes, Cond.instanceMethod yX1_backedUpMinutes, Cond.selects RX1 yX1_backedUpMinutes yX1_backedUpMinutes, Cond.code yX1_backedUpMinutes cX1_backedUpMinutes 1 (some .int), Cond.fieldLink RX1 64 "RoofDrains$Roof" "backedUp" "I", Cond.methodLink RX3 120 yX1_leavesTogether, Cond.instanceMethod yX1_leavesTogether, Cond.selects RX1 yX1_leavesTogether yX1_leavesTogether, Cond.code yX1_leavesTogether cX1_leavesTogether 1 (some .int)]
def wsX3_count_r3 : List Cond := [Cond.fieldLink RX1 30 "RoofDrains$Roof" "leaves" "[I", Cond.methodLink RX3 161 yX2_held, Cond.instanceMethod yX2_held, Cond.selects RX2 yX2_held yX2_held, Cond.initialized RX2, Cond.code yX2_held cX2_held 1 (some .int), Cond.fieldLink RX2 15 "RoofDrains$SavedRoofs" "held" "I"]
def wsX3_count : List Cond := .code yX3_count cX3_count 2 (some .int) :: ((wsX3_count_r1 ++ (wsX3_count_r2 ++ wsX3_count_r3)) ++ wsX30 ++ wsX10 ++ wsX20 ++ (vx_atS RX3 55 "java/lang/IllegalArgumentException" ["java/lang/RuntimeException", "java/lang/Exception"]).filter goodWord)
def wsX3_setting : List Cond := .code yX3_setting cX3_setting 2 (some .int) :: ([.classLink RX3 40 "java/lang/IndexOutOfBoundsException", .initialized "java/lang/IndexOutOfBoundsException", .fieldLink RX3 10 "RoofDrains" "roof" "LRoofDrains$Roof;", .methodLink RX3 91 yX3_isSetting, .static yX3_isSetting, .initialized RX3, .code yX3_isSetting cX3_isSetting 1 (some .boolean), .methodLink RX3 194 yX1_settingValue, .instanceMethod yX1_settingValue, .selects RX1 yX1_settingValue yX1_settingValue, .initialized RX1, .code yX1_settingValue cX1_settingValue 2 (some .int), .fieldLink RX1 45 "RoofDrains$Roof" "values" "[I"] ++ wsX30 ++ wsX10 ++ (vx_atS RX3 44 "java/lang/IndexOutOfBoundsException" ["java/lang/RuntimeException", "java/lang/Exception"]).filter goodWord)
def wsX3_dryIn_r1 : List Cond := [Cond.fieldLink RX3 16 "RoofDrains" "thought" "LRoofDrains$Roof;", Cond.fieldLink RX3 10 "RoofDrains" "roof" "LRoofDrains$Roof;", Cond.methodLink RX3 158 yX1_copyFrom, Cond.instanceMethod yX1_copyFrom, Cond.selects RX1 yX1_copyFrom yX1_copyFrom, Cond.initialized RX1, Cond.code yX1_copyFrom cX1_copyFrom 2 none, Cond.fieldLink RX1 9 "RoofDrains$Roof" "area" "[I", Cond.methodLink RX1 48 arraycopyName, Cond.native arraycopyName, Cond.static arraycopyName, Cond.initialized "java/lang/System", Cond.fieldLink RX1 15 "RoofDrains$Roof" "slope" "[I", Cond.fieldLink RX1 18 "RoofDrains$Roof" "leadsTo" "[I", Cond.fieldLink RX1 21 "RoofDrains$Roof" "onPlane" "[I", Cond.fieldLink RX1 24 "RoofDrains$Roof" "size" "[I", Cond.fieldLink RX1 27 "RoofDrains$Roof" "bore" "[I", Cond.fieldLink RX1 30 "RoofDrains$Roof" "leaves" "[I", Cond.fieldLink RX1 33 "RoofDrains$Roof" "valleyTo" "[I", Cond.fieldLink RX1 36 "RoofDrains$Roof" "inGutter" "[I", Cond.fieldLink RX1 39 "RoofDrains$Roof" "spilt" "[I", Cond.fieldLink RX1 42 "RoofDrains$Roof" "drained" "[I", Cond.fieldLink RX1 45 "RoofDrains$Roof" "values" "[I", Cond.fieldLink RX1 54 "RoofDrains$Roof" "minutesGone" "I"]
def wsX3_dryIn_r2 : List Cond := [Cond.fieldLink RX1 58 "RoofDrains$Roof" "weeksPassed" "I", Cond.fieldLink RX1 61 "RoofDrains$Roof" "rained" "I", Cond.fieldLink RX1 64 "RoofDrains$Roof" "backedUp" "I", Cond.methodLink RX3 185 yX1_standingLitres, Cond.instanceMethod yX1_standingLitres, Cond.selects RX1 yX1_standingLitres yX1_standingLitres, Cond.code yX1_standingLitres cX1_standingLitres 1 (some .int), Cond.methodLink RX1 98 yX1_sumOf, Cond.static yX1_sumOf, Cond.code yX1_sumOf cX1_sumOf 6 (some .int), Cond.methodLink RX3 201 yX1_passMinute, Cond.instanceMethod yX1_passMinute, Cond.selects RX1 yX1_passMinute yX1_passMinute, Cond.code yX1_passMinute cX1_passMinute 3 none, Cond.methodLink RX1 75 yX1_wetPlane, Cond.instanceMethod yX1_wetPlane, Cond.selects RX1 yX1_wetPlane yX1_wetPlane, Cond.code yX1_wetPlane cX1_wetPlane 6 none, Cond.static yX3_isGutter, Cond.initialized RX3, Cond.code yX3_isGutter cX3_isGutter 1 (some .boolean), Cond.methodLink RX1 79 yX1_emptyIntoDrain, Cond.instanceMethod yX1_emptyIntoDrain, Cond.selects RX1 yX1_emptyIntoDrain yX1_emptyIntoDrain]
def wsX3_dryIn_r3 : List Cond := [Cond.code yX1_emptyIntoDrain cX1_emptyIntoDrain 6 none, Cond.methodLink RX1 85 Lib.Math.min.name, Cond.static Lib.Math.min.name, Cond.initialized "java/lang/Math", Cond.code Lib.Math.min.name Lib.Math.min.code 2 (some .int), Cond.methodLink RX1 91 yX1_pipeTakes, Cond.instanceMethod yX1_pipeTakes, Cond.selects RX1 yX1_pipeTakes yX1_pipeTakes, Cond.code yX1_pipeTakes cX1_pipeTakes 3 (some .int), Cond.methodLink RX1 82 yX1_overflow, Cond.instanceMethod yX1_overflow, Cond.selects RX1 yX1_overflow yX1_overflow, Cond.code yX1_overflow cX1_overflow 4 none, Cond.methodLink RX1 95 yX1_room, Cond.instanceMethod yX1_room, Cond.selects RX1 yX1_room yX1_room, Cond.code yX1_room cX1_room 2 (some .int)]
def wsX3_dryIn : List Cond := .code yX3_dryIn cX3_dryIn 2 (some .int) :: ((wsX3_dryIn_r1 ++ (wsX3_dryIn_r2 ++ wsX3_dryIn_r3)) ++ wsX30 ++ wsX10)
def wsX3_drainedShare : List Cond := .code yX3_drainedShare cX3_drainedShare 2 (some .double) :: ([.fieldLink RX3 10 "RoofDrains" "roof" "LRoofDrains$Roof;", .methodLink RX3 182 yX1_rainedLitres, .instanceMethod yX1_rainedLitres, .selects RX1 yX1_rainedLitres yX1_rainedLitres, .initialized RX1, .code yX1_rainedLitres cX1_rainedLitres 1 (some .int), .fieldLink RX1 61 "RoofDrains$Roof" "rained" "I", .methodLink RX3 188 yX1_drainedLitres, .instanceMethod yX1_drainedLitres, .selects RX1 yX1_drainedLitres yX1_drainedLitres, .code yX1_drainedLitres cX1_drainedLitres 1 (some .int), .fieldLink RX1 42 "RoofDrains$Roof" "drained" "[I", .methodLink RX1 98 yX1_sumOf, .static yX1_sumOf, .code yX1_sumOf cX1_sumOf 6 (some .int)] ++ wsX30 ++ wsX10)
def wsJ9_min_7cf53 : List Cond := .code yJ9_min_7cf53 cJ9_min_7cf53 2 (some .int) :: ([])
def wsL_cell : List Cond := .code yL_cell cL_cell 2 (some .int) :: ([])
def wsL_low : List Cond := .code yL_low cL_low 2 (some .int) :: ([.constant RL 7 (2147483647)])
def wsL_told_r1 : List Cond := [Cond.constantLong RL 8 (3), Cond.constantLong RL 10 (31), Cond.methodLink RL 12 yX3_count, Cond.instanceMethod yX3_count, Cond.selects RX3 yX3_count yX3_count, Cond.initialized RX3, Cond.code yX3_count cX3_count 2 (some .int), Cond.classLink RX3 51 "java/lang/IllegalArgumentException", Cond.initialized "java/lang/IllegalArgumentException", Cond.fieldLink RX3 10 "RoofDrains" "roof" "LRoofDrains$Roof;", Cond.fieldLink RX3 22 "RoofDrains" "saved" "LRoofDrains$SavedRoofs;", Cond.methodLink RX3 176 yX1_minutesGone, Cond.instanceMethod yX1_minutesGone, Cond.selects RX1 yX1_minutesGone yX1_minutesGone, Cond.initialized RX1, Cond.code yX1_minutesGone cX1_minutesGone 1 (some .int), Cond.fieldLink RX1 54 "RoofDrains$Roof" "minutesGone" "I", Cond.methodLink RX3 179 yX1_weeksPassed, Cond.instanceMethod yX1_weeksPassed, Cond.selects RX1 yX1_weeksPassed yX1_weeksPassed, Cond.code yX1_weeksPassed cX1_weeksPassed 1 (some .int), Cond.fieldLink RX1 58 "RoofDrains$Roof" "weeksPassed" "I", Cond.methodLink RX3 182 yX1_rainedLitres, Cond.instanceMethod yX1_rainedLitres]
def wsL_told_r2 : List Cond := [Cond.selects RX1 yX1_rainedLitres yX1_rainedLitres, Cond.code yX1_rainedLitres cX1_rainedLitres 1 (some .int), Cond.fieldLink RX1 61 "RoofDrains$Roof" "rained" "I", Cond.methodLink RX3 185 yX1_standingLitres, Cond.instanceMethod yX1_standingLitres, Cond.selects RX1 yX1_standingLitres yX1_standingLitres, Cond.code yX1_standingLitres cX1_standingLitres 1 (some .int), Cond.fieldLink RX1 21 "RoofDrains$Roof" "onPlane" "[I", Cond.fieldLink RX1 36 "RoofDrains$Roof" "inGutter" "[I", Cond.methodLink RX1 98 yX1_sumOf, Cond.static yX1_sumOf, Cond.code yX1_sumOf cX1_sumOf 6 (some .int), Cond.methodLink RX3 188 yX1_drainedLitres, Cond.instanceMethod yX1_drainedLitres, Cond.selects RX1 yX1_drainedLitres yX1_drainedLitres, Cond.code yX1_drainedLitres cX1_drainedLitres 1 (some .int), Cond.fieldLink RX1 42 "RoofDrains$Roof" "drained" "[I", Cond.methodLink RX3 107 yX1_spiltLitres, Cond.instanceMethod yX1_spiltLitres, Cond.selects RX1 yX1_spiltLitres yX1_spiltLitres, Cond.code yX1_spiltLitres cX1_spiltLitres 1 (some .int), Cond.fieldLink RX1 39 "RoofDrains$Roof" "spilt" "[I", Cond.methodLink RX3 191 yX1_backedUpMinutes, Cond.instanceMethod yX1_backedUpMinutes]
def wsL_told_r3 : List Cond := [Cond.selects RX1 yX1_backedUpMinutes yX1_backedUpMinutes, Cond.code yX1_backedUpMinutes cX1_backedUpMinutes 1 (some .int), Cond.fieldLink RX1 64 "RoofDrains$Roof" "backedUp" "I", Cond.methodLink RX3 120 yX1_leavesTogether, Cond.instanceMethod yX1_leavesTogether, Cond.selects RX1 yX1_leavesTogether yX1_leavesTogether, Cond.code yX1_leavesTogether cX1_leavesTogether 1 (some .int), Cond.fieldLink RX1 30 "RoofDrains$Roof" "leaves" "[I", Cond.methodLink RX3 161 yX2_held, Cond.instanceMethod yX2_held, Cond.selects RX2 yX2_held yX2_held, Cond.initialized RX2, Cond.code yX2_held cX2_held 1 (some .int), Cond.fieldLink RX2 15 "RoofDrains$SavedRoofs" "held" "I", Cond.methodLink RL 18 yX3_setting, Cond.instanceMethod yX3_setting, Cond.selects RX3 yX3_setting yX3_setting, Cond.code yX3_setting cX3_setting 2 (some .int), Cond.classLink RX3 40 "java/lang/IndexOutOfBoundsException", Cond.initialized "java/lang/IndexOutOfBoundsException", Cond.methodLink RX3 91 yX3_isSetting, Cond.static yX3_isSetting, Cond.code yX3_isSetting cX3_isSetting 1 (some .boolean), Cond.methodLink RX3 194 yX1_settingValue]
def wsL_told_r4 : List Cond := [Cond.instanceMethod yX1_settingValue, Cond.selects RX1 yX1_settingValue yX1_settingValue, Cond.code yX1_settingValue cX1_settingValue 2 (some .int), Cond.fieldLink RX1 45 "RoofDrains$Roof" "values" "[I", Cond.methodLink RL 21 yX3_gutterOf, Cond.instanceMethod yX3_gutterOf, Cond.selects RX3 yX3_gutterOf yX3_gutterOf, Cond.code yX3_gutterOf cX3_gutterOf 3 (some .int), Cond.methodLink RX3 37 yX3_isGutter, Cond.static yX3_isGutter, Cond.code yX3_isGutter cX3_isGutter 1 (some .boolean), Cond.methodLink RX3 47 yX3_isWithin, Cond.static yX3_isWithin, Cond.code yX3_isWithin cX3_isWithin 3 (some .boolean), Cond.methodLink RX3 173 yX1_gutterNumber, Cond.instanceMethod yX1_gutterNumber, Cond.selects RX1 yX1_gutterNumber yX1_gutterNumber, Cond.code yX1_gutterNumber cX1_gutterNumber 3 (some .int), Cond.fieldLink RX1 24 "RoofDrains$Roof" "size" "[I", Cond.fieldLink RX1 27 "RoofDrains$Roof" "bore" "[I", Cond.fieldLink RX1 33 "RoofDrains$Roof" "valleyTo" "[I", Cond.methodLink RX1 95 yX1_room, Cond.instanceMethod yX1_room, Cond.selects RX1 yX1_room yX1_room]
def wsL_told_r5 : List Cond := [Cond.code yX1_room cX1_room 2 (some .int), Cond.methodLink RX1 91 yX1_pipeTakes, Cond.instanceMethod yX1_pipeTakes, Cond.selects RX1 yX1_pipeTakes yX1_pipeTakes, Cond.code yX1_pipeTakes cX1_pipeTakes 3 (some .int), Cond.methodLink RL 25 yX3_planeOf, Cond.instanceMethod yX3_planeOf, Cond.selects RX3 yX3_planeOf yX3_planeOf, Cond.code yX3_planeOf cX3_planeOf 3 (some .int), Cond.methodLink RX3 33 yX3_isPlane, Cond.static yX3_isPlane, Cond.code yX3_isPlane cX3_isPlane 1 (some .boolean), Cond.methodLink RX3 168 yX1_planeNumber, Cond.instanceMethod yX1_planeNumber, Cond.selects RX1 yX1_planeNumber yX1_planeNumber, Cond.code yX1_planeNumber cX1_planeNumber 3 (some .int), Cond.fieldLink RX1 9 "RoofDrains$Roof" "area" "[I", Cond.fieldLink RX1 15 "RoofDrains$Roof" "slope" "[I", Cond.fieldLink RX1 18 "RoofDrains$Roof" "leadsTo" "[I"]
def wsL_told : List Cond := .code yL_told cL_told 5 (some .long) :: ((wsL_told_r1 ++ (wsL_told_r2 ++ (wsL_told_r3 ++ (wsL_told_r4 ++ wsL_told_r5)))) ++ wsX30 ++ wsX10 ++ wsX20 ++ (vx_atS RX3 55 "java/lang/IllegalArgumentException" ["java/lang/RuntimeException", "java/lang/Exception"]).filter goodWord ++ (vx_atS RX3 44 "java/lang/IndexOutOfBoundsException" ["java/lang/RuntimeException", "java/lang/Exception"]).filter goodWord)
def wsL_leads_r1 : List Cond := [Cond.methodLink RL 21 yX3_gutterOf, Cond.instanceMethod yX3_gutterOf, Cond.selects RX3 yX3_gutterOf yX3_gutterOf, Cond.initialized RX3, Cond.code yX3_gutterOf cX3_gutterOf 3 (some .int), Cond.classLink RX3 40 "java/lang/IndexOutOfBoundsException", Cond.initialized "java/lang/IndexOutOfBoundsException", Cond.classLink RX3 51 "java/lang/IllegalArgumentException", Cond.initialized "java/lang/IllegalArgumentException", Cond.fieldLink RX3 10 "RoofDrains" "roof" "LRoofDrains$Roof;", Cond.methodLink RX3 37 yX3_isGutter, Cond.static yX3_isGutter, Cond.code yX3_isGutter cX3_isGutter 1 (some .boolean), Cond.methodLink RX3 47 yX3_isWithin, Cond.static yX3_isWithin, Cond.code yX3_isWithin cX3_isWithin 3 (some .boolean), Cond.methodLink RX3 173 yX1_gutterNumber, Cond.instanceMethod yX1_gutterNumber, Cond.selects RX1 yX1_gutterNumber yX1_gutterNumber, Cond.initialized RX1, Cond.code yX1_gutterNumber cX1_gutterNumber 3 (some .int), Cond.fieldLink RX1 24 "RoofDrains$Roof" "size" "[I", Cond.fieldLink RX1 27 "RoofDrains$Roof" "bore" "[I", Cond.fieldLink RX1 30 "RoofDrains$Roof" "leaves" "[I"]
def wsL_leads_r2 : List Cond := [Cond.fieldLink RX1 33 "RoofDrains$Roof" "valleyTo" "[I", Cond.fieldLink RX1 36 "RoofDrains$Roof" "inGutter" "[I", Cond.fieldLink RX1 39 "RoofDrains$Roof" "spilt" "[I", Cond.fieldLink RX1 42 "RoofDrains$Roof" "drained" "[I", Cond.methodLink RX1 95 yX1_room, Cond.instanceMethod yX1_room, Cond.selects RX1 yX1_room yX1_room, Cond.code yX1_room cX1_room 2 (some .int), Cond.methodLink RX1 91 yX1_pipeTakes, Cond.instanceMethod yX1_pipeTakes, Cond.selects RX1 yX1_pipeTakes yX1_pipeTakes, Cond.code yX1_pipeTakes cX1_pipeTakes 3 (some .int)]
def wsL_leads : List Cond := .code yL_leads cL_leads 5 (some .boolean) :: ((wsL_leads_r1 ++ wsL_leads_r2) ++ wsX30 ++ wsX10 ++ (vx_atS RX3 44 "java/lang/IndexOutOfBoundsException" ["java/lang/RuntimeException", "java/lang/Exception"]).filter goodWord ++ (vx_atS RX3 55 "java/lang/IllegalArgumentException" ["java/lang/RuntimeException", "java/lang/Exception"]).filter goodWord)
def wsL_act_r1 : List Cond := [Cond.methodLink RL 28 yL_low, Cond.static yL_low, Cond.initialized RL, Cond.code yL_low cL_low 2 (some .int), Cond.constant RL 7 (2147483647), Cond.methodLink RL 33 yX3_plane, Cond.instanceMethod yX3_plane, Cond.selects RX3 yX3_plane yX3_plane, Cond.initialized RX3, Cond.code yX3_plane cX3_plane 5 (some .int), Cond.classLink RX3 40 "java/lang/IndexOutOfBoundsException", Cond.initialized "java/lang/IndexOutOfBoundsException", Cond.classLink RX3 51 "java/lang/IllegalArgumentException", Cond.initialized "java/lang/IllegalArgumentException", Cond.fieldLink RX3 22 "RoofDrains" "saved" "LRoofDrains$SavedRoofs;", Cond.fieldLink RX3 10 "RoofDrains" "roof" "LRoofDrains$Roof;", Cond.methodLink RX3 33 yX3_isPlane, Cond.static yX3_isPlane, Cond.code yX3_isPlane cX3_isPlane 1 (some .boolean), Cond.methodLink RX3 37 yX3_isGutter, Cond.static yX3_isGutter, Cond.code yX3_isGutter cX3_isGutter 1 (some .boolean), Cond.methodLink RX3 47 yX3_isWithin, Cond.static yX3_isWithin]
def wsL_act_r2 : List Cond := [Cond.code yX3_isWithin cX3_isWithin 3 (some .boolean), Cond.methodLink RX3 56 yX2_keep, Cond.instanceMethod yX2_keep, Cond.selects RX2 yX2_keep yX2_keep, Cond.initialized RX2, Cond.code yX2_keep cX2_keep 4 none, Cond.fieldLink RX2 15 "RoofDrains$SavedRoofs" "held" "I", Cond.fieldLink RX2 19 "RoofDrains$SavedRoofs" "oldest" "I", Cond.fieldLink RX2 11 "RoofDrains$SavedRoofs" "rows" "[LRoofDrains$Roof;", Cond.classLink RX2 9 RX1, Cond.instantiable RX1 16, Cond.initialized RX1, Cond.methodLink RX2 22 yX1_init, Cond.instanceMethod yX1_init, Cond.code yX1_init cX1_init 2 none, Cond.methodLink RX1 3 objectInit, Cond.instanceMethod objectInit, Cond.code objectInit ⟨#[0xb1]⟩ 1 none, Cond.arrayClass .int, Cond.fieldLink RX1 9 "RoofDrains$Roof" "area" "[I", Cond.fieldLink RX1 15 "RoofDrains$Roof" "slope" "[I", Cond.fieldLink RX1 18 "RoofDrains$Roof" "leadsTo" "[I", Cond.fieldLink RX1 21 "RoofDrains$Roof" "onPlane" "[I", Cond.fieldLink RX1 24 "RoofDrains$Roof" "size" "[I"]
def wsL_act_r3 : List Cond := [Cond.fieldLink RX1 27 "RoofDrains$Roof" "bore" "[I", Cond.fieldLink RX1 30 "RoofDrains$Roof" "leaves" "[I", Cond.fieldLink RX1 33 "RoofDrains$Roof" "valleyTo" "[I", Cond.fieldLink RX1 36 "RoofDrains$Roof" "inGutter" "[I", Cond.fieldLink RX1 39 "RoofDrains$Roof" "spilt" "[I", Cond.fieldLink RX1 42 "RoofDrains$Roof" "drained" "[I", Cond.fieldLink RX1 45 "RoofDrains$Roof" "values" "[I", Cond.methodLink RX2 23 yX1_copyFrom, Cond.instanceMethod yX1_copyFrom, Cond.selects RX1 yX1_copyFrom yX1_copyFrom, Cond.code yX1_copyFrom cX1_copyFrom 2 none, Cond.methodLink RX1 48 arraycopyName, Cond.native arraycopyName, Cond.static arraycopyName, Cond.initialized "java/lang/System", Cond.fieldLink RX1 54 "RoofDrains$Roof" "minutesGone" "I", Cond.fieldLink RX1 58 "RoofDrains$Roof" "weeksPassed" "I", Cond.fieldLink RX1 61 "RoofDrains$Roof" "rained" "I", Cond.fieldLink RX1 64 "RoofDrains$Roof" "backedUp" "I", Cond.methodLink RX3 60 yX1_changePlane, Cond.instanceMethod yX1_changePlane, Cond.selects RX1 yX1_changePlane yX1_changePlane, Cond.code yX1_changePlane cX1_changePlane 6 (some .int), Cond.methodLink RL 37 yX3_gutter]
def wsL_act_r4 : List Cond := [Cond.instanceMethod yX3_gutter, Cond.selects RX3 yX3_gutter yX3_gutter, Cond.code yX3_gutter cX3_gutter 4 (some .int), Cond.methodLink RX3 68 yX1_changeGutter, Cond.instanceMethod yX1_changeGutter, Cond.selects RX1 yX1_changeGutter yX1_changeGutter, Cond.code yX1_changeGutter cX1_changeGutter 5 (some .int), Cond.methodLink RL 41 yL_leads, Cond.static yL_leads, Cond.code yL_leads cL_leads 5 (some .boolean), Cond.methodLink RL 21 yX3_gutterOf, Cond.instanceMethod yX3_gutterOf, Cond.selects RX3 yX3_gutterOf yX3_gutterOf, Cond.code yX3_gutterOf cX3_gutterOf 3 (some .int), Cond.methodLink RX3 173 yX1_gutterNumber, Cond.instanceMethod yX1_gutterNumber, Cond.selects RX1 yX1_gutterNumber yX1_gutterNumber, Cond.code yX1_gutterNumber cX1_gutterNumber 3 (some .int), Cond.methodLink RX1 95 yX1_room, Cond.instanceMethod yX1_room, Cond.selects RX1 yX1_room yX1_room, Cond.code yX1_room cX1_room 2 (some .int), Cond.methodLink RX1 91 yX1_pipeTakes, Cond.instanceMethod yX1_pipeTakes]
def wsL_act_r5 : List Cond := [Cond.selects RX1 yX1_pipeTakes yX1_pipeTakes, Cond.code yX1_pipeTakes cX1_pipeTakes 3 (some .int), Cond.methodLink RL 45 yX3_valley, Cond.instanceMethod yX3_valley, Cond.selects RX3 yX3_valley yX3_valley, Cond.code yX3_valley cX3_valley 3 (some .int), Cond.classLink RX3 78 "java/lang/IllegalStateException", Cond.initialized "java/lang/IllegalStateException", Cond.methodLink RX3 74 yX1_valleysLead, Cond.instanceMethod yX1_valleysLead, Cond.selects RX1 yX1_valleysLead yX1_valleysLead, Cond.code yX1_valleysLead cX1_valleysLead 5 (some .boolean), Cond.methodLink RX3 83 yX1_changeValley, Cond.instanceMethod yX1_changeValley, Cond.selects RX1 yX1_changeValley yX1_changeValley, Cond.code yX1_changeValley cX1_changeValley 4 (some .int), Cond.methodLink RL 48 yX3_clean, Cond.instanceMethod yX3_clean, Cond.selects RX3 yX3_clean yX3_clean, Cond.code yX3_clean cX3_clean 2 (some .int), Cond.methodLink RX3 87 yX1_takeLeaves, Cond.instanceMethod yX1_takeLeaves, Cond.selects RX1 yX1_takeLeaves yX1_takeLeaves, Cond.code yX1_takeLeaves cX1_takeLeaves 3 (some .int)]
def wsL_act_r6 : List Cond := [Cond.methodLink RL 51 yX3_set, Cond.instanceMethod yX3_set, Cond.selects RX3 yX3_set yX3_set, Cond.code yX3_set cX3_set 3 (some .int), Cond.fieldLink RX3 96 "RoofDrains" "MOST_OF_SETTING" "[I", Cond.methodLink RX3 91 yX3_isSetting, Cond.static yX3_isSetting, Cond.code yX3_isSetting cX3_isSetting 1 (some .boolean), Cond.methodLink RX3 102 yX1_changeSetting, Cond.instanceMethod yX1_changeSetting, Cond.selects RX1 yX1_changeSetting yX1_changeSetting, Cond.code yX1_changeSetting cX1_changeSetting 4 (some .int), Cond.methodLink RL 54 yX3_weeks, Cond.instanceMethod yX3_weeks, Cond.selects RX3 yX3_weeks yX3_weeks, Cond.code yX3_weeks cX3_weeks 3 (some .int), Cond.methodLink RX3 117 yX1_passWeek, Cond.instanceMethod yX1_passWeek, Cond.selects RX1 yX1_passWeek yX1_passWeek, Cond.code yX1_passWeek cX1_passWeek 2 none, Cond.methodLink RX1 85 Lib.Math.min.name, Cond.static Lib.Math.min.name, Cond.initialized "java/lang/Math", Cond.code Lib.Math.min.name Lib.Math.min.code 2 (some .int)]
def wsL_act_r7 : List Cond := [Cond.methodLink RX3 120 yX1_leavesTogether, Cond.instanceMethod yX1_leavesTogether, Cond.selects RX1 yX1_leavesTogether yX1_leavesTogether, Cond.code yX1_leavesTogether cX1_leavesTogether 1 (some .int), Cond.methodLink RX1 98 yX1_sumOf, Cond.static yX1_sumOf, Cond.code yX1_sumOf cX1_sumOf 6 (some .int), Cond.methodLink RL 57 yX3_rain, Cond.instanceMethod yX3_rain, Cond.selects RX3 yX3_rain yX3_rain, Cond.code yX3_rain cX3_rain 4 (some .int), Cond.methodLink RX3 107 yX1_spiltLitres, Cond.instanceMethod yX1_spiltLitres, Cond.selects RX1 yX1_spiltLitres yX1_spiltLitres, Cond.code yX1_spiltLitres cX1_spiltLitres 1 (some .int), Cond.methodLink RX3 111 yX1_passMinutes, Cond.instanceMethod yX1_passMinutes, Cond.selects RX1 yX1_passMinutes yX1_passMinutes, Cond.code yX1_passMinutes cX1_passMinutes 4 none, Cond.methodLink RX1 71 yX1_passMinute, Cond.instanceMethod yX1_passMinute, Cond.selects RX1 yX1_passMinute yX1_passMinute, Cond.code yX1_passMinute cX1_passMinute 3 none, Cond.methodLink RX1 75 yX1_wetPlane]
def wsL_act_r8 : List Cond := [Cond.instanceMethod yX1_wetPlane, Cond.selects RX1 yX1_wetPlane yX1_wetPlane, Cond.code yX1_wetPlane cX1_wetPlane 6 none, Cond.methodLink RX1 79 yX1_emptyIntoDrain, Cond.instanceMethod yX1_emptyIntoDrain, Cond.selects RX1 yX1_emptyIntoDrain yX1_emptyIntoDrain, Cond.code yX1_emptyIntoDrain cX1_emptyIntoDrain 6 none, Cond.methodLink RX1 82 yX1_overflow, Cond.instanceMethod yX1_overflow, Cond.selects RX1 yX1_overflow yX1_overflow, Cond.code yX1_overflow cX1_overflow 4 none]
def wsL_act : List Cond := .code yL_act cL_act 6 (some .int) :: ((wsL_act_r1 ++ (wsL_act_r2 ++ (wsL_act_r3 ++ (wsL_act_r4 ++ (wsL_act_r5 ++ (wsL_act_r6 ++ (wsL_act_r7 ++ wsL_act_r8))))))) ++ wsX30 ++ wsX20 ++ wsX10 ++ (vx_atS RX3 44 "java/lang/IndexOutOfBoundsException" ["java/lang/RuntimeException", "java/lang/Exception"]).filter goodWord ++ (vx_atS RX3 55 "java/lang/IllegalArgumentException" ["java/lang/RuntimeException", "java/lang/Exception"]).filter goodWord ++ (vx_atS RX3 82 "java/lang/IllegalStateException" ["java/lang/RuntimeException", "java/lang/Exception"]).filter goodWord)
def wsL_holds_r1 : List Cond := [Cond.methodLink RL 21 yX3_gutterOf, Cond.instanceMethod yX3_gutterOf, Cond.selects RX3 yX3_gutterOf yX3_gutterOf, Cond.initialized RX3, Cond.code yX3_gutterOf cX3_gutterOf 3 (some .int), Cond.classLink RX3 40 "java/lang/IndexOutOfBoundsException", Cond.initialized "java/lang/IndexOutOfBoundsException", Cond.classLink RX3 51 "java/lang/IllegalArgumentException", Cond.initialized "java/lang/IllegalArgumentException", Cond.fieldLink RX3 10 "RoofDrains" "roof" "LRoofDrains$Roof;", Cond.methodLink RX3 37 yX3_isGutter, Cond.static yX3_isGutter, Cond.code yX3_isGutter cX3_isGutter 1 (some .boolean), Cond.methodLink RX3 47 yX3_isWithin, Cond.static yX3_isWithin, Cond.code yX3_isWithin cX3_isWithin 3 (some .boolean), Cond.methodLink RX3 173 yX1_gutterNumber, Cond.instanceMethod yX1_gutterNumber, Cond.selects RX1 yX1_gutterNumber yX1_gutterNumber, Cond.initialized RX1, Cond.code yX1_gutterNumber cX1_gutterNumber 3 (some .int), Cond.fieldLink RX1 24 "RoofDrains$Roof" "size" "[I", Cond.fieldLink RX1 27 "RoofDrains$Roof" "bore" "[I", Cond.fieldLink RX1 30 "RoofDrains$Roof" "leaves" "[I"]
def wsL_holds_r2 : List Cond := [Cond.fieldLink RX1 33 "RoofDrains$Roof" "valleyTo" "[I", Cond.fieldLink RX1 36 "RoofDrains$Roof" "inGutter" "[I", Cond.fieldLink RX1 39 "RoofDrains$Roof" "spilt" "[I", Cond.fieldLink RX1 42 "RoofDrains$Roof" "drained" "[I", Cond.methodLink RX1 95 yX1_room, Cond.instanceMethod yX1_room, Cond.selects RX1 yX1_room yX1_room, Cond.code yX1_room cX1_room 2 (some .int), Cond.methodLink RX1 91 yX1_pipeTakes, Cond.instanceMethod yX1_pipeTakes, Cond.selects RX1 yX1_pipeTakes yX1_pipeTakes, Cond.code yX1_pipeTakes cX1_pipeTakes 3 (some .int), Cond.methodLink RL 41 yL_leads, Cond.static yL_leads, Cond.initialized RL, Cond.code yL_leads cL_leads 5 (some .boolean), Cond.methodLink RL 25 yX3_planeOf, Cond.instanceMethod yX3_planeOf, Cond.selects RX3 yX3_planeOf yX3_planeOf, Cond.code yX3_planeOf cX3_planeOf 3 (some .int), Cond.methodLink RX3 33 yX3_isPlane, Cond.static yX3_isPlane, Cond.code yX3_isPlane cX3_isPlane 1 (some .boolean), Cond.methodLink RX3 168 yX1_planeNumber]
def wsL_holds_r3 : List Cond := [Cond.instanceMethod yX1_planeNumber, Cond.selects RX1 yX1_planeNumber yX1_planeNumber, Cond.code yX1_planeNumber cX1_planeNumber 3 (some .int), Cond.fieldLink RX1 9 "RoofDrains$Roof" "area" "[I", Cond.fieldLink RX1 15 "RoofDrains$Roof" "slope" "[I", Cond.fieldLink RX1 18 "RoofDrains$Roof" "leadsTo" "[I", Cond.fieldLink RX1 21 "RoofDrains$Roof" "onPlane" "[I", Cond.methodLink RL 60 yX3_drainedShare, Cond.instanceMethod yX3_drainedShare, Cond.selects RX3 yX3_drainedShare yX3_drainedShare, Cond.code yX3_drainedShare cX3_drainedShare 2 (some .double), Cond.methodLink RX3 182 yX1_rainedLitres, Cond.instanceMethod yX1_rainedLitres, Cond.selects RX1 yX1_rainedLitres yX1_rainedLitres, Cond.code yX1_rainedLitres cX1_rainedLitres 1 (some .int), Cond.fieldLink RX1 61 "RoofDrains$Roof" "rained" "I", Cond.methodLink RX3 188 yX1_drainedLitres, Cond.instanceMethod yX1_drainedLitres, Cond.selects RX1 yX1_drainedLitres yX1_drainedLitres, Cond.code yX1_drainedLitres cX1_drainedLitres 1 (some .int), Cond.methodLink RX1 98 yX1_sumOf, Cond.static yX1_sumOf, Cond.code yX1_sumOf cX1_sumOf 6 (some .int), Cond.methodLink RL 12 yX3_count]
def wsL_holds_r4 : List Cond := [Cond.instanceMethod yX3_count, Cond.selects RX3 yX3_count yX3_count, Cond.code yX3_count cX3_count 2 (some .int), Cond.fieldLink RX3 22 "RoofDrains" "saved" "LRoofDrains$SavedRoofs;", Cond.methodLink RX3 176 yX1_minutesGone, Cond.instanceMethod yX1_minutesGone, Cond.selects RX1 yX1_minutesGone yX1_minutesGone, Cond.code yX1_minutesGone cX1_minutesGone 1 (some .int), Cond.fieldLink RX1 54 "RoofDrains$Roof" "minutesGone" "I", Cond.methodLink RX3 179 yX1_weeksPassed, Cond.instanceMethod yX1_weeksPassed, Cond.selects RX1 yX1_weeksPassed yX1_weeksPassed, Cond.code yX1_weeksPassed cX1_weeksPassed 1 (some .int), Cond.fieldLink RX1 58 "RoofDrains$Roof" "weeksPassed" "I", Cond.methodLink RX3 185 yX1_standingLitres, Cond.instanceMethod yX1_standingLitres, Cond.selects RX1 yX1_standingLitres yX1_standingLitres, Cond.code yX1_standingLitres cX1_standingLitres 1 (some .int), Cond.methodLink RX3 107 yX1_spiltLitres, Cond.instanceMethod yX1_spiltLitres, Cond.selects RX1 yX1_spiltLitres yX1_spiltLitres, Cond.code yX1_spiltLitres cX1_spiltLitres 1 (some .int), Cond.methodLink RX3 191 yX1_backedUpMinutes, Cond.instanceMethod yX1_backedUpMinutes]
def wsL_holds_r5 : List Cond := [Cond.selects RX1 yX1_backedUpMinutes yX1_backedUpMinutes, Cond.code yX1_backedUpMinutes cX1_backedUpMinutes 1 (some .int), Cond.fieldLink RX1 64 "RoofDrains$Roof" "backedUp" "I", Cond.methodLink RX3 120 yX1_leavesTogether, Cond.instanceMethod yX1_leavesTogether, Cond.selects RX1 yX1_leavesTogether yX1_leavesTogether, Cond.code yX1_leavesTogether cX1_leavesTogether 1 (some .int), Cond.methodLink RX3 161 yX2_held, Cond.instanceMethod yX2_held, Cond.selects RX2 yX2_held yX2_held, Cond.initialized RX2, Cond.code yX2_held cX2_held 1 (some .int), Cond.fieldLink RX2 15 "RoofDrains$SavedRoofs" "held" "I", Cond.methodLink RL 64 yX3_dryIn, Cond.instanceMethod yX3_dryIn, Cond.selects RX3 yX3_dryIn yX3_dryIn, Cond.code yX3_dryIn cX3_dryIn 2 (some .int), Cond.fieldLink RX3 16 "RoofDrains" "thought" "LRoofDrains$Roof;", Cond.methodLink RX3 158 yX1_copyFrom, Cond.instanceMethod yX1_copyFrom, Cond.selects RX1 yX1_copyFrom yX1_copyFrom, Cond.code yX1_copyFrom cX1_copyFrom 2 none, Cond.methodLink RX1 48 arraycopyName, Cond.native arraycopyName]
def wsL_holds_r6 : List Cond := [Cond.static arraycopyName, Cond.initialized "java/lang/System", Cond.fieldLink RX1 45 "RoofDrains$Roof" "values" "[I", Cond.methodLink RX3 201 yX1_passMinute, Cond.instanceMethod yX1_passMinute, Cond.selects RX1 yX1_passMinute yX1_passMinute, Cond.code yX1_passMinute cX1_passMinute 3 none, Cond.methodLink RX1 75 yX1_wetPlane, Cond.instanceMethod yX1_wetPlane, Cond.selects RX1 yX1_wetPlane yX1_wetPlane, Cond.code yX1_wetPlane cX1_wetPlane 6 none, Cond.methodLink RX1 79 yX1_emptyIntoDrain, Cond.instanceMethod yX1_emptyIntoDrain, Cond.selects RX1 yX1_emptyIntoDrain yX1_emptyIntoDrain, Cond.code yX1_emptyIntoDrain cX1_emptyIntoDrain 6 none, Cond.methodLink RX1 85 Lib.Math.min.name, Cond.static Lib.Math.min.name, Cond.initialized "java/lang/Math", Cond.code Lib.Math.min.name Lib.Math.min.code 2 (some .int), Cond.methodLink RX1 82 yX1_overflow, Cond.instanceMethod yX1_overflow, Cond.selects RX1 yX1_overflow yX1_overflow, Cond.code yX1_overflow cX1_overflow 4 none]
def wsL_holds : List Cond := .code yL_holds cL_holds 12 (some .boolean) :: ((wsL_holds_r1 ++ (wsL_holds_r2 ++ (wsL_holds_r3 ++ (wsL_holds_r4 ++ (wsL_holds_r5 ++ wsL_holds_r6))))) ++ wsX30 ++ wsX10 ++ wsX20 ++ (vx_atS RX3 44 "java/lang/IndexOutOfBoundsException" ["java/lang/RuntimeException", "java/lang/Exception"]).filter goodWord ++ (vx_atS RX3 55 "java/lang/IllegalArgumentException" ["java/lang/RuntimeException", "java/lang/Exception"]).filter goodWord)
def wsL_law0_r1 : List Cond := [Cond.classLink RL 13 RX3, Cond.instantiable RX3 4, Cond.initialized RX3, Cond.methodLink RL 68 yX3_init, Cond.instanceMethod yX3_init, Cond.code yX3_init cX3_init 1 none, Cond.methodLink RX3 1 objectInit, Cond.instanceMethod objectInit, Cond.code objectInit ⟨#[0xb1]⟩ 1 none, Cond.classLink RX3 7 RX1, Cond.instantiable RX1 16, Cond.initialized RX1, Cond.fieldLink RX3 10 "RoofDrains" "roof" "LRoofDrains$Roof;", Cond.fieldLink RX3 16 "RoofDrains" "thought" "LRoofDrains$Roof;", Cond.classLink RX3 19 RX2, Cond.instantiable RX2 3, Cond.initialized RX2, Cond.fieldLink RX3 22 "RoofDrains" "saved" "LRoofDrains$SavedRoofs;", Cond.classLink RX3 26 RX0, Cond.instantiable RX0 2, Cond.initialized RX0, Cond.fieldLink RX3 29 "RoofDrains" "text" "LRoofDrains$RainText;", Cond.methodLink RX3 9 yX1_init, Cond.instanceMethod yX1_init]
def wsL_law0_r2 : List Cond := [Cond.code yX1_init cX1_init 2 none, Cond.methodLink RX1 3 objectInit, Cond.arrayClass .int, Cond.fieldLink RX1 9 "RoofDrains$Roof" "area" "[I", Cond.fieldLink RX1 15 "RoofDrains$Roof" "slope" "[I", Cond.fieldLink RX1 18 "RoofDrains$Roof" "leadsTo" "[I", Cond.fieldLink RX1 21 "RoofDrains$Roof" "onPlane" "[I", Cond.fieldLink RX1 24 "RoofDrains$Roof" "size" "[I", Cond.fieldLink RX1 27 "RoofDrains$Roof" "bore" "[I", Cond.fieldLink RX1 30 "RoofDrains$Roof" "leaves" "[I", Cond.fieldLink RX1 33 "RoofDrains$Roof" "valleyTo" "[I", Cond.fieldLink RX1 36 "RoofDrains$Roof" "inGutter" "[I", Cond.fieldLink RX1 39 "RoofDrains$Roof" "spilt" "[I", Cond.fieldLink RX1 42 "RoofDrains$Roof" "drained" "[I", Cond.fieldLink RX1 45 "RoofDrains$Roof" "values" "[I", Cond.methodLink RX3 21 yX2_init, Cond.instanceMethod yX2_init, Cond.code yX2_init cX2_init 1 none, Cond.methodLink RX2 1 objectInit, Cond.classLink RX2 9 RX1, Cond.fieldLink RX2 11 "RoofDrains$SavedRoofs" "rows" "[LRoofDrains$Roof;", Cond.methodLink RX3 28 yX0_init, Cond.instanceMethod yX0_init, Cond.code yX0_init cX0_init 1 none]
def wsL_law0_r3 : List Cond := [Cond.methodLink RX0 1 objectInit, Cond.fieldLink RX0 9 "RoofDrains$RainText" "codes" "[I", Cond.methodLink RL 69 yL_cell, Cond.static yL_cell, Cond.initialized RL, Cond.code yL_cell cL_cell 2 (some .int), Cond.methodLink RL 12 yX3_count, Cond.instanceMethod yX3_count, Cond.selects RX3 yX3_count yX3_count, Cond.code yX3_count cX3_count 2 (some .int), Cond.classLink RX3 51 "java/lang/IllegalArgumentException", Cond.initialized "java/lang/IllegalArgumentException", Cond.methodLink RX3 176 yX1_minutesGone, Cond.instanceMethod yX1_minutesGone, Cond.selects RX1 yX1_minutesGone yX1_minutesGone, Cond.code yX1_minutesGone cX1_minutesGone 1 (some .int), Cond.fieldLink RX1 54 "RoofDrains$Roof" "minutesGone" "I", Cond.methodLink RX3 179 yX1_weeksPassed, Cond.instanceMethod yX1_weeksPassed, Cond.selects RX1 yX1_weeksPassed yX1_weeksPassed, Cond.code yX1_weeksPassed cX1_weeksPassed 1 (some .int), Cond.fieldLink RX1 58 "RoofDrains$Roof" "weeksPassed" "I", Cond.methodLink RX3 182 yX1_rainedLitres, Cond.instanceMethod yX1_rainedLitres]
def wsL_law0_r4 : List Cond := [Cond.selects RX1 yX1_rainedLitres yX1_rainedLitres, Cond.code yX1_rainedLitres cX1_rainedLitres 1 (some .int), Cond.fieldLink RX1 61 "RoofDrains$Roof" "rained" "I", Cond.methodLink RX3 185 yX1_standingLitres, Cond.instanceMethod yX1_standingLitres, Cond.selects RX1 yX1_standingLitres yX1_standingLitres, Cond.code yX1_standingLitres cX1_standingLitres 1 (some .int), Cond.methodLink RX1 98 yX1_sumOf, Cond.static yX1_sumOf, Cond.code yX1_sumOf cX1_sumOf 6 (some .int), Cond.methodLink RX3 188 yX1_drainedLitres, Cond.instanceMethod yX1_drainedLitres, Cond.selects RX1 yX1_drainedLitres yX1_drainedLitres, Cond.code yX1_drainedLitres cX1_drainedLitres 1 (some .int), Cond.methodLink RX3 107 yX1_spiltLitres, Cond.instanceMethod yX1_spiltLitres, Cond.selects RX1 yX1_spiltLitres yX1_spiltLitres, Cond.code yX1_spiltLitres cX1_spiltLitres 1 (some .int), Cond.methodLink RX3 191 yX1_backedUpMinutes, Cond.instanceMethod yX1_backedUpMinutes, Cond.selects RX1 yX1_backedUpMinutes yX1_backedUpMinutes, Cond.code yX1_backedUpMinutes cX1_backedUpMinutes 1 (some .int), Cond.fieldLink RX1 64 "RoofDrains$Roof" "backedUp" "I", Cond.methodLink RX3 120 yX1_leavesTogether]
def wsL_law0_r5 : List Cond := [Cond.instanceMethod yX1_leavesTogether, Cond.selects RX1 yX1_leavesTogether yX1_leavesTogether, Cond.code yX1_leavesTogether cX1_leavesTogether 1 (some .int), Cond.methodLink RX3 161 yX2_held, Cond.instanceMethod yX2_held, Cond.selects RX2 yX2_held yX2_held, Cond.code yX2_held cX2_held 1 (some .int), Cond.fieldLink RX2 15 "RoofDrains$SavedRoofs" "held" "I", Cond.methodLink RL 73 yX3_undo, Cond.instanceMethod yX3_undo, Cond.selects RX3 yX3_undo yX3_undo, Cond.code yX3_undo cX3_undo 2 (some .int), Cond.classLink RX3 78 "java/lang/IllegalStateException", Cond.initialized "java/lang/IllegalStateException", Cond.methodLink RX3 152 yX2_dropLatest, Cond.instanceMethod yX2_dropLatest, Cond.selects RX2 yX2_dropLatest yX2_dropLatest, Cond.code yX2_dropLatest cX2_dropLatest 1 (some (.object "RoofDrains$Roof")), Cond.fieldLink RX2 19 "RoofDrains$SavedRoofs" "oldest" "I", Cond.methodLink RX3 158 yX1_copyFrom, Cond.instanceMethod yX1_copyFrom, Cond.selects RX1 yX1_copyFrom yX1_copyFrom, Cond.code yX1_copyFrom cX1_copyFrom 2 none, Cond.methodLink RX1 48 arraycopyName]
def wsL_law0_r6 : List Cond := [Cond.native arraycopyName, Cond.static arraycopyName, Cond.initialized "java/lang/System", Cond.methodLink RL 76 yL_told, Cond.static yL_told, Cond.code yL_told cL_told 5 (some .long), Cond.constantLong RL 8 (3), Cond.constantLong RL 10 (31), Cond.methodLink RL 18 yX3_setting, Cond.instanceMethod yX3_setting, Cond.selects RX3 yX3_setting yX3_setting, Cond.code yX3_setting cX3_setting 2 (some .int), Cond.classLink RX3 40 "java/lang/IndexOutOfBoundsException", Cond.initialized "java/lang/IndexOutOfBoundsException", Cond.methodLink RX3 91 yX3_isSetting, Cond.static yX3_isSetting, Cond.code yX3_isSetting cX3_isSetting 1 (some .boolean), Cond.methodLink RX3 194 yX1_settingValue, Cond.instanceMethod yX1_settingValue, Cond.selects RX1 yX1_settingValue yX1_settingValue, Cond.code yX1_settingValue cX1_settingValue 2 (some .int), Cond.methodLink RL 21 yX3_gutterOf, Cond.instanceMethod yX3_gutterOf, Cond.selects RX3 yX3_gutterOf yX3_gutterOf]
def wsL_law0_r7 : List Cond := [Cond.code yX3_gutterOf cX3_gutterOf 3 (some .int), Cond.methodLink RX3 37 yX3_isGutter, Cond.static yX3_isGutter, Cond.code yX3_isGutter cX3_isGutter 1 (some .boolean), Cond.methodLink RX3 47 yX3_isWithin, Cond.static yX3_isWithin, Cond.code yX3_isWithin cX3_isWithin 3 (some .boolean), Cond.methodLink RX3 173 yX1_gutterNumber, Cond.instanceMethod yX1_gutterNumber, Cond.selects RX1 yX1_gutterNumber yX1_gutterNumber, Cond.code yX1_gutterNumber cX1_gutterNumber 3 (some .int), Cond.methodLink RX1 95 yX1_room, Cond.instanceMethod yX1_room, Cond.selects RX1 yX1_room yX1_room, Cond.code yX1_room cX1_room 2 (some .int), Cond.methodLink RX1 91 yX1_pipeTakes, Cond.instanceMethod yX1_pipeTakes, Cond.selects RX1 yX1_pipeTakes yX1_pipeTakes, Cond.code yX1_pipeTakes cX1_pipeTakes 3 (some .int), Cond.methodLink RL 25 yX3_planeOf, Cond.instanceMethod yX3_planeOf, Cond.selects RX3 yX3_planeOf yX3_planeOf, Cond.code yX3_planeOf cX3_planeOf 3 (some .int), Cond.methodLink RX3 33 yX3_isPlane]
def wsL_law0_r8 : List Cond := [Cond.static yX3_isPlane, Cond.code yX3_isPlane cX3_isPlane 1 (some .boolean), Cond.methodLink RX3 168 yX1_planeNumber, Cond.instanceMethod yX1_planeNumber, Cond.selects RX1 yX1_planeNumber yX1_planeNumber, Cond.code yX1_planeNumber cX1_planeNumber 3 (some .int), Cond.methodLink RL 80 yL_act, Cond.static yL_act, Cond.code yL_act cL_act 6 (some .int), Cond.methodLink RL 28 yL_low, Cond.static yL_low, Cond.code yL_low cL_low 2 (some .int), Cond.constant RL 7 (2147483647), Cond.methodLink RL 33 yX3_plane, Cond.instanceMethod yX3_plane, Cond.selects RX3 yX3_plane yX3_plane, Cond.code yX3_plane cX3_plane 5 (some .int), Cond.methodLink RX3 56 yX2_keep, Cond.instanceMethod yX2_keep, Cond.selects RX2 yX2_keep yX2_keep, Cond.code yX2_keep cX2_keep 4 none, Cond.methodLink RX2 22 yX1_init, Cond.methodLink RX2 23 yX1_copyFrom, Cond.methodLink RX3 60 yX1_changePlane]
def wsL_law0_r9 : List Cond := [Cond.instanceMethod yX1_changePlane, Cond.selects RX1 yX1_changePlane yX1_changePlane, Cond.code yX1_changePlane cX1_changePlane 6 (some .int), Cond.methodLink RL 37 yX3_gutter, Cond.instanceMethod yX3_gutter, Cond.selects RX3 yX3_gutter yX3_gutter, Cond.code yX3_gutter cX3_gutter 4 (some .int), Cond.methodLink RX3 68 yX1_changeGutter, Cond.instanceMethod yX1_changeGutter, Cond.selects RX1 yX1_changeGutter yX1_changeGutter, Cond.code yX1_changeGutter cX1_changeGutter 5 (some .int), Cond.methodLink RL 41 yL_leads, Cond.static yL_leads, Cond.code yL_leads cL_leads 5 (some .boolean), Cond.methodLink RL 45 yX3_valley, Cond.instanceMethod yX3_valley, Cond.selects RX3 yX3_valley yX3_valley, Cond.code yX3_valley cX3_valley 3 (some .int), Cond.methodLink RX3 74 yX1_valleysLead, Cond.instanceMethod yX1_valleysLead, Cond.selects RX1 yX1_valleysLead yX1_valleysLead, Cond.code yX1_valleysLead cX1_valleysLead 5 (some .boolean), Cond.methodLink RX3 83 yX1_changeValley, Cond.instanceMethod yX1_changeValley]
def wsL_law0_r10 : List Cond := [Cond.selects RX1 yX1_changeValley yX1_changeValley, Cond.code yX1_changeValley cX1_changeValley 4 (some .int), Cond.methodLink RL 48 yX3_clean, Cond.instanceMethod yX3_clean, Cond.selects RX3 yX3_clean yX3_clean, Cond.code yX3_clean cX3_clean 2 (some .int), Cond.methodLink RX3 87 yX1_takeLeaves, Cond.instanceMethod yX1_takeLeaves, Cond.selects RX1 yX1_takeLeaves yX1_takeLeaves, Cond.code yX1_takeLeaves cX1_takeLeaves 3 (some .int), Cond.methodLink RL 51 yX3_set, Cond.instanceMethod yX3_set, Cond.selects RX3 yX3_set yX3_set, Cond.code yX3_set cX3_set 3 (some .int), Cond.fieldLink RX3 96 "RoofDrains" "MOST_OF_SETTING" "[I", Cond.methodLink RX3 102 yX1_changeSetting, Cond.instanceMethod yX1_changeSetting, Cond.selects RX1 yX1_changeSetting yX1_changeSetting, Cond.code yX1_changeSetting cX1_changeSetting 4 (some .int), Cond.methodLink RL 54 yX3_weeks, Cond.instanceMethod yX3_weeks, Cond.selects RX3 yX3_weeks yX3_weeks, Cond.code yX3_weeks cX3_weeks 3 (some .int), Cond.methodLink RX3 117 yX1_passWeek]
def wsL_law0_r11 : List Cond := [Cond.instanceMethod yX1_passWeek, Cond.selects RX1 yX1_passWeek yX1_passWeek, Cond.code yX1_passWeek cX1_passWeek 2 none, Cond.methodLink RX1 85 Lib.Math.min.name, Cond.static Lib.Math.min.name, Cond.initialized "java/lang/Math", Cond.code Lib.Math.min.name Lib.Math.min.code 2 (some .int), Cond.methodLink RL 57 yX3_rain, Cond.instanceMethod yX3_rain, Cond.selects RX3 yX3_rain yX3_rain, Cond.code yX3_rain cX3_rain 4 (some .int), Cond.methodLink RX3 111 yX1_passMinutes, Cond.instanceMethod yX1_passMinutes, Cond.selects RX1 yX1_passMinutes yX1_passMinutes, Cond.code yX1_passMinutes cX1_passMinutes 4 none, Cond.methodLink RX1 71 yX1_passMinute, Cond.instanceMethod yX1_passMinute, Cond.selects RX1 yX1_passMinute yX1_passMinute, Cond.code yX1_passMinute cX1_passMinute 3 none, Cond.methodLink RX1 75 yX1_wetPlane, Cond.instanceMethod yX1_wetPlane, Cond.selects RX1 yX1_wetPlane yX1_wetPlane, Cond.code yX1_wetPlane cX1_wetPlane 6 none, Cond.methodLink RX1 79 yX1_emptyIntoDrain]
def wsL_law0_r12 : List Cond := [Cond.instanceMethod yX1_emptyIntoDrain, Cond.selects RX1 yX1_emptyIntoDrain yX1_emptyIntoDrain, Cond.code yX1_emptyIntoDrain cX1_emptyIntoDrain 6 none, Cond.methodLink RX1 82 yX1_overflow, Cond.instanceMethod yX1_overflow, Cond.selects RX1 yX1_overflow yX1_overflow, Cond.code yX1_overflow cX1_overflow 4 none, Cond.methodLink RL 84 yL_holds, Cond.static yL_holds, Cond.code yL_holds cL_holds 12 (some .boolean), Cond.methodLink RL 60 yX3_drainedShare, Cond.instanceMethod yX3_drainedShare, Cond.selects RX3 yX3_drainedShare yX3_drainedShare, Cond.code yX3_drainedShare cX3_drainedShare 2 (some .double), Cond.methodLink RL 64 yX3_dryIn, Cond.instanceMethod yX3_dryIn, Cond.selects RX3 yX3_dryIn yX3_dryIn, Cond.code yX3_dryIn cX3_dryIn 2 (some .int), Cond.methodLink RX3 201 yX1_passMinute]
def wsL_law0 : List Cond := (wsL_law0_r1 ++ (wsL_law0_r2 ++ (wsL_law0_r3 ++ (wsL_law0_r4 ++ (wsL_law0_r5 ++ (wsL_law0_r6 ++ (wsL_law0_r7 ++ (wsL_law0_r8 ++ (wsL_law0_r9 ++ (wsL_law0_r10 ++ (wsL_law0_r11 ++ wsL_law0_r12))))))))))) ++ wsX30 ++ wsX10 ++ wsX20 ++ wsX00 ++ ([] : List Cond)
def wsL_law : List Cond := wsL_law0 ++ (vx_atS RX3 55 "java/lang/IllegalArgumentException" ["java/lang/RuntimeException", "java/lang/Exception"]).filter goodWord ++ (vx_atS RX3 82 "java/lang/IllegalStateException" ["java/lang/RuntimeException", "java/lang/Exception"]).filter goodWord ++ (vx_atS RX3 44 "java/lang/IndexOutOfBoundsException" ["java/lang/RuntimeException", "java/lang/Exception"]).filter goodWord
abbrev vwCl : List vw_C := [(RX0, TX0, 2), (RX1, TX1, 16), (RX2, TX2, 3), (RX3, TX3, 4)]
end
section
theorem dX0_init_0 : decode cX0_init 0 = .ok (.aload_n 0, 1) := by decide +kernel
theorem dX0_init_1 : decode cX0_init 1 = .ok (.invokespecial 1, 3) := by decide +kernel
theorem dX0_init_4 : decode cX0_init 4 = .ok (.aload_n 0, 1) := by decide +kernel
theorem dX0_init_5 : decode cX0_init 5 = .ok (.bipush 60, 2) := by decide +kernel
theorem dX0_init_7 : decode cX0_init 7 = .ok (.newarray .int, 2) := by decide +kernel
theorem dX0_init_9 : decode cX0_init 9 = .ok (.putfield 9, 3) := by decide +kernel
theorem dX0_init_12 : decode cX0_init 12 = .ok (.return_, 1) := by decide +kernel
theorem dX1_init_0 : decode cX1_init 0 = .ok (.aload_n 0, 1) := by decide +kernel
theorem dX1_init_1 : decode cX1_init 1 = .ok (.invokespecial 3, 3) := by decide +kernel
theorem dX1_init_4 : decode cX1_init 4 = .ok (.aload_n 0, 1) := by decide +kernel
theorem dX1_init_5 : decode cX1_init 5 = .ok (.bipush 6, 2) := by decide +kernel
theorem dX1_init_7 : decode cX1_init 7 = .ok (.newarray .int, 2) := by decide +kernel
theorem dX1_init_9 : decode cX1_init 9 = .ok (.putfield 9, 3) := by decide +kernel
theorem dX1_init_12 : decode cX1_init 12 = .ok (.aload_n 0, 1) := by decide +kernel
theorem dX1_init_13 : decode cX1_init 13 = .ok (.bipush 6, 2) := by decide +kernel
theorem dX1_init_15 : decode cX1_init 15 = .ok (.newarray .int, 2) := by decide +kernel
theorem dX1_init_17 : decode cX1_init 17 = .ok (.putfield 15, 3) := by decide +kernel
theorem dX1_init_20 : decode cX1_init 20 = .ok (.aload_n 0, 1) := by decide +kernel
theorem dX1_init_21 : decode cX1_init 21 = .ok (.bipush 6, 2) := by decide +kernel
theorem dX1_init_23 : decode cX1_init 23 = .ok (.newarray .int, 2) := by decide +kernel
theorem dX1_init_25 : decode cX1_init 25 = .ok (.putfield 18, 3) := by decide +kernel
theorem dX1_init_28 : decode cX1_init 28 = .ok (.aload_n 0, 1) := by decide +kernel
theorem dX1_init_29 : decode cX1_init 29 = .ok (.bipush 6, 2) := by decide +kernel
theorem dX1_init_31 : decode cX1_init 31 = .ok (.newarray .int, 2) := by decide +kernel
theorem dX1_init_33 : decode cX1_init 33 = .ok (.putfield 21, 3) := by decide +kernel
theorem dX1_init_36 : decode cX1_init 36 = .ok (.iconst 0, 1) := by decide +kernel
theorem dX1_init_37 : decode cX1_init 37 = .ok (.istore_n 1, 1) := by decide +kernel
theorem dX1_init_38 : decode cX1_init 38 = .ok (.iload_n 1, 1) := by decide +kernel
theorem dX1_init_39 : decode cX1_init 39 = .ok (.bipush 6, 2) := by decide +kernel
theorem dX1_init_41 : decode cX1_init 41 = .ok (.if_icmp .ge 31, 3) := by decide +kernel
theorem dX1_init_44 : decode cX1_init 44 = .ok (.aload_n 0, 1) := by decide +kernel
theorem dX1_init_45 : decode cX1_init 45 = .ok (.getfield 9, 3) := by decide +kernel
theorem dX1_init_48 : decode cX1_init 48 = .ok (.iload_n 1, 1) := by decide +kernel
theorem dX1_init_49 : decode cX1_init 49 = .ok (.bipush 40, 2) := by decide +kernel
theorem dX1_init_51 : decode cX1_init 51 = .ok (.iastore, 1) := by decide +kernel
theorem dX1_init_52 : decode cX1_init 52 = .ok (.aload_n 0, 1) := by decide +kernel
theorem dX1_init_53 : decode cX1_init 53 = .ok (.getfield 15, 3) := by decide +kernel
theorem dX1_init_56 : decode cX1_init 56 = .ok (.iload_n 1, 1) := by decide +kernel
theorem dX1_init_57 : decode cX1_init 57 = .ok (.iconst 3, 1) := by decide +kernel
theorem dX1_init_58 : decode cX1_init 58 = .ok (.iastore, 1) := by decide +kernel
theorem dX1_init_59 : decode cX1_init 59 = .ok (.aload_n 0, 1) := by decide +kernel
theorem dX1_init_60 : decode cX1_init 60 = .ok (.getfield 18, 3) := by decide +kernel
theorem dX1_init_63 : decode cX1_init 63 = .ok (.iload_n 1, 1) := by decide +kernel
theorem dX1_init_64 : decode cX1_init 64 = .ok (.iload_n 1, 1) := by decide +kernel
theorem dX1_init_65 : decode cX1_init 65 = .ok (.iastore, 1) := by decide +kernel
theorem dX1_init_66 : decode cX1_init 66 = .ok (.iinc 1 1, 3) := by decide +kernel
theorem dX1_init_69 : decode cX1_init 69 = .ok (.goto (-31), 3) := by decide +kernel
theorem dX1_init_72 : decode cX1_init 72 = .ok (.aload_n 0, 1) := by decide +kernel
theorem dX1_init_73 : decode cX1_init 73 = .ok (.bipush 6, 2) := by decide +kernel
theorem dX1_init_75 : decode cX1_init 75 = .ok (.newarray .int, 2) := by decide +kernel
theorem dX1_init_77 : decode cX1_init 77 = .ok (.putfield 24, 3) := by decide +kernel
theorem dX1_init_80 : decode cX1_init 80 = .ok (.aload_n 0, 1) := by decide +kernel
theorem dX1_init_81 : decode cX1_init 81 = .ok (.bipush 6, 2) := by decide +kernel
theorem dX1_init_83 : decode cX1_init 83 = .ok (.newarray .int, 2) := by decide +kernel
theorem dX1_init_85 : decode cX1_init 85 = .ok (.putfield 27, 3) := by decide +kernel
theorem dX1_init_88 : decode cX1_init 88 = .ok (.aload_n 0, 1) := by decide +kernel
theorem dX1_init_89 : decode cX1_init 89 = .ok (.bipush 6, 2) := by decide +kernel
theorem dX1_init_91 : decode cX1_init 91 = .ok (.newarray .int, 2) := by decide +kernel
theorem dX1_init_93 : decode cX1_init 93 = .ok (.putfield 30, 3) := by decide +kernel
theorem dX1_init_96 : decode cX1_init 96 = .ok (.aload_n 0, 1) := by decide +kernel
theorem dX1_init_97 : decode cX1_init 97 = .ok (.bipush 6, 2) := by decide +kernel
theorem dX1_init_99 : decode cX1_init 99 = .ok (.newarray .int, 2) := by decide +kernel
theorem dX1_init_101 : decode cX1_init 101 = .ok (.putfield 33, 3) := by decide +kernel
theorem dX1_init_104 : decode cX1_init 104 = .ok (.aload_n 0, 1) := by decide +kernel
theorem dX1_init_105 : decode cX1_init 105 = .ok (.bipush 6, 2) := by decide +kernel
theorem dX1_init_107 : decode cX1_init 107 = .ok (.newarray .int, 2) := by decide +kernel
theorem dX1_init_109 : decode cX1_init 109 = .ok (.putfield 36, 3) := by decide +kernel
theorem dX1_init_112 : decode cX1_init 112 = .ok (.aload_n 0, 1) := by decide +kernel
theorem dX1_init_113 : decode cX1_init 113 = .ok (.bipush 6, 2) := by decide +kernel
theorem dX1_init_115 : decode cX1_init 115 = .ok (.newarray .int, 2) := by decide +kernel
theorem dX1_init_117 : decode cX1_init 117 = .ok (.putfield 39, 3) := by decide +kernel
theorem dX1_init_120 : decode cX1_init 120 = .ok (.aload_n 0, 1) := by decide +kernel
theorem dX1_init_121 : decode cX1_init 121 = .ok (.bipush 6, 2) := by decide +kernel
theorem dX1_init_123 : decode cX1_init 123 = .ok (.newarray .int, 2) := by decide +kernel
theorem dX1_init_125 : decode cX1_init 125 = .ok (.putfield 42, 3) := by decide +kernel
theorem dX1_init_128 : decode cX1_init 128 = .ok (.iconst 0, 1) := by decide +kernel
theorem dX1_init_129 : decode cX1_init 129 = .ok (.istore_n 1, 1) := by decide +kernel
theorem dX1_init_130 : decode cX1_init 130 = .ok (.iload_n 1, 1) := by decide +kernel
theorem dX1_init_131 : decode cX1_init 131 = .ok (.bipush 6, 2) := by decide +kernel
theorem dX1_init_133 : decode cX1_init 133 = .ok (.if_icmp .ge 32, 3) := by decide +kernel
theorem dX1_init_136 : decode cX1_init 136 = .ok (.aload_n 0, 1) := by decide +kernel
theorem dX1_init_137 : decode cX1_init 137 = .ok (.getfield 24, 3) := by decide +kernel
theorem dX1_init_140 : decode cX1_init 140 = .ok (.iload_n 1, 1) := by decide +kernel
theorem dX1_init_141 : decode cX1_init 141 = .ok (.bipush 60, 2) := by decide +kernel
theorem dX1_init_143 : decode cX1_init 143 = .ok (.iastore, 1) := by decide +kernel
theorem dX1_init_144 : decode cX1_init 144 = .ok (.aload_n 0, 1) := by decide +kernel
theorem dX1_init_145 : decode cX1_init 145 = .ok (.getfield 27, 3) := by decide +kernel
theorem dX1_init_148 : decode cX1_init 148 = .ok (.iload_n 1, 1) := by decide +kernel
theorem dX1_init_149 : decode cX1_init 149 = .ok (.bipush 20, 2) := by decide +kernel
theorem dX1_init_151 : decode cX1_init 151 = .ok (.iastore, 1) := by decide +kernel
theorem dX1_init_152 : decode cX1_init 152 = .ok (.aload_n 0, 1) := by decide +kernel
theorem dX1_init_153 : decode cX1_init 153 = .ok (.getfield 33, 3) := by decide +kernel
theorem dX1_init_156 : decode cX1_init 156 = .ok (.iload_n 1, 1) := by decide +kernel
theorem dX1_init_157 : decode cX1_init 157 = .ok (.iconst (-1), 1) := by decide +kernel
theorem dX1_init_158 : decode cX1_init 158 = .ok (.iastore, 1) := by decide +kernel
theorem dX1_init_159 : decode cX1_init 159 = .ok (.iinc 1 1, 3) := by decide +kernel
theorem dX1_init_162 : decode cX1_init 162 = .ok (.goto (-32), 3) := by decide +kernel
theorem dX1_init_165 : decode cX1_init 165 = .ok (.aload_n 0, 1) := by decide +kernel
theorem dX1_init_166 : decode cX1_init 166 = .ok (.iconst 3, 1) := by decide +kernel
theorem dX1_init_167 : decode cX1_init 167 = .ok (.newarray .int, 2) := by decide +kernel
theorem dX1_init_169 : decode cX1_init 169 = .ok (.putfield 45, 3) := by decide +kernel
theorem dX1_init_172 : decode cX1_init 172 = .ok (.aload_n 0, 1) := by decide +kernel
theorem dX1_init_173 : decode cX1_init 173 = .ok (.getfield 45, 3) := by decide +kernel
theorem dX1_init_176 : decode cX1_init 176 = .ok (.iconst 0, 1) := by decide +kernel
theorem dX1_init_177 : decode cX1_init 177 = .ok (.bipush 100, 2) := by decide +kernel
theorem dX1_init_179 : decode cX1_init 179 = .ok (.iastore, 1) := by decide +kernel
theorem dX1_init_180 : decode cX1_init 180 = .ok (.aload_n 0, 1) := by decide +kernel
theorem dX1_init_181 : decode cX1_init 181 = .ok (.getfield 45, 3) := by decide +kernel
theorem dX1_init_184 : decode cX1_init 184 = .ok (.iconst 1, 1) := by decide +kernel
theorem dX1_init_185 : decode cX1_init 185 = .ok (.iconst 4, 1) := by decide +kernel
theorem dX1_init_186 : decode cX1_init 186 = .ok (.iastore, 1) := by decide +kernel
theorem dX1_init_187 : decode cX1_init 187 = .ok (.aload_n 0, 1) := by decide +kernel
theorem dX1_init_188 : decode cX1_init 188 = .ok (.getfield 45, 3) := by decide +kernel
theorem dX1_init_191 : decode cX1_init 191 = .ok (.iconst 2, 1) := by decide +kernel
theorem dX1_init_192 : decode cX1_init 192 = .ok (.bipush 20, 2) := by decide +kernel
theorem dX1_init_194 : decode cX1_init 194 = .ok (.iastore, 1) := by decide +kernel
theorem dX1_init_195 : decode cX1_init 195 = .ok (.return_, 1) := by decide +kernel
theorem dX1_copyFrom_0 : decode cX1_copyFrom 0 = .ok (.aload_n 1, 1) := by decide +kernel
theorem dX1_copyFrom_1 : decode cX1_copyFrom 1 = .ok (.getfield 9, 3) := by decide +kernel
theorem dX1_copyFrom_4 : decode cX1_copyFrom 4 = .ok (.iconst 0, 1) := by decide +kernel
theorem dX1_copyFrom_5 : decode cX1_copyFrom 5 = .ok (.aload_n 0, 1) := by decide +kernel
theorem dX1_copyFrom_6 : decode cX1_copyFrom 6 = .ok (.getfield 9, 3) := by decide +kernel
theorem dX1_copyFrom_9 : decode cX1_copyFrom 9 = .ok (.iconst 0, 1) := by decide +kernel
theorem dX1_copyFrom_10 : decode cX1_copyFrom 10 = .ok (.bipush 6, 2) := by decide +kernel
theorem dX1_copyFrom_12 : decode cX1_copyFrom 12 = .ok (.invokestatic 48, 3) := by decide +kernel
theorem dX1_copyFrom_15 : decode cX1_copyFrom 15 = .ok (.aload_n 1, 1) := by decide +kernel
theorem dX1_copyFrom_16 : decode cX1_copyFrom 16 = .ok (.getfield 15, 3) := by decide +kernel
theorem dX1_copyFrom_19 : decode cX1_copyFrom 19 = .ok (.iconst 0, 1) := by decide +kernel
theorem dX1_copyFrom_20 : decode cX1_copyFrom 20 = .ok (.aload_n 0, 1) := by decide +kernel
theorem dX1_copyFrom_21 : decode cX1_copyFrom 21 = .ok (.getfield 15, 3) := by decide +kernel
theorem dX1_copyFrom_24 : decode cX1_copyFrom 24 = .ok (.iconst 0, 1) := by decide +kernel
theorem dX1_copyFrom_25 : decode cX1_copyFrom 25 = .ok (.bipush 6, 2) := by decide +kernel
theorem dX1_copyFrom_27 : decode cX1_copyFrom 27 = .ok (.invokestatic 48, 3) := by decide +kernel
theorem dX1_copyFrom_30 : decode cX1_copyFrom 30 = .ok (.aload_n 1, 1) := by decide +kernel
theorem dX1_copyFrom_31 : decode cX1_copyFrom 31 = .ok (.getfield 18, 3) := by decide +kernel
theorem dX1_copyFrom_34 : decode cX1_copyFrom 34 = .ok (.iconst 0, 1) := by decide +kernel
theorem dX1_copyFrom_35 : decode cX1_copyFrom 35 = .ok (.aload_n 0, 1) := by decide +kernel
theorem dX1_copyFrom_36 : decode cX1_copyFrom 36 = .ok (.getfield 18, 3) := by decide +kernel
theorem dX1_copyFrom_39 : decode cX1_copyFrom 39 = .ok (.iconst 0, 1) := by decide +kernel
theorem dX1_copyFrom_40 : decode cX1_copyFrom 40 = .ok (.bipush 6, 2) := by decide +kernel
theorem dX1_copyFrom_42 : decode cX1_copyFrom 42 = .ok (.invokestatic 48, 3) := by decide +kernel
theorem dX1_copyFrom_45 : decode cX1_copyFrom 45 = .ok (.aload_n 1, 1) := by decide +kernel
theorem dX1_copyFrom_46 : decode cX1_copyFrom 46 = .ok (.getfield 21, 3) := by decide +kernel
theorem dX1_copyFrom_49 : decode cX1_copyFrom 49 = .ok (.iconst 0, 1) := by decide +kernel
theorem dX1_copyFrom_50 : decode cX1_copyFrom 50 = .ok (.aload_n 0, 1) := by decide +kernel
theorem dX1_copyFrom_51 : decode cX1_copyFrom 51 = .ok (.getfield 21, 3) := by decide +kernel
theorem dX1_copyFrom_54 : decode cX1_copyFrom 54 = .ok (.iconst 0, 1) := by decide +kernel
theorem dX1_copyFrom_55 : decode cX1_copyFrom 55 = .ok (.bipush 6, 2) := by decide +kernel
theorem dX1_copyFrom_57 : decode cX1_copyFrom 57 = .ok (.invokestatic 48, 3) := by decide +kernel
theorem dX1_copyFrom_60 : decode cX1_copyFrom 60 = .ok (.aload_n 1, 1) := by decide +kernel
theorem dX1_copyFrom_61 : decode cX1_copyFrom 61 = .ok (.getfield 24, 3) := by decide +kernel
theorem dX1_copyFrom_64 : decode cX1_copyFrom 64 = .ok (.iconst 0, 1) := by decide +kernel
theorem dX1_copyFrom_65 : decode cX1_copyFrom 65 = .ok (.aload_n 0, 1) := by decide +kernel
theorem dX1_copyFrom_66 : decode cX1_copyFrom 66 = .ok (.getfield 24, 3) := by decide +kernel
theorem dX1_copyFrom_69 : decode cX1_copyFrom 69 = .ok (.iconst 0, 1) := by decide +kernel
theorem dX1_copyFrom_70 : decode cX1_copyFrom 70 = .ok (.bipush 6, 2) := by decide +kernel
theorem dX1_copyFrom_72 : decode cX1_copyFrom 72 = .ok (.invokestatic 48, 3) := by decide +kernel
theorem dX1_copyFrom_75 : decode cX1_copyFrom 75 = .ok (.aload_n 1, 1) := by decide +kernel
theorem dX1_copyFrom_76 : decode cX1_copyFrom 76 = .ok (.getfield 27, 3) := by decide +kernel
theorem dX1_copyFrom_79 : decode cX1_copyFrom 79 = .ok (.iconst 0, 1) := by decide +kernel
theorem dX1_copyFrom_80 : decode cX1_copyFrom 80 = .ok (.aload_n 0, 1) := by decide +kernel
theorem dX1_copyFrom_81 : decode cX1_copyFrom 81 = .ok (.getfield 27, 3) := by decide +kernel
theorem dX1_copyFrom_84 : decode cX1_copyFrom 84 = .ok (.iconst 0, 1) := by decide +kernel
theorem dX1_copyFrom_85 : decode cX1_copyFrom 85 = .ok (.bipush 6, 2) := by decide +kernel
theorem dX1_copyFrom_87 : decode cX1_copyFrom 87 = .ok (.invokestatic 48, 3) := by decide +kernel
theorem dX1_copyFrom_90 : decode cX1_copyFrom 90 = .ok (.aload_n 1, 1) := by decide +kernel
theorem dX1_copyFrom_91 : decode cX1_copyFrom 91 = .ok (.getfield 30, 3) := by decide +kernel
theorem dX1_copyFrom_94 : decode cX1_copyFrom 94 = .ok (.iconst 0, 1) := by decide +kernel
theorem dX1_copyFrom_95 : decode cX1_copyFrom 95 = .ok (.aload_n 0, 1) := by decide +kernel
theorem dX1_copyFrom_96 : decode cX1_copyFrom 96 = .ok (.getfield 30, 3) := by decide +kernel
theorem dX1_copyFrom_99 : decode cX1_copyFrom 99 = .ok (.iconst 0, 1) := by decide +kernel
theorem dX1_copyFrom_100 : decode cX1_copyFrom 100 = .ok (.bipush 6, 2) := by decide +kernel
theorem dX1_copyFrom_102 : decode cX1_copyFrom 102 = .ok (.invokestatic 48, 3) := by decide +kernel
theorem dX1_copyFrom_105 : decode cX1_copyFrom 105 = .ok (.aload_n 1, 1) := by decide +kernel
theorem dX1_copyFrom_106 : decode cX1_copyFrom 106 = .ok (.getfield 33, 3) := by decide +kernel
theorem dX1_copyFrom_109 : decode cX1_copyFrom 109 = .ok (.iconst 0, 1) := by decide +kernel
theorem dX1_copyFrom_110 : decode cX1_copyFrom 110 = .ok (.aload_n 0, 1) := by decide +kernel
theorem dX1_copyFrom_111 : decode cX1_copyFrom 111 = .ok (.getfield 33, 3) := by decide +kernel
theorem dX1_copyFrom_114 : decode cX1_copyFrom 114 = .ok (.iconst 0, 1) := by decide +kernel
theorem dX1_copyFrom_115 : decode cX1_copyFrom 115 = .ok (.bipush 6, 2) := by decide +kernel
theorem dX1_copyFrom_117 : decode cX1_copyFrom 117 = .ok (.invokestatic 48, 3) := by decide +kernel
theorem dX1_copyFrom_120 : decode cX1_copyFrom 120 = .ok (.aload_n 1, 1) := by decide +kernel
theorem dX1_copyFrom_121 : decode cX1_copyFrom 121 = .ok (.getfield 36, 3) := by decide +kernel
theorem dX1_copyFrom_124 : decode cX1_copyFrom 124 = .ok (.iconst 0, 1) := by decide +kernel
theorem dX1_copyFrom_125 : decode cX1_copyFrom 125 = .ok (.aload_n 0, 1) := by decide +kernel
theorem dX1_copyFrom_126 : decode cX1_copyFrom 126 = .ok (.getfield 36, 3) := by decide +kernel
theorem dX1_copyFrom_129 : decode cX1_copyFrom 129 = .ok (.iconst 0, 1) := by decide +kernel
theorem dX1_copyFrom_130 : decode cX1_copyFrom 130 = .ok (.bipush 6, 2) := by decide +kernel
theorem dX1_copyFrom_132 : decode cX1_copyFrom 132 = .ok (.invokestatic 48, 3) := by decide +kernel
theorem dX1_copyFrom_135 : decode cX1_copyFrom 135 = .ok (.aload_n 1, 1) := by decide +kernel
theorem dX1_copyFrom_136 : decode cX1_copyFrom 136 = .ok (.getfield 39, 3) := by decide +kernel
theorem dX1_copyFrom_139 : decode cX1_copyFrom 139 = .ok (.iconst 0, 1) := by decide +kernel
theorem dX1_copyFrom_140 : decode cX1_copyFrom 140 = .ok (.aload_n 0, 1) := by decide +kernel
theorem dX1_copyFrom_141 : decode cX1_copyFrom 141 = .ok (.getfield 39, 3) := by decide +kernel
theorem dX1_copyFrom_144 : decode cX1_copyFrom 144 = .ok (.iconst 0, 1) := by decide +kernel
theorem dX1_copyFrom_145 : decode cX1_copyFrom 145 = .ok (.bipush 6, 2) := by decide +kernel
theorem dX1_copyFrom_147 : decode cX1_copyFrom 147 = .ok (.invokestatic 48, 3) := by decide +kernel
theorem dX1_copyFrom_150 : decode cX1_copyFrom 150 = .ok (.aload_n 1, 1) := by decide +kernel
theorem dX1_copyFrom_151 : decode cX1_copyFrom 151 = .ok (.getfield 42, 3) := by decide +kernel
theorem dX1_copyFrom_154 : decode cX1_copyFrom 154 = .ok (.iconst 0, 1) := by decide +kernel
theorem dX1_copyFrom_155 : decode cX1_copyFrom 155 = .ok (.aload_n 0, 1) := by decide +kernel
theorem dX1_copyFrom_156 : decode cX1_copyFrom 156 = .ok (.getfield 42, 3) := by decide +kernel
theorem dX1_copyFrom_159 : decode cX1_copyFrom 159 = .ok (.iconst 0, 1) := by decide +kernel
theorem dX1_copyFrom_160 : decode cX1_copyFrom 160 = .ok (.bipush 6, 2) := by decide +kernel
theorem dX1_copyFrom_162 : decode cX1_copyFrom 162 = .ok (.invokestatic 48, 3) := by decide +kernel
theorem dX1_copyFrom_165 : decode cX1_copyFrom 165 = .ok (.aload_n 1, 1) := by decide +kernel
theorem dX1_copyFrom_166 : decode cX1_copyFrom 166 = .ok (.getfield 45, 3) := by decide +kernel
theorem dX1_copyFrom_169 : decode cX1_copyFrom 169 = .ok (.iconst 0, 1) := by decide +kernel
theorem dX1_copyFrom_170 : decode cX1_copyFrom 170 = .ok (.aload_n 0, 1) := by decide +kernel
theorem dX1_copyFrom_171 : decode cX1_copyFrom 171 = .ok (.getfield 45, 3) := by decide +kernel
theorem dX1_copyFrom_174 : decode cX1_copyFrom 174 = .ok (.iconst 0, 1) := by decide +kernel
theorem dX1_copyFrom_175 : decode cX1_copyFrom 175 = .ok (.iconst 3, 1) := by decide +kernel
theorem dX1_copyFrom_176 : decode cX1_copyFrom 176 = .ok (.invokestatic 48, 3) := by decide +kernel
theorem dX1_copyFrom_179 : decode cX1_copyFrom 179 = .ok (.aload_n 0, 1) := by decide +kernel
theorem dX1_copyFrom_180 : decode cX1_copyFrom 180 = .ok (.aload_n 1, 1) := by decide +kernel
theorem dX1_copyFrom_181 : decode cX1_copyFrom 181 = .ok (.getfield 54, 3) := by decide +kernel
theorem dX1_copyFrom_184 : decode cX1_copyFrom 184 = .ok (.putfield 54, 3) := by decide +kernel
theorem dX1_copyFrom_187 : decode cX1_copyFrom 187 = .ok (.aload_n 0, 1) := by decide +kernel
theorem dX1_copyFrom_188 : decode cX1_copyFrom 188 = .ok (.aload_n 1, 1) := by decide +kernel
theorem dX1_copyFrom_189 : decode cX1_copyFrom 189 = .ok (.getfield 58, 3) := by decide +kernel
theorem dX1_copyFrom_192 : decode cX1_copyFrom 192 = .ok (.putfield 58, 3) := by decide +kernel
theorem dX1_copyFrom_195 : decode cX1_copyFrom 195 = .ok (.aload_n 0, 1) := by decide +kernel
theorem dX1_copyFrom_196 : decode cX1_copyFrom 196 = .ok (.aload_n 1, 1) := by decide +kernel
theorem dX1_copyFrom_197 : decode cX1_copyFrom 197 = .ok (.getfield 61, 3) := by decide +kernel
theorem dX1_copyFrom_200 : decode cX1_copyFrom 200 = .ok (.putfield 61, 3) := by decide +kernel
theorem dX1_copyFrom_203 : decode cX1_copyFrom 203 = .ok (.aload_n 0, 1) := by decide +kernel
theorem dX1_copyFrom_204 : decode cX1_copyFrom 204 = .ok (.aload_n 1, 1) := by decide +kernel
theorem dX1_copyFrom_205 : decode cX1_copyFrom 205 = .ok (.getfield 64, 3) := by decide +kernel
theorem dX1_copyFrom_208 : decode cX1_copyFrom 208 = .ok (.putfield 64, 3) := by decide +kernel
theorem dX1_copyFrom_211 : decode cX1_copyFrom 211 = .ok (.return_, 1) := by decide +kernel
theorem dX1_changePlane_0 : decode cX1_changePlane 0 = .ok (.aload_n 0, 1) := by decide +kernel
theorem dX1_changePlane_1 : decode cX1_changePlane 1 = .ok (.getfield 9, 3) := by decide +kernel
theorem dX1_changePlane_4 : decode cX1_changePlane 4 = .ok (.iload_n 1, 1) := by decide +kernel
theorem dX1_changePlane_5 : decode cX1_changePlane 5 = .ok (.iaload, 1) := by decide +kernel
theorem dX1_changePlane_6 : decode cX1_changePlane 6 = .ok (.istore 5, 2) := by decide +kernel
theorem dX1_changePlane_8 : decode cX1_changePlane 8 = .ok (.aload_n 0, 1) := by decide +kernel
theorem dX1_changePlane_9 : decode cX1_changePlane 9 = .ok (.getfield 9, 3) := by decide +kernel
theorem dX1_changePlane_12 : decode cX1_changePlane 12 = .ok (.iload_n 1, 1) := by decide +kernel
theorem dX1_changePlane_13 : decode cX1_changePlane 13 = .ok (.iload_n 2, 1) := by decide +kernel
theorem dX1_changePlane_14 : decode cX1_changePlane 14 = .ok (.iastore, 1) := by decide +kernel
theorem dX1_changePlane_15 : decode cX1_changePlane 15 = .ok (.aload_n 0, 1) := by decide +kernel
theorem dX1_changePlane_16 : decode cX1_changePlane 16 = .ok (.getfield 15, 3) := by decide +kernel
theorem dX1_changePlane_19 : decode cX1_changePlane 19 = .ok (.iload_n 1, 1) := by decide +kernel
theorem dX1_changePlane_20 : decode cX1_changePlane 20 = .ok (.iload_n 3, 1) := by decide +kernel
theorem dX1_changePlane_21 : decode cX1_changePlane 21 = .ok (.iastore, 1) := by decide +kernel
theorem dX1_changePlane_22 : decode cX1_changePlane 22 = .ok (.aload_n 0, 1) := by decide +kernel
theorem dX1_changePlane_23 : decode cX1_changePlane 23 = .ok (.getfield 18, 3) := by decide +kernel
theorem dX1_changePlane_26 : decode cX1_changePlane 26 = .ok (.iload_n 1, 1) := by decide +kernel
theorem dX1_changePlane_27 : decode cX1_changePlane 27 = .ok (.iload 4, 2) := by decide +kernel
theorem dX1_changePlane_29 : decode cX1_changePlane 29 = .ok (.iastore, 1) := by decide +kernel
theorem dX1_changePlane_30 : decode cX1_changePlane 30 = .ok (.iload 5, 2) := by decide +kernel
theorem dX1_changePlane_32 : decode cX1_changePlane 32 = .ok (.ireturn, 1) := by decide +kernel
theorem dX1_changeGutter_0 : decode cX1_changeGutter 0 = .ok (.aload_n 0, 1) := by decide +kernel
theorem dX1_changeGutter_1 : decode cX1_changeGutter 1 = .ok (.getfield 24, 3) := by decide +kernel
theorem dX1_changeGutter_4 : decode cX1_changeGutter 4 = .ok (.iload_n 1, 1) := by decide +kernel
theorem dX1_changeGutter_5 : decode cX1_changeGutter 5 = .ok (.iaload, 1) := by decide +kernel
theorem dX1_changeGutter_6 : decode cX1_changeGutter 6 = .ok (.istore 4, 2) := by decide +kernel
theorem dX1_changeGutter_8 : decode cX1_changeGutter 8 = .ok (.aload_n 0, 1) := by decide +kernel
theorem dX1_changeGutter_9 : decode cX1_changeGutter 9 = .ok (.getfield 24, 3) := by decide +kernel
theorem dX1_changeGutter_12 : decode cX1_changeGutter 12 = .ok (.iload_n 1, 1) := by decide +kernel
theorem dX1_changeGutter_13 : decode cX1_changeGutter 13 = .ok (.iload_n 2, 1) := by decide +kernel
theorem dX1_changeGutter_14 : decode cX1_changeGutter 14 = .ok (.iastore, 1) := by decide +kernel
theorem dX1_changeGutter_15 : decode cX1_changeGutter 15 = .ok (.aload_n 0, 1) := by decide +kernel
theorem dX1_changeGutter_16 : decode cX1_changeGutter 16 = .ok (.getfield 27, 3) := by decide +kernel
theorem dX1_changeGutter_19 : decode cX1_changeGutter 19 = .ok (.iload_n 1, 1) := by decide +kernel
theorem dX1_changeGutter_20 : decode cX1_changeGutter 20 = .ok (.iload_n 3, 1) := by decide +kernel
theorem dX1_changeGutter_21 : decode cX1_changeGutter 21 = .ok (.iastore, 1) := by decide +kernel
theorem dX1_changeGutter_22 : decode cX1_changeGutter 22 = .ok (.iload 4, 2) := by decide +kernel
theorem dX1_changeGutter_24 : decode cX1_changeGutter 24 = .ok (.ireturn, 1) := by decide +kernel
theorem dX1_changeValley_0 : decode cX1_changeValley 0 = .ok (.aload_n 0, 1) := by decide +kernel
theorem dX1_changeValley_1 : decode cX1_changeValley 1 = .ok (.getfield 33, 3) := by decide +kernel
theorem dX1_changeValley_4 : decode cX1_changeValley 4 = .ok (.iload_n 1, 1) := by decide +kernel
theorem dX1_changeValley_5 : decode cX1_changeValley 5 = .ok (.iaload, 1) := by decide +kernel
theorem dX1_changeValley_6 : decode cX1_changeValley 6 = .ok (.istore_n 3, 1) := by decide +kernel
theorem dX1_changeValley_7 : decode cX1_changeValley 7 = .ok (.aload_n 0, 1) := by decide +kernel
theorem dX1_changeValley_8 : decode cX1_changeValley 8 = .ok (.getfield 33, 3) := by decide +kernel
theorem dX1_changeValley_11 : decode cX1_changeValley 11 = .ok (.iload_n 1, 1) := by decide +kernel
theorem dX1_changeValley_12 : decode cX1_changeValley 12 = .ok (.iload_n 2, 1) := by decide +kernel
theorem dX1_changeValley_13 : decode cX1_changeValley 13 = .ok (.iastore, 1) := by decide +kernel
theorem dX1_changeValley_14 : decode cX1_changeValley 14 = .ok (.iload_n 3, 1) := by decide +kernel
theorem dX1_changeValley_15 : decode cX1_changeValley 15 = .ok (.ireturn, 1) := by decide +kernel
theorem dX1_takeLeaves_0 : decode cX1_takeLeaves 0 = .ok (.aload_n 0, 1) := by decide +kernel
theorem dX1_takeLeaves_1 : decode cX1_takeLeaves 1 = .ok (.getfield 30, 3) := by decide +kernel
theorem dX1_takeLeaves_4 : decode cX1_takeLeaves 4 = .ok (.iload_n 1, 1) := by decide +kernel
theorem dX1_takeLeaves_5 : decode cX1_takeLeaves 5 = .ok (.iaload, 1) := by decide +kernel
theorem dX1_takeLeaves_6 : decode cX1_takeLeaves 6 = .ok (.istore_n 2, 1) := by decide +kernel
theorem dX1_takeLeaves_7 : decode cX1_takeLeaves 7 = .ok (.aload_n 0, 1) := by decide +kernel
theorem dX1_takeLeaves_8 : decode cX1_takeLeaves 8 = .ok (.getfield 30, 3) := by decide +kernel
theorem dX1_takeLeaves_11 : decode cX1_takeLeaves 11 = .ok (.iload_n 1, 1) := by decide +kernel
theorem dX1_takeLeaves_12 : decode cX1_takeLeaves 12 = .ok (.iconst 0, 1) := by decide +kernel
theorem dX1_takeLeaves_13 : decode cX1_takeLeaves 13 = .ok (.iastore, 1) := by decide +kernel
theorem dX1_takeLeaves_14 : decode cX1_takeLeaves 14 = .ok (.iload_n 2, 1) := by decide +kernel
theorem dX1_takeLeaves_15 : decode cX1_takeLeaves 15 = .ok (.ireturn, 1) := by decide +kernel
theorem dX1_changeSetting_0 : decode cX1_changeSetting 0 = .ok (.aload_n 0, 1) := by decide +kernel
theorem dX1_changeSetting_1 : decode cX1_changeSetting 1 = .ok (.getfield 45, 3) := by decide +kernel
theorem dX1_changeSetting_4 : decode cX1_changeSetting 4 = .ok (.iload_n 1, 1) := by decide +kernel
theorem dX1_changeSetting_5 : decode cX1_changeSetting 5 = .ok (.iaload, 1) := by decide +kernel
theorem dX1_changeSetting_6 : decode cX1_changeSetting 6 = .ok (.istore_n 3, 1) := by decide +kernel
theorem dX1_changeSetting_7 : decode cX1_changeSetting 7 = .ok (.aload_n 0, 1) := by decide +kernel
theorem dX1_changeSetting_8 : decode cX1_changeSetting 8 = .ok (.getfield 45, 3) := by decide +kernel
theorem dX1_changeSetting_11 : decode cX1_changeSetting 11 = .ok (.iload_n 1, 1) := by decide +kernel
theorem dX1_changeSetting_12 : decode cX1_changeSetting 12 = .ok (.iload_n 2, 1) := by decide +kernel
theorem dX1_changeSetting_13 : decode cX1_changeSetting 13 = .ok (.iastore, 1) := by decide +kernel
theorem dX1_changeSetting_14 : decode cX1_changeSetting 14 = .ok (.iload_n 3, 1) := by decide +kernel
theorem dX1_changeSetting_15 : decode cX1_changeSetting 15 = .ok (.ireturn, 1) := by decide +kernel
set_option maxRecDepth 20000 in
theorem ggX1_valleysLead_X3_isGutter : GoodIn wsX1_valleysLead wsX3_isGutter := goodIn_r _ [4] rfl (by decide +kernel)
set_option maxRecDepth 20000 in
theorem gX1_valleysLead_X3_isGutter_n67 : GoodIn wsX1_valleysLead (wsX3_isGutter) := ggX1_valleysLead_X3_isGutter
theorem dX1_valleysLead_0 : decode cX1_valleysLead 0 = .ok (.iload_n 1, 1) := by decide +kernel
theorem dX1_valleysLead_1 : decode cX1_valleysLead 1 = .ok (.istore_n 3, 1) := by decide +kernel
theorem dX1_valleysLead_2 : decode cX1_valleysLead 2 = .ok (.iconst 0, 1) := by decide +kernel
theorem dX1_valleysLead_3 : decode cX1_valleysLead 3 = .ok (.istore 4, 2) := by decide +kernel
theorem dX1_valleysLead_5 : decode cX1_valleysLead 5 = .ok (.iload 4, 2) := by decide +kernel
theorem dX1_valleysLead_7 : decode cX1_valleysLead 7 = .ok (.bipush 6, 2) := by decide +kernel
theorem dX1_valleysLead_9 : decode cX1_valleysLead 9 = .ok (.if_icmp .ge 30, 3) := by decide +kernel
theorem dX1_valleysLead_12 : decode cX1_valleysLead 12 = .ok (.iload_n 3, 1) := by decide +kernel
theorem dX1_valleysLead_13 : decode cX1_valleysLead 13 = .ok (.invokestatic 67, 3) := by decide +kernel
theorem dX1_valleysLead_16 : decode cX1_valleysLead 16 = .ok (.ifCond .eq 23, 3) := by decide +kernel
theorem dX1_valleysLead_19 : decode cX1_valleysLead 19 = .ok (.iload_n 3, 1) := by decide +kernel
theorem dX1_valleysLead_20 : decode cX1_valleysLead 20 = .ok (.iload_n 2, 1) := by decide +kernel
theorem dX1_valleysLead_21 : decode cX1_valleysLead 21 = .ok (.if_icmp .ne 5, 3) := by decide +kernel
theorem dX1_valleysLead_24 : decode cX1_valleysLead 24 = .ok (.iconst 1, 1) := by decide +kernel
theorem dX1_valleysLead_25 : decode cX1_valleysLead 25 = .ok (.ireturn, 1) := by decide +kernel
theorem dX1_valleysLead_26 : decode cX1_valleysLead 26 = .ok (.aload_n 0, 1) := by decide +kernel
theorem dX1_valleysLead_27 : decode cX1_valleysLead 27 = .ok (.getfield 33, 3) := by decide +kernel
theorem dX1_valleysLead_30 : decode cX1_valleysLead 30 = .ok (.iload_n 3, 1) := by decide +kernel
theorem dX1_valleysLead_31 : decode cX1_valleysLead 31 = .ok (.iaload, 1) := by decide +kernel
theorem dX1_valleysLead_32 : decode cX1_valleysLead 32 = .ok (.istore_n 3, 1) := by decide +kernel
theorem dX1_valleysLead_33 : decode cX1_valleysLead 33 = .ok (.iinc 4 1, 3) := by decide +kernel
theorem dX1_valleysLead_36 : decode cX1_valleysLead 36 = .ok (.goto (-31), 3) := by decide +kernel
theorem dX1_valleysLead_39 : decode cX1_valleysLead 39 = .ok (.iconst 0, 1) := by decide +kernel
theorem dX1_valleysLead_40 : decode cX1_valleysLead 40 = .ok (.ireturn, 1) := by decide +kernel
set_option maxRecDepth 20000 in
theorem ggX1_passMinutes_X1_passMinute : GoodIn wsX1_passMinutes wsX1_passMinute := goodIn_r _ [5, 6, 7, 8, 9, 4, 10, 11, 12, 13, 14, 15, 16, 17, 18, 19, 20, 21, 22, 23, 24, 25, 26, 27, 28, 29, 30, 31, 32, 33, 34, 35, 36, 37, 38, 39, 40, 41, 42, 43, 44, 45, 46, 47, 48, 49, 50, 51, 52, 53, 54, 55, 56, 57, 58, 59, 60, 61, 62, 63] rfl (by decide +kernel)
set_option maxRecDepth 20000 in
theorem gX1_passMinutes_X1_passMinute : GoodIn wsX1_passMinutes (wsV RX1 71 RX1 yX1_passMinute wsX1_passMinute) := goodIn_app (goodIn_of _ (by decide +kernel)) ggX1_passMinutes_X1_passMinute
theorem dX1_passMinutes_0 : decode cX1_passMinutes 0 = .ok (.iconst 0, 1) := by decide +kernel
theorem dX1_passMinutes_1 : decode cX1_passMinutes 1 = .ok (.istore_n 3, 1) := by decide +kernel
theorem dX1_passMinutes_2 : decode cX1_passMinutes 2 = .ok (.iload_n 3, 1) := by decide +kernel
theorem dX1_passMinutes_3 : decode cX1_passMinutes 3 = .ok (.iload_n 2, 1) := by decide +kernel
theorem dX1_passMinutes_4 : decode cX1_passMinutes 4 = .ok (.if_icmp .ge 14, 3) := by decide +kernel
theorem dX1_passMinutes_7 : decode cX1_passMinutes 7 = .ok (.aload_n 0, 1) := by decide +kernel
theorem dX1_passMinutes_8 : decode cX1_passMinutes 8 = .ok (.iload_n 1, 1) := by decide +kernel
theorem dX1_passMinutes_9 : decode cX1_passMinutes 9 = .ok (.invokevirtual 71, 3) := by decide +kernel
theorem dX1_passMinutes_12 : decode cX1_passMinutes 12 = .ok (.iinc 3 1, 3) := by decide +kernel
theorem dX1_passMinutes_15 : decode cX1_passMinutes 15 = .ok (.goto (-13), 3) := by decide +kernel
theorem dX1_passMinutes_18 : decode cX1_passMinutes 18 = .ok (.return_, 1) := by decide +kernel
set_option maxRecDepth 20000 in
theorem ggX1_passMinute_X1_wetPlane : GoodIn wsX1_passMinute wsX1_wetPlane := goodIn_r _ [6, 7, 8, 9, 10, 11, 12, 13, 14, 15, 44, 45, 46, 47, 48, 49, 50, 51, 52, 53, 54, 55, 56, 57, 58, 59] rfl (by decide +kernel)
set_option maxRecDepth 20000 in
theorem gX1_passMinute_X1_wetPlane : GoodIn wsX1_passMinute (wsV RX1 75 RX1 yX1_wetPlane wsX1_wetPlane) := goodIn_app (goodIn_of _ (by decide +kernel)) ggX1_passMinute_X1_wetPlane
set_option maxRecDepth 20000 in
theorem ggX1_passMinute_X1_emptyIntoDrain : GoodIn wsX1_passMinute wsX1_emptyIntoDrain := goodIn_r _ [19, 20, 12, 21, 22, 23, 24, 25, 26, 27, 28, 29, 5, 30, 31, 32, 44, 45, 46, 47, 48, 49, 50, 51, 52, 53, 54, 55, 56, 57, 58, 59] rfl (by decide +kernel)
set_option maxRecDepth 20000 in
theorem gX1_passMinute_X1_emptyIntoDrain : GoodIn wsX1_passMinute (wsV RX1 79 RX1 yX1_emptyIntoDrain wsX1_emptyIntoDrain) := goodIn_app (goodIn_of _ (by decide +kernel)) ggX1_passMinute_X1_emptyIntoDrain
set_option maxRecDepth 20000 in
theorem ggX1_passMinute_X1_overflow : GoodIn wsX1_passMinute wsX1_overflow := goodIn_r _ [36, 12, 37, 38, 39, 40, 41, 5, 42, 43, 32, 13, 14, 15, 44, 45, 46, 47, 48, 49, 50, 51, 52, 53, 54, 55, 56, 57, 58, 59] rfl (by decide +kernel)
set_option maxRecDepth 20000 in
theorem gX1_passMinute_X1_overflow : GoodIn wsX1_passMinute (wsV RX1 82 RX1 yX1_overflow wsX1_overflow) := goodIn_app (goodIn_of _ (by decide +kernel)) ggX1_passMinute_X1_overflow
theorem dX1_passMinute_0 : decode cX1_passMinute 0 = .ok (.iconst 0, 1) := by decide +kernel
theorem dX1_passMinute_1 : decode cX1_passMinute 1 = .ok (.istore_n 2, 1) := by decide +kernel
theorem dX1_passMinute_2 : decode cX1_passMinute 2 = .ok (.iload_n 2, 1) := by decide +kernel
theorem dX1_passMinute_3 : decode cX1_passMinute 3 = .ok (.bipush 6, 2) := by decide +kernel
theorem dX1_passMinute_5 : decode cX1_passMinute 5 = .ok (.if_icmp .ge 15, 3) := by decide +kernel
theorem dX1_passMinute_8 : decode cX1_passMinute 8 = .ok (.aload_n 0, 1) := by decide +kernel
theorem dX1_passMinute_9 : decode cX1_passMinute 9 = .ok (.iload_n 2, 1) := by decide +kernel
theorem dX1_passMinute_10 : decode cX1_passMinute 10 = .ok (.iload_n 1, 1) := by decide +kernel
theorem dX1_passMinute_11 : decode cX1_passMinute 11 = .ok (.invokevirtual 75, 3) := by decide +kernel
theorem dX1_passMinute_14 : decode cX1_passMinute 14 = .ok (.iinc 2 1, 3) := by decide +kernel
theorem dX1_passMinute_17 : decode cX1_passMinute 17 = .ok (.goto (-15), 3) := by decide +kernel
theorem dX1_passMinute_20 : decode cX1_passMinute 20 = .ok (.aload_n 0, 1) := by decide +kernel
theorem dX1_passMinute_21 : decode cX1_passMinute 21 = .ok (.invokevirtual 79, 3) := by decide +kernel
theorem dX1_passMinute_24 : decode cX1_passMinute 24 = .ok (.iconst 0, 1) := by decide +kernel
theorem dX1_passMinute_25 : decode cX1_passMinute 25 = .ok (.istore_n 2, 1) := by decide +kernel
theorem dX1_passMinute_26 : decode cX1_passMinute 26 = .ok (.iload_n 2, 1) := by decide +kernel
theorem dX1_passMinute_27 : decode cX1_passMinute 27 = .ok (.bipush 6, 2) := by decide +kernel
theorem dX1_passMinute_29 : decode cX1_passMinute 29 = .ok (.if_icmp .ge 14, 3) := by decide +kernel
theorem dX1_passMinute_32 : decode cX1_passMinute 32 = .ok (.aload_n 0, 1) := by decide +kernel
theorem dX1_passMinute_33 : decode cX1_passMinute 33 = .ok (.iload_n 2, 1) := by decide +kernel
theorem dX1_passMinute_34 : decode cX1_passMinute 34 = .ok (.invokevirtual 82, 3) := by decide +kernel
theorem dX1_passMinute_37 : decode cX1_passMinute 37 = .ok (.iinc 2 1, 3) := by decide +kernel
theorem dX1_passMinute_40 : decode cX1_passMinute 40 = .ok (.goto (-14), 3) := by decide +kernel
theorem dX1_passMinute_43 : decode cX1_passMinute 43 = .ok (.aload_n 0, 1) := by decide +kernel
theorem dX1_passMinute_44 : decode cX1_passMinute 44 = .ok (.dup, 1) := by decide +kernel
theorem dX1_passMinute_45 : decode cX1_passMinute 45 = .ok (.getfield 54, 3) := by decide +kernel
theorem dX1_passMinute_48 : decode cX1_passMinute 48 = .ok (.iconst 1, 1) := by decide +kernel
theorem dX1_passMinute_49 : decode cX1_passMinute 49 = .ok (.iadd, 1) := by decide +kernel
theorem dX1_passMinute_50 : decode cX1_passMinute 50 = .ok (.putfield 54, 3) := by decide +kernel
theorem dX1_passMinute_53 : decode cX1_passMinute 53 = .ok (.return_, 1) := by decide +kernel
theorem dX1_passWeek_0 : decode cX1_passWeek 0 = .ok (.iconst 0, 1) := by decide +kernel
theorem dX1_passWeek_1 : decode cX1_passWeek 1 = .ok (.istore_n 1, 1) := by decide +kernel
theorem dX1_passWeek_2 : decode cX1_passWeek 2 = .ok (.iload_n 1, 1) := by decide +kernel
theorem dX1_passWeek_3 : decode cX1_passWeek 3 = .ok (.bipush 6, 2) := by decide +kernel
theorem dX1_passWeek_5 : decode cX1_passWeek 5 = .ok (.if_icmp .ge 33, 3) := by decide +kernel
theorem dX1_passWeek_8 : decode cX1_passWeek 8 = .ok (.aload_n 0, 1) := by decide +kernel
theorem dX1_passWeek_9 : decode cX1_passWeek 9 = .ok (.getfield 30, 3) := by decide +kernel
theorem dX1_passWeek_12 : decode cX1_passWeek 12 = .ok (.iload_n 1, 1) := by decide +kernel
theorem dX1_passWeek_13 : decode cX1_passWeek 13 = .ok (.bipush 100, 2) := by decide +kernel
theorem dX1_passWeek_15 : decode cX1_passWeek 15 = .ok (.aload_n 0, 1) := by decide +kernel
theorem dX1_passWeek_16 : decode cX1_passWeek 16 = .ok (.getfield 30, 3) := by decide +kernel
theorem dX1_passWeek_19 : decode cX1_passWeek 19 = .ok (.iload_n 1, 1) := by decide +kernel
theorem dX1_passWeek_20 : decode cX1_passWeek 20 = .ok (.iaload, 1) := by decide +kernel
theorem dX1_passWeek_21 : decode cX1_passWeek 21 = .ok (.aload_n 0, 1) := by decide +kernel
theorem dX1_passWeek_22 : decode cX1_passWeek 22 = .ok (.getfield 45, 3) := by decide +kernel
theorem dX1_passWeek_25 : decode cX1_passWeek 25 = .ok (.iconst 1, 1) := by decide +kernel
theorem dX1_passWeek_26 : decode cX1_passWeek 26 = .ok (.iaload, 1) := by decide +kernel
theorem dX1_passWeek_27 : decode cX1_passWeek 27 = .ok (.iadd, 1) := by decide +kernel
theorem dX1_passWeek_28 : decode cX1_passWeek 28 = .ok (.invokestatic 85, 3) := by decide +kernel
theorem dX1_passWeek_31 : decode cX1_passWeek 31 = .ok (.iastore, 1) := by decide +kernel
theorem dX1_passWeek_32 : decode cX1_passWeek 32 = .ok (.iinc 1 1, 3) := by decide +kernel
theorem dX1_passWeek_35 : decode cX1_passWeek 35 = .ok (.goto (-33), 3) := by decide +kernel
theorem dX1_passWeek_38 : decode cX1_passWeek 38 = .ok (.aload_n 0, 1) := by decide +kernel
theorem dX1_passWeek_39 : decode cX1_passWeek 39 = .ok (.dup, 1) := by decide +kernel
theorem dX1_passWeek_40 : decode cX1_passWeek 40 = .ok (.getfield 58, 3) := by decide +kernel
theorem dX1_passWeek_43 : decode cX1_passWeek 43 = .ok (.iconst 1, 1) := by decide +kernel
theorem dX1_passWeek_44 : decode cX1_passWeek 44 = .ok (.iadd, 1) := by decide +kernel
theorem dX1_passWeek_45 : decode cX1_passWeek 45 = .ok (.putfield 58, 3) := by decide +kernel
theorem dX1_passWeek_48 : decode cX1_passWeek 48 = .ok (.return_, 1) := by decide +kernel
set_option maxRecDepth 20000 in
theorem ggX1_wetPlane_X3_isGutter : GoodIn wsX1_wetPlane wsX3_isGutter := goodIn_r _ [9] rfl (by decide +kernel)
set_option maxRecDepth 20000 in
theorem gX1_wetPlane_X3_isGutter_n67 : GoodIn wsX1_wetPlane (wsX3_isGutter) := ggX1_wetPlane_X3_isGutter
theorem dX1_wetPlane_0 : decode cX1_wetPlane 0 = .ok (.aload_n 0, 1) := by decide +kernel
theorem dX1_wetPlane_1 : decode cX1_wetPlane 1 = .ok (.getfield 9, 3) := by decide +kernel
theorem dX1_wetPlane_4 : decode cX1_wetPlane 4 = .ok (.iload_n 1, 1) := by decide +kernel
theorem dX1_wetPlane_5 : decode cX1_wetPlane 5 = .ok (.iaload, 1) := by decide +kernel
theorem dX1_wetPlane_6 : decode cX1_wetPlane 6 = .ok (.iload_n 2, 1) := by decide +kernel
theorem dX1_wetPlane_7 : decode cX1_wetPlane 7 = .ok (.imul, 1) := by decide +kernel
theorem dX1_wetPlane_8 : decode cX1_wetPlane 8 = .ok (.bipush 10, 2) := by decide +kernel
theorem dX1_wetPlane_10 : decode cX1_wetPlane 10 = .ok (.idiv, 1) := by decide +kernel
theorem dX1_wetPlane_11 : decode cX1_wetPlane 11 = .ok (.istore_n 3, 1) := by decide +kernel
theorem dX1_wetPlane_12 : decode cX1_wetPlane 12 = .ok (.aload_n 0, 1) := by decide +kernel
theorem dX1_wetPlane_13 : decode cX1_wetPlane 13 = .ok (.dup, 1) := by decide +kernel
theorem dX1_wetPlane_14 : decode cX1_wetPlane 14 = .ok (.getfield 61, 3) := by decide +kernel
theorem dX1_wetPlane_17 : decode cX1_wetPlane 17 = .ok (.iload_n 3, 1) := by decide +kernel
theorem dX1_wetPlane_18 : decode cX1_wetPlane 18 = .ok (.iadd, 1) := by decide +kernel
theorem dX1_wetPlane_19 : decode cX1_wetPlane 19 = .ok (.putfield 61, 3) := by decide +kernel
theorem dX1_wetPlane_22 : decode cX1_wetPlane 22 = .ok (.aload_n 0, 1) := by decide +kernel
theorem dX1_wetPlane_23 : decode cX1_wetPlane 23 = .ok (.getfield 21, 3) := by decide +kernel
theorem dX1_wetPlane_26 : decode cX1_wetPlane 26 = .ok (.iload_n 1, 1) := by decide +kernel
theorem dX1_wetPlane_27 : decode cX1_wetPlane 27 = .ok (.dup2, 1) := by decide +kernel
theorem dX1_wetPlane_28 : decode cX1_wetPlane 28 = .ok (.iaload, 1) := by decide +kernel
theorem dX1_wetPlane_29 : decode cX1_wetPlane 29 = .ok (.iload_n 3, 1) := by decide +kernel
theorem dX1_wetPlane_30 : decode cX1_wetPlane 30 = .ok (.iadd, 1) := by decide +kernel
theorem dX1_wetPlane_31 : decode cX1_wetPlane 31 = .ok (.iastore, 1) := by decide +kernel
theorem dX1_wetPlane_32 : decode cX1_wetPlane 32 = .ok (.aload_n 0, 1) := by decide +kernel
theorem dX1_wetPlane_33 : decode cX1_wetPlane 33 = .ok (.getfield 21, 3) := by decide +kernel
theorem dX1_wetPlane_36 : decode cX1_wetPlane 36 = .ok (.iload_n 1, 1) := by decide +kernel
theorem dX1_wetPlane_37 : decode cX1_wetPlane 37 = .ok (.iaload, 1) := by decide +kernel
theorem dX1_wetPlane_38 : decode cX1_wetPlane 38 = .ok (.iconst 5, 1) := by decide +kernel
theorem dX1_wetPlane_39 : decode cX1_wetPlane 39 = .ok (.aload_n 0, 1) := by decide +kernel
theorem dX1_wetPlane_40 : decode cX1_wetPlane 40 = .ok (.getfield 15, 3) := by decide +kernel
theorem dX1_wetPlane_43 : decode cX1_wetPlane 43 = .ok (.iload_n 1, 1) := by decide +kernel
theorem dX1_wetPlane_44 : decode cX1_wetPlane 44 = .ok (.iaload, 1) := by decide +kernel
theorem dX1_wetPlane_45 : decode cX1_wetPlane 45 = .ok (.iadd, 1) := by decide +kernel
theorem dX1_wetPlane_46 : decode cX1_wetPlane 46 = .ok (.imul, 1) := by decide +kernel
theorem dX1_wetPlane_47 : decode cX1_wetPlane 47 = .ok (.bipush 14, 2) := by decide +kernel
theorem dX1_wetPlane_49 : decode cX1_wetPlane 49 = .ok (.idiv, 1) := by decide +kernel
theorem dX1_wetPlane_50 : decode cX1_wetPlane 50 = .ok (.istore 4, 2) := by decide +kernel
theorem dX1_wetPlane_52 : decode cX1_wetPlane 52 = .ok (.iload 4, 2) := by decide +kernel
theorem dX1_wetPlane_54 : decode cX1_wetPlane 54 = .ok (.ifCond .ne 15, 3) := by decide +kernel
theorem dX1_wetPlane_57 : decode cX1_wetPlane 57 = .ok (.aload_n 0, 1) := by decide +kernel
theorem dX1_wetPlane_58 : decode cX1_wetPlane 58 = .ok (.getfield 21, 3) := by decide +kernel
theorem dX1_wetPlane_61 : decode cX1_wetPlane 61 = .ok (.iload_n 1, 1) := by decide +kernel
theorem dX1_wetPlane_62 : decode cX1_wetPlane 62 = .ok (.iaload, 1) := by decide +kernel
theorem dX1_wetPlane_63 : decode cX1_wetPlane 63 = .ok (.ifCond .le 6, 3) := by decide +kernel
theorem dX1_wetPlane_66 : decode cX1_wetPlane 66 = .ok (.iconst 1, 1) := by decide +kernel
theorem dX1_wetPlane_67 : decode cX1_wetPlane 67 = .ok (.istore 4, 2) := by decide +kernel
theorem dX1_wetPlane_69 : decode cX1_wetPlane 69 = .ok (.aload_n 0, 1) := by decide +kernel
theorem dX1_wetPlane_70 : decode cX1_wetPlane 70 = .ok (.getfield 21, 3) := by decide +kernel
theorem dX1_wetPlane_73 : decode cX1_wetPlane 73 = .ok (.iload_n 1, 1) := by decide +kernel
theorem dX1_wetPlane_74 : decode cX1_wetPlane 74 = .ok (.dup2, 1) := by decide +kernel
theorem dX1_wetPlane_75 : decode cX1_wetPlane 75 = .ok (.iaload, 1) := by decide +kernel
theorem dX1_wetPlane_76 : decode cX1_wetPlane 76 = .ok (.iload 4, 2) := by decide +kernel
theorem dX1_wetPlane_78 : decode cX1_wetPlane 78 = .ok (.isub, 1) := by decide +kernel
theorem dX1_wetPlane_79 : decode cX1_wetPlane 79 = .ok (.iastore, 1) := by decide +kernel
theorem dX1_wetPlane_80 : decode cX1_wetPlane 80 = .ok (.aload_n 0, 1) := by decide +kernel
theorem dX1_wetPlane_81 : decode cX1_wetPlane 81 = .ok (.getfield 18, 3) := by decide +kernel
theorem dX1_wetPlane_84 : decode cX1_wetPlane 84 = .ok (.iload_n 1, 1) := by decide +kernel
theorem dX1_wetPlane_85 : decode cX1_wetPlane 85 = .ok (.iaload, 1) := by decide +kernel
theorem dX1_wetPlane_86 : decode cX1_wetPlane 86 = .ok (.istore 5, 2) := by decide +kernel
theorem dX1_wetPlane_88 : decode cX1_wetPlane 88 = .ok (.iload 5, 2) := by decide +kernel
theorem dX1_wetPlane_90 : decode cX1_wetPlane 90 = .ok (.invokestatic 67, 3) := by decide +kernel
theorem dX1_wetPlane_93 : decode cX1_wetPlane 93 = .ok (.ifCond .eq 15, 3) := by decide +kernel
theorem dX1_wetPlane_96 : decode cX1_wetPlane 96 = .ok (.aload_n 0, 1) := by decide +kernel
theorem dX1_wetPlane_97 : decode cX1_wetPlane 97 = .ok (.getfield 36, 3) := by decide +kernel
theorem dX1_wetPlane_100 : decode cX1_wetPlane 100 = .ok (.iload 5, 2) := by decide +kernel
theorem dX1_wetPlane_102 : decode cX1_wetPlane 102 = .ok (.dup2, 1) := by decide +kernel
theorem dX1_wetPlane_103 : decode cX1_wetPlane 103 = .ok (.iaload, 1) := by decide +kernel
theorem dX1_wetPlane_104 : decode cX1_wetPlane 104 = .ok (.iload 4, 2) := by decide +kernel
theorem dX1_wetPlane_106 : decode cX1_wetPlane 106 = .ok (.iadd, 1) := by decide +kernel
theorem dX1_wetPlane_107 : decode cX1_wetPlane 107 = .ok (.iastore, 1) := by decide +kernel
theorem dX1_wetPlane_108 : decode cX1_wetPlane 108 = .ok (.return_, 1) := by decide +kernel
set_option maxRecDepth 20000 in
theorem ggX1_emptyIntoDrain_X1_pipeTakes : GoodIn wsX1_emptyIntoDrain wsX1_pipeTakes := goodIn_r _ [13, 14, 15, 16, 17, 18, 19, 20, 21, 22, 23, 24, 25, 26, 27, 28, 29, 30, 31] rfl (by decide +kernel)
set_option maxRecDepth 20000 in
theorem gX1_emptyIntoDrain_X1_pipeTakes : GoodIn wsX1_emptyIntoDrain (wsV RX1 91 RX1 yX1_pipeTakes wsX1_pipeTakes) := goodIn_app (goodIn_of _ (by decide +kernel)) ggX1_emptyIntoDrain_X1_pipeTakes
theorem dX1_emptyIntoDrain_0 : decode cX1_emptyIntoDrain 0 = .ok (.aload_n 0, 1) := by decide +kernel
theorem dX1_emptyIntoDrain_1 : decode cX1_emptyIntoDrain 1 = .ok (.getfield 45, 3) := by decide +kernel
theorem dX1_emptyIntoDrain_4 : decode cX1_emptyIntoDrain 4 = .ok (.iconst 0, 1) := by decide +kernel
theorem dX1_emptyIntoDrain_5 : decode cX1_emptyIntoDrain 5 = .ok (.iaload, 1) := by decide +kernel
theorem dX1_emptyIntoDrain_6 : decode cX1_emptyIntoDrain 6 = .ok (.istore_n 1, 1) := by decide +kernel
theorem dX1_emptyIntoDrain_7 : decode cX1_emptyIntoDrain 7 = .ok (.iconst 0, 1) := by decide +kernel
theorem dX1_emptyIntoDrain_8 : decode cX1_emptyIntoDrain 8 = .ok (.istore_n 2, 1) := by decide +kernel
theorem dX1_emptyIntoDrain_9 : decode cX1_emptyIntoDrain 9 = .ok (.iconst 0, 1) := by decide +kernel
theorem dX1_emptyIntoDrain_10 : decode cX1_emptyIntoDrain 10 = .ok (.istore_n 3, 1) := by decide +kernel
theorem dX1_emptyIntoDrain_11 : decode cX1_emptyIntoDrain 11 = .ok (.iload_n 3, 1) := by decide +kernel
theorem dX1_emptyIntoDrain_12 : decode cX1_emptyIntoDrain 12 = .ok (.bipush 6, 2) := by decide +kernel
theorem dX1_emptyIntoDrain_14 : decode cX1_emptyIntoDrain 14 = .ok (.if_icmp .ge 77, 3) := by decide +kernel
theorem dX1_emptyIntoDrain_17 : decode cX1_emptyIntoDrain 17 = .ok (.aload_n 0, 1) := by decide +kernel
theorem dX1_emptyIntoDrain_18 : decode cX1_emptyIntoDrain 18 = .ok (.iload_n 3, 1) := by decide +kernel
theorem dX1_emptyIntoDrain_19 : decode cX1_emptyIntoDrain 19 = .ok (.invokevirtual 91, 3) := by decide +kernel
theorem dX1_emptyIntoDrain_22 : decode cX1_emptyIntoDrain 22 = .ok (.aload_n 0, 1) := by decide +kernel
theorem dX1_emptyIntoDrain_23 : decode cX1_emptyIntoDrain 23 = .ok (.getfield 36, 3) := by decide +kernel
theorem dX1_emptyIntoDrain_26 : decode cX1_emptyIntoDrain 26 = .ok (.iload_n 3, 1) := by decide +kernel
theorem dX1_emptyIntoDrain_27 : decode cX1_emptyIntoDrain 27 = .ok (.iaload, 1) := by decide +kernel
theorem dX1_emptyIntoDrain_28 : decode cX1_emptyIntoDrain 28 = .ok (.invokestatic 85, 3) := by decide +kernel
theorem dX1_emptyIntoDrain_31 : decode cX1_emptyIntoDrain 31 = .ok (.istore 4, 2) := by decide +kernel
theorem dX1_emptyIntoDrain_33 : decode cX1_emptyIntoDrain 33 = .ok (.iload 4, 2) := by decide +kernel
theorem dX1_emptyIntoDrain_35 : decode cX1_emptyIntoDrain 35 = .ok (.iload_n 1, 1) := by decide +kernel
theorem dX1_emptyIntoDrain_36 : decode cX1_emptyIntoDrain 36 = .ok (.invokestatic 85, 3) := by decide +kernel
theorem dX1_emptyIntoDrain_39 : decode cX1_emptyIntoDrain 39 = .ok (.istore 5, 2) := by decide +kernel
theorem dX1_emptyIntoDrain_41 : decode cX1_emptyIntoDrain 41 = .ok (.aload_n 0, 1) := by decide +kernel
theorem dX1_emptyIntoDrain_42 : decode cX1_emptyIntoDrain 42 = .ok (.getfield 36, 3) := by decide +kernel
theorem dX1_emptyIntoDrain_45 : decode cX1_emptyIntoDrain 45 = .ok (.iload_n 3, 1) := by decide +kernel
theorem dX1_emptyIntoDrain_46 : decode cX1_emptyIntoDrain 46 = .ok (.dup2, 1) := by decide +kernel
theorem dX1_emptyIntoDrain_47 : decode cX1_emptyIntoDrain 47 = .ok (.iaload, 1) := by decide +kernel
theorem dX1_emptyIntoDrain_48 : decode cX1_emptyIntoDrain 48 = .ok (.iload 5, 2) := by decide +kernel
theorem dX1_emptyIntoDrain_50 : decode cX1_emptyIntoDrain 50 = .ok (.isub, 1) := by decide +kernel
theorem dX1_emptyIntoDrain_51 : decode cX1_emptyIntoDrain 51 = .ok (.iastore, 1) := by decide +kernel
theorem dX1_emptyIntoDrain_52 : decode cX1_emptyIntoDrain 52 = .ok (.aload_n 0, 1) := by decide +kernel
theorem dX1_emptyIntoDrain_53 : decode cX1_emptyIntoDrain 53 = .ok (.getfield 42, 3) := by decide +kernel
theorem dX1_emptyIntoDrain_56 : decode cX1_emptyIntoDrain 56 = .ok (.iload_n 3, 1) := by decide +kernel
theorem dX1_emptyIntoDrain_57 : decode cX1_emptyIntoDrain 57 = .ok (.dup2, 1) := by decide +kernel
theorem dX1_emptyIntoDrain_58 : decode cX1_emptyIntoDrain 58 = .ok (.iaload, 1) := by decide +kernel
theorem dX1_emptyIntoDrain_59 : decode cX1_emptyIntoDrain 59 = .ok (.iload 5, 2) := by decide +kernel
theorem dX1_emptyIntoDrain_61 : decode cX1_emptyIntoDrain 61 = .ok (.iadd, 1) := by decide +kernel
theorem dX1_emptyIntoDrain_62 : decode cX1_emptyIntoDrain 62 = .ok (.iastore, 1) := by decide +kernel
theorem dX1_emptyIntoDrain_63 : decode cX1_emptyIntoDrain 63 = .ok (.iload_n 1, 1) := by decide +kernel
theorem dX1_emptyIntoDrain_64 : decode cX1_emptyIntoDrain 64 = .ok (.iload 5, 2) := by decide +kernel
theorem dX1_emptyIntoDrain_66 : decode cX1_emptyIntoDrain 66 = .ok (.isub, 1) := by decide +kernel
theorem dX1_emptyIntoDrain_67 : decode cX1_emptyIntoDrain 67 = .ok (.istore_n 1, 1) := by decide +kernel
theorem dX1_emptyIntoDrain_68 : decode cX1_emptyIntoDrain 68 = .ok (.iload_n 2, 1) := by decide +kernel
theorem dX1_emptyIntoDrain_69 : decode cX1_emptyIntoDrain 69 = .ok (.ifCond .ne 10, 3) := by decide +kernel
theorem dX1_emptyIntoDrain_72 : decode cX1_emptyIntoDrain 72 = .ok (.iload 5, 2) := by decide +kernel
theorem dX1_emptyIntoDrain_74 : decode cX1_emptyIntoDrain 74 = .ok (.iload 4, 2) := by decide +kernel
theorem dX1_emptyIntoDrain_76 : decode cX1_emptyIntoDrain 76 = .ok (.if_icmp .ge 7, 3) := by decide +kernel
theorem dX1_emptyIntoDrain_79 : decode cX1_emptyIntoDrain 79 = .ok (.iconst 1, 1) := by decide +kernel
theorem dX1_emptyIntoDrain_80 : decode cX1_emptyIntoDrain 80 = .ok (.goto 4, 3) := by decide +kernel
theorem dX1_emptyIntoDrain_83 : decode cX1_emptyIntoDrain 83 = .ok (.iconst 0, 1) := by decide +kernel
theorem dX1_emptyIntoDrain_84 : decode cX1_emptyIntoDrain 84 = .ok (.istore_n 2, 1) := by decide +kernel
theorem dX1_emptyIntoDrain_85 : decode cX1_emptyIntoDrain 85 = .ok (.iinc 3 1, 3) := by decide +kernel
theorem dX1_emptyIntoDrain_88 : decode cX1_emptyIntoDrain 88 = .ok (.goto (-77), 3) := by decide +kernel
theorem dX1_emptyIntoDrain_91 : decode cX1_emptyIntoDrain 91 = .ok (.iload_n 2, 1) := by decide +kernel
theorem dX1_emptyIntoDrain_92 : decode cX1_emptyIntoDrain 92 = .ok (.ifCond .eq 13, 3) := by decide +kernel
theorem dX1_emptyIntoDrain_95 : decode cX1_emptyIntoDrain 95 = .ok (.aload_n 0, 1) := by decide +kernel
theorem dX1_emptyIntoDrain_96 : decode cX1_emptyIntoDrain 96 = .ok (.dup, 1) := by decide +kernel
theorem dX1_emptyIntoDrain_97 : decode cX1_emptyIntoDrain 97 = .ok (.getfield 64, 3) := by decide +kernel
theorem dX1_emptyIntoDrain_100 : decode cX1_emptyIntoDrain 100 = .ok (.iconst 1, 1) := by decide +kernel
theorem dX1_emptyIntoDrain_101 : decode cX1_emptyIntoDrain 101 = .ok (.iadd, 1) := by decide +kernel
theorem dX1_emptyIntoDrain_102 : decode cX1_emptyIntoDrain 102 = .ok (.putfield 64, 3) := by decide +kernel
theorem dX1_emptyIntoDrain_105 : decode cX1_emptyIntoDrain 105 = .ok (.return_, 1) := by decide +kernel
set_option maxRecDepth 20000 in
theorem ggX1_overflow_X1_room : GoodIn wsX1_overflow wsX1_room := goodIn_r _ [8, 9, 10, 14, 15, 16, 17, 18, 19, 20, 21, 22, 23, 24, 25, 26, 27, 28, 29] rfl (by decide +kernel)
set_option maxRecDepth 20000 in
theorem gX1_overflow_X1_room : GoodIn wsX1_overflow (wsV RX1 95 RX1 yX1_room wsX1_room) := goodIn_app (goodIn_of _ (by decide +kernel)) ggX1_overflow_X1_room
set_option maxRecDepth 20000 in
theorem ggX1_overflow_X3_isGutter : GoodIn wsX1_overflow wsX3_isGutter := goodIn_r _ [13] rfl (by decide +kernel)
set_option maxRecDepth 20000 in
theorem gX1_overflow_X3_isGutter_n67 : GoodIn wsX1_overflow (wsX3_isGutter) := ggX1_overflow_X3_isGutter
theorem dX1_overflow_0 : decode cX1_overflow 0 = .ok (.aload_n 0, 1) := by decide +kernel
theorem dX1_overflow_1 : decode cX1_overflow 1 = .ok (.getfield 36, 3) := by decide +kernel
theorem dX1_overflow_4 : decode cX1_overflow 4 = .ok (.iload_n 1, 1) := by decide +kernel
theorem dX1_overflow_5 : decode cX1_overflow 5 = .ok (.iaload, 1) := by decide +kernel
theorem dX1_overflow_6 : decode cX1_overflow 6 = .ok (.aload_n 0, 1) := by decide +kernel
theorem dX1_overflow_7 : decode cX1_overflow 7 = .ok (.iload_n 1, 1) := by decide +kernel
theorem dX1_overflow_8 : decode cX1_overflow 8 = .ok (.invokevirtual 95, 3) := by decide +kernel
theorem dX1_overflow_11 : decode cX1_overflow 11 = .ok (.isub, 1) := by decide +kernel
theorem dX1_overflow_12 : decode cX1_overflow 12 = .ok (.istore_n 2, 1) := by decide +kernel
theorem dX1_overflow_13 : decode cX1_overflow 13 = .ok (.iload_n 2, 1) := by decide +kernel
theorem dX1_overflow_14 : decode cX1_overflow 14 = .ok (.ifCond .gt 4, 3) := by decide +kernel
theorem dX1_overflow_17 : decode cX1_overflow 17 = .ok (.return_, 1) := by decide +kernel
theorem dX1_overflow_18 : decode cX1_overflow 18 = .ok (.aload_n 0, 1) := by decide +kernel
theorem dX1_overflow_19 : decode cX1_overflow 19 = .ok (.getfield 36, 3) := by decide +kernel
theorem dX1_overflow_22 : decode cX1_overflow 22 = .ok (.iload_n 1, 1) := by decide +kernel
theorem dX1_overflow_23 : decode cX1_overflow 23 = .ok (.dup2, 1) := by decide +kernel
theorem dX1_overflow_24 : decode cX1_overflow 24 = .ok (.iaload, 1) := by decide +kernel
theorem dX1_overflow_25 : decode cX1_overflow 25 = .ok (.iload_n 2, 1) := by decide +kernel
theorem dX1_overflow_26 : decode cX1_overflow 26 = .ok (.isub, 1) := by decide +kernel
theorem dX1_overflow_27 : decode cX1_overflow 27 = .ok (.iastore, 1) := by decide +kernel
theorem dX1_overflow_28 : decode cX1_overflow 28 = .ok (.aload_n 0, 1) := by decide +kernel
theorem dX1_overflow_29 : decode cX1_overflow 29 = .ok (.getfield 33, 3) := by decide +kernel
theorem dX1_overflow_32 : decode cX1_overflow 32 = .ok (.iload_n 1, 1) := by decide +kernel
theorem dX1_overflow_33 : decode cX1_overflow 33 = .ok (.iaload, 1) := by decide +kernel
theorem dX1_overflow_34 : decode cX1_overflow 34 = .ok (.istore_n 3, 1) := by decide +kernel
theorem dX1_overflow_35 : decode cX1_overflow 35 = .ok (.iload_n 3, 1) := by decide +kernel
theorem dX1_overflow_36 : decode cX1_overflow 36 = .ok (.invokestatic 67, 3) := by decide +kernel
theorem dX1_overflow_39 : decode cX1_overflow 39 = .ok (.ifCond .eq 16, 3) := by decide +kernel
theorem dX1_overflow_42 : decode cX1_overflow 42 = .ok (.aload_n 0, 1) := by decide +kernel
theorem dX1_overflow_43 : decode cX1_overflow 43 = .ok (.getfield 36, 3) := by decide +kernel
theorem dX1_overflow_46 : decode cX1_overflow 46 = .ok (.iload_n 3, 1) := by decide +kernel
theorem dX1_overflow_47 : decode cX1_overflow 47 = .ok (.dup2, 1) := by decide +kernel
theorem dX1_overflow_48 : decode cX1_overflow 48 = .ok (.iaload, 1) := by decide +kernel
theorem dX1_overflow_49 : decode cX1_overflow 49 = .ok (.iload_n 2, 1) := by decide +kernel
theorem dX1_overflow_50 : decode cX1_overflow 50 = .ok (.iadd, 1) := by decide +kernel
theorem dX1_overflow_51 : decode cX1_overflow 51 = .ok (.iastore, 1) := by decide +kernel
theorem dX1_overflow_52 : decode cX1_overflow 52 = .ok (.goto 13, 3) := by decide +kernel
theorem dX1_overflow_55 : decode cX1_overflow 55 = .ok (.aload_n 0, 1) := by decide +kernel
theorem dX1_overflow_56 : decode cX1_overflow 56 = .ok (.getfield 39, 3) := by decide +kernel
theorem dX1_overflow_59 : decode cX1_overflow 59 = .ok (.iload_n 1, 1) := by decide +kernel
theorem dX1_overflow_60 : decode cX1_overflow 60 = .ok (.dup2, 1) := by decide +kernel
theorem dX1_overflow_61 : decode cX1_overflow 61 = .ok (.iaload, 1) := by decide +kernel
theorem dX1_overflow_62 : decode cX1_overflow 62 = .ok (.iload_n 2, 1) := by decide +kernel
theorem dX1_overflow_63 : decode cX1_overflow 63 = .ok (.iadd, 1) := by decide +kernel
theorem dX1_overflow_64 : decode cX1_overflow 64 = .ok (.iastore, 1) := by decide +kernel
theorem dX1_overflow_65 : decode cX1_overflow 65 = .ok (.return_, 1) := by decide +kernel
theorem dX1_room_0 : decode cX1_room 0 = .ok (.aload_n 0, 1) := by decide +kernel
theorem dX1_room_1 : decode cX1_room 1 = .ok (.getfield 24, 3) := by decide +kernel
theorem dX1_room_4 : decode cX1_room 4 = .ok (.iload_n 1, 1) := by decide +kernel
theorem dX1_room_5 : decode cX1_room 5 = .ok (.iaload, 1) := by decide +kernel
theorem dX1_room_6 : decode cX1_room 6 = .ok (.bipush 100, 2) := by decide +kernel
theorem dX1_room_8 : decode cX1_room 8 = .ok (.aload_n 0, 1) := by decide +kernel
theorem dX1_room_9 : decode cX1_room 9 = .ok (.getfield 30, 3) := by decide +kernel
theorem dX1_room_12 : decode cX1_room 12 = .ok (.iload_n 1, 1) := by decide +kernel
theorem dX1_room_13 : decode cX1_room 13 = .ok (.iaload, 1) := by decide +kernel
theorem dX1_room_14 : decode cX1_room 14 = .ok (.isub, 1) := by decide +kernel
theorem dX1_room_15 : decode cX1_room 15 = .ok (.imul, 1) := by decide +kernel
theorem dX1_room_16 : decode cX1_room 16 = .ok (.bipush 100, 2) := by decide +kernel
theorem dX1_room_18 : decode cX1_room 18 = .ok (.idiv, 1) := by decide +kernel
theorem dX1_room_19 : decode cX1_room 19 = .ok (.ireturn, 1) := by decide +kernel
theorem dX1_pipeTakes_0 : decode cX1_pipeTakes 0 = .ok (.aload_n 0, 1) := by decide +kernel
theorem dX1_pipeTakes_1 : decode cX1_pipeTakes 1 = .ok (.getfield 27, 3) := by decide +kernel
theorem dX1_pipeTakes_4 : decode cX1_pipeTakes 4 = .ok (.iload_n 1, 1) := by decide +kernel
theorem dX1_pipeTakes_5 : decode cX1_pipeTakes 5 = .ok (.iaload, 1) := by decide +kernel
theorem dX1_pipeTakes_6 : decode cX1_pipeTakes 6 = .ok (.bipush 100, 2) := by decide +kernel
theorem dX1_pipeTakes_8 : decode cX1_pipeTakes 8 = .ok (.aload_n 0, 1) := by decide +kernel
theorem dX1_pipeTakes_9 : decode cX1_pipeTakes 9 = .ok (.getfield 30, 3) := by decide +kernel
theorem dX1_pipeTakes_12 : decode cX1_pipeTakes 12 = .ok (.iload_n 1, 1) := by decide +kernel
theorem dX1_pipeTakes_13 : decode cX1_pipeTakes 13 = .ok (.iaload, 1) := by decide +kernel
theorem dX1_pipeTakes_14 : decode cX1_pipeTakes 14 = .ok (.isub, 1) := by decide +kernel
theorem dX1_pipeTakes_15 : decode cX1_pipeTakes 15 = .ok (.imul, 1) := by decide +kernel
theorem dX1_pipeTakes_16 : decode cX1_pipeTakes 16 = .ok (.bipush 100, 2) := by decide +kernel
theorem dX1_pipeTakes_18 : decode cX1_pipeTakes 18 = .ok (.idiv, 1) := by decide +kernel
theorem dX1_pipeTakes_19 : decode cX1_pipeTakes 19 = .ok (.istore_n 2, 1) := by decide +kernel
theorem dX1_pipeTakes_20 : decode cX1_pipeTakes 20 = .ok (.iload_n 2, 1) := by decide +kernel
theorem dX1_pipeTakes_21 : decode cX1_pipeTakes 21 = .ok (.ifCond .ne 16, 3) := by decide +kernel
theorem dX1_pipeTakes_24 : decode cX1_pipeTakes 24 = .ok (.aload_n 0, 1) := by decide +kernel
theorem dX1_pipeTakes_25 : decode cX1_pipeTakes 25 = .ok (.getfield 27, 3) := by decide +kernel
theorem dX1_pipeTakes_28 : decode cX1_pipeTakes 28 = .ok (.iload_n 1, 1) := by decide +kernel
theorem dX1_pipeTakes_29 : decode cX1_pipeTakes 29 = .ok (.iaload, 1) := by decide +kernel
theorem dX1_pipeTakes_30 : decode cX1_pipeTakes 30 = .ok (.ifCond .eq 7, 3) := by decide +kernel
theorem dX1_pipeTakes_33 : decode cX1_pipeTakes 33 = .ok (.iconst 1, 1) := by decide +kernel
theorem dX1_pipeTakes_34 : decode cX1_pipeTakes 34 = .ok (.goto 4, 3) := by decide +kernel
theorem dX1_pipeTakes_37 : decode cX1_pipeTakes 37 = .ok (.iload_n 2, 1) := by decide +kernel
theorem dX1_pipeTakes_38 : decode cX1_pipeTakes 38 = .ok (.ireturn, 1) := by decide +kernel
theorem dX1_planeNumber_0 : decode cX1_planeNumber 0 = .ok (.iload_n 2, 1) := by decide +kernel
theorem dX1_planeNumber_1 : decode cX1_planeNumber 1 = .ok (.tableswitch 48 0 2 #[27, 34, 41], 27) := by decide +kernel
theorem dX1_planeNumber_28 : decode cX1_planeNumber 28 = .ok (.aload_n 0, 1) := by decide +kernel
theorem dX1_planeNumber_29 : decode cX1_planeNumber 29 = .ok (.getfield 9, 3) := by decide +kernel
theorem dX1_planeNumber_32 : decode cX1_planeNumber 32 = .ok (.iload_n 1, 1) := by decide +kernel
theorem dX1_planeNumber_33 : decode cX1_planeNumber 33 = .ok (.iaload, 1) := by decide +kernel
theorem dX1_planeNumber_34 : decode cX1_planeNumber 34 = .ok (.ireturn, 1) := by decide +kernel
theorem dX1_planeNumber_35 : decode cX1_planeNumber 35 = .ok (.aload_n 0, 1) := by decide +kernel
theorem dX1_planeNumber_36 : decode cX1_planeNumber 36 = .ok (.getfield 15, 3) := by decide +kernel
theorem dX1_planeNumber_39 : decode cX1_planeNumber 39 = .ok (.iload_n 1, 1) := by decide +kernel
theorem dX1_planeNumber_40 : decode cX1_planeNumber 40 = .ok (.iaload, 1) := by decide +kernel
theorem dX1_planeNumber_41 : decode cX1_planeNumber 41 = .ok (.ireturn, 1) := by decide +kernel
theorem dX1_planeNumber_42 : decode cX1_planeNumber 42 = .ok (.aload_n 0, 1) := by decide +kernel
theorem dX1_planeNumber_43 : decode cX1_planeNumber 43 = .ok (.getfield 18, 3) := by decide +kernel
theorem dX1_planeNumber_46 : decode cX1_planeNumber 46 = .ok (.iload_n 1, 1) := by decide +kernel
theorem dX1_planeNumber_47 : decode cX1_planeNumber 47 = .ok (.iaload, 1) := by decide +kernel
theorem dX1_planeNumber_48 : decode cX1_planeNumber 48 = .ok (.ireturn, 1) := by decide +kernel
theorem dX1_planeNumber_49 : decode cX1_planeNumber 49 = .ok (.aload_n 0, 1) := by decide +kernel
theorem dX1_planeNumber_50 : decode cX1_planeNumber 50 = .ok (.getfield 21, 3) := by decide +kernel
theorem dX1_planeNumber_53 : decode cX1_planeNumber 53 = .ok (.iload_n 1, 1) := by decide +kernel
theorem dX1_planeNumber_54 : decode cX1_planeNumber 54 = .ok (.iaload, 1) := by decide +kernel
theorem dX1_planeNumber_55 : decode cX1_planeNumber 55 = .ok (.ireturn, 1) := by decide +kernel
set_option maxRecDepth 20000 in
theorem ggX1_gutterNumber_X1_room : GoodIn wsX1_gutterNumber wsX1_room := goodIn_r _ [12, 1, 3, 17, 18, 19, 20, 21, 22, 23, 24, 25, 26, 27, 28, 29, 30, 31, 32] rfl (by decide +kernel)
set_option maxRecDepth 20000 in
theorem gX1_gutterNumber_X1_room : GoodIn wsX1_gutterNumber (wsV RX1 95 RX1 yX1_room wsX1_room) := goodIn_app (goodIn_of _ (by decide +kernel)) ggX1_gutterNumber_X1_room
set_option maxRecDepth 20000 in
theorem ggX1_gutterNumber_X1_pipeTakes : GoodIn wsX1_gutterNumber wsX1_pipeTakes := goodIn_r _ [16, 2, 3, 17, 18, 19, 20, 21, 22, 23, 24, 25, 26, 27, 28, 29, 30, 31, 32] rfl (by decide +kernel)
set_option maxRecDepth 20000 in
theorem gX1_gutterNumber_X1_pipeTakes : GoodIn wsX1_gutterNumber (wsV RX1 91 RX1 yX1_pipeTakes wsX1_pipeTakes) := goodIn_app (goodIn_of _ (by decide +kernel)) ggX1_gutterNumber_X1_pipeTakes
theorem dX1_gutterNumber_0 : decode cX1_gutterNumber 0 = .ok (.iload_n 2, 1) := by decide +kernel
theorem dX1_gutterNumber_1 : decode cX1_gutterNumber 1 = .ok (.tableswitch 101 0 7 #[47, 54, 61, 68, 75, 82, 88, 94], 47) := by decide +kernel
theorem dX1_gutterNumber_48 : decode cX1_gutterNumber 48 = .ok (.aload_n 0, 1) := by decide +kernel
theorem dX1_gutterNumber_49 : decode cX1_gutterNumber 49 = .ok (.getfield 24, 3) := by decide +kernel
theorem dX1_gutterNumber_52 : decode cX1_gutterNumber 52 = .ok (.iload_n 1, 1) := by decide +kernel
theorem dX1_gutterNumber_53 : decode cX1_gutterNumber 53 = .ok (.iaload, 1) := by decide +kernel
theorem dX1_gutterNumber_54 : decode cX1_gutterNumber 54 = .ok (.ireturn, 1) := by decide +kernel
theorem dX1_gutterNumber_55 : decode cX1_gutterNumber 55 = .ok (.aload_n 0, 1) := by decide +kernel
theorem dX1_gutterNumber_56 : decode cX1_gutterNumber 56 = .ok (.getfield 27, 3) := by decide +kernel
theorem dX1_gutterNumber_59 : decode cX1_gutterNumber 59 = .ok (.iload_n 1, 1) := by decide +kernel
theorem dX1_gutterNumber_60 : decode cX1_gutterNumber 60 = .ok (.iaload, 1) := by decide +kernel
theorem dX1_gutterNumber_61 : decode cX1_gutterNumber 61 = .ok (.ireturn, 1) := by decide +kernel
theorem dX1_gutterNumber_62 : decode cX1_gutterNumber 62 = .ok (.aload_n 0, 1) := by decide +kernel
theorem dX1_gutterNumber_63 : decode cX1_gutterNumber 63 = .ok (.getfield 30, 3) := by decide +kernel
theorem dX1_gutterNumber_66 : decode cX1_gutterNumber 66 = .ok (.iload_n 1, 1) := by decide +kernel
theorem dX1_gutterNumber_67 : decode cX1_gutterNumber 67 = .ok (.iaload, 1) := by decide +kernel
theorem dX1_gutterNumber_68 : decode cX1_gutterNumber 68 = .ok (.ireturn, 1) := by decide +kernel
theorem dX1_gutterNumber_69 : decode cX1_gutterNumber 69 = .ok (.aload_n 0, 1) := by decide +kernel
theorem dX1_gutterNumber_70 : decode cX1_gutterNumber 70 = .ok (.getfield 33, 3) := by decide +kernel
theorem dX1_gutterNumber_73 : decode cX1_gutterNumber 73 = .ok (.iload_n 1, 1) := by decide +kernel
theorem dX1_gutterNumber_74 : decode cX1_gutterNumber 74 = .ok (.iaload, 1) := by decide +kernel
theorem dX1_gutterNumber_75 : decode cX1_gutterNumber 75 = .ok (.ireturn, 1) := by decide +kernel
theorem dX1_gutterNumber_76 : decode cX1_gutterNumber 76 = .ok (.aload_n 0, 1) := by decide +kernel
theorem dX1_gutterNumber_77 : decode cX1_gutterNumber 77 = .ok (.getfield 36, 3) := by decide +kernel
theorem dX1_gutterNumber_80 : decode cX1_gutterNumber 80 = .ok (.iload_n 1, 1) := by decide +kernel
theorem dX1_gutterNumber_81 : decode cX1_gutterNumber 81 = .ok (.iaload, 1) := by decide +kernel
theorem dX1_gutterNumber_82 : decode cX1_gutterNumber 82 = .ok (.ireturn, 1) := by decide +kernel
theorem dX1_gutterNumber_83 : decode cX1_gutterNumber 83 = .ok (.aload_n 0, 1) := by decide +kernel
theorem dX1_gutterNumber_84 : decode cX1_gutterNumber 84 = .ok (.iload_n 1, 1) := by decide +kernel
theorem dX1_gutterNumber_85 : decode cX1_gutterNumber 85 = .ok (.invokevirtual 95, 3) := by decide +kernel
theorem dX1_gutterNumber_88 : decode cX1_gutterNumber 88 = .ok (.ireturn, 1) := by decide +kernel
theorem dX1_gutterNumber_89 : decode cX1_gutterNumber 89 = .ok (.aload_n 0, 1) := by decide +kernel
theorem dX1_gutterNumber_90 : decode cX1_gutterNumber 90 = .ok (.iload_n 1, 1) := by decide +kernel
theorem dX1_gutterNumber_91 : decode cX1_gutterNumber 91 = .ok (.invokevirtual 91, 3) := by decide +kernel
theorem dX1_gutterNumber_94 : decode cX1_gutterNumber 94 = .ok (.ireturn, 1) := by decide +kernel
theorem dX1_gutterNumber_95 : decode cX1_gutterNumber 95 = .ok (.aload_n 0, 1) := by decide +kernel
theorem dX1_gutterNumber_96 : decode cX1_gutterNumber 96 = .ok (.getfield 39, 3) := by decide +kernel
theorem dX1_gutterNumber_99 : decode cX1_gutterNumber 99 = .ok (.iload_n 1, 1) := by decide +kernel
theorem dX1_gutterNumber_100 : decode cX1_gutterNumber 100 = .ok (.iaload, 1) := by decide +kernel
theorem dX1_gutterNumber_101 : decode cX1_gutterNumber 101 = .ok (.ireturn, 1) := by decide +kernel
theorem dX1_gutterNumber_102 : decode cX1_gutterNumber 102 = .ok (.aload_n 0, 1) := by decide +kernel
theorem dX1_gutterNumber_103 : decode cX1_gutterNumber 103 = .ok (.getfield 42, 3) := by decide +kernel
theorem dX1_gutterNumber_106 : decode cX1_gutterNumber 106 = .ok (.iload_n 1, 1) := by decide +kernel
theorem dX1_gutterNumber_107 : decode cX1_gutterNumber 107 = .ok (.iaload, 1) := by decide +kernel
theorem dX1_gutterNumber_108 : decode cX1_gutterNumber 108 = .ok (.ireturn, 1) := by decide +kernel
theorem dX1_settingValue_0 : decode cX1_settingValue 0 = .ok (.aload_n 0, 1) := by decide +kernel
theorem dX1_settingValue_1 : decode cX1_settingValue 1 = .ok (.getfield 45, 3) := by decide +kernel
theorem dX1_settingValue_4 : decode cX1_settingValue 4 = .ok (.iload_n 1, 1) := by decide +kernel
theorem dX1_settingValue_5 : decode cX1_settingValue 5 = .ok (.iaload, 1) := by decide +kernel
theorem dX1_settingValue_6 : decode cX1_settingValue 6 = .ok (.ireturn, 1) := by decide +kernel
theorem dX1_minutesGone_0 : decode cX1_minutesGone 0 = .ok (.aload_n 0, 1) := by decide +kernel
theorem dX1_minutesGone_1 : decode cX1_minutesGone 1 = .ok (.getfield 54, 3) := by decide +kernel
theorem dX1_minutesGone_4 : decode cX1_minutesGone 4 = .ok (.ireturn, 1) := by decide +kernel
theorem dX1_weeksPassed_0 : decode cX1_weeksPassed 0 = .ok (.aload_n 0, 1) := by decide +kernel
theorem dX1_weeksPassed_1 : decode cX1_weeksPassed 1 = .ok (.getfield 58, 3) := by decide +kernel
theorem dX1_weeksPassed_4 : decode cX1_weeksPassed 4 = .ok (.ireturn, 1) := by decide +kernel
theorem dX1_rainedLitres_0 : decode cX1_rainedLitres 0 = .ok (.aload_n 0, 1) := by decide +kernel
theorem dX1_rainedLitres_1 : decode cX1_rainedLitres 1 = .ok (.getfield 61, 3) := by decide +kernel
theorem dX1_rainedLitres_4 : decode cX1_rainedLitres 4 = .ok (.ireturn, 1) := by decide +kernel
theorem dX1_backedUpMinutes_0 : decode cX1_backedUpMinutes 0 = .ok (.aload_n 0, 1) := by decide +kernel
theorem dX1_backedUpMinutes_1 : decode cX1_backedUpMinutes 1 = .ok (.getfield 64, 3) := by decide +kernel
theorem dX1_backedUpMinutes_4 : decode cX1_backedUpMinutes 4 = .ok (.ireturn, 1) := by decide +kernel
set_option maxRecDepth 20000 in
theorem ggX1_standingLitres_X1_sumOf : GoodIn wsX1_standingLitres wsX1_sumOf := goodIn_r _ [6] rfl (by decide +kernel)
set_option maxRecDepth 20000 in
theorem gX1_standingLitres_X1_sumOf : GoodIn wsX1_standingLitres (va_wsS RX1 98 yX1_sumOf wsX1_sumOf) := goodIn_app (goodIn_of _ (by decide +kernel)) ggX1_standingLitres_X1_sumOf
theorem dX1_standingLitres_0 : decode cX1_standingLitres 0 = .ok (.aload_n 0, 1) := by decide +kernel
theorem dX1_standingLitres_1 : decode cX1_standingLitres 1 = .ok (.getfield 21, 3) := by decide +kernel
theorem dX1_standingLitres_4 : decode cX1_standingLitres 4 = .ok (.invokestatic 98, 3) := by decide +kernel
theorem dX1_standingLitres_7 : decode cX1_standingLitres 7 = .ok (.aload_n 0, 1) := by decide +kernel
theorem dX1_standingLitres_8 : decode cX1_standingLitres 8 = .ok (.getfield 36, 3) := by decide +kernel
theorem dX1_standingLitres_11 : decode cX1_standingLitres 11 = .ok (.invokestatic 98, 3) := by decide +kernel
theorem dX1_standingLitres_14 : decode cX1_standingLitres 14 = .ok (.iadd, 1) := by decide +kernel
theorem dX1_standingLitres_15 : decode cX1_standingLitres 15 = .ok (.ireturn, 1) := by decide +kernel
set_option maxRecDepth 20000 in
theorem ggX1_drainedLitres_X1_sumOf : GoodIn wsX1_drainedLitres wsX1_sumOf := goodIn_r _ [5] rfl (by decide +kernel)
set_option maxRecDepth 20000 in
theorem gX1_drainedLitres_X1_sumOf : GoodIn wsX1_drainedLitres (va_wsS RX1 98 yX1_sumOf wsX1_sumOf) := goodIn_app (goodIn_of _ (by decide +kernel)) ggX1_drainedLitres_X1_sumOf
theorem dX1_drainedLitres_0 : decode cX1_drainedLitres 0 = .ok (.aload_n 0, 1) := by decide +kernel
theorem dX1_drainedLitres_1 : decode cX1_drainedLitres 1 = .ok (.getfield 42, 3) := by decide +kernel
theorem dX1_drainedLitres_4 : decode cX1_drainedLitres 4 = .ok (.invokestatic 98, 3) := by decide +kernel
theorem dX1_drainedLitres_7 : decode cX1_drainedLitres 7 = .ok (.ireturn, 1) := by decide +kernel
set_option maxRecDepth 20000 in
theorem ggX1_spiltLitres_X1_sumOf : GoodIn wsX1_spiltLitres wsX1_sumOf := goodIn_r _ [5] rfl (by decide +kernel)
set_option maxRecDepth 20000 in
theorem gX1_spiltLitres_X1_sumOf : GoodIn wsX1_spiltLitres (va_wsS RX1 98 yX1_sumOf wsX1_sumOf) := goodIn_app (goodIn_of _ (by decide +kernel)) ggX1_spiltLitres_X1_sumOf
theorem dX1_spiltLitres_0 : decode cX1_spiltLitres 0 = .ok (.aload_n 0, 1) := by decide +kernel
theorem dX1_spiltLitres_1 : decode cX1_spiltLitres 1 = .ok (.getfield 39, 3) := by decide +kernel
theorem dX1_spiltLitres_4 : decode cX1_spiltLitres 4 = .ok (.invokestatic 98, 3) := by decide +kernel
theorem dX1_spiltLitres_7 : decode cX1_spiltLitres 7 = .ok (.ireturn, 1) := by decide +kernel
set_option maxRecDepth 20000 in
theorem ggX1_leavesTogether_X1_sumOf : GoodIn wsX1_leavesTogether wsX1_sumOf := goodIn_r _ [5] rfl (by decide +kernel)
set_option maxRecDepth 20000 in
theorem gX1_leavesTogether_X1_sumOf : GoodIn wsX1_leavesTogether (va_wsS RX1 98 yX1_sumOf wsX1_sumOf) := goodIn_app (goodIn_of _ (by decide +kernel)) ggX1_leavesTogether_X1_sumOf
theorem dX1_leavesTogether_0 : decode cX1_leavesTogether 0 = .ok (.aload_n 0, 1) := by decide +kernel
theorem dX1_leavesTogether_1 : decode cX1_leavesTogether 1 = .ok (.getfield 30, 3) := by decide +kernel
theorem dX1_leavesTogether_4 : decode cX1_leavesTogether 4 = .ok (.invokestatic 98, 3) := by decide +kernel
theorem dX1_leavesTogether_7 : decode cX1_leavesTogether 7 = .ok (.ireturn, 1) := by decide +kernel
theorem dX1_sumOf_0 : decode cX1_sumOf 0 = .ok (.iconst 0, 1) := by decide +kernel
theorem dX1_sumOf_1 : decode cX1_sumOf 1 = .ok (.istore_n 1, 1) := by decide +kernel
theorem dX1_sumOf_2 : decode cX1_sumOf 2 = .ok (.aload_n 0, 1) := by decide +kernel
theorem dX1_sumOf_3 : decode cX1_sumOf 3 = .ok (.astore_n 2, 1) := by decide +kernel
theorem dX1_sumOf_4 : decode cX1_sumOf 4 = .ok (.aload_n 2, 1) := by decide +kernel
theorem dX1_sumOf_5 : decode cX1_sumOf 5 = .ok (.arraylength, 1) := by decide +kernel
theorem dX1_sumOf_6 : decode cX1_sumOf 6 = .ok (.istore_n 3, 1) := by decide +kernel
theorem dX1_sumOf_7 : decode cX1_sumOf 7 = .ok (.iconst 0, 1) := by decide +kernel
theorem dX1_sumOf_8 : decode cX1_sumOf 8 = .ok (.istore 4, 2) := by decide +kernel
theorem dX1_sumOf_10 : decode cX1_sumOf 10 = .ok (.iload 4, 2) := by decide +kernel
theorem dX1_sumOf_12 : decode cX1_sumOf 12 = .ok (.iload_n 3, 1) := by decide +kernel
theorem dX1_sumOf_13 : decode cX1_sumOf 13 = .ok (.if_icmp .ge 20, 3) := by decide +kernel
theorem dX1_sumOf_16 : decode cX1_sumOf 16 = .ok (.aload_n 2, 1) := by decide +kernel
theorem dX1_sumOf_17 : decode cX1_sumOf 17 = .ok (.iload 4, 2) := by decide +kernel
theorem dX1_sumOf_19 : decode cX1_sumOf 19 = .ok (.iaload, 1) := by decide +kernel
theorem dX1_sumOf_20 : decode cX1_sumOf 20 = .ok (.istore 5, 2) := by decide +kernel
theorem dX1_sumOf_22 : decode cX1_sumOf 22 = .ok (.iload_n 1, 1) := by decide +kernel
theorem dX1_sumOf_23 : decode cX1_sumOf 23 = .ok (.iload 5, 2) := by decide +kernel
theorem dX1_sumOf_25 : decode cX1_sumOf 25 = .ok (.iadd, 1) := by decide +kernel
theorem dX1_sumOf_26 : decode cX1_sumOf 26 = .ok (.istore_n 1, 1) := by decide +kernel
theorem dX1_sumOf_27 : decode cX1_sumOf 27 = .ok (.iinc 4 1, 3) := by decide +kernel
theorem dX1_sumOf_30 : decode cX1_sumOf 30 = .ok (.goto (-20), 3) := by decide +kernel
theorem dX1_sumOf_33 : decode cX1_sumOf 33 = .ok (.iload_n 1, 1) := by decide +kernel
theorem dX1_sumOf_34 : decode cX1_sumOf 34 = .ok (.ireturn, 1) := by decide +kernel
theorem dX2_init_0 : decode cX2_init 0 = .ok (.aload_n 0, 1) := by decide +kernel
theorem dX2_init_1 : decode cX2_init 1 = .ok (.invokespecial 1, 3) := by decide +kernel
theorem dX2_init_4 : decode cX2_init 4 = .ok (.aload_n 0, 1) := by decide +kernel
theorem dX2_init_5 : decode cX2_init 5 = .ok (.bipush 6, 2) := by decide +kernel
theorem dX2_init_7 : decode cX2_init 7 = .ok (.anewarray 9, 3) := by decide +kernel
theorem dX2_init_10 : decode cX2_init 10 = .ok (.putfield 11, 3) := by decide +kernel
theorem dX2_init_13 : decode cX2_init 13 = .ok (.return_, 1) := by decide +kernel
theorem dX2_held_0 : decode cX2_held 0 = .ok (.aload_n 0, 1) := by decide +kernel
theorem dX2_held_1 : decode cX2_held 1 = .ok (.getfield 15, 3) := by decide +kernel
theorem dX2_held_4 : decode cX2_held 4 = .ok (.ireturn, 1) := by decide +kernel
set_option maxRecDepth 20000 in
theorem ggX2_keep_X1_init : GoodIn wsX2_keep wsX1_init := goodIn_r _ [9, 10, 11, 12, 13, 14, 15, 16, 17, 18, 19, 20, 21, 22, 23, 24, 25, 41, 42, 43, 44, 45, 46, 47, 48, 49, 50, 51, 52, 53, 54, 55, 56] rfl (by decide +kernel)
set_option maxRecDepth 20000 in
theorem gX2_keep_X1_init : GoodIn wsX2_keep (wsX1_init) := ggX2_keep_X1_init
set_option maxRecDepth 20000 in
theorem ggX2_keep_X1_copyFrom : GoodIn wsX2_keep wsX1_copyFrom := goodIn_r _ [29, 14, 30, 31, 32, 33, 15, 16, 17, 18, 19, 20, 21, 22, 23, 24, 25, 34, 35, 36, 37, 41, 42, 43, 44, 45, 46, 47, 48, 49, 50, 51, 52, 53, 54, 55, 56] rfl (by decide +kernel)
set_option maxRecDepth 20000 in
theorem gX2_keep_X1_copyFrom : GoodIn wsX2_keep (wsV RX2 23 RX1 yX1_copyFrom wsX1_copyFrom) := goodIn_app (goodIn_of _ (by decide +kernel)) ggX2_keep_X1_copyFrom
theorem dX2_keep_0 : decode cX2_keep 0 = .ok (.aload_n 0, 1) := by decide +kernel
theorem dX2_keep_1 : decode cX2_keep 1 = .ok (.getfield 15, 3) := by decide +kernel
theorem dX2_keep_4 : decode cX2_keep 4 = .ok (.bipush 6, 2) := by decide +kernel
theorem dX2_keep_6 : decode cX2_keep 6 = .ok (.if_icmp .ne 26, 3) := by decide +kernel
theorem dX2_keep_9 : decode cX2_keep 9 = .ok (.aload_n 0, 1) := by decide +kernel
theorem dX2_keep_10 : decode cX2_keep 10 = .ok (.aload_n 0, 1) := by decide +kernel
theorem dX2_keep_11 : decode cX2_keep 11 = .ok (.getfield 19, 3) := by decide +kernel
theorem dX2_keep_14 : decode cX2_keep 14 = .ok (.iconst 1, 1) := by decide +kernel
theorem dX2_keep_15 : decode cX2_keep 15 = .ok (.iadd, 1) := by decide +kernel
theorem dX2_keep_16 : decode cX2_keep 16 = .ok (.bipush 6, 2) := by decide +kernel
theorem dX2_keep_18 : decode cX2_keep 18 = .ok (.irem, 1) := by decide +kernel
theorem dX2_keep_19 : decode cX2_keep 19 = .ok (.putfield 19, 3) := by decide +kernel
theorem dX2_keep_22 : decode cX2_keep 22 = .ok (.aload_n 0, 1) := by decide +kernel
theorem dX2_keep_23 : decode cX2_keep 23 = .ok (.dup, 1) := by decide +kernel
theorem dX2_keep_24 : decode cX2_keep 24 = .ok (.getfield 15, 3) := by decide +kernel
theorem dX2_keep_27 : decode cX2_keep 27 = .ok (.iconst 1, 1) := by decide +kernel
theorem dX2_keep_28 : decode cX2_keep 28 = .ok (.isub, 1) := by decide +kernel
theorem dX2_keep_29 : decode cX2_keep 29 = .ok (.putfield 15, 3) := by decide +kernel
theorem dX2_keep_32 : decode cX2_keep 32 = .ok (.aload_n 0, 1) := by decide +kernel
theorem dX2_keep_33 : decode cX2_keep 33 = .ok (.getfield 19, 3) := by decide +kernel
theorem dX2_keep_36 : decode cX2_keep 36 = .ok (.aload_n 0, 1) := by decide +kernel
theorem dX2_keep_37 : decode cX2_keep 37 = .ok (.getfield 15, 3) := by decide +kernel
theorem dX2_keep_40 : decode cX2_keep 40 = .ok (.iadd, 1) := by decide +kernel
theorem dX2_keep_41 : decode cX2_keep 41 = .ok (.bipush 6, 2) := by decide +kernel
theorem dX2_keep_43 : decode cX2_keep 43 = .ok (.irem, 1) := by decide +kernel
theorem dX2_keep_44 : decode cX2_keep 44 = .ok (.istore_n 2, 1) := by decide +kernel
theorem dX2_keep_45 : decode cX2_keep 45 = .ok (.aload_n 0, 1) := by decide +kernel
theorem dX2_keep_46 : decode cX2_keep 46 = .ok (.getfield 11, 3) := by decide +kernel
theorem dX2_keep_49 : decode cX2_keep 49 = .ok (.iload_n 2, 1) := by decide +kernel
theorem dX2_keep_50 : decode cX2_keep 50 = .ok (.aaload, 1) := by decide +kernel
theorem dX2_keep_51 : decode cX2_keep 51 = .ok (.astore_n 3, 1) := by decide +kernel
theorem dX2_keep_52 : decode cX2_keep 52 = .ok (.aload_n 3, 1) := by decide +kernel
theorem dX2_keep_53 : decode cX2_keep 53 = .ok (.ifnonnull 18, 3) := by decide +kernel
theorem dX2_keep_56 : decode cX2_keep 56 = .ok (.new 9, 3) := by decide +kernel
theorem dX2_keep_59 : decode cX2_keep 59 = .ok (.dup, 1) := by decide +kernel
theorem dX2_keep_60 : decode cX2_keep 60 = .ok (.invokespecial 22, 3) := by decide +kernel
theorem dX2_keep_63 : decode cX2_keep 63 = .ok (.astore_n 3, 1) := by decide +kernel
theorem dX2_keep_64 : decode cX2_keep 64 = .ok (.aload_n 0, 1) := by decide +kernel
theorem dX2_keep_65 : decode cX2_keep 65 = .ok (.getfield 11, 3) := by decide +kernel
theorem dX2_keep_68 : decode cX2_keep 68 = .ok (.iload_n 2, 1) := by decide +kernel
theorem dX2_keep_69 : decode cX2_keep 69 = .ok (.aload_n 3, 1) := by decide +kernel
theorem dX2_keep_70 : decode cX2_keep 70 = .ok (.aastore, 1) := by decide +kernel
theorem dX2_keep_71 : decode cX2_keep 71 = .ok (.aload_n 3, 1) := by decide +kernel
theorem dX2_keep_72 : decode cX2_keep 72 = .ok (.aload_n 1, 1) := by decide +kernel
theorem dX2_keep_73 : decode cX2_keep 73 = .ok (.invokevirtual 23, 3) := by decide +kernel
theorem dX2_keep_76 : decode cX2_keep 76 = .ok (.aload_n 0, 1) := by decide +kernel
theorem dX2_keep_77 : decode cX2_keep 77 = .ok (.dup, 1) := by decide +kernel
theorem dX2_keep_78 : decode cX2_keep 78 = .ok (.getfield 15, 3) := by decide +kernel
theorem dX2_keep_81 : decode cX2_keep 81 = .ok (.iconst 1, 1) := by decide +kernel
theorem dX2_keep_82 : decode cX2_keep 82 = .ok (.iadd, 1) := by decide +kernel
theorem dX2_keep_83 : decode cX2_keep 83 = .ok (.putfield 15, 3) := by decide +kernel
theorem dX2_keep_86 : decode cX2_keep 86 = .ok (.return_, 1) := by decide +kernel
theorem dX2_dropLatest_0 : decode cX2_dropLatest 0 = .ok (.aload_n 0, 1) := by decide +kernel
theorem dX2_dropLatest_1 : decode cX2_dropLatest 1 = .ok (.getfield 15, 3) := by decide +kernel
theorem dX2_dropLatest_4 : decode cX2_dropLatest 4 = .ok (.ifCond .ne 5, 3) := by decide +kernel
theorem dX2_dropLatest_7 : decode cX2_dropLatest 7 = .ok (.aconst_null, 1) := by decide +kernel
theorem dX2_dropLatest_8 : decode cX2_dropLatest 8 = .ok (.areturn, 1) := by decide +kernel
theorem dX2_dropLatest_9 : decode cX2_dropLatest 9 = .ok (.aload_n 0, 1) := by decide +kernel
theorem dX2_dropLatest_10 : decode cX2_dropLatest 10 = .ok (.dup, 1) := by decide +kernel
theorem dX2_dropLatest_11 : decode cX2_dropLatest 11 = .ok (.getfield 15, 3) := by decide +kernel
theorem dX2_dropLatest_14 : decode cX2_dropLatest 14 = .ok (.iconst 1, 1) := by decide +kernel
theorem dX2_dropLatest_15 : decode cX2_dropLatest 15 = .ok (.isub, 1) := by decide +kernel
theorem dX2_dropLatest_16 : decode cX2_dropLatest 16 = .ok (.putfield 15, 3) := by decide +kernel
theorem dX2_dropLatest_19 : decode cX2_dropLatest 19 = .ok (.aload_n 0, 1) := by decide +kernel
theorem dX2_dropLatest_20 : decode cX2_dropLatest 20 = .ok (.getfield 11, 3) := by decide +kernel
theorem dX2_dropLatest_23 : decode cX2_dropLatest 23 = .ok (.aload_n 0, 1) := by decide +kernel
theorem dX2_dropLatest_24 : decode cX2_dropLatest 24 = .ok (.getfield 19, 3) := by decide +kernel
theorem dX2_dropLatest_27 : decode cX2_dropLatest 27 = .ok (.aload_n 0, 1) := by decide +kernel
theorem dX2_dropLatest_28 : decode cX2_dropLatest 28 = .ok (.getfield 15, 3) := by decide +kernel
theorem dX2_dropLatest_31 : decode cX2_dropLatest 31 = .ok (.iadd, 1) := by decide +kernel
theorem dX2_dropLatest_32 : decode cX2_dropLatest 32 = .ok (.bipush 6, 2) := by decide +kernel
theorem dX2_dropLatest_34 : decode cX2_dropLatest 34 = .ok (.irem, 1) := by decide +kernel
theorem dX2_dropLatest_35 : decode cX2_dropLatest 35 = .ok (.aaload, 1) := by decide +kernel
theorem dX2_dropLatest_36 : decode cX2_dropLatest 36 = .ok (.areturn, 1) := by decide +kernel
end
section
set_option maxRecDepth 20000 in
theorem ggX3_init_X1_init : GoodIn wsX3_init wsX1_init := goodIn_r _ [19, 20, 2, 3, 21, 22, 23, 24, 25, 26, 27, 28, 29, 30, 31, 32, 33, 45, 46, 47, 48, 49, 50, 51, 52, 53, 54, 55, 56, 57, 58, 59, 60] rfl (by decide +kernel)
set_option maxRecDepth 20000 in
theorem gX3_init_X1_init : GoodIn wsX3_init (wsX1_init) := ggX3_init_X1_init
set_option maxRecDepth 20000 in
theorem ggX3_init_X2_init : GoodIn wsX3_init wsX2_init := goodIn_r _ [36, 37, 2, 3, 38, 39, 65, 66, 67] rfl (by decide +kernel)
set_option maxRecDepth 20000 in
theorem gX3_init_X2_init : GoodIn wsX3_init (wsX2_init) := ggX3_init_X2_init
set_option maxRecDepth 20000 in
theorem ggX3_init_X0_init : GoodIn wsX3_init wsX0_init := goodIn_r _ [42, 43, 2, 3, 21, 44, 68, 69] rfl (by decide +kernel)
set_option maxRecDepth 20000 in
theorem gX3_init_X0_init : GoodIn wsX3_init (wsX0_init) := ggX3_init_X0_init
theorem dX3_init_0 : decode cX3_init 0 = .ok (.aload_n 0, 1) := by decide +kernel
theorem dX3_init_1 : decode cX3_init 1 = .ok (.invokespecial 1, 3) := by decide +kernel
theorem dX3_init_4 : decode cX3_init 4 = .ok (.aload_n 0, 1) := by decide +kernel
theorem dX3_init_5 : decode cX3_init 5 = .ok (.new 7, 3) := by decide +kernel
theorem dX3_init_8 : decode cX3_init 8 = .ok (.dup, 1) := by decide +kernel
theorem dX3_init_9 : decode cX3_init 9 = .ok (.invokespecial 9, 3) := by decide +kernel
theorem dX3_init_12 : decode cX3_init 12 = .ok (.putfield 10, 3) := by decide +kernel
theorem dX3_init_15 : decode cX3_init 15 = .ok (.aload_n 0, 1) := by decide +kernel
theorem dX3_init_16 : decode cX3_init 16 = .ok (.new 7, 3) := by decide +kernel
theorem dX3_init_19 : decode cX3_init 19 = .ok (.dup, 1) := by decide +kernel
theorem dX3_init_20 : decode cX3_init 20 = .ok (.invokespecial 9, 3) := by decide +kernel
theorem dX3_init_23 : decode cX3_init 23 = .ok (.putfield 16, 3) := by decide +kernel
theorem dX3_init_26 : decode cX3_init 26 = .ok (.aload_n 0, 1) := by decide +kernel
theorem dX3_init_27 : decode cX3_init 27 = .ok (.new 19, 3) := by decide +kernel
theorem dX3_init_30 : decode cX3_init 30 = .ok (.dup, 1) := by decide +kernel
theorem dX3_init_31 : decode cX3_init 31 = .ok (.invokespecial 21, 3) := by decide +kernel
theorem dX3_init_34 : decode cX3_init 34 = .ok (.putfield 22, 3) := by decide +kernel
theorem dX3_init_37 : decode cX3_init 37 = .ok (.aload_n 0, 1) := by decide +kernel
theorem dX3_init_38 : decode cX3_init 38 = .ok (.new 26, 3) := by decide +kernel
theorem dX3_init_41 : decode cX3_init 41 = .ok (.dup, 1) := by decide +kernel
theorem dX3_init_42 : decode cX3_init 42 = .ok (.invokespecial 28, 3) := by decide +kernel
theorem dX3_init_45 : decode cX3_init 45 = .ok (.putfield 29, 3) := by decide +kernel
theorem dX3_init_48 : decode cX3_init 48 = .ok (.return_, 1) := by decide +kernel
set_option maxRecDepth 20000 in
theorem ggX3_plane_X3_isPlane : GoodIn wsX3_plane wsX3_isPlane := goodIn_r _ [10] rfl (by decide +kernel)
set_option maxRecDepth 20000 in
theorem gX3_plane_X3_isPlane : GoodIn wsX3_plane (va_wsS RX3 33 yX3_isPlane wsX3_isPlane) := goodIn_app (goodIn_of _ (by decide +kernel)) ggX3_plane_X3_isPlane
set_option maxRecDepth 20000 in
theorem ggX3_plane_X3_isGutter : GoodIn wsX3_plane wsX3_isGutter := goodIn_r _ [13] rfl (by decide +kernel)
set_option maxRecDepth 20000 in
theorem gX3_plane_X3_isGutter : GoodIn wsX3_plane (va_wsS RX3 37 yX3_isGutter wsX3_isGutter) := goodIn_app (goodIn_of _ (by decide +kernel)) ggX3_plane_X3_isGutter
set_option maxRecDepth 20000 in
theorem ggX3_plane_X3_isWithin : GoodIn wsX3_plane wsX3_isWithin := goodIn_r _ [16] rfl (by decide +kernel)
set_option maxRecDepth 20000 in
theorem gX3_plane_X3_isWithin : GoodIn wsX3_plane (va_wsS RX3 47 yX3_isWithin wsX3_isWithin) := goodIn_app (goodIn_of _ (by decide +kernel)) ggX3_plane_X3_isWithin
set_option maxRecDepth 20000 in
theorem ggX3_plane_X2_keep : GoodIn wsX3_plane wsX2_keep := goodIn_r _ [21, 22, 23, 24, 25, 26, 27, 28, 29, 30, 31, 32, 33, 34, 35, 36, 37, 38, 39, 40, 41, 42, 43, 44, 45, 46, 47, 48, 49, 50, 51, 52, 53, 54, 55, 56, 57, 58, 67, 68, 69, 70, 71, 72, 73, 74, 75, 76, 77, 78, 79, 80, 81, 82, 83, 84, 85] rfl (by decide +kernel)
set_option maxRecDepth 20000 in
theorem gX3_plane_X2_keep : GoodIn wsX3_plane (wsV RX3 56 RX2 yX2_keep wsX2_keep) := goodIn_app (goodIn_of _ (by decide +kernel)) ggX3_plane_X2_keep
set_option maxRecDepth 20000 in
theorem ggX3_plane_X1_changePlane : GoodIn wsX3_plane wsX1_changePlane := goodIn_r _ [62, 35, 36, 37, 70, 71, 72, 73, 74, 75, 76, 77, 78, 79, 80, 81, 82, 83, 84, 85] rfl (by decide +kernel)
set_option maxRecDepth 20000 in
theorem gX3_plane_X1_changePlane : GoodIn wsX3_plane (wsV RX3 60 RX1 yX1_changePlane wsX1_changePlane) := goodIn_app (goodIn_of _ (by decide +kernel)) ggX3_plane_X1_changePlane
theorem dX3_plane_0 : decode cX3_plane 0 = .ok (.iload_n 1, 1) := by decide +kernel
theorem dX3_plane_1 : decode cX3_plane 1 = .ok (.invokestatic 33, 3) := by decide +kernel
theorem dX3_plane_4 : decode cX3_plane 4 = .ok (.ifCond .eq 11, 3) := by decide +kernel
theorem dX3_plane_7 : decode cX3_plane 7 = .ok (.iload 4, 2) := by decide +kernel
theorem dX3_plane_9 : decode cX3_plane 9 = .ok (.invokestatic 37, 3) := by decide +kernel
theorem dX3_plane_12 : decode cX3_plane 12 = .ok (.ifCond .ne 13, 3) := by decide +kernel
theorem dX3_plane_15 : decode cX3_plane 15 = .ok (.new 40, 3) := by decide +kernel
theorem dX3_plane_18 : decode cX3_plane 18 = .ok (.dup, 1) := by decide +kernel
theorem dX3_plane_19 : decode cX3_plane 19 = .ok (.ldc 42, 2) := by decide +kernel
theorem dX3_plane_21 : decode cX3_plane 21 = .ok (.invokespecial 44, 3) := by decide +kernel
theorem dX3_plane_24 : decode cX3_plane 24 = .ok (.athrow, 1) := by decide +kernel
theorem dX3_plane_25 : decode cX3_plane 25 = .ok (.iload_n 2, 1) := by decide +kernel
theorem dX3_plane_26 : decode cX3_plane 26 = .ok (.iconst 0, 1) := by decide +kernel
theorem dX3_plane_27 : decode cX3_plane 27 = .ok (.sipush 200, 3) := by decide +kernel
theorem dX3_plane_30 : decode cX3_plane 30 = .ok (.invokestatic 47, 3) := by decide +kernel
theorem dX3_plane_33 : decode cX3_plane 33 = .ok (.ifCond .eq 13, 3) := by decide +kernel
theorem dX3_plane_36 : decode cX3_plane 36 = .ok (.iload_n 3, 1) := by decide +kernel
theorem dX3_plane_37 : decode cX3_plane 37 = .ok (.iconst 0, 1) := by decide +kernel
theorem dX3_plane_38 : decode cX3_plane 38 = .ok (.bipush 9, 2) := by decide +kernel
theorem dX3_plane_40 : decode cX3_plane 40 = .ok (.invokestatic 47, 3) := by decide +kernel
theorem dX3_plane_43 : decode cX3_plane 43 = .ok (.ifCond .ne 13, 3) := by decide +kernel
theorem dX3_plane_46 : decode cX3_plane 46 = .ok (.new 51, 3) := by decide +kernel
theorem dX3_plane_49 : decode cX3_plane 49 = .ok (.dup, 1) := by decide +kernel
theorem dX3_plane_50 : decode cX3_plane 50 = .ok (.ldc 53, 2) := by decide +kernel
theorem dX3_plane_52 : decode cX3_plane 52 = .ok (.invokespecial 55, 3) := by decide +kernel
theorem dX3_plane_55 : decode cX3_plane 55 = .ok (.athrow, 1) := by decide +kernel
theorem dX3_plane_56 : decode cX3_plane 56 = .ok (.aload_n 0, 1) := by decide +kernel
theorem dX3_plane_57 : decode cX3_plane 57 = .ok (.getfield 22, 3) := by decide +kernel
theorem dX3_plane_60 : decode cX3_plane 60 = .ok (.aload_n 0, 1) := by decide +kernel
theorem dX3_plane_61 : decode cX3_plane 61 = .ok (.getfield 10, 3) := by decide +kernel
theorem dX3_plane_64 : decode cX3_plane 64 = .ok (.invokevirtual 56, 3) := by decide +kernel
theorem dX3_plane_67 : decode cX3_plane 67 = .ok (.aload_n 0, 1) := by decide +kernel
theorem dX3_plane_68 : decode cX3_plane 68 = .ok (.getfield 10, 3) := by decide +kernel
theorem dX3_plane_71 : decode cX3_plane 71 = .ok (.iload_n 1, 1) := by decide +kernel
theorem dX3_plane_72 : decode cX3_plane 72 = .ok (.iload_n 2, 1) := by decide +kernel
theorem dX3_plane_73 : decode cX3_plane 73 = .ok (.iload_n 3, 1) := by decide +kernel
theorem dX3_plane_74 : decode cX3_plane 74 = .ok (.iload 4, 2) := by decide +kernel
theorem dX3_plane_76 : decode cX3_plane 76 = .ok (.invokevirtual 60, 3) := by decide +kernel
theorem dX3_plane_79 : decode cX3_plane 79 = .ok (.ireturn, 1) := by decide +kernel
set_option maxRecDepth 20000 in
theorem ggX3_gutter_X3_isGutter : GoodIn wsX3_gutter wsX3_isGutter := goodIn_r _ [10] rfl (by decide +kernel)
set_option maxRecDepth 20000 in
theorem gX3_gutter_X3_isGutter : GoodIn wsX3_gutter (va_wsS RX3 37 yX3_isGutter wsX3_isGutter) := goodIn_app (goodIn_of _ (by decide +kernel)) ggX3_gutter_X3_isGutter
set_option maxRecDepth 20000 in
theorem ggX3_gutter_X3_isWithin : GoodIn wsX3_gutter wsX3_isWithin := goodIn_r _ [13] rfl (by decide +kernel)
set_option maxRecDepth 20000 in
theorem gX3_gutter_X3_isWithin : GoodIn wsX3_gutter (va_wsS RX3 47 yX3_isWithin wsX3_isWithin) := goodIn_app (goodIn_of _ (by decide +kernel)) ggX3_gutter_X3_isWithin
set_option maxRecDepth 20000 in
theorem ggX3_gutter_X2_keep : GoodIn wsX3_gutter wsX2_keep := goodIn_r _ [18, 19, 20, 21, 22, 23, 24, 25, 26, 27, 28, 29, 30, 31, 32, 33, 34, 35, 36, 37, 38, 39, 40, 41, 42, 43, 44, 45, 46, 47, 48, 49, 50, 51, 52, 53, 54, 55, 64, 65, 66, 67, 68, 69, 70, 71, 72, 73, 74, 75, 76, 77, 78, 79, 80, 81, 82] rfl (by decide +kernel)
set_option maxRecDepth 20000 in
theorem gX3_gutter_X2_keep : GoodIn wsX3_gutter (wsV RX3 56 RX2 yX2_keep wsX2_keep) := goodIn_app (goodIn_of _ (by decide +kernel)) ggX3_gutter_X2_keep
set_option maxRecDepth 20000 in
theorem ggX3_gutter_X1_changeGutter : GoodIn wsX3_gutter wsX1_changeGutter := goodIn_r _ [59, 36, 37, 67, 68, 69, 70, 71, 72, 73, 74, 75, 76, 77, 78, 79, 80, 81, 82] rfl (by decide +kernel)
set_option maxRecDepth 20000 in
theorem gX3_gutter_X1_changeGutter : GoodIn wsX3_gutter (wsV RX3 68 RX1 yX1_changeGutter wsX1_changeGutter) := goodIn_app (goodIn_of _ (by decide +kernel)) ggX3_gutter_X1_changeGutter
theorem dX3_gutter_0 : decode cX3_gutter 0 = .ok (.iload_n 1, 1) := by decide +kernel
theorem dX3_gutter_1 : decode cX3_gutter 1 = .ok (.invokestatic 37, 3) := by decide +kernel
theorem dX3_gutter_4 : decode cX3_gutter 4 = .ok (.ifCond .ne 13, 3) := by decide +kernel
theorem dX3_gutter_7 : decode cX3_gutter 7 = .ok (.new 40, 3) := by decide +kernel
theorem dX3_gutter_10 : decode cX3_gutter 10 = .ok (.dup, 1) := by decide +kernel
theorem dX3_gutter_11 : decode cX3_gutter 11 = .ok (.ldc 64, 2) := by decide +kernel
theorem dX3_gutter_13 : decode cX3_gutter 13 = .ok (.invokespecial 44, 3) := by decide +kernel
theorem dX3_gutter_16 : decode cX3_gutter 16 = .ok (.athrow, 1) := by decide +kernel
theorem dX3_gutter_17 : decode cX3_gutter 17 = .ok (.iload_n 2, 1) := by decide +kernel
theorem dX3_gutter_18 : decode cX3_gutter 18 = .ok (.iconst 1, 1) := by decide +kernel
theorem dX3_gutter_19 : decode cX3_gutter 19 = .ok (.sipush 500, 3) := by decide +kernel
theorem dX3_gutter_22 : decode cX3_gutter 22 = .ok (.invokestatic 47, 3) := by decide +kernel
theorem dX3_gutter_25 : decode cX3_gutter 25 = .ok (.ifCond .eq 13, 3) := by decide +kernel
theorem dX3_gutter_28 : decode cX3_gutter 28 = .ok (.iload_n 3, 1) := by decide +kernel
theorem dX3_gutter_29 : decode cX3_gutter 29 = .ok (.iconst 0, 1) := by decide +kernel
theorem dX3_gutter_30 : decode cX3_gutter 30 = .ok (.bipush 99, 2) := by decide +kernel
theorem dX3_gutter_32 : decode cX3_gutter 32 = .ok (.invokestatic 47, 3) := by decide +kernel
theorem dX3_gutter_35 : decode cX3_gutter 35 = .ok (.ifCond .ne 13, 3) := by decide +kernel
theorem dX3_gutter_38 : decode cX3_gutter 38 = .ok (.new 51, 3) := by decide +kernel
theorem dX3_gutter_41 : decode cX3_gutter 41 = .ok (.dup, 1) := by decide +kernel
theorem dX3_gutter_42 : decode cX3_gutter 42 = .ok (.ldc 66, 2) := by decide +kernel
theorem dX3_gutter_44 : decode cX3_gutter 44 = .ok (.invokespecial 55, 3) := by decide +kernel
theorem dX3_gutter_47 : decode cX3_gutter 47 = .ok (.athrow, 1) := by decide +kernel
theorem dX3_gutter_48 : decode cX3_gutter 48 = .ok (.aload_n 0, 1) := by decide +kernel
theorem dX3_gutter_49 : decode cX3_gutter 49 = .ok (.getfield 22, 3) := by decide +kernel
theorem dX3_gutter_52 : decode cX3_gutter 52 = .ok (.aload_n 0, 1) := by decide +kernel
theorem dX3_gutter_53 : decode cX3_gutter 53 = .ok (.getfield 10, 3) := by decide +kernel
theorem dX3_gutter_56 : decode cX3_gutter 56 = .ok (.invokevirtual 56, 3) := by decide +kernel
theorem dX3_gutter_59 : decode cX3_gutter 59 = .ok (.aload_n 0, 1) := by decide +kernel
theorem dX3_gutter_60 : decode cX3_gutter 60 = .ok (.getfield 10, 3) := by decide +kernel
theorem dX3_gutter_63 : decode cX3_gutter 63 = .ok (.iload_n 1, 1) := by decide +kernel
theorem dX3_gutter_64 : decode cX3_gutter 64 = .ok (.iload_n 2, 1) := by decide +kernel
theorem dX3_gutter_65 : decode cX3_gutter 65 = .ok (.iload_n 3, 1) := by decide +kernel
theorem dX3_gutter_66 : decode cX3_gutter 66 = .ok (.invokevirtual 68, 3) := by decide +kernel
theorem dX3_gutter_69 : decode cX3_gutter 69 = .ok (.ireturn, 1) := by decide +kernel
set_option maxRecDepth 20000 in
theorem ggX3_valley_X3_isGutter : GoodIn wsX3_valley wsX3_isGutter := goodIn_r _ [12] rfl (by decide +kernel)
set_option maxRecDepth 20000 in
theorem gX3_valley_X3_isGutter : GoodIn wsX3_valley (va_wsS RX3 37 yX3_isGutter wsX3_isGutter) := goodIn_app (goodIn_of _ (by decide +kernel)) ggX3_valley_X3_isGutter
set_option maxRecDepth 20000 in
theorem ggX3_valley_X1_valleysLead : GoodIn wsX3_valley wsX1_valleysLead := goodIn_r _ [17, 18, 10, 11, 12, 67, 68, 69, 70, 71, 72, 73, 74, 75, 76, 77, 78, 79, 80, 81, 82] rfl (by decide +kernel)
set_option maxRecDepth 20000 in
theorem gX3_valley_X1_valleysLead : GoodIn wsX3_valley (wsV RX3 74 RX1 yX1_valleysLead wsX1_valleysLead) := goodIn_app (goodIn_of _ (by decide +kernel)) ggX3_valley_X1_valleysLead
set_option maxRecDepth 20000 in
theorem ggX3_valley_X2_keep : GoodIn wsX3_valley wsX2_keep := goodIn_r _ [23, 24, 25, 26, 27, 28, 16, 29, 30, 31, 32, 33, 34, 35, 36, 37, 38, 39, 40, 41, 42, 18, 43, 44, 45, 46, 47, 48, 49, 50, 51, 52, 53, 54, 55, 56, 57, 58, 83, 84, 85, 67, 68, 69, 70, 71, 72, 73, 74, 75, 76, 77, 78, 79, 80, 81, 82] rfl (by decide +kernel)
set_option maxRecDepth 20000 in
theorem gX3_valley_X2_keep : GoodIn wsX3_valley (wsV RX3 56 RX2 yX2_keep wsX2_keep) := goodIn_app (goodIn_of _ (by decide +kernel)) ggX3_valley_X2_keep
set_option maxRecDepth 20000 in
theorem ggX3_valley_X1_changeValley : GoodIn wsX3_valley wsX1_changeValley := goodIn_r _ [62, 18, 67, 68, 69, 70, 71, 72, 73, 74, 75, 76, 77, 78, 79, 80, 81, 82] rfl (by decide +kernel)
set_option maxRecDepth 20000 in
theorem gX3_valley_X1_changeValley : GoodIn wsX3_valley (wsV RX3 83 RX1 yX1_changeValley wsX1_changeValley) := goodIn_app (goodIn_of _ (by decide +kernel)) ggX3_valley_X1_changeValley
theorem dX3_valley_0 : decode cX3_valley 0 = .ok (.iload_n 1, 1) := by decide +kernel
theorem dX3_valley_1 : decode cX3_valley 1 = .ok (.invokestatic 37, 3) := by decide +kernel
theorem dX3_valley_4 : decode cX3_valley 4 = .ok (.ifCond .eq 15, 3) := by decide +kernel
theorem dX3_valley_7 : decode cX3_valley 7 = .ok (.iload_n 2, 1) := by decide +kernel
theorem dX3_valley_8 : decode cX3_valley 8 = .ok (.iconst (-1), 1) := by decide +kernel
theorem dX3_valley_9 : decode cX3_valley 9 = .ok (.if_icmp .eq 20, 3) := by decide +kernel
theorem dX3_valley_12 : decode cX3_valley 12 = .ok (.iload_n 2, 1) := by decide +kernel
theorem dX3_valley_13 : decode cX3_valley 13 = .ok (.invokestatic 37, 3) := by decide +kernel
theorem dX3_valley_16 : decode cX3_valley 16 = .ok (.ifCond .ne 13, 3) := by decide +kernel
theorem dX3_valley_19 : decode cX3_valley 19 = .ok (.new 40, 3) := by decide +kernel
theorem dX3_valley_22 : decode cX3_valley 22 = .ok (.dup, 1) := by decide +kernel
theorem dX3_valley_23 : decode cX3_valley 23 = .ok (.ldc 64, 2) := by decide +kernel
theorem dX3_valley_25 : decode cX3_valley 25 = .ok (.invokespecial 44, 3) := by decide +kernel
theorem dX3_valley_28 : decode cX3_valley 28 = .ok (.athrow, 1) := by decide +kernel
theorem dX3_valley_29 : decode cX3_valley 29 = .ok (.iload_n 1, 1) := by decide +kernel
theorem dX3_valley_30 : decode cX3_valley 30 = .ok (.iload_n 2, 1) := by decide +kernel
theorem dX3_valley_31 : decode cX3_valley 31 = .ok (.if_icmp .ne 13, 3) := by decide +kernel
theorem dX3_valley_34 : decode cX3_valley 34 = .ok (.new 51, 3) := by decide +kernel
theorem dX3_valley_37 : decode cX3_valley 37 = .ok (.dup, 1) := by decide +kernel
theorem dX3_valley_38 : decode cX3_valley 38 = .ok (.ldc 72, 2) := by decide +kernel
theorem dX3_valley_40 : decode cX3_valley 40 = .ok (.invokespecial 55, 3) := by decide +kernel
theorem dX3_valley_43 : decode cX3_valley 43 = .ok (.athrow, 1) := by decide +kernel
theorem dX3_valley_44 : decode cX3_valley 44 = .ok (.aload_n 0, 1) := by decide +kernel
theorem dX3_valley_45 : decode cX3_valley 45 = .ok (.getfield 10, 3) := by decide +kernel
theorem dX3_valley_48 : decode cX3_valley 48 = .ok (.iload_n 2, 1) := by decide +kernel
theorem dX3_valley_49 : decode cX3_valley 49 = .ok (.iload_n 1, 1) := by decide +kernel
theorem dX3_valley_50 : decode cX3_valley 50 = .ok (.invokevirtual 74, 3) := by decide +kernel
theorem dX3_valley_53 : decode cX3_valley 53 = .ok (.ifCond .eq 13, 3) := by decide +kernel
theorem dX3_valley_56 : decode cX3_valley 56 = .ok (.new 78, 3) := by decide +kernel
theorem dX3_valley_59 : decode cX3_valley 59 = .ok (.dup, 1) := by decide +kernel
theorem dX3_valley_60 : decode cX3_valley 60 = .ok (.ldc 80, 2) := by decide +kernel
theorem dX3_valley_62 : decode cX3_valley 62 = .ok (.invokespecial 82, 3) := by decide +kernel
theorem dX3_valley_65 : decode cX3_valley 65 = .ok (.athrow, 1) := by decide +kernel
theorem dX3_valley_66 : decode cX3_valley 66 = .ok (.aload_n 0, 1) := by decide +kernel
theorem dX3_valley_67 : decode cX3_valley 67 = .ok (.getfield 22, 3) := by decide +kernel
theorem dX3_valley_70 : decode cX3_valley 70 = .ok (.aload_n 0, 1) := by decide +kernel
theorem dX3_valley_71 : decode cX3_valley 71 = .ok (.getfield 10, 3) := by decide +kernel
theorem dX3_valley_74 : decode cX3_valley 74 = .ok (.invokevirtual 56, 3) := by decide +kernel
theorem dX3_valley_77 : decode cX3_valley 77 = .ok (.aload_n 0, 1) := by decide +kernel
theorem dX3_valley_78 : decode cX3_valley 78 = .ok (.getfield 10, 3) := by decide +kernel
theorem dX3_valley_81 : decode cX3_valley 81 = .ok (.iload_n 1, 1) := by decide +kernel
theorem dX3_valley_82 : decode cX3_valley 82 = .ok (.iload_n 2, 1) := by decide +kernel
theorem dX3_valley_83 : decode cX3_valley 83 = .ok (.invokevirtual 83, 3) := by decide +kernel
theorem dX3_valley_86 : decode cX3_valley 86 = .ok (.ireturn, 1) := by decide +kernel
set_option maxRecDepth 20000 in
theorem ggX3_clean_X3_isGutter : GoodIn wsX3_clean wsX3_isGutter := goodIn_r _ [8] rfl (by decide +kernel)
set_option maxRecDepth 20000 in
theorem gX3_clean_X3_isGutter : GoodIn wsX3_clean (va_wsS RX3 37 yX3_isGutter wsX3_isGutter) := goodIn_app (goodIn_of _ (by decide +kernel)) ggX3_clean_X3_isGutter
set_option maxRecDepth 20000 in
theorem ggX3_clean_X2_keep : GoodIn wsX3_clean wsX2_keep := goodIn_r _ [13, 14, 15, 16, 17, 18, 19, 20, 21, 22, 23, 24, 25, 26, 27, 28, 29, 30, 31, 32, 33, 34, 35, 36, 37, 38, 39, 40, 41, 42, 43, 44, 45, 46, 47, 48, 49, 50, 59, 60, 61, 62, 63, 64, 65, 66, 67, 68, 69, 70, 71, 72, 73, 74, 75, 76, 77] rfl (by decide +kernel)
set_option maxRecDepth 20000 in
theorem gX3_clean_X2_keep : GoodIn wsX3_clean (wsV RX3 56 RX2 yX2_keep wsX2_keep) := goodIn_app (goodIn_of _ (by decide +kernel)) ggX3_clean_X2_keep
set_option maxRecDepth 20000 in
theorem ggX3_clean_X1_takeLeaves : GoodIn wsX3_clean wsX1_takeLeaves := goodIn_r _ [54, 33, 62, 63, 64, 65, 66, 67, 68, 69, 70, 71, 72, 73, 74, 75, 76, 77] rfl (by decide +kernel)
set_option maxRecDepth 20000 in
theorem gX3_clean_X1_takeLeaves : GoodIn wsX3_clean (wsV RX3 87 RX1 yX1_takeLeaves wsX1_takeLeaves) := goodIn_app (goodIn_of _ (by decide +kernel)) ggX3_clean_X1_takeLeaves
theorem dX3_clean_0 : decode cX3_clean 0 = .ok (.iload_n 1, 1) := by decide +kernel
theorem dX3_clean_1 : decode cX3_clean 1 = .ok (.invokestatic 37, 3) := by decide +kernel
theorem dX3_clean_4 : decode cX3_clean 4 = .ok (.ifCond .ne 13, 3) := by decide +kernel
theorem dX3_clean_7 : decode cX3_clean 7 = .ok (.new 40, 3) := by decide +kernel
theorem dX3_clean_10 : decode cX3_clean 10 = .ok (.dup, 1) := by decide +kernel
theorem dX3_clean_11 : decode cX3_clean 11 = .ok (.ldc 64, 2) := by decide +kernel
theorem dX3_clean_13 : decode cX3_clean 13 = .ok (.invokespecial 44, 3) := by decide +kernel
theorem dX3_clean_16 : decode cX3_clean 16 = .ok (.athrow, 1) := by decide +kernel
theorem dX3_clean_17 : decode cX3_clean 17 = .ok (.aload_n 0, 1) := by decide +kernel
theorem dX3_clean_18 : decode cX3_clean 18 = .ok (.getfield 22, 3) := by decide +kernel
theorem dX3_clean_21 : decode cX3_clean 21 = .ok (.aload_n 0, 1) := by decide +kernel
theorem dX3_clean_22 : decode cX3_clean 22 = .ok (.getfield 10, 3) := by decide +kernel
theorem dX3_clean_25 : decode cX3_clean 25 = .ok (.invokevirtual 56, 3) := by decide +kernel
theorem dX3_clean_28 : decode cX3_clean 28 = .ok (.aload_n 0, 1) := by decide +kernel
theorem dX3_clean_29 : decode cX3_clean 29 = .ok (.getfield 10, 3) := by decide +kernel
theorem dX3_clean_32 : decode cX3_clean 32 = .ok (.iload_n 1, 1) := by decide +kernel
theorem dX3_clean_33 : decode cX3_clean 33 = .ok (.invokevirtual 87, 3) := by decide +kernel
theorem dX3_clean_36 : decode cX3_clean 36 = .ok (.ireturn, 1) := by decide +kernel
set_option maxRecDepth 20000 in
theorem ggX3_set_X3_isSetting : GoodIn wsX3_set wsX3_isSetting := goodIn_r _ [11] rfl (by decide +kernel)
set_option maxRecDepth 20000 in
theorem gX3_set_X3_isSetting : GoodIn wsX3_set (va_wsS RX3 91 yX3_isSetting wsX3_isSetting) := goodIn_app (goodIn_of _ (by decide +kernel)) ggX3_set_X3_isSetting
set_option maxRecDepth 20000 in
theorem ggX3_set_X3_isWithin : GoodIn wsX3_set wsX3_isWithin := goodIn_r _ [14] rfl (by decide +kernel)
set_option maxRecDepth 20000 in
theorem gX3_set_X3_isWithin : GoodIn wsX3_set (va_wsS RX3 47 yX3_isWithin wsX3_isWithin) := goodIn_app (goodIn_of _ (by decide +kernel)) ggX3_set_X3_isWithin
set_option maxRecDepth 20000 in
theorem ggX3_set_X2_keep : GoodIn wsX3_set wsX2_keep := goodIn_r _ [19, 20, 21, 22, 23, 24, 25, 26, 27, 28, 29, 30, 31, 32, 33, 34, 35, 36, 37, 38, 39, 40, 41, 42, 43, 44, 45, 46, 47, 48, 49, 50, 51, 52, 53, 54, 55, 56, 65, 66, 67, 68, 69, 70, 71, 72, 73, 74, 75, 76, 77, 78, 79, 80, 81, 82, 83] rfl (by decide +kernel)
set_option maxRecDepth 20000 in
theorem gX3_set_X2_keep : GoodIn wsX3_set (wsV RX3 56 RX2 yX2_keep wsX2_keep) := goodIn_app (goodIn_of _ (by decide +kernel)) ggX3_set_X2_keep
set_option maxRecDepth 20000 in
theorem ggX3_set_X1_changeSetting : GoodIn wsX3_set wsX1_changeSetting := goodIn_r _ [60, 44, 68, 69, 70, 71, 72, 73, 74, 75, 76, 77, 78, 79, 80, 81, 82, 83] rfl (by decide +kernel)
set_option maxRecDepth 20000 in
theorem gX3_set_X1_changeSetting : GoodIn wsX3_set (wsV RX3 102 RX1 yX1_changeSetting wsX1_changeSetting) := goodIn_app (goodIn_of _ (by decide +kernel)) ggX3_set_X1_changeSetting
theorem dX3_set_0 : decode cX3_set 0 = .ok (.iload_n 1, 1) := by decide +kernel
theorem dX3_set_1 : decode cX3_set 1 = .ok (.invokestatic 91, 3) := by decide +kernel
theorem dX3_set_4 : decode cX3_set 4 = .ok (.ifCond .ne 13, 3) := by decide +kernel
theorem dX3_set_7 : decode cX3_set 7 = .ok (.new 40, 3) := by decide +kernel
theorem dX3_set_10 : decode cX3_set 10 = .ok (.dup, 1) := by decide +kernel
theorem dX3_set_11 : decode cX3_set 11 = .ok (.ldc 94, 2) := by decide +kernel
theorem dX3_set_13 : decode cX3_set 13 = .ok (.invokespecial 44, 3) := by decide +kernel
theorem dX3_set_16 : decode cX3_set 16 = .ok (.athrow, 1) := by decide +kernel
theorem dX3_set_17 : decode cX3_set 17 = .ok (.iload_n 2, 1) := by decide +kernel
theorem dX3_set_18 : decode cX3_set 18 = .ok (.iconst 0, 1) := by decide +kernel
theorem dX3_set_19 : decode cX3_set 19 = .ok (.getstatic 96, 3) := by decide +kernel
theorem dX3_set_22 : decode cX3_set 22 = .ok (.iload_n 1, 1) := by decide +kernel
theorem dX3_set_23 : decode cX3_set 23 = .ok (.iaload, 1) := by decide +kernel
theorem dX3_set_24 : decode cX3_set 24 = .ok (.invokestatic 47, 3) := by decide +kernel
theorem dX3_set_27 : decode cX3_set 27 = .ok (.ifCond .ne 13, 3) := by decide +kernel
theorem dX3_set_30 : decode cX3_set 30 = .ok (.new 51, 3) := by decide +kernel
theorem dX3_set_33 : decode cX3_set 33 = .ok (.dup, 1) := by decide +kernel
theorem dX3_set_34 : decode cX3_set 34 = .ok (.ldc 100, 2) := by decide +kernel
theorem dX3_set_36 : decode cX3_set 36 = .ok (.invokespecial 55, 3) := by decide +kernel
theorem dX3_set_39 : decode cX3_set 39 = .ok (.athrow, 1) := by decide +kernel
theorem dX3_set_40 : decode cX3_set 40 = .ok (.aload_n 0, 1) := by decide +kernel
theorem dX3_set_41 : decode cX3_set 41 = .ok (.getfield 22, 3) := by decide +kernel
theorem dX3_set_44 : decode cX3_set 44 = .ok (.aload_n 0, 1) := by decide +kernel
theorem dX3_set_45 : decode cX3_set 45 = .ok (.getfield 10, 3) := by decide +kernel
theorem dX3_set_48 : decode cX3_set 48 = .ok (.invokevirtual 56, 3) := by decide +kernel
theorem dX3_set_51 : decode cX3_set 51 = .ok (.aload_n 0, 1) := by decide +kernel
theorem dX3_set_52 : decode cX3_set 52 = .ok (.getfield 10, 3) := by decide +kernel
theorem dX3_set_55 : decode cX3_set 55 = .ok (.iload_n 1, 1) := by decide +kernel
theorem dX3_set_56 : decode cX3_set 56 = .ok (.iload_n 2, 1) := by decide +kernel
theorem dX3_set_57 : decode cX3_set 57 = .ok (.invokevirtual 102, 3) := by decide +kernel
theorem dX3_set_60 : decode cX3_set 60 = .ok (.ireturn, 1) := by decide +kernel
set_option maxRecDepth 20000 in
theorem ggX3_rain_X3_isWithin : GoodIn wsX3_rain wsX3_isWithin := goodIn_r _ [8] rfl (by decide +kernel)
set_option maxRecDepth 20000 in
theorem gX3_rain_X3_isWithin : GoodIn wsX3_rain (va_wsS RX3 47 yX3_isWithin wsX3_isWithin) := goodIn_app (goodIn_of _ (by decide +kernel)) ggX3_rain_X3_isWithin
set_option maxRecDepth 20000 in
theorem ggX3_rain_X2_keep : GoodIn wsX3_rain wsX2_keep := goodIn_r _ [13, 14, 15, 16, 17, 18, 19, 20, 21, 22, 23, 24, 25, 26, 27, 28, 29, 30, 31, 32, 33, 34, 35, 36, 37, 38, 39, 40, 41, 42, 43, 44, 45, 46, 47, 48, 49, 50, 96, 97, 98, 99, 100, 101, 102, 103, 104, 105, 106, 107, 108, 109, 110, 111, 112, 113, 114] rfl (by decide +kernel)
set_option maxRecDepth 20000 in
theorem gX3_rain_X2_keep : GoodIn wsX3_rain (wsV RX3 56 RX2 yX2_keep wsX2_keep) := goodIn_app (goodIn_of _ (by decide +kernel)) ggX3_rain_X2_keep
set_option maxRecDepth 20000 in
theorem ggX3_rain_X1_spiltLitres : GoodIn wsX3_rain wsX1_spiltLitres := goodIn_r _ [54, 36, 55, 56, 19, 57, 99, 100, 101, 102, 103, 104, 105, 106, 107, 108, 109, 110, 111, 112, 113, 114] rfl (by decide +kernel)
set_option maxRecDepth 20000 in
theorem gX3_rain_X1_spiltLitres : GoodIn wsX3_rain (wsV RX3 107 RX1 yX1_spiltLitres wsX1_spiltLitres) := goodIn_app (goodIn_of _ (by decide +kernel)) ggX3_rain_X1_spiltLitres
set_option maxRecDepth 20000 in
theorem ggX3_rain_X1_passMinutes : GoodIn wsX3_rain wsX1_passMinutes := goodIn_r _ [61, 62, 63, 64, 19, 65, 47, 66, 67, 68, 69, 27, 49, 30, 28, 29, 35, 70, 7, 71, 72, 73, 74, 75, 38, 76, 77, 78, 79, 37, 50, 80, 81, 82, 83, 32, 33, 84, 85, 86, 87, 34, 36, 88, 89, 90, 91, 31, 99, 100, 101, 102, 103, 104, 105, 106, 107, 108, 109, 110, 111, 112, 113, 114] rfl (by decide +kernel)
set_option maxRecDepth 20000 in
theorem gX3_rain_X1_passMinutes : GoodIn wsX3_rain (wsV RX3 111 RX1 yX1_passMinutes wsX1_passMinutes) := goodIn_app (goodIn_of _ (by decide +kernel)) ggX3_rain_X1_passMinutes
theorem dX3_rain_0 : decode cX3_rain 0 = .ok (.iload_n 1, 1) := by decide +kernel
theorem dX3_rain_1 : decode cX3_rain 1 = .ok (.iconst 0, 1) := by decide +kernel
theorem dX3_rain_2 : decode cX3_rain 2 = .ok (.bipush 99, 2) := by decide +kernel
theorem dX3_rain_4 : decode cX3_rain 4 = .ok (.invokestatic 47, 3) := by decide +kernel
theorem dX3_rain_7 : decode cX3_rain 7 = .ok (.ifCond .eq 13, 3) := by decide +kernel
theorem dX3_rain_10 : decode cX3_rain 10 = .ok (.iload_n 2, 1) := by decide +kernel
theorem dX3_rain_11 : decode cX3_rain 11 = .ok (.iconst 1, 1) := by decide +kernel
theorem dX3_rain_12 : decode cX3_rain 12 = .ok (.bipush 60, 2) := by decide +kernel
theorem dX3_rain_14 : decode cX3_rain 14 = .ok (.invokestatic 47, 3) := by decide +kernel
theorem dX3_rain_17 : decode cX3_rain 17 = .ok (.ifCond .ne 13, 3) := by decide +kernel
theorem dX3_rain_20 : decode cX3_rain 20 = .ok (.new 51, 3) := by decide +kernel
theorem dX3_rain_23 : decode cX3_rain 23 = .ok (.dup, 1) := by decide +kernel
theorem dX3_rain_24 : decode cX3_rain 24 = .ok (.ldc 105, 2) := by decide +kernel
theorem dX3_rain_26 : decode cX3_rain 26 = .ok (.invokespecial 55, 3) := by decide +kernel
theorem dX3_rain_29 : decode cX3_rain 29 = .ok (.athrow, 1) := by decide +kernel
theorem dX3_rain_30 : decode cX3_rain 30 = .ok (.aload_n 0, 1) := by decide +kernel
theorem dX3_rain_31 : decode cX3_rain 31 = .ok (.getfield 22, 3) := by decide +kernel
theorem dX3_rain_34 : decode cX3_rain 34 = .ok (.aload_n 0, 1) := by decide +kernel
theorem dX3_rain_35 : decode cX3_rain 35 = .ok (.getfield 10, 3) := by decide +kernel
theorem dX3_rain_38 : decode cX3_rain 38 = .ok (.invokevirtual 56, 3) := by decide +kernel
theorem dX3_rain_41 : decode cX3_rain 41 = .ok (.aload_n 0, 1) := by decide +kernel
theorem dX3_rain_42 : decode cX3_rain 42 = .ok (.getfield 10, 3) := by decide +kernel
theorem dX3_rain_45 : decode cX3_rain 45 = .ok (.invokevirtual 107, 3) := by decide +kernel
theorem dX3_rain_48 : decode cX3_rain 48 = .ok (.istore_n 3, 1) := by decide +kernel
theorem dX3_rain_49 : decode cX3_rain 49 = .ok (.aload_n 0, 1) := by decide +kernel
theorem dX3_rain_50 : decode cX3_rain 50 = .ok (.getfield 10, 3) := by decide +kernel
theorem dX3_rain_53 : decode cX3_rain 53 = .ok (.iload_n 1, 1) := by decide +kernel
theorem dX3_rain_54 : decode cX3_rain 54 = .ok (.iload_n 2, 1) := by decide +kernel
theorem dX3_rain_55 : decode cX3_rain 55 = .ok (.invokevirtual 111, 3) := by decide +kernel
theorem dX3_rain_58 : decode cX3_rain 58 = .ok (.aload_n 0, 1) := by decide +kernel
theorem dX3_rain_59 : decode cX3_rain 59 = .ok (.getfield 10, 3) := by decide +kernel
theorem dX3_rain_62 : decode cX3_rain 62 = .ok (.invokevirtual 107, 3) := by decide +kernel
theorem dX3_rain_65 : decode cX3_rain 65 = .ok (.iload_n 3, 1) := by decide +kernel
theorem dX3_rain_66 : decode cX3_rain 66 = .ok (.isub, 1) := by decide +kernel
theorem dX3_rain_67 : decode cX3_rain 67 = .ok (.ireturn, 1) := by decide +kernel
set_option maxRecDepth 20000 in
theorem ggX3_weeks_X3_isWithin : GoodIn wsX3_weeks wsX3_isWithin := goodIn_r _ [8] rfl (by decide +kernel)
set_option maxRecDepth 20000 in
theorem gX3_weeks_X3_isWithin : GoodIn wsX3_weeks (va_wsS RX3 47 yX3_isWithin wsX3_isWithin) := goodIn_app (goodIn_of _ (by decide +kernel)) ggX3_weeks_X3_isWithin
set_option maxRecDepth 20000 in
theorem ggX3_weeks_X2_keep : GoodIn wsX3_weeks wsX2_keep := goodIn_r _ [13, 14, 15, 16, 17, 18, 19, 20, 21, 22, 23, 24, 25, 26, 27, 28, 29, 30, 31, 32, 33, 34, 35, 36, 37, 38, 39, 40, 41, 42, 43, 44, 45, 46, 47, 48, 49, 50, 70, 71, 72, 73, 74, 75, 76, 77, 78, 79, 80, 81, 82, 83, 84, 85, 86, 87, 88] rfl (by decide +kernel)
set_option maxRecDepth 20000 in
theorem gX3_weeks_X2_keep : GoodIn wsX3_weeks (wsV RX3 56 RX2 yX2_keep wsX2_keep) := goodIn_app (goodIn_of _ (by decide +kernel)) ggX3_weeks_X2_keep
set_option maxRecDepth 20000 in
theorem ggX3_weeks_X1_passWeek : GoodIn wsX3_weeks wsX1_passWeek := goodIn_r _ [54, 33, 38, 55, 56, 57, 58, 48, 73, 74, 75, 76, 77, 78, 79, 80, 81, 82, 83, 84, 85, 86, 87, 88] rfl (by decide +kernel)
set_option maxRecDepth 20000 in
theorem gX3_weeks_X1_passWeek : GoodIn wsX3_weeks (wsV RX3 117 RX1 yX1_passWeek wsX1_passWeek) := goodIn_app (goodIn_of _ (by decide +kernel)) ggX3_weeks_X1_passWeek
set_option maxRecDepth 20000 in
theorem ggX3_weeks_X1_leavesTogether : GoodIn wsX3_weeks wsX1_leavesTogether := goodIn_r _ [62, 33, 63, 64, 19, 65, 73, 74, 75, 76, 77, 78, 79, 80, 81, 82, 83, 84, 85, 86, 87, 88] rfl (by decide +kernel)
set_option maxRecDepth 20000 in
theorem gX3_weeks_X1_leavesTogether : GoodIn wsX3_weeks (wsV RX3 120 RX1 yX1_leavesTogether wsX1_leavesTogether) := goodIn_app (goodIn_of _ (by decide +kernel)) ggX3_weeks_X1_leavesTogether
theorem dX3_weeks_0 : decode cX3_weeks 0 = .ok (.iload_n 1, 1) := by decide +kernel
theorem dX3_weeks_1 : decode cX3_weeks 1 = .ok (.iconst 1, 1) := by decide +kernel
theorem dX3_weeks_2 : decode cX3_weeks 2 = .ok (.bipush 52, 2) := by decide +kernel
theorem dX3_weeks_4 : decode cX3_weeks 4 = .ok (.invokestatic 47, 3) := by decide +kernel
theorem dX3_weeks_7 : decode cX3_weeks 7 = .ok (.ifCond .ne 13, 3) := by decide +kernel
theorem dX3_weeks_10 : decode cX3_weeks 10 = .ok (.new 51, 3) := by decide +kernel
theorem dX3_weeks_13 : decode cX3_weeks 13 = .ok (.dup, 1) := by decide +kernel
theorem dX3_weeks_14 : decode cX3_weeks 14 = .ok (.ldc 115, 2) := by decide +kernel
theorem dX3_weeks_16 : decode cX3_weeks 16 = .ok (.invokespecial 55, 3) := by decide +kernel
theorem dX3_weeks_19 : decode cX3_weeks 19 = .ok (.athrow, 1) := by decide +kernel
theorem dX3_weeks_20 : decode cX3_weeks 20 = .ok (.aload_n 0, 1) := by decide +kernel
theorem dX3_weeks_21 : decode cX3_weeks 21 = .ok (.getfield 22, 3) := by decide +kernel
theorem dX3_weeks_24 : decode cX3_weeks 24 = .ok (.aload_n 0, 1) := by decide +kernel
theorem dX3_weeks_25 : decode cX3_weeks 25 = .ok (.getfield 10, 3) := by decide +kernel
theorem dX3_weeks_28 : decode cX3_weeks 28 = .ok (.invokevirtual 56, 3) := by decide +kernel
theorem dX3_weeks_31 : decode cX3_weeks 31 = .ok (.iconst 0, 1) := by decide +kernel
theorem dX3_weeks_32 : decode cX3_weeks 32 = .ok (.istore_n 2, 1) := by decide +kernel
theorem dX3_weeks_33 : decode cX3_weeks 33 = .ok (.iload_n 2, 1) := by decide +kernel
theorem dX3_weeks_34 : decode cX3_weeks 34 = .ok (.iload_n 1, 1) := by decide +kernel
theorem dX3_weeks_35 : decode cX3_weeks 35 = .ok (.if_icmp .ge 16, 3) := by decide +kernel
theorem dX3_weeks_38 : decode cX3_weeks 38 = .ok (.aload_n 0, 1) := by decide +kernel
theorem dX3_weeks_39 : decode cX3_weeks 39 = .ok (.getfield 10, 3) := by decide +kernel
theorem dX3_weeks_42 : decode cX3_weeks 42 = .ok (.invokevirtual 117, 3) := by decide +kernel
theorem dX3_weeks_45 : decode cX3_weeks 45 = .ok (.iinc 2 1, 3) := by decide +kernel
theorem dX3_weeks_48 : decode cX3_weeks 48 = .ok (.goto (-15), 3) := by decide +kernel
theorem dX3_weeks_51 : decode cX3_weeks 51 = .ok (.aload_n 0, 1) := by decide +kernel
theorem dX3_weeks_52 : decode cX3_weeks 52 = .ok (.getfield 10, 3) := by decide +kernel
theorem dX3_weeks_55 : decode cX3_weeks 55 = .ok (.invokevirtual 120, 3) := by decide +kernel
theorem dX3_weeks_58 : decode cX3_weeks 58 = .ok (.ireturn, 1) := by decide +kernel
set_option maxRecDepth 20000 in
theorem ggX3_undo_X2_dropLatest : GoodIn wsX3_undo wsX2_dropLatest := goodIn_r _ [9, 10, 11, 12, 46, 47, 48] rfl (by decide +kernel)
set_option maxRecDepth 20000 in
theorem gX3_undo_X2_dropLatest : GoodIn wsX3_undo (wsV RX3 152 RX2 yX2_dropLatest wsX2_dropLatest) := goodIn_app (goodIn_of _ (by decide +kernel)) ggX3_undo_X2_dropLatest
set_option maxRecDepth 20000 in
theorem ggX3_undo_X1_copyFrom : GoodIn wsX3_undo wsX1_copyFrom := goodIn_r _ [17, 18, 19, 20, 21, 22, 23, 24, 25, 26, 27, 28, 29, 30, 31, 32, 33, 34, 35, 36, 37, 49, 50, 51, 52, 53, 54, 55, 56, 57, 58, 59, 60, 61, 62, 63, 64] rfl (by decide +kernel)
set_option maxRecDepth 20000 in
theorem gX3_undo_X1_copyFrom : GoodIn wsX3_undo (wsV RX3 158 RX1 yX1_copyFrom wsX1_copyFrom) := goodIn_app (goodIn_of _ (by decide +kernel)) ggX3_undo_X1_copyFrom
set_option maxRecDepth 20000 in
theorem ggX3_undo_X2_held : GoodIn wsX3_undo wsX2_held := goodIn_r _ [41, 10, 46, 47, 48] rfl (by decide +kernel)
set_option maxRecDepth 20000 in
theorem gX3_undo_X2_held : GoodIn wsX3_undo (wsV RX3 161 RX2 yX2_held wsX2_held) := goodIn_app (goodIn_of _ (by decide +kernel)) ggX3_undo_X2_held
theorem dX3_undo_0 : decode cX3_undo 0 = .ok (.aload_n 0, 1) := by decide +kernel
theorem dX3_undo_1 : decode cX3_undo 1 = .ok (.getfield 22, 3) := by decide +kernel
theorem dX3_undo_4 : decode cX3_undo 4 = .ok (.invokevirtual 152, 3) := by decide +kernel
theorem dX3_undo_7 : decode cX3_undo 7 = .ok (.astore_n 1, 1) := by decide +kernel
theorem dX3_undo_8 : decode cX3_undo 8 = .ok (.aload_n 1, 1) := by decide +kernel
theorem dX3_undo_9 : decode cX3_undo 9 = .ok (.ifnonnull 13, 3) := by decide +kernel
theorem dX3_undo_12 : decode cX3_undo 12 = .ok (.new 78, 3) := by decide +kernel
theorem dX3_undo_15 : decode cX3_undo 15 = .ok (.dup, 1) := by decide +kernel
theorem dX3_undo_16 : decode cX3_undo 16 = .ok (.ldc 156, 2) := by decide +kernel
theorem dX3_undo_18 : decode cX3_undo 18 = .ok (.invokespecial 82, 3) := by decide +kernel
theorem dX3_undo_21 : decode cX3_undo 21 = .ok (.athrow, 1) := by decide +kernel
theorem dX3_undo_22 : decode cX3_undo 22 = .ok (.aload_n 0, 1) := by decide +kernel
theorem dX3_undo_23 : decode cX3_undo 23 = .ok (.getfield 10, 3) := by decide +kernel
theorem dX3_undo_26 : decode cX3_undo 26 = .ok (.aload_n 1, 1) := by decide +kernel
theorem dX3_undo_27 : decode cX3_undo 27 = .ok (.invokevirtual 158, 3) := by decide +kernel
theorem dX3_undo_30 : decode cX3_undo 30 = .ok (.aload_n 0, 1) := by decide +kernel
theorem dX3_undo_31 : decode cX3_undo 31 = .ok (.getfield 22, 3) := by decide +kernel
theorem dX3_undo_34 : decode cX3_undo 34 = .ok (.invokevirtual 161, 3) := by decide +kernel
theorem dX3_undo_37 : decode cX3_undo 37 = .ok (.ireturn, 1) := by decide +kernel
set_option maxRecDepth 20000 in
theorem ggX3_planeOf_X3_isPlane : GoodIn wsX3_planeOf wsX3_isPlane := goodIn_r _ [9] rfl (by decide +kernel)
set_option maxRecDepth 20000 in
theorem gX3_planeOf_X3_isPlane : GoodIn wsX3_planeOf (va_wsS RX3 33 yX3_isPlane wsX3_isPlane) := goodIn_app (goodIn_of _ (by decide +kernel)) ggX3_planeOf_X3_isPlane
set_option maxRecDepth 20000 in
theorem ggX3_planeOf_X3_isWithin : GoodIn wsX3_planeOf wsX3_isWithin := goodIn_r _ [12] rfl (by decide +kernel)
set_option maxRecDepth 20000 in
theorem gX3_planeOf_X3_isWithin : GoodIn wsX3_planeOf (va_wsS RX3 47 yX3_isWithin wsX3_isWithin) := goodIn_app (goodIn_of _ (by decide +kernel)) ggX3_planeOf_X3_isWithin
set_option maxRecDepth 20000 in
theorem ggX3_planeOf_X1_planeNumber : GoodIn wsX3_planeOf wsX1_planeNumber := goodIn_r _ [17, 18, 19, 20, 21, 26, 27, 28, 29, 30, 31, 32, 33, 34, 35, 36, 37, 38, 39, 40, 41] rfl (by decide +kernel)
set_option maxRecDepth 20000 in
theorem gX3_planeOf_X1_planeNumber : GoodIn wsX3_planeOf (wsV RX3 168 RX1 yX1_planeNumber wsX1_planeNumber) := goodIn_app (goodIn_of _ (by decide +kernel)) ggX3_planeOf_X1_planeNumber
theorem dX3_planeOf_0 : decode cX3_planeOf 0 = .ok (.iload_n 1, 1) := by decide +kernel
theorem dX3_planeOf_1 : decode cX3_planeOf 1 = .ok (.invokestatic 33, 3) := by decide +kernel
theorem dX3_planeOf_4 : decode cX3_planeOf 4 = .ok (.ifCond .ne 13, 3) := by decide +kernel
theorem dX3_planeOf_7 : decode cX3_planeOf 7 = .ok (.new 40, 3) := by decide +kernel
theorem dX3_planeOf_10 : decode cX3_planeOf 10 = .ok (.dup, 1) := by decide +kernel
theorem dX3_planeOf_11 : decode cX3_planeOf 11 = .ok (.ldc 164, 2) := by decide +kernel
theorem dX3_planeOf_13 : decode cX3_planeOf 13 = .ok (.invokespecial 44, 3) := by decide +kernel
theorem dX3_planeOf_16 : decode cX3_planeOf 16 = .ok (.athrow, 1) := by decide +kernel
theorem dX3_planeOf_17 : decode cX3_planeOf 17 = .ok (.iload_n 2, 1) := by decide +kernel
theorem dX3_planeOf_18 : decode cX3_planeOf 18 = .ok (.iconst 0, 1) := by decide +kernel
theorem dX3_planeOf_19 : decode cX3_planeOf 19 = .ok (.iconst 3, 1) := by decide +kernel
theorem dX3_planeOf_20 : decode cX3_planeOf 20 = .ok (.invokestatic 47, 3) := by decide +kernel
theorem dX3_planeOf_23 : decode cX3_planeOf 23 = .ok (.ifCond .ne 13, 3) := by decide +kernel
theorem dX3_planeOf_26 : decode cX3_planeOf 26 = .ok (.new 51, 3) := by decide +kernel
theorem dX3_planeOf_29 : decode cX3_planeOf 29 = .ok (.dup, 1) := by decide +kernel
theorem dX3_planeOf_30 : decode cX3_planeOf 30 = .ok (.ldc 166, 2) := by decide +kernel
theorem dX3_planeOf_32 : decode cX3_planeOf 32 = .ok (.invokespecial 55, 3) := by decide +kernel
theorem dX3_planeOf_35 : decode cX3_planeOf 35 = .ok (.athrow, 1) := by decide +kernel
theorem dX3_planeOf_36 : decode cX3_planeOf 36 = .ok (.aload_n 0, 1) := by decide +kernel
theorem dX3_planeOf_37 : decode cX3_planeOf 37 = .ok (.getfield 10, 3) := by decide +kernel
theorem dX3_planeOf_40 : decode cX3_planeOf 40 = .ok (.iload_n 1, 1) := by decide +kernel
theorem dX3_planeOf_41 : decode cX3_planeOf 41 = .ok (.iload_n 2, 1) := by decide +kernel
theorem dX3_planeOf_42 : decode cX3_planeOf 42 = .ok (.invokevirtual 168, 3) := by decide +kernel
theorem dX3_planeOf_45 : decode cX3_planeOf 45 = .ok (.ireturn, 1) := by decide +kernel
set_option maxRecDepth 20000 in
theorem ggX3_gutterOf_X3_isGutter : GoodIn wsX3_gutterOf wsX3_isGutter := goodIn_r _ [9] rfl (by decide +kernel)
set_option maxRecDepth 20000 in
theorem gX3_gutterOf_X3_isGutter : GoodIn wsX3_gutterOf (va_wsS RX3 37 yX3_isGutter wsX3_isGutter) := goodIn_app (goodIn_of _ (by decide +kernel)) ggX3_gutterOf_X3_isGutter
set_option maxRecDepth 20000 in
theorem ggX3_gutterOf_X3_isWithin : GoodIn wsX3_gutterOf wsX3_isWithin := goodIn_r _ [12] rfl (by decide +kernel)
set_option maxRecDepth 20000 in
theorem gX3_gutterOf_X3_isWithin : GoodIn wsX3_gutterOf (va_wsS RX3 47 yX3_isWithin wsX3_isWithin) := goodIn_app (goodIn_of _ (by decide +kernel)) ggX3_gutterOf_X3_isWithin
set_option maxRecDepth 20000 in
theorem ggX3_gutterOf_X1_gutterNumber : GoodIn wsX3_gutterOf wsX1_gutterNumber := goodIn_r _ [17, 18, 19, 20, 21, 22, 23, 24, 25, 26, 27, 16, 28, 29, 30, 31, 32, 37, 38, 39, 40, 41, 42, 43, 44, 45, 46, 47, 48, 49, 50, 51, 52] rfl (by decide +kernel)
set_option maxRecDepth 20000 in
theorem gX3_gutterOf_X1_gutterNumber : GoodIn wsX3_gutterOf (wsV RX3 173 RX1 yX1_gutterNumber wsX1_gutterNumber) := goodIn_app (goodIn_of _ (by decide +kernel)) ggX3_gutterOf_X1_gutterNumber
theorem dX3_gutterOf_0 : decode cX3_gutterOf 0 = .ok (.iload_n 1, 1) := by decide +kernel
theorem dX3_gutterOf_1 : decode cX3_gutterOf 1 = .ok (.invokestatic 37, 3) := by decide +kernel
theorem dX3_gutterOf_4 : decode cX3_gutterOf 4 = .ok (.ifCond .ne 13, 3) := by decide +kernel
theorem dX3_gutterOf_7 : decode cX3_gutterOf 7 = .ok (.new 40, 3) := by decide +kernel
theorem dX3_gutterOf_10 : decode cX3_gutterOf 10 = .ok (.dup, 1) := by decide +kernel
theorem dX3_gutterOf_11 : decode cX3_gutterOf 11 = .ok (.ldc 64, 2) := by decide +kernel
theorem dX3_gutterOf_13 : decode cX3_gutterOf 13 = .ok (.invokespecial 44, 3) := by decide +kernel
theorem dX3_gutterOf_16 : decode cX3_gutterOf 16 = .ok (.athrow, 1) := by decide +kernel
theorem dX3_gutterOf_17 : decode cX3_gutterOf 17 = .ok (.iload_n 2, 1) := by decide +kernel
theorem dX3_gutterOf_18 : decode cX3_gutterOf 18 = .ok (.iconst 0, 1) := by decide +kernel
theorem dX3_gutterOf_19 : decode cX3_gutterOf 19 = .ok (.bipush 8, 2) := by decide +kernel
theorem dX3_gutterOf_21 : decode cX3_gutterOf 21 = .ok (.invokestatic 47, 3) := by decide +kernel
theorem dX3_gutterOf_24 : decode cX3_gutterOf 24 = .ok (.ifCond .ne 13, 3) := by decide +kernel
theorem dX3_gutterOf_27 : decode cX3_gutterOf 27 = .ok (.new 51, 3) := by decide +kernel
theorem dX3_gutterOf_30 : decode cX3_gutterOf 30 = .ok (.dup, 1) := by decide +kernel
theorem dX3_gutterOf_31 : decode cX3_gutterOf 31 = .ok (.ldc 171, 2) := by decide +kernel
theorem dX3_gutterOf_33 : decode cX3_gutterOf 33 = .ok (.invokespecial 55, 3) := by decide +kernel
theorem dX3_gutterOf_36 : decode cX3_gutterOf 36 = .ok (.athrow, 1) := by decide +kernel
theorem dX3_gutterOf_37 : decode cX3_gutterOf 37 = .ok (.aload_n 0, 1) := by decide +kernel
theorem dX3_gutterOf_38 : decode cX3_gutterOf 38 = .ok (.getfield 10, 3) := by decide +kernel
theorem dX3_gutterOf_41 : decode cX3_gutterOf 41 = .ok (.iload_n 1, 1) := by decide +kernel
theorem dX3_gutterOf_42 : decode cX3_gutterOf 42 = .ok (.iload_n 2, 1) := by decide +kernel
theorem dX3_gutterOf_43 : decode cX3_gutterOf 43 = .ok (.invokevirtual 173, 3) := by decide +kernel
theorem dX3_gutterOf_46 : decode cX3_gutterOf 46 = .ok (.ireturn, 1) := by decide +kernel
set_option maxRecDepth 20000 in
theorem ggX3_count_X1_minutesGone : GoodIn wsX3_count wsX1_minutesGone := goodIn_r _ [9, 10, 60, 61, 62, 63, 64, 65, 66, 67, 68, 69, 70, 71, 72, 73, 74, 75] rfl (by decide +kernel)
set_option maxRecDepth 20000 in
theorem gX3_count_X1_minutesGone : GoodIn wsX3_count (wsV RX3 176 RX1 yX1_minutesGone wsX1_minutesGone) := goodIn_app (goodIn_of _ (by decide +kernel)) ggX3_count_X1_minutesGone
set_option maxRecDepth 20000 in
theorem ggX3_count_X1_weeksPassed : GoodIn wsX3_count wsX1_weeksPassed := goodIn_r _ [14, 15, 60, 61, 62, 63, 64, 65, 66, 67, 68, 69, 70, 71, 72, 73, 74, 75] rfl (by decide +kernel)
set_option maxRecDepth 20000 in
theorem gX3_count_X1_weeksPassed : GoodIn wsX3_count (wsV RX3 179 RX1 yX1_weeksPassed wsX1_weeksPassed) := goodIn_app (goodIn_of _ (by decide +kernel)) ggX3_count_X1_weeksPassed
set_option maxRecDepth 20000 in
theorem ggX3_count_X1_rainedLitres : GoodIn wsX3_count wsX1_rainedLitres := goodIn_r _ [19, 20, 60, 61, 62, 63, 64, 65, 66, 67, 68, 69, 70, 71, 72, 73, 74, 75] rfl (by decide +kernel)
set_option maxRecDepth 20000 in
theorem gX3_count_X1_rainedLitres : GoodIn wsX3_count (wsV RX3 182 RX1 yX1_rainedLitres wsX1_rainedLitres) := goodIn_app (goodIn_of _ (by decide +kernel)) ggX3_count_X1_rainedLitres
set_option maxRecDepth 20000 in
theorem ggX3_count_X1_standingLitres : GoodIn wsX3_count wsX1_standingLitres := goodIn_r _ [24, 25, 26, 27, 28, 8, 29, 60, 61, 62, 63, 64, 65, 66, 67, 68, 69, 70, 71, 72, 73, 74, 75] rfl (by decide +kernel)
set_option maxRecDepth 20000 in
theorem gX3_count_X1_standingLitres : GoodIn wsX3_count (wsV RX3 185 RX1 yX1_standingLitres wsX1_standingLitres) := goodIn_app (goodIn_of _ (by decide +kernel)) ggX3_count_X1_standingLitres
set_option maxRecDepth 20000 in
theorem ggX3_count_X1_drainedLitres : GoodIn wsX3_count wsX1_drainedLitres := goodIn_r _ [33, 34, 27, 28, 8, 29, 60, 61, 62, 63, 64, 65, 66, 67, 68, 69, 70, 71, 72, 73, 74, 75] rfl (by decide +kernel)
set_option maxRecDepth 20000 in
theorem gX3_count_X1_drainedLitres : GoodIn wsX3_count (wsV RX3 188 RX1 yX1_drainedLitres wsX1_drainedLitres) := goodIn_app (goodIn_of _ (by decide +kernel)) ggX3_count_X1_drainedLitres
set_option maxRecDepth 20000 in
theorem ggX3_count_X1_spiltLitres : GoodIn wsX3_count wsX1_spiltLitres := goodIn_r _ [38, 39, 27, 28, 8, 29, 60, 61, 62, 63, 64, 65, 66, 67, 68, 69, 70, 71, 72, 73, 74, 75] rfl (by decide +kernel)
set_option maxRecDepth 20000 in
theorem gX3_count_X1_spiltLitres : GoodIn wsX3_count (wsV RX3 107 RX1 yX1_spiltLitres wsX1_spiltLitres) := goodIn_app (goodIn_of _ (by decide +kernel)) ggX3_count_X1_spiltLitres
set_option maxRecDepth 20000 in
theorem ggX3_count_X1_backedUpMinutes : GoodIn wsX3_count wsX1_backedUpMinutes := goodIn_r _ [43, 44, 60, 61, 62, 63, 64, 65, 66, 67, 68, 69, 70, 71, 72, 73, 74, 75] rfl (by decide +kernel)
set_option maxRecDepth 20000 in
theorem gX3_count_X1_backedUpMinutes : GoodIn wsX3_count (wsV RX3 191 RX1 yX1_backedUpMinutes wsX1_backedUpMinutes) := goodIn_app (goodIn_of _ (by decide +kernel)) ggX3_count_X1_backedUpMinutes
set_option maxRecDepth 20000 in
theorem ggX3_count_X1_leavesTogether : GoodIn wsX3_count wsX1_leavesTogether := goodIn_r _ [48, 49, 27, 28, 8, 29, 60, 61, 62, 63, 64, 65, 66, 67, 68, 69, 70, 71, 72, 73, 74, 75] rfl (by decide +kernel)
set_option maxRecDepth 20000 in
theorem gX3_count_X1_leavesTogether : GoodIn wsX3_count (wsV RX3 120 RX1 yX1_leavesTogether wsX1_leavesTogether) := goodIn_app (goodIn_of _ (by decide +kernel)) ggX3_count_X1_leavesTogether
set_option maxRecDepth 20000 in
theorem ggX3_count_X2_held : GoodIn wsX3_count wsX2_held := goodIn_r _ [54, 55, 76, 77, 78] rfl (by decide +kernel)
set_option maxRecDepth 20000 in
theorem gX3_count_X2_held : GoodIn wsX3_count (wsV RX3 161 RX2 yX2_held wsX2_held) := goodIn_app (goodIn_of _ (by decide +kernel)) ggX3_count_X2_held
theorem dX3_count_0 : decode cX3_count 0 = .ok (.iload_n 1, 1) := by decide +kernel
theorem dX3_count_1 : decode cX3_count 1 = .ok (.tableswitch 123 0 8 #[51, 59, 67, 75, 83, 91, 99, 107, 115], 51) := by decide +kernel
theorem dX3_count_52 : decode cX3_count 52 = .ok (.aload_n 0, 1) := by decide +kernel
theorem dX3_count_53 : decode cX3_count 53 = .ok (.getfield 10, 3) := by decide +kernel
theorem dX3_count_56 : decode cX3_count 56 = .ok (.invokevirtual 176, 3) := by decide +kernel
theorem dX3_count_59 : decode cX3_count 59 = .ok (.ireturn, 1) := by decide +kernel
theorem dX3_count_60 : decode cX3_count 60 = .ok (.aload_n 0, 1) := by decide +kernel
theorem dX3_count_61 : decode cX3_count 61 = .ok (.getfield 10, 3) := by decide +kernel
theorem dX3_count_64 : decode cX3_count 64 = .ok (.invokevirtual 179, 3) := by decide +kernel
theorem dX3_count_67 : decode cX3_count 67 = .ok (.ireturn, 1) := by decide +kernel
theorem dX3_count_68 : decode cX3_count 68 = .ok (.aload_n 0, 1) := by decide +kernel
theorem dX3_count_69 : decode cX3_count 69 = .ok (.getfield 10, 3) := by decide +kernel
theorem dX3_count_72 : decode cX3_count 72 = .ok (.invokevirtual 182, 3) := by decide +kernel
theorem dX3_count_75 : decode cX3_count 75 = .ok (.ireturn, 1) := by decide +kernel
theorem dX3_count_76 : decode cX3_count 76 = .ok (.aload_n 0, 1) := by decide +kernel
theorem dX3_count_77 : decode cX3_count 77 = .ok (.getfield 10, 3) := by decide +kernel
theorem dX3_count_80 : decode cX3_count 80 = .ok (.invokevirtual 185, 3) := by decide +kernel
theorem dX3_count_83 : decode cX3_count 83 = .ok (.ireturn, 1) := by decide +kernel
theorem dX3_count_84 : decode cX3_count 84 = .ok (.aload_n 0, 1) := by decide +kernel
theorem dX3_count_85 : decode cX3_count 85 = .ok (.getfield 10, 3) := by decide +kernel
theorem dX3_count_88 : decode cX3_count 88 = .ok (.invokevirtual 188, 3) := by decide +kernel
theorem dX3_count_91 : decode cX3_count 91 = .ok (.ireturn, 1) := by decide +kernel
theorem dX3_count_92 : decode cX3_count 92 = .ok (.aload_n 0, 1) := by decide +kernel
theorem dX3_count_93 : decode cX3_count 93 = .ok (.getfield 10, 3) := by decide +kernel
theorem dX3_count_96 : decode cX3_count 96 = .ok (.invokevirtual 107, 3) := by decide +kernel
theorem dX3_count_99 : decode cX3_count 99 = .ok (.ireturn, 1) := by decide +kernel
theorem dX3_count_100 : decode cX3_count 100 = .ok (.aload_n 0, 1) := by decide +kernel
theorem dX3_count_101 : decode cX3_count 101 = .ok (.getfield 10, 3) := by decide +kernel
theorem dX3_count_104 : decode cX3_count 104 = .ok (.invokevirtual 191, 3) := by decide +kernel
theorem dX3_count_107 : decode cX3_count 107 = .ok (.ireturn, 1) := by decide +kernel
theorem dX3_count_108 : decode cX3_count 108 = .ok (.aload_n 0, 1) := by decide +kernel
theorem dX3_count_109 : decode cX3_count 109 = .ok (.getfield 10, 3) := by decide +kernel
theorem dX3_count_112 : decode cX3_count 112 = .ok (.invokevirtual 120, 3) := by decide +kernel
theorem dX3_count_115 : decode cX3_count 115 = .ok (.ireturn, 1) := by decide +kernel
theorem dX3_count_116 : decode cX3_count 116 = .ok (.aload_n 0, 1) := by decide +kernel
theorem dX3_count_117 : decode cX3_count 117 = .ok (.getfield 22, 3) := by decide +kernel
theorem dX3_count_120 : decode cX3_count 120 = .ok (.invokevirtual 161, 3) := by decide +kernel
theorem dX3_count_123 : decode cX3_count 123 = .ok (.ireturn, 1) := by decide +kernel
theorem dX3_count_124 : decode cX3_count 124 = .ok (.new 51, 3) := by decide +kernel
theorem dX3_count_127 : decode cX3_count 127 = .ok (.dup, 1) := by decide +kernel
theorem dX3_count_128 : decode cX3_count 128 = .ok (.ldc 171, 2) := by decide +kernel
theorem dX3_count_130 : decode cX3_count 130 = .ok (.invokespecial 55, 3) := by decide +kernel
theorem dX3_count_133 : decode cX3_count 133 = .ok (.athrow, 1) := by decide +kernel
set_option maxRecDepth 20000 in
theorem ggX3_setting_X3_isSetting : GoodIn wsX3_setting wsX3_isSetting := goodIn_r _ [7] rfl (by decide +kernel)
set_option maxRecDepth 20000 in
theorem gX3_setting_X3_isSetting : GoodIn wsX3_setting (va_wsS RX3 91 yX3_isSetting wsX3_isSetting) := goodIn_app (goodIn_of _ (by decide +kernel)) ggX3_setting_X3_isSetting
set_option maxRecDepth 20000 in
theorem ggX3_setting_X1_settingValue : GoodIn wsX3_setting wsX1_settingValue := goodIn_r _ [12, 13, 18, 19, 20, 21, 22, 23, 24, 25, 26, 27, 28, 29, 30, 31, 32, 33] rfl (by decide +kernel)
set_option maxRecDepth 20000 in
theorem gX3_setting_X1_settingValue : GoodIn wsX3_setting (wsV RX3 194 RX1 yX1_settingValue wsX1_settingValue) := goodIn_app (goodIn_of _ (by decide +kernel)) ggX3_setting_X1_settingValue
theorem dX3_setting_0 : decode cX3_setting 0 = .ok (.iload_n 1, 1) := by decide +kernel
theorem dX3_setting_1 : decode cX3_setting 1 = .ok (.invokestatic 91, 3) := by decide +kernel
theorem dX3_setting_4 : decode cX3_setting 4 = .ok (.ifCond .ne 13, 3) := by decide +kernel
theorem dX3_setting_7 : decode cX3_setting 7 = .ok (.new 40, 3) := by decide +kernel
theorem dX3_setting_10 : decode cX3_setting 10 = .ok (.dup, 1) := by decide +kernel
theorem dX3_setting_11 : decode cX3_setting 11 = .ok (.ldc 94, 2) := by decide +kernel
theorem dX3_setting_13 : decode cX3_setting 13 = .ok (.invokespecial 44, 3) := by decide +kernel
theorem dX3_setting_16 : decode cX3_setting 16 = .ok (.athrow, 1) := by decide +kernel
theorem dX3_setting_17 : decode cX3_setting 17 = .ok (.aload_n 0, 1) := by decide +kernel
theorem dX3_setting_18 : decode cX3_setting 18 = .ok (.getfield 10, 3) := by decide +kernel
theorem dX3_setting_21 : decode cX3_setting 21 = .ok (.iload_n 1, 1) := by decide +kernel
theorem dX3_setting_22 : decode cX3_setting 22 = .ok (.invokevirtual 194, 3) := by decide +kernel
theorem dX3_setting_25 : decode cX3_setting 25 = .ok (.ireturn, 1) := by decide +kernel
set_option maxRecDepth 20000 in
theorem ggX3_dryIn_X1_copyFrom : GoodIn wsX3_dryIn wsX1_copyFrom := goodIn_r _ [7, 8, 9, 10, 11, 12, 13, 14, 15, 16, 17, 18, 19, 20, 21, 22, 23, 24, 25, 26, 27, 70, 71, 72, 73, 74, 75, 76, 77, 78, 79, 80, 81, 82, 83, 84, 85] rfl (by decide +kernel)
set_option maxRecDepth 20000 in
theorem gX3_dryIn_X1_copyFrom : GoodIn wsX3_dryIn (wsV RX3 158 RX1 yX1_copyFrom wsX1_copyFrom) := goodIn_app (goodIn_of _ (by decide +kernel)) ggX3_dryIn_X1_copyFrom
set_option maxRecDepth 20000 in
theorem ggX3_dryIn_X1_standingLitres : GoodIn wsX3_dryIn wsX1_standingLitres := goodIn_r _ [31, 15, 20, 32, 33, 6, 34, 70, 71, 72, 73, 74, 75, 76, 77, 78, 79, 80, 81, 82, 83, 84, 85] rfl (by decide +kernel)
set_option maxRecDepth 20000 in
theorem gX3_dryIn_X1_standingLitres : GoodIn wsX3_dryIn (wsV RX3 185 RX1 yX1_standingLitres wsX1_standingLitres) := goodIn_app (goodIn_of _ (by decide +kernel)) ggX3_dryIn_X1_standingLitres
set_option maxRecDepth 20000 in
theorem ggX3_dryIn_X1_passMinute : GoodIn wsX3_dryIn wsX1_passMinute := goodIn_r _ [38, 24, 39, 40, 41, 6, 42, 8, 26, 15, 13, 14, 20, 43, 44, 45, 46, 47, 48, 49, 23, 50, 51, 52, 53, 22, 27, 54, 55, 56, 57, 17, 18, 58, 59, 60, 61, 19, 21, 62, 63, 64, 65, 16, 70, 71, 72, 73, 74, 75, 76, 77, 78, 79, 80, 81, 82, 83, 84, 85] rfl (by decide +kernel)
set_option maxRecDepth 20000 in
theorem gX3_dryIn_X1_passMinute : GoodIn wsX3_dryIn (wsV RX3 201 RX1 yX1_passMinute wsX1_passMinute) := goodIn_app (goodIn_of _ (by decide +kernel)) ggX3_dryIn_X1_passMinute
theorem dX3_dryIn_0 : decode cX3_dryIn 0 = .ok (.aload_n 0, 1) := by decide +kernel
theorem dX3_dryIn_1 : decode cX3_dryIn 1 = .ok (.getfield 16, 3) := by decide +kernel
theorem dX3_dryIn_4 : decode cX3_dryIn 4 = .ok (.aload_n 0, 1) := by decide +kernel
theorem dX3_dryIn_5 : decode cX3_dryIn 5 = .ok (.getfield 10, 3) := by decide +kernel
theorem dX3_dryIn_8 : decode cX3_dryIn 8 = .ok (.invokevirtual 158, 3) := by decide +kernel
theorem dX3_dryIn_11 : decode cX3_dryIn 11 = .ok (.iconst 0, 1) := by decide +kernel
theorem dX3_dryIn_12 : decode cX3_dryIn 12 = .ok (.istore_n 1, 1) := by decide +kernel
theorem dX3_dryIn_13 : decode cX3_dryIn 13 = .ok (.iload_n 1, 1) := by decide +kernel
theorem dX3_dryIn_14 : decode cX3_dryIn 14 = .ok (.sipush 300, 3) := by decide +kernel
theorem dX3_dryIn_17 : decode cX3_dryIn 17 = .ok (.if_icmp .gt 29, 3) := by decide +kernel
theorem dX3_dryIn_20 : decode cX3_dryIn 20 = .ok (.aload_n 0, 1) := by decide +kernel
theorem dX3_dryIn_21 : decode cX3_dryIn 21 = .ok (.getfield 16, 3) := by decide +kernel
theorem dX3_dryIn_24 : decode cX3_dryIn 24 = .ok (.invokevirtual 185, 3) := by decide +kernel
theorem dX3_dryIn_27 : decode cX3_dryIn 27 = .ok (.ifCond .ne 5, 3) := by decide +kernel
theorem dX3_dryIn_30 : decode cX3_dryIn 30 = .ok (.iload_n 1, 1) := by decide +kernel
theorem dX3_dryIn_31 : decode cX3_dryIn 31 = .ok (.ireturn, 1) := by decide +kernel
theorem dX3_dryIn_32 : decode cX3_dryIn 32 = .ok (.aload_n 0, 1) := by decide +kernel
theorem dX3_dryIn_33 : decode cX3_dryIn 33 = .ok (.getfield 16, 3) := by decide +kernel
theorem dX3_dryIn_36 : decode cX3_dryIn 36 = .ok (.iconst 0, 1) := by decide +kernel
theorem dX3_dryIn_37 : decode cX3_dryIn 37 = .ok (.invokevirtual 201, 3) := by decide +kernel
theorem dX3_dryIn_40 : decode cX3_dryIn 40 = .ok (.iinc 1 1, 3) := by decide +kernel
theorem dX3_dryIn_43 : decode cX3_dryIn 43 = .ok (.goto (-30), 3) := by decide +kernel
theorem dX3_dryIn_46 : decode cX3_dryIn 46 = .ok (.iconst (-1), 1) := by decide +kernel
theorem dX3_dryIn_47 : decode cX3_dryIn 47 = .ok (.ireturn, 1) := by decide +kernel
set_option maxRecDepth 20000 in
theorem ggX3_drainedShare_X1_rainedLitres : GoodIn wsX3_drainedShare wsX1_rainedLitres := goodIn_r _ [6, 7, 20, 21, 22, 23, 24, 25, 26, 27, 28, 29, 30, 31, 32, 33, 34, 35] rfl (by decide +kernel)
set_option maxRecDepth 20000 in
theorem gX3_drainedShare_X1_rainedLitres : GoodIn wsX3_drainedShare (wsV RX3 182 RX1 yX1_rainedLitres wsX1_rainedLitres) := goodIn_app (goodIn_of _ (by decide +kernel)) ggX3_drainedShare_X1_rainedLitres
set_option maxRecDepth 20000 in
theorem ggX3_drainedShare_X1_drainedLitres : GoodIn wsX3_drainedShare wsX1_drainedLitres := goodIn_r _ [11, 12, 13, 14, 5, 15, 20, 21, 22, 23, 24, 25, 26, 27, 28, 29, 30, 31, 32, 33, 34, 35] rfl (by decide +kernel)
set_option maxRecDepth 20000 in
theorem gX3_drainedShare_X1_drainedLitres : GoodIn wsX3_drainedShare (wsV RX3 188 RX1 yX1_drainedLitres wsX1_drainedLitres) := goodIn_app (goodIn_of _ (by decide +kernel)) ggX3_drainedShare_X1_drainedLitres
theorem dX3_drainedShare_0 : decode cX3_drainedShare 0 = .ok (.aload_n 0, 1) := by decide +kernel
theorem dX3_drainedShare_1 : decode cX3_drainedShare 1 = .ok (.getfield 10, 3) := by decide +kernel
theorem dX3_drainedShare_4 : decode cX3_drainedShare 4 = .ok (.invokevirtual 182, 3) := by decide +kernel
theorem dX3_drainedShare_7 : decode cX3_drainedShare 7 = .ok (.istore_n 1, 1) := by decide +kernel
theorem dX3_drainedShare_8 : decode cX3_drainedShare 8 = .ok (.iload_n 1, 1) := by decide +kernel
theorem dX3_drainedShare_9 : decode cX3_drainedShare 9 = .ok (.ifCond .ne 7, 3) := by decide +kernel
theorem dX3_drainedShare_12 : decode cX3_drainedShare 12 = .ok (.dconst 1, 1) := by decide +kernel
theorem dX3_drainedShare_13 : decode cX3_drainedShare 13 = .ok (.goto 14, 3) := by decide +kernel
theorem dX3_drainedShare_16 : decode cX3_drainedShare 16 = .ok (.aload_n 0, 1) := by decide +kernel
theorem dX3_drainedShare_17 : decode cX3_drainedShare 17 = .ok (.getfield 10, 3) := by decide +kernel
theorem dX3_drainedShare_20 : decode cX3_drainedShare 20 = .ok (.invokevirtual 188, 3) := by decide +kernel
theorem dX3_drainedShare_23 : decode cX3_drainedShare 23 = .ok (.i2d, 1) := by decide +kernel
theorem dX3_drainedShare_24 : decode cX3_drainedShare 24 = .ok (.iload_n 1, 1) := by decide +kernel
theorem dX3_drainedShare_25 : decode cX3_drainedShare 25 = .ok (.i2d, 1) := by decide +kernel
theorem dX3_drainedShare_26 : decode cX3_drainedShare 26 = .ok (.ddiv, 1) := by decide +kernel
theorem dX3_drainedShare_27 : decode cX3_drainedShare 27 = .ok (.dreturn, 1) := by decide +kernel
theorem dX3_isWithin_0 : decode cX3_isWithin 0 = .ok (.iload_n 0, 1) := by decide +kernel
theorem dX3_isWithin_1 : decode cX3_isWithin 1 = .ok (.iload_n 1, 1) := by decide +kernel
theorem dX3_isWithin_2 : decode cX3_isWithin 2 = .ok (.if_icmp .lt 12, 3) := by decide +kernel
theorem dX3_isWithin_5 : decode cX3_isWithin 5 = .ok (.iload_n 0, 1) := by decide +kernel
theorem dX3_isWithin_6 : decode cX3_isWithin 6 = .ok (.iload_n 2, 1) := by decide +kernel
theorem dX3_isWithin_7 : decode cX3_isWithin 7 = .ok (.if_icmp .gt 7, 3) := by decide +kernel
theorem dX3_isWithin_10 : decode cX3_isWithin 10 = .ok (.iconst 1, 1) := by decide +kernel
theorem dX3_isWithin_11 : decode cX3_isWithin 11 = .ok (.goto 4, 3) := by decide +kernel
theorem dX3_isWithin_14 : decode cX3_isWithin 14 = .ok (.iconst 0, 1) := by decide +kernel
theorem dX3_isWithin_15 : decode cX3_isWithin 15 = .ok (.ireturn, 1) := by decide +kernel
theorem dX3_isPlane_0 : decode cX3_isPlane 0 = .ok (.iload_n 0, 1) := by decide +kernel
theorem dX3_isPlane_1 : decode cX3_isPlane 1 = .ok (.ifCond .lt 13, 3) := by decide +kernel
theorem dX3_isPlane_4 : decode cX3_isPlane 4 = .ok (.iload_n 0, 1) := by decide +kernel
theorem dX3_isPlane_5 : decode cX3_isPlane 5 = .ok (.bipush 6, 2) := by decide +kernel
theorem dX3_isPlane_7 : decode cX3_isPlane 7 = .ok (.if_icmp .ge 7, 3) := by decide +kernel
theorem dX3_isPlane_10 : decode cX3_isPlane 10 = .ok (.iconst 1, 1) := by decide +kernel
theorem dX3_isPlane_11 : decode cX3_isPlane 11 = .ok (.goto 4, 3) := by decide +kernel
theorem dX3_isPlane_14 : decode cX3_isPlane 14 = .ok (.iconst 0, 1) := by decide +kernel
theorem dX3_isPlane_15 : decode cX3_isPlane 15 = .ok (.ireturn, 1) := by decide +kernel
theorem dX3_isGutter_0 : decode cX3_isGutter 0 = .ok (.iload_n 0, 1) := by decide +kernel
theorem dX3_isGutter_1 : decode cX3_isGutter 1 = .ok (.ifCond .lt 13, 3) := by decide +kernel
theorem dX3_isGutter_4 : decode cX3_isGutter 4 = .ok (.iload_n 0, 1) := by decide +kernel
theorem dX3_isGutter_5 : decode cX3_isGutter 5 = .ok (.bipush 6, 2) := by decide +kernel
theorem dX3_isGutter_7 : decode cX3_isGutter 7 = .ok (.if_icmp .ge 7, 3) := by decide +kernel
theorem dX3_isGutter_10 : decode cX3_isGutter 10 = .ok (.iconst 1, 1) := by decide +kernel
theorem dX3_isGutter_11 : decode cX3_isGutter 11 = .ok (.goto 4, 3) := by decide +kernel
theorem dX3_isGutter_14 : decode cX3_isGutter 14 = .ok (.iconst 0, 1) := by decide +kernel
theorem dX3_isGutter_15 : decode cX3_isGutter 15 = .ok (.ireturn, 1) := by decide +kernel
theorem dX3_isSetting_0 : decode cX3_isSetting 0 = .ok (.iload_n 0, 1) := by decide +kernel
theorem dX3_isSetting_1 : decode cX3_isSetting 1 = .ok (.ifCond .lt 12, 3) := by decide +kernel
theorem dX3_isSetting_4 : decode cX3_isSetting 4 = .ok (.iload_n 0, 1) := by decide +kernel
theorem dX3_isSetting_5 : decode cX3_isSetting 5 = .ok (.iconst 3, 1) := by decide +kernel
theorem dX3_isSetting_6 : decode cX3_isSetting 6 = .ok (.if_icmp .ge 7, 3) := by decide +kernel
theorem dX3_isSetting_9 : decode cX3_isSetting 9 = .ok (.iconst 1, 1) := by decide +kernel
theorem dX3_isSetting_10 : decode cX3_isSetting 10 = .ok (.goto 4, 3) := by decide +kernel
theorem dX3_isSetting_13 : decode cX3_isSetting 13 = .ok (.iconst 0, 1) := by decide +kernel
theorem dX3_isSetting_14 : decode cX3_isSetting 14 = .ok (.ireturn, 1) := by decide +kernel
theorem dJ9_min_7cf53_0 : decode cJ9_min_7cf53 0 = .ok (.iload_n 0, 1) := by decide +kernel
theorem dJ9_min_7cf53_1 : decode cJ9_min_7cf53 1 = .ok (.iload_n 1, 1) := by decide +kernel
theorem dJ9_min_7cf53_2 : decode cJ9_min_7cf53 2 = .ok (.if_icmp .gt 7, 3) := by decide +kernel
theorem dJ9_min_7cf53_5 : decode cJ9_min_7cf53 5 = .ok (.iload_n 0, 1) := by decide +kernel
theorem dJ9_min_7cf53_6 : decode cJ9_min_7cf53 6 = .ok (.goto 4, 3) := by decide +kernel
theorem dJ9_min_7cf53_9 : decode cJ9_min_7cf53 9 = .ok (.iload_n 1, 1) := by decide +kernel
theorem dJ9_min_7cf53_10 : decode cJ9_min_7cf53 10 = .ok (.ireturn, 1) := by decide +kernel
end
section
/-! rows of my own: banks of ints, contracts whose end is one world and one answer, calls put back in place -/
abbrev rB : Type := Nat → Nat → Int32
def bp (r : rB) (k i : Nat) (x : Int32) : rB := fun a => if a = k then upd (r a) i x else r a
def EV (s : State) : Prop := va_Nw (.methodLinkNest RX1 67 yX3_isGutter RX3) s ∧ True
theorem EV.warm {s U : State} (hW : s.WarmedH U.vm) (h : EV s) : EV U := ⟨va_Nw.warmM hW h.1, trivial⟩
theorem EV.same {s U : State} (hW : s.vm = U.vm) (h : EV s) : EV U := ⟨va_Nw.same rfl hW h.1, trivial⟩
abbrev tY (cI cQ _cJ : ClassId) : List (ClassId × FieldType) := [(cI, .int), (cQ, .object "RoofDrains$Roof")]
def Prx (D : va_G) (ty : List (ClassId × FieldType)) (sz : Nat) (w : va_W) (U : State) : Prop := U.heap.size = sz ∧ EV U ∧ va_P D vwCl w U.heap ∧ va_K D vwCl ty U ∧ va_D (fun _ => True) w
theorem Prx.blind {D : va_G} {ty : List (ClassId × FieldType)} {sz : Nat} {w : va_W} {av : List Value} : FrameBlind (va_Pc av (Prx D ty sz w)) := fun a U g mk q => by
  obtain ⟨q0, q1, q2, q3, q4, q5⟩ := q
  exact ⟨q0, q1, EV.same (s := U) (U := U.calling g mk a) rfl q2, q3, va_K.moved (u := U) (U := U.calling g mk a) (Vm.Alike.refl U.vm) q4, q5⟩
/-- the world behind a method -/
abbrev Wd (D : va_G) (w : va_W) (t : State) : Prop := va_P D vwCl w t.heap
/-- contracts: from the world w to the world w', answer r; nothing new -/
def Mi (l : Launch) (D : va_G) (ty : List (ClassId × FieldType)) (y : MethodName) (ws : List Cond) (rm : Room) (av : List Value) (w w' : va_W) (r : Int32) : Prop := ∀ sz : Nat, Met l y ws rm (va_Pc av (Prx D ty sz w)) (va_Qi (fun (x : Int32) (_ : Unit) => x = r) (fun _ t => Wd D w' t) (va_A w sz)) 0 0 (va_A w sz)
def Ml (l : Launch) (D : va_G) (ty : List (ClassId × FieldType)) (y : MethodName) (ws : List Cond) (rm : Room) (av : List Value) (w w' : va_W) (r : Int64) : Prop := ∀ sz : Nat, Met l y ws rm (va_Pc av (Prx D ty sz w)) (va_Ql (fun (x : Int64) (_ : Unit) => x = r) (fun _ t => Wd D w' t) (va_A w sz)) 0 0 (va_A w sz)
def Md (l : Launch) (D : va_G) (ty : List (ClassId × FieldType)) (y : MethodName) (ws : List Cond) (rm : Room) (av : List Value) (w w' : va_W) (r : UInt64) : Prop := ∀ sz : Nat, Met l y ws rm (va_Pc av (Prx D ty sz w)) (va_Qd (fun (x : UInt64) (_ : Unit) => x = r) (fun _ t => Wd D w' t) (va_A w sz)) 0 0 (va_A w sz)
def Mv (l : Launch) (D : va_G) (ty : List (ClassId × FieldType)) (y : MethodName) (ws : List Cond) (rm : Room) (av : List Value) (w w' : va_W) : Prop := ∀ sz : Nat, Met l y ws rm (va_Pc av (Prx D ty sz w)) (va_Qv (fun (_ : Unit) => True) (fun _ t => Wd D w' t) (va_A w sz)) 0 0 (va_A w sz)
/-- what a body has at its entry -/
def BF (p : Program) (s : State) (m : MethodId) (args : Array Value) (meth : Method) (c : Code) (cc : ByteArray) (maxL : Nat) (ret : Option FieldType) (Ts : List Cond) (own : String) : Prop :=
  p.tables.exec = Jvm.exec ∧ c.code = cc ∧ meth.sig.returnType = ret ∧ c.maxLocals = maxL ∧ (∀ w ∈ Ts, w.before args s = true) ∧ s.vm.findClass own = some m.cls ∧ meth.locks = false
theorem M_of {l : Launch} {D : va_G} {ty : List (ClassId × FieldType)} {y : MethodName} {ws ws' : List Cond} {rm : Room} {av : List Value} {w : va_W} {cc : ByteArray} {maxL : Nat} {ret : Option FieldType} {Qc : (Nat → Prop) → Array Value → State → Outcome → State → Prop} {mc ms : Nat}
    (hy : plainName y.cls = true) (hw : ws = Cond.code y cc maxL ret :: ws') (hn : (lg_sl av).length ≤ maxL)
    (body : ∀ (p : Program) (e : Env) (s : State) (m : MethodId) (below : List Frame) (meth : Method) (c : Code) (A : Nat → Prop) (ls : Array Slot), BF p s m av.toArray meth c cc maxL ret ws y.cls → EV s → va_P D vwCl w s.heap → va_K D vwCl ty s → va_D A w → (∀ q, s.heap.size ≤ q → A q) → lv_has ls maxL (lv_args 0 av) →
      W p l e rm s m av.toArray below meth c s.heap [] 0 0 (MQ below (Qc A) av.toArray s mc ms A) (F0 m 0 ls [])) (sz : Nat) : Met l y ws rm (va_Pc av (Prx D ty sz w)) (Qc (va_A w sz)) mc ms (va_A w sz) := by
  refine Met.ofW (cc := cc) (maxL := maxL) (ret := ret) hy hw ?_
  intro p e s m args below meth c s₁ B hml hv
  obtain ⟨rfl, hsz, hE, hP, hK, hD0⟩ := hv
  subst hsz
  have hl := lv_entry av (n := maxL) hn
  rw [lg_entry_eq]
  exact body p e s m below meth c _ _ ⟨B.exec, B.bytes, B.returns, hml, atoms_spec (ws := ws) B.pre, findClass_of_methodNamed B.named, B.notSynchronized⟩ hE hP hK hD0.self (fun q h => Or.inr h) hl
section KR
variable {p : Program} {l : Launch} {e : Env} {R : Room} {s : State} {m : MethodId} {args : Array Value} {below : List Frame} {meth : Method} {c : Code} {H : Heap} {locs : List Loc} {cells slots : Nat} {Q : State → Prop}
variable {cc : ByteArray} {pc : Nat} {ls : Array Slot} {rest st0 : List Value} {D : va_G} {A : Nat → Prop} {a : Nat} {tys : List (ClassId × FieldType)} {ws : va_W} {H0 : Heap} {cl : List vw_C}
theorem k_iret {w' : va_W} {r v : Int32} (hx : p.tables.exec = Jvm.exec) (hb : c.code = cc) (hr : meth.sig.returnType = some .int) (hlocks : meth.locks = false) (hS : va_S A s.heap H locs) (hP : va_P D vwCl w' H) (hdg : decode cc pc = .ok (.ireturn, 1)) (hv : v = r) :
    W p l e R s m args below meth c H locs cells slots (MQ below (va_Qi (fun (x : Int32) (_ : Unit) => x = r) (fun _ t => Wd D w' t) A) args s cells slots A) (F0 m pc ls [.int v]) :=
  W.iret hx hb hr (fun t ht hW => ⟨⟨v, (), rfl, hv, by show va_P D vwCl w' t.heap; rw [ht]; exact hP⟩, hS.F ht⟩) hS.2.2 hdg hlocks
theorem k_zret {w' : va_W} {r v : Int32} (hx : p.tables.exec = Jvm.exec) (hb : c.code = cc) (hr : meth.sig.returnType = some .boolean) (hlocks : meth.locks = false) (hS : va_S A s.heap H locs) (hP : va_P D vwCl w' H) (hdg : decode cc pc = .ok (.ireturn, 1)) (hn : narrow .boolean (.int v) = .int v) (hv : v = r) :
    W p l e R s m args below meth c H locs cells slots (MQ below (va_Qi (fun (x : Int32) (_ : Unit) => x = r) (fun _ t => Wd D w' t) A) args s cells slots A) (F0 m pc ls [.int v]) :=
  W.zret hx hb hr hn (fun t ht hW => ⟨⟨v, (), rfl, hv, by show va_P D vwCl w' t.heap; rw [ht]; exact hP⟩, hS.F ht⟩) hS.2.2 hdg hlocks
theorem k_vret {w' : va_W} (hx : p.tables.exec = Jvm.exec) (hb : c.code = cc) (hr : meth.sig.returnType = none) (hlocks : meth.locks = false) (hS : va_S A s.heap H locs) (hP : va_P D vwCl w' H) (hdg : decode cc pc = .ok (.return_, 1)) :
    W p l e R s m args below meth c H locs cells slots (MQ below (va_Qv (fun (_ : Unit) => True) (fun _ t => Wd D w' t) A) args s cells slots A) (F0 m pc ls []) :=
  W.vret hx hb hr (fun t ht hW => ⟨⟨(), rfl, trivial, by show va_P D vwCl w' t.heap; rw [ht]; exact hP⟩, hS.F ht⟩) hS.2.2 hdg hlocks
theorem k_iald (hx : p.tables.exec = Jvm.exec) (hb : c.code = cc) (hK : va_K D cl tys s) (hP : va_P D cl ws H) (q0 t0 : Nat) {cA : ClassId} {n : Nat} {f : Nat → Int32} (ha : ws[q0]? = some (a, .inl (cA, n, .inl f))) (ht : tys[t0]? = some (cA, .int)) {i : Int32} {k : Nat} {v : Int32} (hin : vp_in i n) (hk : i.toNatClampNeg = k) (hv : f k = v) (hdg : decode cc pc = .ok (.iaload, 1))
    (kk : W p l e R s m args below meth c H locs cells slots Q (F0 m (pc + 1) ls (.int v :: rest))) : W p l e R s m args below meth c H locs cells slots Q (F0 m pc ls (.int i :: .ref a :: rest)) := by
  subst hk; subst hv
  exact va_iald hx hb hK hP q0 t0 ha ht hin hdg kk
theorem k_iast (hx : p.tables.exec = Jvm.exec) (hb : c.code = cc) (hK : va_K D cl tys s) (hP : va_P D cl ws H) (hD : va_D A ws) (hS : va_S A H0 H locs) (q0 t0 : Nat) {cA : ClassId} {n : Nat} {f : Nat → Int32} (ha : ws[q0]? = some (a, .inl (cA, n, .inl f))) (ht : tys[t0]? = some (cA, .int)) {i : Int32} {x : Int32} {k : Nat} {ws' : va_W} (hin : vp_in i n) (hk : i.toNatClampNeg = k) (hw : ws.set q0 (a, .inl (cA, n, .inl (upd f k x))) = ws') (hdg : decode cc pc = .ok (.iastore, 1))
    (kk : ∀ (H : Heap) (locs : List Loc), va_P D cl ws' H → va_D A ws' → va_S A H0 H locs → W p l e R s m args below meth c H locs cells slots Q (F0 m (pc + 1) ls rest)) : W p l e R s m args below meth c H locs cells slots Q (F0 m pc ls (.int x :: .int i :: .ref a :: rest)) := by
  subst hk; subst hw
  exact va_iast hx hb hK hP hD hS q0 t0 ha ht hin hdg kk
theorem k_put (hexec : p.tables.exec = Jvm.exec) (hb : c.code = cc) {own ref C : String} {T : u_T} {N ci index : Nat} {Ts : List Cond} (hts : ∀ w ∈ Ts, w.before args s = true) (hin : ∀ w ∈ u_ws C T N, w ∈ Ts) (ty0 : Nat → FieldType) (hty : ∀ k, k < N → parseFieldDescriptor (T k).2.2.1 = some (ty0 k)) (hnm : ∀ a, a < N → ∀ b, b < N → a ≠ b → (T a).2.1 ≠ (T b).2.1) (hown : s.vm.findClass own = some m.cls) (hK : va_K D cl tys s) (hP : va_P D cl ws H) (hD : va_D A ws) (hS0 : va_S A H0 H locs) (q0 : Nat) {fs : List Value} (he : ws[q0]? = some (a, .inr (ci, fs))) (hc : cl[ci]? = some (C, T, N)) (k : Nat) (hk : k < N) (hlink : (Cond.fieldLink own index ref (T k).2.1 (T k).2.2.1).before args s = true) (hsame : ∀ x, s.fieldFound? (T k).1 (T k).2.1 (T k).2.2.1 = some x → s.fieldFound? ref (T k).2.1 (T k).2.2.1 = some x) (hfin : (T k).2.2.2 = false) {ty : FieldType} {v : Value} (hd : parseFieldDescriptor (T k).2.2.1 = some ty) (hn : narrow ty v = v) (hfit : fits ty v = true) (hl : k < fs.length) {ws' : va_W} (hw : ws.set q0 (a, .inr (ci, fs.set k v)) = ws')
    (hdg : decode cc pc = .ok (.putfield index, 3)) (kk : ∀ (H : Heap) (locs : List Loc), va_P D cl ws' H → va_D A ws' → va_S A H0 H locs → W p l e R s m args below meth c H locs cells slots Q (F0 m (pc + 3) ls rest)) : W p l e R s m args below meth c H locs cells slots Q (F0 m pc ls (v :: .ref a :: rest)) := by
  subst hw
  exact va_put hexec hb hts hin ty0 hty hnm hown hK hP hD hS0 q0 he hc k hk hlink hsame hfin hd hn hfit hl hdg kk
theorem lv_eqi {x y : Int32} (h : x = y) (k : W p l e R s m args below meth c H locs cells slots Q (F0 m pc ls (.int y :: rest))) : W p l e R s m args below meth c H locs cells slots Q (F0 m pc ls (.int x :: rest)) := by subst h; exact k
theorem k_lret {w' : va_W} {r v : Int64} (hx : p.tables.exec = Jvm.exec) (hb : c.code = cc) (hr : meth.sig.returnType = some .long) (hlocks : meth.locks = false) (hS : va_S A s.heap H locs) (hP : va_P D vwCl w' H) (hdg : decode cc pc = .ok (.lreturn, 1)) (hv : v = r) :
    W p l e R s m args below meth c H locs cells slots (MQ below (va_Ql (fun (x : Int64) (_ : Unit) => x = r) (fun _ t => Wd D w' t) A) args s cells slots A) (F0 m pc ls [.long v]) :=
  W.lret hx hb hr (fun t ht hW => ⟨⟨v, (), rfl, hv, by show va_P D vwCl w' t.heap; rw [ht]; exact hP⟩, hS.F ht⟩) hS.2.2 hdg hlocks
theorem k_dret {w' : va_W} {r v : UInt64} (hx : p.tables.exec = Jvm.exec) (hb : c.code = cc) (hr : meth.sig.returnType = some .double) (hlocks : meth.locks = false) (hS : va_S A s.heap H locs) (hP : va_P D vwCl w' H) (hdg : decode cc pc = .ok (.dreturn, 1)) (hv : v = r) :
    W p l e R s m args below meth c H locs cells slots (MQ below (va_Qd (fun (x : UInt64) (_ : Unit) => x = r) (fun _ t => Wd D w' t) A) args s cells slots A) (F0 m pc ls [.double v]) :=
  W.dret hx hb hr (fun t ht hW => ⟨⟨v, (), rfl, hv, by show va_P D vwCl w' t.heap; rw [ht]; exact hP⟩, hS.F ht⟩) hS.2.2 hdg hlocks
end KR
/-- the cells of w' put into w at the places is -/
def putAt : va_W → List Nat → va_W → va_W
  | w, i :: is, e :: es => putAt (w.set i e) is es
  | w, _, _ => w
theorem putAt_P {D : va_G} {cl : List vw_C} {H : Heap} : ∀ (is : List Nat) (w' w : va_W), is.length = w'.length → (∀ (k : Nat) (q : Nat × va_E), w[k]? = some q → k ∈ is ∨ va_at D cl q H) → va_P D cl w' H → va_P D cl (putAt w is w') H
  | [], w', w, hl, h, hw => by
    cases w' with
    | nil => intro k q hq; rcases h k q hq with h1 | h1; cases h1; exact h1
    | cons a b => simp at hl
  | i :: is, w', w, hl, h, hw => by
    cases w' with
    | nil => simp at hl
    | cons e es =>
      show va_P D cl (putAt (w.set i e) is es) H
      refine putAt_P is es (w.set i e) (by simpa using hl) ?_ (fun k q hk => hw (k + 1) q (by simpa using hk))
      intro k q hq
      by_cases hki : i = k
      · subst hki
        have hlt : i < w.length := by
          have := (List.getElem?_eq_some_iff.mp hq).1
          simpa using this
        rw [List.getElem?_set_self hlt] at hq
        cases hq
        exact Or.inr (hw 0 e rfl)
      · rw [List.getElem?_set_ne hki] at hq
        rcases h k q hq with h1 | h1
        · rcases List.mem_cons.mp h1 with h2 | h2
          · exact absurd h2.symm hki
          · exact Or.inl h2
        · exact Or.inr h1
theorem va_D_fst {A : Nat → Prop} {w w' : va_W} (h : va_D A w) (e : w'.map Prod.fst = w.map Prod.fst) : va_D A w' := by
  have key : ∀ (k : Nat) (q : Nat × va_E), w'[k]? = some q → ∃ q0, w[k]? = some q0 ∧ q0.1 = q.1 := by
    intro k q hq
    have h1 : (w'.map Prod.fst)[k]? = some q.1 := by rw [List.getElem?_map, hq]; rfl
    rw [e, List.getElem?_map] at h1
    cases hk : w[k]? with
    | none => rw [hk] at h1; cases h1
    | some q0 => rw [hk] at h1; exact ⟨q0, rfl, Option.some.inj h1⟩
  refine ⟨fun i j x y hi hj hxy => ?_, fun k q hk => ?_⟩
  · obtain ⟨x0, h1, h2⟩ := key i x hi
    obtain ⟨y0, h3, h4⟩ := key j y hj
    exact h.1 i j x0 y0 h1 h3 (h2.trans (hxy.trans h4.symm))
  · obtain ⟨q0, h1, h2⟩ := key k q hk
    rw [← h2]; exact h.2 k q0 h1
theorem putAt_fst : ∀ (is : List Nat) (w' w : va_W), is.map (fun i => (w.map Prod.fst)[i]?) = (w'.map Prod.fst).map some → (putAt w is w').map Prod.fst = w.map Prod.fst
  | [], w', w, _ => by cases w' <;> rfl
  | i :: is, w', w, h => by
    cases w' with
    | nil => rfl
    | cons e es =>
      simp only [List.map_cons, List.cons.injEq] at h
      have h1 : (w.set i e).map Prod.fst = w.map Prod.fst := by
        apply List.ext_getElem?
        intro k
        by_cases hk : i = k
        · subst hk
          rw [List.getElem?_map, h.1]
          have hlt : i < w.length := by
            have := (List.getElem?_eq_some_iff.mp h.1).1
            simpa using this
          rw [List.getElem?_set_self hlt]; rfl
        · rw [List.getElem?_map, List.getElem?_set_ne hk, List.getElem?_map]
      show (putAt (w.set i e) is es).map Prod.fst = w.map Prod.fst
      rw [putAt_fst is es (w.set i e) (by rw [h1]; exact h.2), h1]
/-- a call's world behind it -/
theorem k_back {A0 : Nat → Prop} {D : va_G} {cl : List vw_C} {ws wc w' wn : va_W} {H H1 : Heap} (hP : va_P D cl ws H) (hD : va_D A0 ws) (isC : List Nat) (hC : isC.map (fun i => ws[i]?) = wc.map some) (ha : w'.map Prod.fst = wc.map Prod.fst) (hn : putAt ws isC w' = wn)
    (hk : ∀ q : Nat, q < H.size → ¬ va_A wc H.size q → H1[q]? = H[q]?) (hP1 : va_P D cl w' H1) : va_P D cl wn H1 ∧ va_D A0 wn := by
  have hlen : isC.length = wc.length := by have := congrArg List.length hC; simpa using this
  have hlen2 : w'.length = wc.length := by have := congrArg List.length ha; simpa using this
  subst hn
  refine ⟨putAt_P isC w' ws (hlen.trans hlen2.symm) (fun k q hq => ?_) hP1, va_D_fst hD (putAt_fst isC w' ws ?_)⟩
  · by_cases hki : k ∈ isC
    · exact Or.inl hki
    · refine Or.inr ((hP k q hq).kept (hk q.1 (hP k q hq).lt (fun h => ?_)))
      rcases h with ⟨k2, e, h⟩ | h
      · have h1 : (isC.map (fun i => ws[i]?))[k2]? = some (some (q.1, e)) := by rw [hC, List.getElem?_map, h]; rfl
        rw [List.getElem?_map] at h1
        cases hi : isC[k2]? with
        | none => rw [hi] at h1; cases h1
        | some i =>
          rw [hi] at h1
          have h4 : ws[i]? = some (q.1, e) := Option.some.inj h1
          have := hD.1 k i q (q.1, e) hq h4 rfl
          subst this
          exact hki (List.mem_of_getElem? hi)
      · exact absurd (hP k q hq).lt (Nat.not_lt.mpr h)
  · have : ∀ (l : List Nat) (g : va_W), l.map (fun i => ws[i]?) = g.map some → l.map (fun i => (ws.map Prod.fst)[i]?) = (g.map Prod.fst).map some := by
      intro l g hlg
      have h2 := congrArg (List.map (Option.map Prod.fst)) hlg
      simp only [List.map_map] at h2 ⊢
      refine Eq.trans (List.map_congr_left fun i _ => ?_) (h2.trans (List.map_congr_left fun i _ => rfl))
      show (ws.map Prod.fst)[i]? = Option.map Prod.fst ws[i]?
      rw [List.getElem?_map]
    rw [this isC wc hC, ha]
section KC
variable {p : Program} {l : Launch} {e : Env} {R : Room} {s : State} {m : MethodId} {args : Array Value} {below : List Frame} {meth : Method} {c : Code} {H : Heap} {locs : List Loc} {cells slots : Nat} {Q : State → Prop}
variable {pc : Nat} {ls : Array Slot} {rest st0 : List Value} {a : Array Value} {A : Nat → Prop} {H0 : Heap} {mc ms : Nat} {D : va_G} {tys : List (ClassId × FieldType)} {w wc w' wn : va_W}
theorem k_preS (hE : EV s) (hK : va_K D vwCl tys s) (hP : va_P D vwCl w H) (hD : va_D A w) (isC : List Nat) (hnd : va_nd isC = true) (hC : isC.map (fun i => w[i]?) = wc.map some) (av : List Value) : PreS s H (va_Pc av (Prx D tys H.size wc)) av := by
  have hC2 : isC.filterMap (fun i => w[i]?) = wc := by
    have : ∀ (is : List Nat) (g : va_W), is.map (fun i => w[i]?) = g.map some → is.filterMap (fun i => w[i]?) = g := by
      intro is
      induction is with
      | nil => intro g hg; cases g with
        | nil => rfl
        | cons x y => simp at hg
      | cons i is ih =>
        intro g hg
        cases g with
        | nil => simp at hg
        | cons x y =>
          simp only [List.map_cons, List.cons.injEq] at hg
          rw [List.filterMap_cons, hg.1, ih y hg.2]
    exact this isC wc hC
  have hPc := hP.sub isC hC2
  have hDc := hD.sub isC hnd hC
  exact ⟨Prx.blind, fun U hU hW => ⟨rfl, by rw [hU], hE.warm hW, by rw [hU]; exact hPc, va_K.moved hW.alike hK, hDc.weaken (fun _ _ _ _ => trivial)⟩⟩
theorem k_preV (hE : EV s) (hK : va_K D vwCl tys s) (hP : va_P D vwCl w H) (hD : va_D A w) (isC : List Nat) (hnd : va_nd isC = true) (hC : isC.map (fun i => w[i]?) = wc.map some) {b ci q0 : Nat} {q : vw_C} {fs : List Value} (hc : vwCl[ci]? = some q) (he : w[q0]? = some (b, .inr (ci, fs))) (As : List Value) : PreV s H q.1 b (va_Pc (.ref b :: As) (Prx D tys H.size wc)) As :=
  ⟨(k_preS hE hK hP hD isC hnd hC (.ref b :: As)).1, va_recv hK hP hc he, (k_preS hE hK hP hD isC hnd hC (.ref b :: As)).2⟩
theorem k_calli {r : Int32} (hr : va_Run p l e R s m args below meth c H locs cells slots 0 0 (F0 m pc ls st0) rest (va_Qi (fun (x : Int32) (_ : Unit) => x = r) (fun _ t => Wd D w' t) (va_A wc H.size) a) (va_A wc H.size)) (hP : va_P D vwCl w H) (hD : va_D A w) (hS : va_S A H0 H locs) (hA : ∀ q, H0.size ≤ q → A q) (isC : List Nat) (hC : isC.map (fun i => w[i]?) = wc.map some) (ha : w'.map Prod.fst = wc.map Prod.fst) (hn : putAt w isC w' = wn)
    (kk : ∀ (H : Heap) (locs : List Loc), va_P D vwCl wn H → va_D A wn → va_S A H0 H locs → W p l e R s m args below meth c H locs cells slots Q (F0 m (pc + 3) ls (.int r :: rest))) : W p l e R s m args below meth c H locs cells slots Q (F0 m pc ls st0) := by
  have hF := va_free (wc := wc) hD hS hA isC hC
  refine va_calli hr hS (fun q _ h => hF q h) hF (fun r_2 u t H1 locs ht hvm hw hB hz1 hk1 hS => ?_)
  subst hw
  have hB : va_P D vwCl w' t.heap := hB
  rw [ht] at hB
  obtain ⟨h1, h2⟩ := k_back hP hD isC hC ha hn hk1 hB
  exact kk H1 locs h1 h2 hS
theorem k_calll {r : Int64} (hr : va_Run p l e R s m args below meth c H locs cells slots 0 0 (F0 m pc ls st0) rest (va_Ql (fun (x : Int64) (_ : Unit) => x = r) (fun _ t => Wd D w' t) (va_A wc H.size) a) (va_A wc H.size)) (hP : va_P D vwCl w H) (hD : va_D A w) (hS : va_S A H0 H locs) (hA : ∀ q, H0.size ≤ q → A q) (isC : List Nat) (hC : isC.map (fun i => w[i]?) = wc.map some) (ha : w'.map Prod.fst = wc.map Prod.fst) (hn : putAt w isC w' = wn)
    (kk : ∀ (H : Heap) (locs : List Loc), va_P D vwCl wn H → va_D A wn → va_S A H0 H locs → W p l e R s m args below meth c H locs cells slots Q (F0 m (pc + 3) ls (.long r :: rest))) : W p l e R s m args below meth c H locs cells slots Q (F0 m pc ls st0) := by
  have hF := va_free (wc := wc) hD hS hA isC hC
  refine va_calll hr hS (fun q _ h => hF q h) hF (fun r_2 u t H1 locs ht hvm hw hB hz1 hk1 hS => ?_)
  subst hw
  have hB : va_P D vwCl w' t.heap := hB
  rw [ht] at hB
  obtain ⟨h1, h2⟩ := k_back hP hD isC hC ha hn hk1 hB
  exact kk H1 locs h1 h2 hS
theorem k_calld {r : UInt64} (hr : va_Run p l e R s m args below meth c H locs cells slots 0 0 (F0 m pc ls st0) rest (va_Qd (fun (x : UInt64) (_ : Unit) => x = r) (fun _ t => Wd D w' t) (va_A wc H.size) a) (va_A wc H.size)) (hP : va_P D vwCl w H) (hD : va_D A w) (hS : va_S A H0 H locs) (hA : ∀ q, H0.size ≤ q → A q) (isC : List Nat) (hC : isC.map (fun i => w[i]?) = wc.map some) (ha : w'.map Prod.fst = wc.map Prod.fst) (hn : putAt w isC w' = wn)
    (kk : ∀ (H : Heap) (locs : List Loc), va_P D vwCl wn H → va_D A wn → va_S A H0 H locs → W p l e R s m args below meth c H locs cells slots Q (F0 m (pc + 3) ls (.double r :: rest))) : W p l e R s m args below meth c H locs cells slots Q (F0 m pc ls st0) := by
  have hF := va_free (wc := wc) hD hS hA isC hC
  refine va_calld hr hS (fun q _ h => hF q h) hF (fun r_2 u t H1 locs ht hvm hw hB hz1 hk1 hS => ?_)
  subst hw
  have hB : va_P D vwCl w' t.heap := hB
  rw [ht] at hB
  obtain ⟨h1, h2⟩ := k_back hP hD isC hC ha hn hk1 hB
  exact kk H1 locs h1 h2 hS
theorem k_callv (hr : va_Run p l e R s m args below meth c H locs cells slots 0 0 (F0 m pc ls st0) rest (va_Qv (fun (_ : Unit) => True) (fun _ t => Wd D w' t) (va_A wc H.size) a) (va_A wc H.size)) (hP : va_P D vwCl w H) (hD : va_D A w) (hS : va_S A H0 H locs) (hA : ∀ q, H0.size ≤ q → A q) (isC : List Nat) (hC : isC.map (fun i => w[i]?) = wc.map some) (ha : w'.map Prod.fst = wc.map Prod.fst) (hn : putAt w isC w' = wn)
    (kk : ∀ (H : Heap) (locs : List Loc), va_P D vwCl wn H → va_D A wn → va_S A H0 H locs → W p l e R s m args below meth c H locs cells slots Q (F0 m (pc + 3) ls rest)) : W p l e R s m args below meth c H locs cells slots Q (F0 m pc ls st0) := by
  have hF := va_free (wc := wc) hD hS hA isC hC
  refine va_callv hr hS (fun q _ h => hF q h) hF (fun u t H1 locs ht hvm hw hB hz1 hk1 hS => ?_)
  have hB : va_P D vwCl w' t.heap := hB
  rw [ht] at hB
  obtain ⟨h1, h2⟩ := k_back hP hD isC hC ha hn hk1 hB
  exact kk H1 locs h1 h2 hS
end KC
/-- the cells of one Roof: its object and its twelve arrays -/
def cR (cI : ClassId) (a : Nat → Nat) (r : rB) : va_W := [(a 0, .inr (1, [.ref (a 1), .ref (a 2), .ref (a 3), .ref (a 4), .ref (a 5), .ref (a 6), .ref (a 7), .ref (a 8), .ref (a 9), .ref (a 10), .ref (a 11), .ref (a 12), .int (r 12 0), .int (r 12 1), .int (r 12 2), .int (r 12 3)])), (a 1, .inl (cI, 6, .inl (r 0))), (a 2, .inl (cI, 6, .inl (r 1))), (a 3, .inl (cI, 6, .inl (r 2))), (a 4, .inl (cI, 6, .inl (r 3))), (a 5, .inl (cI, 6, .inl (r 4))), (a 6, .inl (cI, 6, .inl (r 5))), (a 7, .inl (cI, 6, .inl (r 6))), (a 8, .inl (cI, 6, .inl (r 7))), (a 9, .inl (cI, 6, .inl (r 8))), (a 10, .inl (cI, 6, .inl (r 9))), (a 11, .inl (cI, 6, .inl (r 10))), (a 12, .inl (cI, 3, .inl (r 11)))]
/-- the cells of the text: codes, length -/
def cT (cI : ClassId) (a : Nat → Nat) (r : rB) : va_W := [(a 0, .inr (0, [.ref (a 1), .int (r 1 0)])), (a 1, .inl (cI, 60, .inl (r 0)))]
theorem bp_rw {r : rB} {k k2 i j : Nat} {x : Int32} (h : k2 ≠ k) : bp r k i x k2 j = r k2 j := by simp [bp, h]
theorem bp_eq {r : rB} {k i : Nat} {x : Int32} : bp r k i x k i = x := by simp [bp, upd]
theorem bp_ne {r : rB} {k i j : Nat} {x : Int32} (h : j ≠ i) : bp r k i x k j = r k j := by simp [bp, upd, h]
end
section
/-! what the methods of the class answer and do, as functions of banks -/
def zL (q n : Int32) : Int32 := if q < 0 then 0 else if n ≤ q then 0 else 1
def zW (v lo hi : Int32) : Int32 := if v < lo then 0 else if hi < v then 0 else 1
theorem zL_in {q N : Int32} {n : Nat} (hN : N = nI n) (hn : decide (n < 2 ^ 31) = true) (h : ¬ zL q N = 0) : vp_in q n := by
  have hn := of_decide_eq_true hn
  subst hN
  unfold zL at h
  by_cases h1 : q < 0
  · rw [if_pos h1] at h; exact absurd rfl h
  · rw [if_neg h1] at h
    by_cases h2 : nI n ≤ q
    · rw [if_pos h2] at h; exact absurd rfl h
    · rcases pk_ix q hn with h3 | h3 | ⟨j, hj, rfl⟩
      · exact absurd h3 h1
      · exact absurd h3 h2
      · exact vp_in_nI hj hn
def mn (x y : Int32) : Int32 := if y < x then y else x
def smI (f : Nat → Int32) : Nat → Nat → Int32 → Int32
  | 0, _, a => a
  | n + 1, i, a => smI f n (i + 1) (a + f i)
def standC (r : rB) : Int32 := smI (r 3) 6 0 0 + smI (r 8) 6 0 0
def roomT (r : rB) (i : Nat) : Int32 := r 4 i * (100 - r 6 i) / 100
def pipeT (r : rB) (i : Nat) : Int32 :=
  let v := r 5 i * (100 - r 6 i) / 100
  if v = 0 then (if r 5 i = 0 then v else 1) else v
def hasL (r : rB) (i : Nat) : Int32 := if r 6 i ≤ 0 then 0 else 1
def wet (r : rB) (i : Nat) (x : Int32) : rB :=
  let l := r 0 i * x / 10
  let w := r 3 i + l
  let f := w * (5 + r 1 i) / 14
  let g := if f = 0 then (if w ≤ 0 then f else 1) else f
  let r3 := bp (bp (bp r 12 2 (r 12 2 + l)) 3 i w) 3 i (w - g)
  if zL (r 2 i) 6 = 0 then r3 else bp r3 8 (r 2 i).toNatClampNeg (r 8 (r 2 i).toNatClampNeg + g)
def drW (r : rB) (i : Nat) : Int32 := mn (pipeT r i) (r 8 i)
def drS (r : rB) (i : Nat) (left : Int32) : Int32 := mn (drW r i) left
def drStep (r : rB) (left : Int32) (i : Nat) : rB := bp (bp r 8 i (r 8 i - drS r i left)) 10 i (r 10 i + drS r i left)
def drL : Nat → Nat → rB → Int32 → Int32 → rB × Int32
  | 0, _, r, _, b => (r, b)
  | n + 1, i, r, left, b => drL n (i + 1) (drStep r left i) (left - drS r i left) (if b = 0 then (if drW r i ≤ drS r i left then 0 else 1) else 1)
def emptyD (r : rB) : rB := if (drL 6 0 r (r 11 0) 0).2 = 0 then (drL 6 0 r (r 11 0) 0).1 else bp (drL 6 0 r (r 11 0) 0).1 12 3 ((drL 6 0 r (r 11 0) 0).1 12 3 + 1)
def ovf (r : rB) (i : Nat) : rB :=
  let t := r 8 i - roomT r i
  if 0 < t then (if zL (r 7 i) 6 = 0 then bp (bp r 8 i (r 8 i - t)) 9 i (r 9 i + t) else bp (bp r 8 i (r 8 i - t)) 8 (r 7 i).toNatClampNeg (bp r 8 i (r 8 i - t) 8 (r 7 i).toNatClampNeg + t)) else r
def wetAll : Nat → Nat → rB → Int32 → rB
  | 0, _, r, _ => r
  | n + 1, i, r, x => wetAll n (i + 1) (wet r i x) x
def ovfAll : Nat → Nat → rB → rB
  | 0, _, r => r
  | n + 1, i, r => ovfAll n (i + 1) (ovf r i)
def minuteC (r : rB) (x : Int32) : rB := bp (ovfAll 6 0 (emptyD (wetAll 6 0 r x))) 12 0 ((ovfAll 6 0 (emptyD (wetAll 6 0 r x))) 12 0 + 1)
def minutesC : Nat → rB → Int32 → rB
  | 0, r, _ => r
  | n + 1, r, x => minutesC n (minuteC r x) x
def weekL : Nat → Nat → rB → rB
  | 0, _, r => r
  | n + 1, i, r => weekL n (i + 1) (bp r 6 i (mn 100 (r 6 i + r 11 1)))
def weekC (r : rB) : rB := bp (weekL 6 0 r) 12 1 ((weekL 6 0 r) 12 1 + 1)
def vlead (r : rB) (t : Int32) : Nat → Int32 → Int32
  | 0, _ => 0
  | n + 1, at' => if zL at' 6 = 0 then 0 else if at' = t then 1 else vlead r t n (r 7 at'.toNatClampNeg)
def pnC (r : rB) (i w : Nat) : Int32 := match w with
  | 0 => r 0 i
  | 1 => r 1 i
  | 2 => r 2 i
  | _ => r 3 i
def gnC (r : rB) (i w : Nat) : Int32 := match w with
  | 0 => r 4 i
  | 1 => r 5 i
  | 2 => r 6 i
  | 3 => r 7 i
  | 4 => r 8 i
  | 5 => roomT r i
  | 6 => pipeT r i
  | 7 => r 9 i
  | _ => r 10 i
def lowL (r q : rB) : Nat → Nat → Int32
  | 0, _ => -1
  | n + 1, i => if r 9 i ≤ q 9 i then lowL r q n (i + 1) else nI i
theorem cl_lt (x : Int32) : x.toNatClampNeg < 2 ^ 31 := by
  have := x.toInt_lt
  show x.toInt.toNat < 2 ^ 31
  omega
theorem cl_le {x : Int32} {i : Nat} (h : i = x.toNatClampNeg) : x ≤ nI i := by
  have h2 := cl_lt x
  rw [Int32.le_iff_toInt_le, nI_toInt (by omega), h]
  show x.toInt ≤ ((x.toInt.toNat : Nat) : Int)
  omega
theorem cl_nle {x : Int32} {i : Nat} (h : i < x.toNatClampNeg) : ¬ x ≤ nI i := by
  have h2 := cl_lt x
  rw [Int32.le_iff_toInt_le, nI_toInt (by omega)]
  have h3 : x.toNatClampNeg = x.toInt.toNat := rfl
  omega

def cnC (r : rB) (vh : Int32) (w : Nat) : Int32 := match w with
  | 0 => r 12 0
  | 1 => r 12 1
  | 2 => r 12 2
  | 3 => standC r
  | 4 => smI (r 10) 6 0 0
  | 5 => smI (r 9) 6 0 0
  | 6 => r 12 3
  | 7 => smI (r 6) 6 0 0
  | _ => vh
def shC (r : rB) : UInt64 := if r 12 2 = 0 then FP.dconst1 else FP.ddiv (FP.i2d (smI (r 10) 6 0 0)) (FP.i2d (r 12 2))
def wksC : Nat → rB → rB
  | 0, r => r
  | n + 1, r => wksC n (weekC r)
end
section
set_option maxHeartbeats 4000000 in
set_option maxRecDepth 100000 in
theorem mX3_isGutter (l : Launch) (D : va_G) (cI cQ cJ : ClassId) (q : Int32) : Mi l D (tY cI cQ cJ) yX3_isGutter wsX3_isGutter ({ frames := 0, cells := 0, slots := 0, locals := 0 } : Room) [.int q] (([] : va_W)) (([] : va_W)) (zL q 6) := by
  refine M_of (cc := cX3_isGutter) (maxL := 1) (ret := some .boolean) (Qc := fun A => va_Qi (fun (x : Int32) (_ : Unit) => x = zL q 6) (fun _ t => Wd D (([] : va_W)) t) A) (by decide) rfl (Nat.le_of_ble_eq_true rfl) ?_
  intro p e s m below meth c A ls hB hE hP hK hD hA hl
  obtain ⟨hx, hb, hr, hml, hts, hown, hlocks⟩ := hB
  have hS : va_S A s.heap s.heap [] := va_S.rf
  have hl : lv_has ls 1 [(0, .int q)] := hl
  refine lv_iload_n hx hb dX3_isGutter_0 rfl (lv_at hl 0 rfl) ?_
  refine lv_if_lt (tgt := 14) hx hb dX3_isGutter_1 (by decide) (fun c_1 => ?_) (fun c_1 => ?_)
  · skip
    refine lv_iconst (v := 0) hx hb dX3_isGutter_14 (by decide) ?_
    exact k_zret hx hb hr hlocks hS hP dX3_isGutter_15 (by first | rfl | decide | exact rfl) (by (first | rfl | (simp only [zL, c_1, ↓reduceIte]; done) | (simp [zL, c_1]; done)))
  · skip
    refine lv_iload_n hx hb dX3_isGutter_4 rfl (lv_at hl 0 rfl) ?_
    refine lv_bipush (v := 6) hx hb dX3_isGutter_5 (by decide) ?_
    refine lv_icmp_ge (tgt := 14) hx hb dX3_isGutter_7 (by decide) (fun c_2 => ?_) (fun c_2 => ?_)
    · skip
      refine lv_iconst (v := 0) hx hb dX3_isGutter_14 (by decide) ?_
      exact k_zret hx hb hr hlocks hS hP dX3_isGutter_15 (by first | rfl | decide | exact rfl) (by (first | rfl | (simp only [zL, c_1, c_2, ↓reduceIte]; done) | (simp [zL, c_1, c_2]; done)))
    · skip
      refine lv_iconst (v := 1) hx hb dX3_isGutter_10 (by decide) ?_
      refine lv_goto (tgt := 15) hx hb dX3_isGutter_11 (by decide) ?_
      exact k_zret hx hb hr hlocks hS hP dX3_isGutter_15 (by first | rfl | decide | exact rfl) (by (first | rfl | (simp only [zL, c_1, c_2, ↓reduceIte]; done) | (simp [zL, c_1, c_2]; done)))
set_option maxHeartbeats 4000000 in
set_option maxRecDepth 100000 in
theorem mX3_isPlane (l : Launch) (D : va_G) (cI cQ cJ : ClassId) (q : Int32) : Mi l D (tY cI cQ cJ) yX3_isPlane wsX3_isPlane ({ frames := 0, cells := 0, slots := 0, locals := 0 } : Room) [.int q] (([] : va_W)) (([] : va_W)) (zL q 6) := by
  refine M_of (cc := cX3_isPlane) (maxL := 1) (ret := some .boolean) (Qc := fun A => va_Qi (fun (x : Int32) (_ : Unit) => x = zL q 6) (fun _ t => Wd D (([] : va_W)) t) A) (by decide) rfl (Nat.le_of_ble_eq_true rfl) ?_
  intro p e s m below meth c A ls hB hE hP hK hD hA hl
  obtain ⟨hx, hb, hr, hml, hts, hown, hlocks⟩ := hB
  have hS : va_S A s.heap s.heap [] := va_S.rf
  have hl : lv_has ls 1 [(0, .int q)] := hl
  refine lv_iload_n hx hb dX3_isPlane_0 rfl (lv_at hl 0 rfl) ?_
  refine lv_if_lt (tgt := 14) hx hb dX3_isPlane_1 (by decide) (fun c_1 => ?_) (fun c_1 => ?_)
  · skip
    refine lv_iconst (v := 0) hx hb dX3_isPlane_14 (by decide) ?_
    exact k_zret hx hb hr hlocks hS hP dX3_isPlane_15 (by first | rfl | decide | exact rfl) (by (first | rfl | (simp only [zL, c_1, ↓reduceIte]; done) | (simp [zL, c_1]; done)))
  · skip
    refine lv_iload_n hx hb dX3_isPlane_4 rfl (lv_at hl 0 rfl) ?_
    refine lv_bipush (v := 6) hx hb dX3_isPlane_5 (by decide) ?_
    refine lv_icmp_ge (tgt := 14) hx hb dX3_isPlane_7 (by decide) (fun c_2 => ?_) (fun c_2 => ?_)
    · skip
      refine lv_iconst (v := 0) hx hb dX3_isPlane_14 (by decide) ?_
      exact k_zret hx hb hr hlocks hS hP dX3_isPlane_15 (by first | rfl | decide | exact rfl) (by (first | rfl | (simp only [zL, c_1, c_2, ↓reduceIte]; done) | (simp [zL, c_1, c_2]; done)))
    · skip
      refine lv_iconst (v := 1) hx hb dX3_isPlane_10 (by decide) ?_
      refine lv_goto (tgt := 15) hx hb dX3_isPlane_11 (by decide) ?_
      exact k_zret hx hb hr hlocks hS hP dX3_isPlane_15 (by first | rfl | decide | exact rfl) (by (first | rfl | (simp only [zL, c_1, c_2, ↓reduceIte]; done) | (simp [zL, c_1, c_2]; done)))
set_option maxHeartbeats 4000000 in
set_option maxRecDepth 100000 in
theorem mX3_isSetting (l : Launch) (D : va_G) (cI cQ cJ : ClassId) (q : Int32) : Mi l D (tY cI cQ cJ) yX3_isSetting wsX3_isSetting ({ frames := 0, cells := 0, slots := 0, locals := 0 } : Room) [.int q] (([] : va_W)) (([] : va_W)) (zL q 3) := by
  refine M_of (cc := cX3_isSetting) (maxL := 1) (ret := some .boolean) (Qc := fun A => va_Qi (fun (x : Int32) (_ : Unit) => x = zL q 3) (fun _ t => Wd D (([] : va_W)) t) A) (by decide) rfl (Nat.le_of_ble_eq_true rfl) ?_
  intro p e s m below meth c A ls hB hE hP hK hD hA hl
  obtain ⟨hx, hb, hr, hml, hts, hown, hlocks⟩ := hB
  have hS : va_S A s.heap s.heap [] := va_S.rf
  have hl : lv_has ls 1 [(0, .int q)] := hl
  refine lv_iload_n hx hb dX3_isSetting_0 rfl (lv_at hl 0 rfl) ?_
  refine lv_if_lt (tgt := 13) hx hb dX3_isSetting_1 (by decide) (fun c_1 => ?_) (fun c_1 => ?_)
  · skip
    refine lv_iconst (v := 0) hx hb dX3_isSetting_13 (by decide) ?_
    exact k_zret hx hb hr hlocks hS hP dX3_isSetting_14 (by first | rfl | decide | exact rfl) (by (first | rfl | (simp only [zL, c_1, ↓reduceIte]; done) | (simp [zL, c_1]; done)))
  · skip
    refine lv_iload_n hx hb dX3_isSetting_4 rfl (lv_at hl 0 rfl) ?_
    refine lv_iconst (v := 3) hx hb dX3_isSetting_5 (by decide) ?_
    refine lv_icmp_ge (tgt := 13) hx hb dX3_isSetting_6 (by decide) (fun c_2 => ?_) (fun c_2 => ?_)
    · skip
      refine lv_iconst (v := 0) hx hb dX3_isSetting_13 (by decide) ?_
      exact k_zret hx hb hr hlocks hS hP dX3_isSetting_14 (by first | rfl | decide | exact rfl) (by (first | rfl | (simp only [zL, c_1, c_2, ↓reduceIte]; done) | (simp [zL, c_1, c_2]; done)))
    · skip
      refine lv_iconst (v := 1) hx hb dX3_isSetting_9 (by decide) ?_
      refine lv_goto (tgt := 14) hx hb dX3_isSetting_10 (by decide) ?_
      exact k_zret hx hb hr hlocks hS hP dX3_isSetting_14 (by first | rfl | decide | exact rfl) (by (first | rfl | (simp only [zL, c_1, c_2, ↓reduceIte]; done) | (simp [zL, c_1, c_2]; done)))
set_option maxHeartbeats 4000000 in
set_option maxRecDepth 100000 in
theorem mX3_isWithin (l : Launch) (D : va_G) (cI cQ cJ : ClassId) (v lo hi : Int32) : Mi l D (tY cI cQ cJ) yX3_isWithin wsX3_isWithin ({ frames := 0, cells := 0, slots := 0, locals := 0 } : Room) [.int v, .int lo, .int hi] (([] : va_W)) (([] : va_W)) (zW v lo hi) := by
  refine M_of (cc := cX3_isWithin) (maxL := 3) (ret := some .boolean) (Qc := fun A => va_Qi (fun (x : Int32) (_ : Unit) => x = zW v lo hi) (fun _ t => Wd D (([] : va_W)) t) A) (by decide) rfl (Nat.le_of_ble_eq_true rfl) ?_
  intro p e s m below meth c A ls hB hE hP hK hD hA hl
  obtain ⟨hx, hb, hr, hml, hts, hown, hlocks⟩ := hB
  have hS : va_S A s.heap s.heap [] := va_S.rf
  have hl : lv_has ls 3 [(0, .int v), (1, .int lo), (2, .int hi)] := hl
  refine lv_iload_n hx hb dX3_isWithin_0 rfl (lv_at hl 0 rfl) ?_
  refine lv_iload_n hx hb dX3_isWithin_1 rfl (lv_at hl 1 rfl) ?_
  refine lv_icmp_lt (tgt := 14) hx hb dX3_isWithin_2 (by decide) (fun c_1 => ?_) (fun c_1 => ?_)
  · skip
    refine lv_iconst (v := 0) hx hb dX3_isWithin_14 (by decide) ?_
    exact k_zret hx hb hr hlocks hS hP dX3_isWithin_15 (by first | rfl | decide | exact rfl) (by (first | rfl | (simp only [zW, c_1, ↓reduceIte]; done) | (simp [zW, c_1]; done)))
  · skip
    refine lv_iload_n hx hb dX3_isWithin_5 rfl (lv_at hl 0 rfl) ?_
    refine lv_iload_n hx hb dX3_isWithin_6 rfl (lv_at hl 2 rfl) ?_
    refine lv_icmp_gt (tgt := 14) hx hb dX3_isWithin_7 (by decide) (fun c_2 => ?_) (fun c_2 => ?_)
    · skip
      refine lv_iconst (v := 0) hx hb dX3_isWithin_14 (by decide) ?_
      exact k_zret hx hb hr hlocks hS hP dX3_isWithin_15 (by first | rfl | decide | exact rfl) (by (first | rfl | (simp only [zW, c_1, c_2, ↓reduceIte]; done) | (simp [zW, c_1, c_2]; done)))
    · skip
      refine lv_iconst (v := 1) hx hb dX3_isWithin_10 (by decide) ?_
      refine lv_goto (tgt := 15) hx hb dX3_isWithin_11 (by decide) ?_
      exact k_zret hx hb hr hlocks hS hP dX3_isWithin_15 (by first | rfl | decide | exact rfl) (by (first | rfl | (simp only [zW, c_1, c_2, ↓reduceIte]; done) | (simp [zW, c_1, c_2]; done)))
end
section
/-- a whole row put -/
def sr (r : rB) (k : Nat) (f : Nat → Int32) : rB := fun a => if a = k then f else r a
theorem sr_eq {r : rB} {k : Nat} {f : Nat → Int32} : sr r k f k = f := by simp [sr]
theorem sr_ne {r : rB} {k a : Nat} {f : Nat → Int32} (h : a ≠ k) : sr r k f a = r a := by simp [sr, h]

theorem arrV_cong {cA : ClassId} {n : Nat} {f g : Nat → Value} (h : ∀ j, j < n → f j = g j) : arrV cA n f = arrV cA n g := by
  unfold arrV
  congr 1
  apply Array.ext
  · simp
  · intro i h1 h2
    simp only [Array.getElem_ofFn]
    exact h i (by simpa using h1)
theorem P_arr {D : va_G} {cl : List vw_C} {ws ws' : va_W} {H : Heap} {A : Nat → Prop} (hP : va_P D cl ws H) (hD : va_D A ws) (q0 : Nat) {a : Nat} {cA : ClassId} {n : Nat} {f : Nat → Int32} (g : Nat → Int32) (ha : ws[q0]? = some (a, .inl (cA, n, .inl f))) (h : ∀ j, j < n → f j = g j) (hw : ws.set q0 (a, .inl (cA, n, .inl g)) = ws') : va_P D cl ws' H ∧ va_D A ws' := by
  subst hw
  have h1 : H[a]? = some (vp_cell cA (n, .inl f)) := hP q0 _ ha
  refine ⟨fun k q hk => ?_, hD.set ha⟩
  by_cases hkq : k = q0
  · subst hkq
    rw [List.getElem?_set_self (List.getElem?_eq_some_iff.mp ha).1] at hk
    cases hk
    show H[a]? = some (vp_cell cA (n, .inl g))
    rw [h1, vp_cell_i, vp_cell_i, arrV_cong (fun j hj => congrArg Value.int (h j hj))]
  · rw [List.getElem?_set_ne (Ne.symm hkq)] at hk
    exact hP k q hk
theorem g_nI {x : Int32} {n : Nat} (h : x + 1 = nI (n + 1)) : x = nI n := by
  have := nI_succ n
  rw [this] at h
  have h3 := congrArg (fun z => z - 1) h
  simpa using h3
theorem g_m1 {x : Int32} (h : x + 1 = nI 0) : x = -1 := by
  have h2 : x + 1 = -1 + 1 := h.trans (by decide)
  have h3 := congrArg (fun z => z - 1) h2
  simpa using h3
theorem zW_ex {q N : Int32} {n : Nat} (hN : N + 1 = nI n) (hn : decide (n < 2 ^ 31) = true) (h : ¬ zW q 0 N = 0) : ∃ i, i < n ∧ q = nI i := by
  have hn := of_decide_eq_true hn
  unfold zW at h
  by_cases h1 : q < 0
  · rw [if_pos h1] at h; exact absurd rfl h
  · rw [if_neg h1] at h
    by_cases h2 : N < q
    · rw [if_pos h2] at h; exact absurd rfl h
    · rcases pk_ix q hn with h3 | h3 | ⟨j, hj, rfl⟩
      · exact absurd h3 h1
      · rcases Nat.eq_zero_or_pos n with hz | hz
        · subst hz
          have e : N = -1 := g_m1 hN
          subst e
          exact absurd (by
            rw [Int32.lt_iff_toInt_lt]
            rw [Int32.le_iff_toInt_le] at h3
            have : (nI 0).toInt = 0 := by decide
            have h5 : (-1 : Int32).toInt = -1 := by decide
            omega) h2
        · obtain ⟨k, rfl⟩ : ∃ k, n = k + 1 := ⟨n - 1, by omega⟩
          have e : N = nI k := g_nI hN
          subst e
          exact absurd (by
            rw [Int32.lt_iff_toInt_lt, nI_toInt (by omega)]
            rw [Int32.le_iff_toInt_le, nI_toInt (by omega)] at h3
            omega) h2
      · exact ⟨j, hj, rfl⟩
end
section
set_option maxHeartbeats 4000000 in
set_option maxRecDepth 100000 in
theorem mX1_minutesGone (l : Launch) (D : va_G) (cI cQ cJ : ClassId) (a : Nat → Nat) (r : rB)  : Mi l D (tY cI cQ cJ) yX1_minutesGone wsX1_minutesGone ({ frames := 0, cells := 0, slots := 0, locals := 0 } : Room) [.ref (a 0)] (cR cI a r) (cR cI a r) (r 12 0) := by
  refine M_of (cc := cX1_minutesGone) (maxL := 1) (ret := some .int) (Qc := fun A => va_Qi (fun (x : Int32) (_ : Unit) => x = r 12 0) (fun _ t => Wd D (cR cI a r) t) A) (by decide) rfl (Nat.le_of_ble_eq_true rfl) ?_
  intro p e s m below meth c A ls hB hE hP hK hD hA hl
  obtain ⟨hx, hb, hr, hml, hts, hown, hlocks⟩ := hB
  have hS : va_S A s.heap s.heap [] := va_S.rf
  have hl : lv_has ls 1 [(0, .ref (a 0))] := hl
  have hinX1 : ∀ w ∈ u_ws RX1 TX1 16, w ∈ wsX1_minutesGone := by decide +kernel
  have fl54 := hts (.fieldLink RX1 54 "RoofDrains$Roof" "minutesGone" "I") (by decide +kernel)
  refine lv_aload_n hx hb dX1_minutesGone_0 rfl (lv_at hl 0 rfl) ?_
  refine va_get (D := D) (ci := 1) (v := .int (r 12 0)) (C := RX1) (T := TX1) (N := 16) hx hb hts hinX1 hown hK hP 0 rfl rfl 12 (by decide) fl54 (fun _ h9 => h9) (congrArg (fun z => some (Value.int z)) (rfl)) dX1_minutesGone_1 ?_
  exact k_iret hx hb hr hlocks hS hP dX1_minutesGone_4 (by (first | rfl | (simp only [↓reduceIte]; done) | (simp []; done)))
set_option maxHeartbeats 4000000 in
set_option maxRecDepth 100000 in
theorem mX1_weeksPassed (l : Launch) (D : va_G) (cI cQ cJ : ClassId) (a : Nat → Nat) (r : rB)  : Mi l D (tY cI cQ cJ) yX1_weeksPassed wsX1_weeksPassed ({ frames := 0, cells := 0, slots := 0, locals := 0 } : Room) [.ref (a 0)] (cR cI a r) (cR cI a r) (r 12 1) := by
  refine M_of (cc := cX1_weeksPassed) (maxL := 1) (ret := some .int) (Qc := fun A => va_Qi (fun (x : Int32) (_ : Unit) => x = r 12 1) (fun _ t => Wd D (cR cI a r) t) A) (by decide) rfl (Nat.le_of_ble_eq_true rfl) ?_
  intro p e s m below meth c A ls hB hE hP hK hD hA hl
  obtain ⟨hx, hb, hr, hml, hts, hown, hlocks⟩ := hB
  have hS : va_S A s.heap s.heap [] := va_S.rf
  have hl : lv_has ls 1 [(0, .ref (a 0))] := hl
  have hinX1 : ∀ w ∈ u_ws RX1 TX1 16, w ∈ wsX1_weeksPassed := by decide +kernel
  have fl58 := hts (.fieldLink RX1 58 "RoofDrains$Roof" "weeksPassed" "I") (by decide +kernel)
  refine lv_aload_n hx hb dX1_weeksPassed_0 rfl (lv_at hl 0 rfl) ?_
  refine va_get (D := D) (ci := 1) (v := .int (r 12 1)) (C := RX1) (T := TX1) (N := 16) hx hb hts hinX1 hown hK hP 0 rfl rfl 13 (by decide) fl58 (fun _ h9 => h9) (congrArg (fun z => some (Value.int z)) (rfl)) dX1_weeksPassed_1 ?_
  exact k_iret hx hb hr hlocks hS hP dX1_weeksPassed_4 (by (first | rfl | (simp only [↓reduceIte]; done) | (simp []; done)))
set_option maxHeartbeats 4000000 in
set_option maxRecDepth 100000 in
theorem mX1_rainedLitres (l : Launch) (D : va_G) (cI cQ cJ : ClassId) (a : Nat → Nat) (r : rB)  : Mi l D (tY cI cQ cJ) yX1_rainedLitres wsX1_rainedLitres ({ frames := 0, cells := 0, slots := 0, locals := 0 } : Room) [.ref (a 0)] (cR cI a r) (cR cI a r) (r 12 2) := by
  refine M_of (cc := cX1_rainedLitres) (maxL := 1) (ret := some .int) (Qc := fun A => va_Qi (fun (x : Int32) (_ : Unit) => x = r 12 2) (fun _ t => Wd D (cR cI a r) t) A) (by decide) rfl (Nat.le_of_ble_eq_true rfl) ?_
  intro p e s m below meth c A ls hB hE hP hK hD hA hl
  obtain ⟨hx, hb, hr, hml, hts, hown, hlocks⟩ := hB
  have hS : va_S A s.heap s.heap [] := va_S.rf
  have hl : lv_has ls 1 [(0, .ref (a 0))] := hl
  have hinX1 : ∀ w ∈ u_ws RX1 TX1 16, w ∈ wsX1_rainedLitres := by decide +kernel
  have fl61 := hts (.fieldLink RX1 61 "RoofDrains$Roof" "rained" "I") (by decide +kernel)
  refine lv_aload_n hx hb dX1_rainedLitres_0 rfl (lv_at hl 0 rfl) ?_
  refine va_get (D := D) (ci := 1) (v := .int (r 12 2)) (C := RX1) (T := TX1) (N := 16) hx hb hts hinX1 hown hK hP 0 rfl rfl 14 (by decide) fl61 (fun _ h9 => h9) (congrArg (fun z => some (Value.int z)) (rfl)) dX1_rainedLitres_1 ?_
  exact k_iret hx hb hr hlocks hS hP dX1_rainedLitres_4 (by (first | rfl | (simp only [↓reduceIte]; done) | (simp []; done)))
set_option maxHeartbeats 4000000 in
set_option maxRecDepth 100000 in
theorem mX1_backedUpMinutes (l : Launch) (D : va_G) (cI cQ cJ : ClassId) (a : Nat → Nat) (r : rB)  : Mi l D (tY cI cQ cJ) yX1_backedUpMinutes wsX1_backedUpMinutes ({ frames := 0, cells := 0, slots := 0, locals := 0 } : Room) [.ref (a 0)] (cR cI a r) (cR cI a r) (r 12 3) := by
  refine M_of (cc := cX1_backedUpMinutes) (maxL := 1) (ret := some .int) (Qc := fun A => va_Qi (fun (x : Int32) (_ : Unit) => x = r 12 3) (fun _ t => Wd D (cR cI a r) t) A) (by decide) rfl (Nat.le_of_ble_eq_true rfl) ?_
  intro p e s m below meth c A ls hB hE hP hK hD hA hl
  obtain ⟨hx, hb, hr, hml, hts, hown, hlocks⟩ := hB
  have hS : va_S A s.heap s.heap [] := va_S.rf
  have hl : lv_has ls 1 [(0, .ref (a 0))] := hl
  have hinX1 : ∀ w ∈ u_ws RX1 TX1 16, w ∈ wsX1_backedUpMinutes := by decide +kernel
  have fl64 := hts (.fieldLink RX1 64 "RoofDrains$Roof" "backedUp" "I") (by decide +kernel)
  refine lv_aload_n hx hb dX1_backedUpMinutes_0 rfl (lv_at hl 0 rfl) ?_
  refine va_get (D := D) (ci := 1) (v := .int (r 12 3)) (C := RX1) (T := TX1) (N := 16) hx hb hts hinX1 hown hK hP 0 rfl rfl 15 (by decide) fl64 (fun _ h9 => h9) (congrArg (fun z => some (Value.int z)) (rfl)) dX1_backedUpMinutes_1 ?_
  exact k_iret hx hb hr hlocks hS hP dX1_backedUpMinutes_4 (by (first | rfl | (simp only [↓reduceIte]; done) | (simp []; done)))
set_option maxHeartbeats 4000000 in
set_option maxRecDepth 100000 in
theorem mX1_settingValue (l : Launch) (D : va_G) (cI cQ cJ : ClassId) (a : Nat → Nat) (r : rB) (q : Int32) (i : Nat) (hq : vp_in q 3) (hi : q.toNatClampNeg = i) : Mi l D (tY cI cQ cJ) yX1_settingValue wsX1_settingValue ({ frames := 0, cells := 0, slots := 0, locals := 0 } : Room) [.ref (a 0), .int q] (cR cI a r) (cR cI a r) (r 11 i) := by
  refine M_of (cc := cX1_settingValue) (maxL := 2) (ret := some .int) (Qc := fun A => va_Qi (fun (x : Int32) (_ : Unit) => x = r 11 i) (fun _ t => Wd D (cR cI a r) t) A) (by decide) rfl (Nat.le_of_ble_eq_true rfl) ?_
  intro p e s m below meth c A ls hB hE hP hK hD hA hl
  obtain ⟨hx, hb, hr, hml, hts, hown, hlocks⟩ := hB
  have hS : va_S A s.heap s.heap [] := va_S.rf
  have hl : lv_has ls 2 [(0, .ref (a 0)), (1, .int q)] := hl
  have hinX1 : ∀ w ∈ u_ws RX1 TX1 16, w ∈ wsX1_settingValue := by decide +kernel
  have fl45 := hts (.fieldLink RX1 45 "RoofDrains$Roof" "values" "[I") (by decide +kernel)
  refine lv_aload_n hx hb dX1_settingValue_0 rfl (lv_at hl 0 rfl) ?_
  refine va_get (D := D) (ci := 1) (v := .ref (a 12)) (C := RX1) (T := TX1) (N := 16) hx hb hts hinX1 hown hK hP 0 rfl rfl 11 (by decide) fl45 (fun _ h9 => h9) rfl dX1_settingValue_1 ?_
  refine lv_iload_n hx hb dX1_settingValue_4 rfl (lv_at hl 1 rfl) ?_
  refine k_iald (k := i) (v := r 11 i) hx hb hK hP 12 0 rfl rfl hq hi (rfl) dX1_settingValue_5 ?_
  exact k_iret hx hb hr hlocks hS hP dX1_settingValue_6 (by (first | rfl | (simp only [↓reduceIte]; done) | (simp []; done)))
set_option maxHeartbeats 4000000 in
set_option maxRecDepth 100000 in
theorem mX1_room (l : Launch) (D : va_G) (cI cQ cJ : ClassId) (a : Nat → Nat) (r : rB) (q : Int32) (i : Nat) (hq : vp_in q 6) (hi : q.toNatClampNeg = i) : Mi l D (tY cI cQ cJ) yX1_room wsX1_room ({ frames := 0, cells := 0, slots := 0, locals := 0 } : Room) [.ref (a 0), .int q] (cR cI a r) (cR cI a r) (roomT r i) := by
  refine M_of (cc := cX1_room) (maxL := 2) (ret := some .int) (Qc := fun A => va_Qi (fun (x : Int32) (_ : Unit) => x = roomT r i) (fun _ t => Wd D (cR cI a r) t) A) (by decide) rfl (Nat.le_of_ble_eq_true rfl) ?_
  intro p e s m below meth c A ls hB hE hP hK hD hA hl
  obtain ⟨hx, hb, hr, hml, hts, hown, hlocks⟩ := hB
  have hS : va_S A s.heap s.heap [] := va_S.rf
  have hl : lv_has ls 2 [(0, .ref (a 0)), (1, .int q)] := hl
  have hinX1 : ∀ w ∈ u_ws RX1 TX1 16, w ∈ wsX1_room := by decide +kernel
  have fl24 := hts (.fieldLink RX1 24 "RoofDrains$Roof" "size" "[I") (by decide +kernel)
  have fl30 := hts (.fieldLink RX1 30 "RoofDrains$Roof" "leaves" "[I") (by decide +kernel)
  refine lv_aload_n hx hb dX1_room_0 rfl (lv_at hl 0 rfl) ?_
  refine va_get (D := D) (ci := 1) (v := .ref (a 5)) (C := RX1) (T := TX1) (N := 16) hx hb hts hinX1 hown hK hP 0 rfl rfl 4 (by decide) fl24 (fun _ h9 => h9) rfl dX1_room_1 ?_
  refine lv_iload_n hx hb dX1_room_4 rfl (lv_at hl 1 rfl) ?_
  refine k_iald (k := i) (v := r 4 i) hx hb hK hP 5 0 rfl rfl hq hi (rfl) dX1_room_5 ?_
  refine lv_bipush (v := 100) hx hb dX1_room_6 (by decide) ?_
  refine lv_aload_n hx hb dX1_room_8 rfl (lv_at hl 0 rfl) ?_
  refine va_get (D := D) (ci := 1) (v := .ref (a 7)) (C := RX1) (T := TX1) (N := 16) hx hb hts hinX1 hown hK hP 0 rfl rfl 6 (by decide) fl30 (fun _ h9 => h9) rfl dX1_room_9 ?_
  refine lv_iload_n hx hb dX1_room_12 rfl (lv_at hl 1 rfl) ?_
  refine k_iald (k := i) (v := r 6 i) hx hb hK hP 7 0 rfl rfl hq hi (rfl) dX1_room_13 ?_
  refine lv_isub hx hb dX1_room_14 ?_
  refine lv_imul hx hb dX1_room_15 ?_
  refine lv_bipush (v := 100) hx hb dX1_room_16 (by decide) ?_
  refine lv_idiv hx hb dX1_room_18 (by decide) ?_
  exact k_iret hx hb hr hlocks hS hP dX1_room_19 (by (first | rfl | (simp only [roomT, ↓reduceIte]; done) | (simp [roomT]; done)))
set_option maxHeartbeats 4000000 in
set_option maxRecDepth 100000 in
theorem mX1_pipeTakes (l : Launch) (D : va_G) (cI cQ cJ : ClassId) (a : Nat → Nat) (r : rB) (q : Int32) (i : Nat) (hq : vp_in q 6) (hi : q.toNatClampNeg = i) : Mi l D (tY cI cQ cJ) yX1_pipeTakes wsX1_pipeTakes ({ frames := 0, cells := 0, slots := 0, locals := 0 } : Room) [.ref (a 0), .int q] (cR cI a r) (cR cI a r) (pipeT r i) := by
  refine M_of (cc := cX1_pipeTakes) (maxL := 3) (ret := some .int) (Qc := fun A => va_Qi (fun (x : Int32) (_ : Unit) => x = pipeT r i) (fun _ t => Wd D (cR cI a r) t) A) (by decide) rfl (Nat.le_of_ble_eq_true rfl) ?_
  intro p e s m below meth c A ls hB hE hP hK hD hA hl
  obtain ⟨hx, hb, hr, hml, hts, hown, hlocks⟩ := hB
  have hS : va_S A s.heap s.heap [] := va_S.rf
  have hl : lv_has ls 3 [(0, .ref (a 0)), (1, .int q)] := hl
  have hinX1 : ∀ w ∈ u_ws RX1 TX1 16, w ∈ wsX1_pipeTakes := by decide +kernel
  have fl27 := hts (.fieldLink RX1 27 "RoofDrains$Roof" "bore" "[I") (by decide +kernel)
  have fl30 := hts (.fieldLink RX1 30 "RoofDrains$Roof" "leaves" "[I") (by decide +kernel)
  refine lv_aload_n hx hb dX1_pipeTakes_0 rfl (lv_at hl 0 rfl) ?_
  refine va_get (D := D) (ci := 1) (v := .ref (a 6)) (C := RX1) (T := TX1) (N := 16) hx hb hts hinX1 hown hK hP 0 rfl rfl 5 (by decide) fl27 (fun _ h9 => h9) rfl dX1_pipeTakes_1 ?_
  refine lv_iload_n hx hb dX1_pipeTakes_4 rfl (lv_at hl 1 rfl) ?_
  refine k_iald (k := i) (v := r 5 i) hx hb hK hP 6 0 rfl rfl hq hi (rfl) dX1_pipeTakes_5 ?_
  refine lv_bipush (v := 100) hx hb dX1_pipeTakes_6 (by decide) ?_
  refine lv_aload_n hx hb dX1_pipeTakes_8 rfl (lv_at hl 0 rfl) ?_
  refine va_get (D := D) (ci := 1) (v := .ref (a 7)) (C := RX1) (T := TX1) (N := 16) hx hb hts hinX1 hown hK hP 0 rfl rfl 6 (by decide) fl30 (fun _ h9 => h9) rfl dX1_pipeTakes_9 ?_
  refine lv_iload_n hx hb dX1_pipeTakes_12 rfl (lv_at hl 1 rfl) ?_
  refine k_iald (k := i) (v := r 6 i) hx hb hK hP 7 0 rfl rfl hq hi (rfl) dX1_pipeTakes_13 ?_
  refine lv_isub hx hb dX1_pipeTakes_14 ?_
  refine lv_imul hx hb dX1_pipeTakes_15 ?_
  refine lv_bipush (v := 100) hx hb dX1_pipeTakes_16 (by decide) ?_
  refine lv_idiv hx hb dX1_pipeTakes_18 (by decide) ?_
  refine lv_topi (fun v2_1 ev2_1 => ?_)
  refine lv_istore_n (lv' := [(2, .int v2_1), (0, .ref (a 0)), (1, .int q)]) hx hb dX1_pipeTakes_19 rfl hl (by decide) rfl (fun ls hl => ?_)
  refine lv_iload_n hx hb dX1_pipeTakes_20 rfl (lv_at hl 0 rfl) ?_
  refine lv_if_ne (tgt := 37) hx hb dX1_pipeTakes_21 (by decide) (fun c_2 => ?_) (fun c_2 => ?_)
  · skip
    refine lv_iload_n hx hb dX1_pipeTakes_37 rfl (lv_at hl 0 rfl) ?_
    exact k_iret hx hb hr hlocks hS hP dX1_pipeTakes_38 (by (subst ev2_1; first | rfl | (simp only [pipeT, c_2, ↓reduceIte]; done) | (simp [pipeT, c_2]; done)))
  · skip
    refine lv_aload_n hx hb dX1_pipeTakes_24 rfl (lv_at hl 1 rfl) ?_
    refine va_get (D := D) (ci := 1) (v := .ref (a 6)) (C := RX1) (T := TX1) (N := 16) hx hb hts hinX1 hown hK hP 0 rfl rfl 5 (by decide) fl27 (fun _ h9 => h9) rfl dX1_pipeTakes_25 ?_
    refine lv_iload_n hx hb dX1_pipeTakes_28 rfl (lv_at hl 2 rfl) ?_
    refine k_iald (k := i) (v := r 5 i) hx hb hK hP 6 0 rfl rfl hq hi (rfl) dX1_pipeTakes_29 ?_
    refine lv_if_eq (tgt := 37) hx hb dX1_pipeTakes_30 (by decide) (fun c_3 => ?_) (fun c_3 => ?_)
    · skip
      refine lv_iload_n hx hb dX1_pipeTakes_37 rfl (lv_at hl 0 rfl) ?_
      exact k_iret hx hb hr hlocks hS hP dX1_pipeTakes_38 (by (subst ev2_1; first | rfl | (simp only [pipeT, c_2, c_3, ↓reduceIte]; done) | (simp [pipeT, c_2, c_3]; done)))
    · skip
      refine lv_iconst (v := 1) hx hb dX1_pipeTakes_33 (by decide) ?_
      refine lv_goto (tgt := 38) hx hb dX1_pipeTakes_34 (by decide) ?_
      exact k_iret hx hb hr hlocks hS hP dX1_pipeTakes_38 (by (subst ev2_1; first | rfl | (simp only [pipeT, c_2, c_3, ↓reduceIte]; done) | (simp [pipeT, c_2, c_3]; done)))
set_option maxHeartbeats 4000000 in
set_option maxRecDepth 100000 in
theorem mX1_sumOf (l : Launch) (D : va_G) (cI cQ cJ : ClassId) (q : Nat) (f : Nat → Int32) : Mi l D (tY cI cQ cJ) yX1_sumOf wsX1_sumOf ({ frames := 0, cells := 0, slots := 0, locals := 0 } : Room) [.ref q] ([(q, .inl (cI, 6, .inl f))]) ([(q, .inl (cI, 6, .inl f))]) (smI f 6 0 0) := by
  refine M_of (cc := cX1_sumOf) (maxL := 6) (ret := some .int) (Qc := fun A => va_Qi (fun (x : Int32) (_ : Unit) => x = smI f 6 0 0) (fun _ t => Wd D ([(q, .inl (cI, 6, .inl f))]) t) A) (by decide) rfl (Nat.le_of_ble_eq_true rfl) ?_
  intro p e s m below meth c A ls hB hE hP hK hD hA hl
  obtain ⟨hx, hb, hr, hml, hts, hown, hlocks⟩ := hB
  have hS : va_S A s.heap s.heap [] := va_S.rf
  have hl : lv_has ls 6 [(0, .ref q)] := hl
  refine lv_iconst (v := 0) hx hb dX1_sumOf_0 (by decide) ?_
  refine lv_istore_n (lv' := [(1, .int 0), (0, .ref q)]) hx hb dX1_sumOf_1 rfl hl (by decide) rfl (fun ls hl => ?_)
  refine lv_aload_n hx hb dX1_sumOf_2 rfl (lv_at hl 1 rfl) ?_
  refine lv_astore_n (lv' := [(2, .ref q), (1, .int 0), (0, .ref q)]) hx hb dX1_sumOf_3 rfl hl (by decide) rfl (fun ls hl => ?_)
  refine lv_aload_n hx hb dX1_sumOf_4 rfl (lv_at hl 0 rfl) ?_
  refine va_alen (v := 6) hx hb hK hP 0 0 rfl rfl rfl dX1_sumOf_5 ?_
  refine lv_istore_n (lv' := [(3, .int 6), (2, .ref q), (1, .int 0), (0, .ref q)]) hx hb dX1_sumOf_6 rfl hl (by decide) rfl (fun ls hl => ?_)
  refine lv_iconst (v := 0) hx hb dX1_sumOf_7 (by decide) ?_
  refine lv_istore (lv' := [(4, .int 0), (3, .int 6), (2, .ref q), (1, .int 0), (0, .ref q)]) hx hb dX1_sumOf_8 hl (by decide) rfl (fun ls hl => ?_)
  have Lp10 : ∀ (n i : Nat) (sa : Int32), i + n = 6 → smI f n i sa = smI f 6 0 0 → ∀ (H : Heap) (locs : List Loc), va_P D vwCl ([(q, .inl (cI, 6, .inl f))]) H → va_D A ([(q, .inl (cI, 6, .inl f))]) → va_S A s.heap H locs → ∀ (ls : Array Slot), lv_has ls 6 [(4, .int (nI i)), (3, .int 6), (2, .ref q), (1, .int sa), (0, .ref q)] → W p l e ({ frames := 0, cells := 0, slots := 0, locals := 0 } : Room) s m ([.ref q] : List Value).toArray below meth c H locs 0 0 (MQ below (va_Qi (fun (x : Int32) (_ : Unit) => x = smI f 6 0 0) (fun _ t => Wd D ([(q, .inl (cI, 6, .inl f))]) t) A) ([.ref q] : List Value).toArray s 0 0 A) (F0 m 10 ls []) := by
    intro n
    induction n with
    | zero =>
      intro i sa hin hres H locs hP hD hS ls hl
      have h9 : sa = smI f 6 0 0 := hres
      subst h9
      refine lv_iload hx hb dX1_sumOf_10 (lv_at hl 0 rfl) ?_
      refine lv_iload_n hx hb dX1_sumOf_12 rfl (lv_at hl 1 rfl) ?_
      refine lv_icmp_ge (tgt := 33) hx hb dX1_sumOf_13 (by decide) (fun _ => ?_) (fun h9 => absurd (nI_le (a := 6) (b := i) (by omega) (by omega)) h9)
      refine lv_iload_n hx hb dX1_sumOf_33 rfl (lv_at hl 3 rfl) ?_
      exact k_iret hx hb hr hlocks hS hP dX1_sumOf_34 (by (first | rfl | (simp only [↓reduceIte]; done) | (simp []; done)))
    | succ n ih =>
      intro i sa hin hres H locs hP hD hS ls hl
      refine lv_iload hx hb dX1_sumOf_10 (lv_at hl 0 rfl) ?_
      refine lv_iload_n hx hb dX1_sumOf_12 rfl (lv_at hl 1 rfl) ?_
      refine lv_icmp_ge (tgt := 33) hx hb dX1_sumOf_13 (by decide) (fun h9 => absurd h9 (nI_ge (a := i) (b := 6) (by omega) (by omega))) (fun _ => ?_)
      refine lv_aload_n hx hb dX1_sumOf_16 rfl (lv_at hl 2 rfl) ?_
      refine lv_iload hx hb dX1_sumOf_17 (lv_at hl 0 rfl) ?_
      refine k_iald (k := i) (v := f i) hx hb hK hP 0 0 rfl rfl (vp_in_nI (by omega) (by omega)) (nI_clamp (by omega)) rfl dX1_sumOf_19 ?_
      refine lv_topi (fun v5_1 ev5_1 => ?_)
      refine lv_istore (lv' := [(5, .int v5_1), (4, .int (nI i)), (3, .int 6), (2, .ref q), (1, .int sa), (0, .ref q)]) hx hb dX1_sumOf_20 hl (by decide) rfl (fun ls hl => ?_)
      refine lv_iload_n hx hb dX1_sumOf_22 rfl (lv_at hl 4 rfl) ?_
      refine lv_iload hx hb dX1_sumOf_23 (lv_at hl 0 rfl) ?_
      refine lv_iadd hx hb dX1_sumOf_25 ?_
      refine lv_topi (fun v1_2 ev1_2 => ?_)
      refine lv_istore_n (lv' := [(1, .int v1_2), (5, .int v5_1), (4, .int (nI i)), (3, .int 6), (2, .ref q), (0, .ref q)]) hx hb dX1_sumOf_26 rfl hl (by decide) rfl (fun ls hl => ?_)
      refine lv_iinc (v := nI (i + 1)) (lv' := [(4, .int (nI (i + 1))), (1, .int v1_2), (5, .int v5_1), (3, .int 6), (2, .ref q), (0, .ref q)]) hx hb dX1_sumOf_27 hl (k := 2) rfl (nI_1 i) (by decide) rfl (fun ls hl => ?_)
      refine lv_goto (tgt := 10) hx hb dX1_sumOf_30 (by decide) ?_
      exact ih (i + 1) v1_2 (by omega) (by subst ev1_2; subst ev5_1;  exact hres) H locs hP hD hS ls (lv_sub hl [0, 3, 4, 1, 5] rfl)
  exact Lp10 6 0 0 (by omega) rfl _ _ hP hD hS ls (lv_sub hl [0, 1, 2, 3, 4] rfl)
set_option maxHeartbeats 4000000 in
set_option maxRecDepth 100000 in
theorem mX1_drainedLitres (l : Launch) (D : va_G) (cI cQ cJ : ClassId) (a : Nat → Nat) (r : rB)  : Mi l D (tY cI cQ cJ) yX1_drainedLitres wsX1_drainedLitres ({ frames := 1, cells := 0, slots := 0, locals := 25 } : Room) [.ref (a 0)] (cR cI a r) (cR cI a r) (smI (r 10) 6 0 0) := by
  refine M_of (cc := cX1_drainedLitres) (maxL := 1) (ret := some .int) (Qc := fun A => va_Qi (fun (x : Int32) (_ : Unit) => x = smI (r 10) 6 0 0) (fun _ t => Wd D (cR cI a r) t) A) (by decide) rfl (Nat.le_of_ble_eq_true rfl) ?_
  intro p e s m below meth c A ls hB hE hP hK hD hA hl
  obtain ⟨hx, hb, hr, hml, hts, hown, hlocks⟩ := hB
  have hS : va_S A s.heap s.heap [] := va_S.rf
  have hl : lv_has ls 1 [(0, .ref (a 0))] := hl
  have hinX1 : ∀ w ∈ u_ws RX1 TX1 16, w ∈ wsX1_drainedLitres := by decide +kernel
  have fl42 := hts (.fieldLink RX1 42 "RoofDrains$Roof" "drained" "[I") (by decide +kernel)
  refine lv_aload_n hx hb dX1_drainedLitres_0 rfl (lv_at hl 0 rfl) ?_
  refine va_get (D := D) (ci := 1) (v := .ref (a 11)) (C := RX1) (T := TX1) (N := 16) hx hb hts hinX1 hown hK hP 0 rfl rfl 10 (by decide) fl42 (fun _ h9 => h9) rfl dX1_drainedLitres_1 ?_
  refine k_calli (wc := [(a 11, .inl (cI, 6, .inl (r 10)))]) (w' := [(a 11, .inl (cI, 6, .inl (r 10)))]) (wn := cR cI a r) (va_runS (As := [.ref (a 11)]) (rest := []) ⟨hx, hb, hml, hown, hts⟩ (mX1_sumOf l D cI cQ cJ (a 11) (r 10) _) (va_cwS 1 hts gX1_drainedLitres_X1_sumOf rfl rfl rfl (by decide +kernel) ⟨Nat.le_of_ble_eq_true rfl, Nat.le_of_ble_eq_true rfl⟩) (k_preS (wc := [(a 11, .inl (cI, 6, .inl (r 10)))]) hE hK hP hD [11] (by decide) rfl [.ref (a 11)]) rfl rfl hl.1 rfl (lv_room (Nat.le_of_ble_eq_true rfl)) dX1_drainedLitres_4 ⟨Nat.zero_le _, Nat.zero_le _⟩) hP hD hS hA [11] rfl rfl rfl (fun H locs hP hD hS => ?_)
  exact k_iret hx hb hr hlocks hS hP dX1_drainedLitres_7 (by (first | rfl | (simp only [↓reduceIte]; done) | (simp []; done)))
set_option maxHeartbeats 4000000 in
set_option maxRecDepth 100000 in
theorem mX1_spiltLitres (l : Launch) (D : va_G) (cI cQ cJ : ClassId) (a : Nat → Nat) (r : rB)  : Mi l D (tY cI cQ cJ) yX1_spiltLitres wsX1_spiltLitres ({ frames := 1, cells := 0, slots := 0, locals := 25 } : Room) [.ref (a 0)] (cR cI a r) (cR cI a r) (smI (r 9) 6 0 0) := by
  refine M_of (cc := cX1_spiltLitres) (maxL := 1) (ret := some .int) (Qc := fun A => va_Qi (fun (x : Int32) (_ : Unit) => x = smI (r 9) 6 0 0) (fun _ t => Wd D (cR cI a r) t) A) (by decide) rfl (Nat.le_of_ble_eq_true rfl) ?_
  intro p e s m below meth c A ls hB hE hP hK hD hA hl
  obtain ⟨hx, hb, hr, hml, hts, hown, hlocks⟩ := hB
  have hS : va_S A s.heap s.heap [] := va_S.rf
  have hl : lv_has ls 1 [(0, .ref (a 0))] := hl
  have hinX1 : ∀ w ∈ u_ws RX1 TX1 16, w ∈ wsX1_spiltLitres := by decide +kernel
  have fl39 := hts (.fieldLink RX1 39 "RoofDrains$Roof" "spilt" "[I") (by decide +kernel)
  refine lv_aload_n hx hb dX1_spiltLitres_0 rfl (lv_at hl 0 rfl) ?_
  refine va_get (D := D) (ci := 1) (v := .ref (a 10)) (C := RX1) (T := TX1) (N := 16) hx hb hts hinX1 hown hK hP 0 rfl rfl 9 (by decide) fl39 (fun _ h9 => h9) rfl dX1_spiltLitres_1 ?_
  refine k_calli (wc := [(a 10, .inl (cI, 6, .inl (r 9)))]) (w' := [(a 10, .inl (cI, 6, .inl (r 9)))]) (wn := cR cI a r) (va_runS (As := [.ref (a 10)]) (rest := []) ⟨hx, hb, hml, hown, hts⟩ (mX1_sumOf l D cI cQ cJ (a 10) (r 9) _) (va_cwS 1 hts gX1_spiltLitres_X1_sumOf rfl rfl rfl (by decide +kernel) ⟨Nat.le_of_ble_eq_true rfl, Nat.le_of_ble_eq_true rfl⟩) (k_preS (wc := [(a 10, .inl (cI, 6, .inl (r 9)))]) hE hK hP hD [10] (by decide) rfl [.ref (a 10)]) rfl rfl hl.1 rfl (lv_room (Nat.le_of_ble_eq_true rfl)) dX1_spiltLitres_4 ⟨Nat.zero_le _, Nat.zero_le _⟩) hP hD hS hA [10] rfl rfl rfl (fun H locs hP hD hS => ?_)
  exact k_iret hx hb hr hlocks hS hP dX1_spiltLitres_7 (by (first | rfl | (simp only [↓reduceIte]; done) | (simp []; done)))
set_option maxHeartbeats 4000000 in
set_option maxRecDepth 100000 in
theorem mX1_leavesTogether (l : Launch) (D : va_G) (cI cQ cJ : ClassId) (a : Nat → Nat) (r : rB)  : Mi l D (tY cI cQ cJ) yX1_leavesTogether wsX1_leavesTogether ({ frames := 1, cells := 0, slots := 0, locals := 25 } : Room) [.ref (a 0)] (cR cI a r) (cR cI a r) (smI (r 6) 6 0 0) := by
  refine M_of (cc := cX1_leavesTogether) (maxL := 1) (ret := some .int) (Qc := fun A => va_Qi (fun (x : Int32) (_ : Unit) => x = smI (r 6) 6 0 0) (fun _ t => Wd D (cR cI a r) t) A) (by decide) rfl (Nat.le_of_ble_eq_true rfl) ?_
  intro p e s m below meth c A ls hB hE hP hK hD hA hl
  obtain ⟨hx, hb, hr, hml, hts, hown, hlocks⟩ := hB
  have hS : va_S A s.heap s.heap [] := va_S.rf
  have hl : lv_has ls 1 [(0, .ref (a 0))] := hl
  have hinX1 : ∀ w ∈ u_ws RX1 TX1 16, w ∈ wsX1_leavesTogether := by decide +kernel
  have fl30 := hts (.fieldLink RX1 30 "RoofDrains$Roof" "leaves" "[I") (by decide +kernel)
  refine lv_aload_n hx hb dX1_leavesTogether_0 rfl (lv_at hl 0 rfl) ?_
  refine va_get (D := D) (ci := 1) (v := .ref (a 7)) (C := RX1) (T := TX1) (N := 16) hx hb hts hinX1 hown hK hP 0 rfl rfl 6 (by decide) fl30 (fun _ h9 => h9) rfl dX1_leavesTogether_1 ?_
  refine k_calli (wc := [(a 7, .inl (cI, 6, .inl (r 6)))]) (w' := [(a 7, .inl (cI, 6, .inl (r 6)))]) (wn := cR cI a r) (va_runS (As := [.ref (a 7)]) (rest := []) ⟨hx, hb, hml, hown, hts⟩ (mX1_sumOf l D cI cQ cJ (a 7) (r 6) _) (va_cwS 1 hts gX1_leavesTogether_X1_sumOf rfl rfl rfl (by decide +kernel) ⟨Nat.le_of_ble_eq_true rfl, Nat.le_of_ble_eq_true rfl⟩) (k_preS (wc := [(a 7, .inl (cI, 6, .inl (r 6)))]) hE hK hP hD [7] (by decide) rfl [.ref (a 7)]) rfl rfl hl.1 rfl (lv_room (Nat.le_of_ble_eq_true rfl)) dX1_leavesTogether_4 ⟨Nat.zero_le _, Nat.zero_le _⟩) hP hD hS hA [7] rfl rfl rfl (fun H locs hP hD hS => ?_)
  exact k_iret hx hb hr hlocks hS hP dX1_leavesTogether_7 (by (first | rfl | (simp only [↓reduceIte]; done) | (simp []; done)))
set_option maxHeartbeats 4000000 in
set_option maxRecDepth 100000 in
theorem mX1_standingLitres (l : Launch) (D : va_G) (cI cQ cJ : ClassId) (a : Nat → Nat) (r : rB)  : Mi l D (tY cI cQ cJ) yX1_standingLitres wsX1_standingLitres ({ frames := 1, cells := 0, slots := 0, locals := 25 } : Room) [.ref (a 0)] (cR cI a r) (cR cI a r) (standC r) := by
  refine M_of (cc := cX1_standingLitres) (maxL := 1) (ret := some .int) (Qc := fun A => va_Qi (fun (x : Int32) (_ : Unit) => x = standC r) (fun _ t => Wd D (cR cI a r) t) A) (by decide) rfl (Nat.le_of_ble_eq_true rfl) ?_
  intro p e s m below meth c A ls hB hE hP hK hD hA hl
  obtain ⟨hx, hb, hr, hml, hts, hown, hlocks⟩ := hB
  have hS : va_S A s.heap s.heap [] := va_S.rf
  have hl : lv_has ls 1 [(0, .ref (a 0))] := hl
  have hinX1 : ∀ w ∈ u_ws RX1 TX1 16, w ∈ wsX1_standingLitres := by decide +kernel
  have fl21 := hts (.fieldLink RX1 21 "RoofDrains$Roof" "onPlane" "[I") (by decide +kernel)
  have fl36 := hts (.fieldLink RX1 36 "RoofDrains$Roof" "inGutter" "[I") (by decide +kernel)
  refine lv_aload_n hx hb dX1_standingLitres_0 rfl (lv_at hl 0 rfl) ?_
  refine va_get (D := D) (ci := 1) (v := .ref (a 4)) (C := RX1) (T := TX1) (N := 16) hx hb hts hinX1 hown hK hP 0 rfl rfl 3 (by decide) fl21 (fun _ h9 => h9) rfl dX1_standingLitres_1 ?_
  refine k_calli (wc := [(a 4, .inl (cI, 6, .inl (r 3)))]) (w' := [(a 4, .inl (cI, 6, .inl (r 3)))]) (wn := cR cI a r) (va_runS (As := [.ref (a 4)]) (rest := []) ⟨hx, hb, hml, hown, hts⟩ (mX1_sumOf l D cI cQ cJ (a 4) (r 3) _) (va_cwS 1 hts gX1_standingLitres_X1_sumOf rfl rfl rfl (by decide +kernel) ⟨Nat.le_of_ble_eq_true rfl, Nat.le_of_ble_eq_true rfl⟩) (k_preS (wc := [(a 4, .inl (cI, 6, .inl (r 3)))]) hE hK hP hD [4] (by decide) rfl [.ref (a 4)]) rfl rfl hl.1 rfl (lv_room (Nat.le_of_ble_eq_true rfl)) dX1_standingLitres_4 ⟨Nat.zero_le _, Nat.zero_le _⟩) hP hD hS hA [4] rfl rfl rfl (fun H locs hP hD hS => ?_)
  refine lv_aload_n hx hb dX1_standingLitres_7 rfl (lv_at hl 0 rfl) ?_
  refine va_get (D := D) (ci := 1) (v := .ref (a 9)) (C := RX1) (T := TX1) (N := 16) hx hb hts hinX1 hown hK hP 0 rfl rfl 8 (by decide) fl36 (fun _ h9 => h9) rfl dX1_standingLitres_8 ?_
  refine k_calli (wc := [(a 9, .inl (cI, 6, .inl (r 8)))]) (w' := [(a 9, .inl (cI, 6, .inl (r 8)))]) (wn := cR cI a r) (va_runS (As := [.ref (a 9)]) (rest := [.int (smI (r 3) 6 0 0)]) ⟨hx, hb, hml, hown, hts⟩ (mX1_sumOf l D cI cQ cJ (a 9) (r 8) _) (va_cwS 1 hts gX1_standingLitres_X1_sumOf rfl rfl rfl (by decide +kernel) ⟨Nat.le_of_ble_eq_true rfl, Nat.le_of_ble_eq_true rfl⟩) (k_preS (wc := [(a 9, .inl (cI, 6, .inl (r 8)))]) hE hK hP hD [9] (by decide) rfl [.ref (a 9)]) rfl rfl hl.1 rfl (lv_room (Nat.le_of_ble_eq_true rfl)) dX1_standingLitres_11 ⟨Nat.zero_le _, Nat.zero_le _⟩) hP hD hS hA [9] rfl rfl rfl (fun H locs hP hD hS => ?_)
  refine lv_iadd hx hb dX1_standingLitres_14 ?_
  exact k_iret hx hb hr hlocks hS hP dX1_standingLitres_15 (by (first | rfl | (simp only [standC, ↓reduceIte]; done) | (simp [standC]; done)))
set_option maxHeartbeats 4000000 in
set_option maxRecDepth 100000 in
theorem mX1_changePlane (l : Launch) (D : va_G) (cI cQ cJ : ClassId) (a : Nat → Nat) (r : rB) (q : Int32) (i : Nat) (hq : vp_in q 6) (hi : q.toNatClampNeg = i) (x y z : Int32) : Mi l D (tY cI cQ cJ) yX1_changePlane wsX1_changePlane ({ frames := 0, cells := 0, slots := 0, locals := 0 } : Room) [.ref (a 0), .int q, .int x, .int y, .int z] (cR cI a r) (cR cI a (bp (bp (bp r 0 i x) 1 i y) 2 i z)) (r 0 i) := by
  refine M_of (cc := cX1_changePlane) (maxL := 6) (ret := some .int) (Qc := fun A => va_Qi (fun (x : Int32) (_ : Unit) => x = r 0 i) (fun _ t => Wd D (cR cI a (bp (bp (bp r 0 i x) 1 i y) 2 i z)) t) A) (by decide) rfl (Nat.le_of_ble_eq_true rfl) ?_
  intro p e s m below meth c A ls hB hE hP hK hD hA hl
  obtain ⟨hx, hb, hr, hml, hts, hown, hlocks⟩ := hB
  have hS : va_S A s.heap s.heap [] := va_S.rf
  have hl : lv_has ls 6 [(0, .ref (a 0)), (1, .int q), (2, .int x), (3, .int y), (4, .int z)] := hl
  have hinX1 : ∀ w ∈ u_ws RX1 TX1 16, w ∈ wsX1_changePlane := by decide +kernel
  have fl9 := hts (.fieldLink RX1 9 "RoofDrains$Roof" "area" "[I") (by decide +kernel)
  have fl15 := hts (.fieldLink RX1 15 "RoofDrains$Roof" "slope" "[I") (by decide +kernel)
  have fl18 := hts (.fieldLink RX1 18 "RoofDrains$Roof" "leadsTo" "[I") (by decide +kernel)
  refine lv_aload_n hx hb dX1_changePlane_0 rfl (lv_at hl 0 rfl) ?_
  refine va_get (D := D) (ci := 1) (v := .ref (a 1)) (C := RX1) (T := TX1) (N := 16) hx hb hts hinX1 hown hK hP 0 rfl rfl 0 (by decide) fl9 (fun _ h9 => h9) rfl dX1_changePlane_1 ?_
  refine lv_iload_n hx hb dX1_changePlane_4 rfl (lv_at hl 1 rfl) ?_
  refine k_iald (k := i) (v := r 0 i) hx hb hK hP 1 0 rfl rfl hq hi (rfl) dX1_changePlane_5 ?_
  refine lv_topi (fun v5_1 ev5_1 => ?_)
  refine lv_istore (lv' := [(5, .int v5_1), (0, .ref (a 0)), (1, .int q), (2, .int x), (3, .int y), (4, .int z)]) hx hb dX1_changePlane_6 hl (by decide) rfl (fun ls hl => ?_)
  refine lv_aload_n hx hb dX1_changePlane_8 rfl (lv_at hl 1 rfl) ?_
  refine va_get (D := D) (ci := 1) (v := .ref (a 1)) (C := RX1) (T := TX1) (N := 16) hx hb hts hinX1 hown hK hP 0 rfl rfl 0 (by decide) fl9 (fun _ h9 => h9) rfl dX1_changePlane_9 ?_
  refine lv_iload_n hx hb dX1_changePlane_12 rfl (lv_at hl 2 rfl) ?_
  refine lv_iload_n hx hb dX1_changePlane_13 rfl (lv_at hl 3 rfl) ?_
  refine k_iast (k := i) (ws' := cR cI a (bp r 0 i x)) hx hb hK hP hD hS 1 0 rfl rfl hq hi rfl dX1_changePlane_14 (fun H locs hP hD hS => ?_)
  refine lv_aload_n hx hb dX1_changePlane_15 rfl (lv_at hl 1 rfl) ?_
  refine va_get (D := D) (ci := 1) (v := .ref (a 2)) (C := RX1) (T := TX1) (N := 16) hx hb hts hinX1 hown hK hP 0 rfl rfl 1 (by decide) fl15 (fun _ h9 => h9) rfl dX1_changePlane_16 ?_
  refine lv_iload_n hx hb dX1_changePlane_19 rfl (lv_at hl 2 rfl) ?_
  refine lv_iload_n hx hb dX1_changePlane_20 rfl (lv_at hl 4 rfl) ?_
  refine k_iast (k := i) (ws' := cR cI a (bp (bp r 0 i x) 1 i y)) hx hb hK hP hD hS 2 0 rfl rfl hq hi rfl dX1_changePlane_21 (fun H locs hP hD hS => ?_)
  refine lv_aload_n hx hb dX1_changePlane_22 rfl (lv_at hl 1 rfl) ?_
  refine va_get (D := D) (ci := 1) (v := .ref (a 3)) (C := RX1) (T := TX1) (N := 16) hx hb hts hinX1 hown hK hP 0 rfl rfl 2 (by decide) fl18 (fun _ h9 => h9) rfl dX1_changePlane_23 ?_
  refine lv_iload_n hx hb dX1_changePlane_26 rfl (lv_at hl 2 rfl) ?_
  refine lv_iload hx hb dX1_changePlane_27 (lv_at hl 5 rfl) ?_
  refine k_iast (k := i) (ws' := cR cI a (bp (bp (bp r 0 i x) 1 i y) 2 i z)) hx hb hK hP hD hS 3 0 rfl rfl hq hi rfl dX1_changePlane_29 (fun H locs hP hD hS => ?_)
  refine lv_iload hx hb dX1_changePlane_30 (lv_at hl 0 rfl) ?_
  exact k_iret hx hb hr hlocks hS hP dX1_changePlane_32 (by (subst ev5_1; first | rfl | (simp only [↓reduceIte]; done) | (simp []; done)))
set_option maxHeartbeats 4000000 in
set_option maxRecDepth 100000 in
theorem mX1_changeGutter (l : Launch) (D : va_G) (cI cQ cJ : ClassId) (a : Nat → Nat) (r : rB) (q : Int32) (i : Nat) (hq : vp_in q 6) (hi : q.toNatClampNeg = i) (x y : Int32) : Mi l D (tY cI cQ cJ) yX1_changeGutter wsX1_changeGutter ({ frames := 0, cells := 0, slots := 0, locals := 0 } : Room) [.ref (a 0), .int q, .int x, .int y] (cR cI a r) (cR cI a (bp (bp r 4 i x) 5 i y)) (r 4 i) := by
  refine M_of (cc := cX1_changeGutter) (maxL := 5) (ret := some .int) (Qc := fun A => va_Qi (fun (x : Int32) (_ : Unit) => x = r 4 i) (fun _ t => Wd D (cR cI a (bp (bp r 4 i x) 5 i y)) t) A) (by decide) rfl (Nat.le_of_ble_eq_true rfl) ?_
  intro p e s m below meth c A ls hB hE hP hK hD hA hl
  obtain ⟨hx, hb, hr, hml, hts, hown, hlocks⟩ := hB
  have hS : va_S A s.heap s.heap [] := va_S.rf
  have hl : lv_has ls 5 [(0, .ref (a 0)), (1, .int q), (2, .int x), (3, .int y)] := hl
  have hinX1 : ∀ w ∈ u_ws RX1 TX1 16, w ∈ wsX1_changeGutter := by decide +kernel
  have fl24 := hts (.fieldLink RX1 24 "RoofDrains$Roof" "size" "[I") (by decide +kernel)
  have fl27 := hts (.fieldLink RX1 27 "RoofDrains$Roof" "bore" "[I") (by decide +kernel)
  refine lv_aload_n hx hb dX1_changeGutter_0 rfl (lv_at hl 0 rfl) ?_
  refine va_get (D := D) (ci := 1) (v := .ref (a 5)) (C := RX1) (T := TX1) (N := 16) hx hb hts hinX1 hown hK hP 0 rfl rfl 4 (by decide) fl24 (fun _ h9 => h9) rfl dX1_changeGutter_1 ?_
  refine lv_iload_n hx hb dX1_changeGutter_4 rfl (lv_at hl 1 rfl) ?_
  refine k_iald (k := i) (v := r 4 i) hx hb hK hP 5 0 rfl rfl hq hi (rfl) dX1_changeGutter_5 ?_
  refine lv_topi (fun v4_1 ev4_1 => ?_)
  refine lv_istore (lv' := [(4, .int v4_1), (0, .ref (a 0)), (1, .int q), (2, .int x), (3, .int y)]) hx hb dX1_changeGutter_6 hl (by decide) rfl (fun ls hl => ?_)
  refine lv_aload_n hx hb dX1_changeGutter_8 rfl (lv_at hl 1 rfl) ?_
  refine va_get (D := D) (ci := 1) (v := .ref (a 5)) (C := RX1) (T := TX1) (N := 16) hx hb hts hinX1 hown hK hP 0 rfl rfl 4 (by decide) fl24 (fun _ h9 => h9) rfl dX1_changeGutter_9 ?_
  refine lv_iload_n hx hb dX1_changeGutter_12 rfl (lv_at hl 2 rfl) ?_
  refine lv_iload_n hx hb dX1_changeGutter_13 rfl (lv_at hl 3 rfl) ?_
  refine k_iast (k := i) (ws' := cR cI a (bp r 4 i x)) hx hb hK hP hD hS 5 0 rfl rfl hq hi rfl dX1_changeGutter_14 (fun H locs hP hD hS => ?_)
  refine lv_aload_n hx hb dX1_changeGutter_15 rfl (lv_at hl 1 rfl) ?_
  refine va_get (D := D) (ci := 1) (v := .ref (a 6)) (C := RX1) (T := TX1) (N := 16) hx hb hts hinX1 hown hK hP 0 rfl rfl 5 (by decide) fl27 (fun _ h9 => h9) rfl dX1_changeGutter_16 ?_
  refine lv_iload_n hx hb dX1_changeGutter_19 rfl (lv_at hl 2 rfl) ?_
  refine lv_iload_n hx hb dX1_changeGutter_20 rfl (lv_at hl 4 rfl) ?_
  refine k_iast (k := i) (ws' := cR cI a (bp (bp r 4 i x) 5 i y)) hx hb hK hP hD hS 6 0 rfl rfl hq hi rfl dX1_changeGutter_21 (fun H locs hP hD hS => ?_)
  refine lv_iload hx hb dX1_changeGutter_22 (lv_at hl 0 rfl) ?_
  exact k_iret hx hb hr hlocks hS hP dX1_changeGutter_24 (by (subst ev4_1; first | rfl | (simp only [↓reduceIte]; done) | (simp []; done)))
set_option maxHeartbeats 4000000 in
set_option maxRecDepth 100000 in
theorem mX1_changeValley (l : Launch) (D : va_G) (cI cQ cJ : ClassId) (a : Nat → Nat) (r : rB) (q : Int32) (i : Nat) (hq : vp_in q 6) (hi : q.toNatClampNeg = i) (x : Int32) : Mi l D (tY cI cQ cJ) yX1_changeValley wsX1_changeValley ({ frames := 0, cells := 0, slots := 0, locals := 0 } : Room) [.ref (a 0), .int q, .int x] (cR cI a r) (cR cI a (bp r 7 i x)) (r 7 i) := by
  refine M_of (cc := cX1_changeValley) (maxL := 4) (ret := some .int) (Qc := fun A => va_Qi (fun (x : Int32) (_ : Unit) => x = r 7 i) (fun _ t => Wd D (cR cI a (bp r 7 i x)) t) A) (by decide) rfl (Nat.le_of_ble_eq_true rfl) ?_
  intro p e s m below meth c A ls hB hE hP hK hD hA hl
  obtain ⟨hx, hb, hr, hml, hts, hown, hlocks⟩ := hB
  have hS : va_S A s.heap s.heap [] := va_S.rf
  have hl : lv_has ls 4 [(0, .ref (a 0)), (1, .int q), (2, .int x)] := hl
  have hinX1 : ∀ w ∈ u_ws RX1 TX1 16, w ∈ wsX1_changeValley := by decide +kernel
  have fl33 := hts (.fieldLink RX1 33 "RoofDrains$Roof" "valleyTo" "[I") (by decide +kernel)
  refine lv_aload_n hx hb dX1_changeValley_0 rfl (lv_at hl 0 rfl) ?_
  refine va_get (D := D) (ci := 1) (v := .ref (a 8)) (C := RX1) (T := TX1) (N := 16) hx hb hts hinX1 hown hK hP 0 rfl rfl 7 (by decide) fl33 (fun _ h9 => h9) rfl dX1_changeValley_1 ?_
  refine lv_iload_n hx hb dX1_changeValley_4 rfl (lv_at hl 1 rfl) ?_
  refine k_iald (k := i) (v := r 7 i) hx hb hK hP 8 0 rfl rfl hq hi (rfl) dX1_changeValley_5 ?_
  refine lv_topi (fun v3_1 ev3_1 => ?_)
  refine lv_istore_n (lv' := [(3, .int v3_1), (0, .ref (a 0)), (1, .int q), (2, .int x)]) hx hb dX1_changeValley_6 rfl hl (by decide) rfl (fun ls hl => ?_)
  refine lv_aload_n hx hb dX1_changeValley_7 rfl (lv_at hl 1 rfl) ?_
  refine va_get (D := D) (ci := 1) (v := .ref (a 8)) (C := RX1) (T := TX1) (N := 16) hx hb hts hinX1 hown hK hP 0 rfl rfl 7 (by decide) fl33 (fun _ h9 => h9) rfl dX1_changeValley_8 ?_
  refine lv_iload_n hx hb dX1_changeValley_11 rfl (lv_at hl 2 rfl) ?_
  refine lv_iload_n hx hb dX1_changeValley_12 rfl (lv_at hl 3 rfl) ?_
  refine k_iast (k := i) (ws' := cR cI a (bp r 7 i x)) hx hb hK hP hD hS 8 0 rfl rfl hq hi rfl dX1_changeValley_13 (fun H locs hP hD hS => ?_)
  refine lv_iload_n hx hb dX1_changeValley_14 rfl (lv_at hl 0 rfl) ?_
  exact k_iret hx hb hr hlocks hS hP dX1_changeValley_15 (by (subst ev3_1; first | rfl | (simp only [↓reduceIte]; done) | (simp []; done)))
set_option maxHeartbeats 4000000 in
set_option maxRecDepth 100000 in
theorem mX1_takeLeaves (l : Launch) (D : va_G) (cI cQ cJ : ClassId) (a : Nat → Nat) (r : rB) (q : Int32) (i : Nat) (hq : vp_in q 6) (hi : q.toNatClampNeg = i) : Mi l D (tY cI cQ cJ) yX1_takeLeaves wsX1_takeLeaves ({ frames := 0, cells := 0, slots := 0, locals := 0 } : Room) [.ref (a 0), .int q] (cR cI a r) (cR cI a (bp r 6 i 0)) (r 6 i) := by
  refine M_of (cc := cX1_takeLeaves) (maxL := 3) (ret := some .int) (Qc := fun A => va_Qi (fun (x : Int32) (_ : Unit) => x = r 6 i) (fun _ t => Wd D (cR cI a (bp r 6 i 0)) t) A) (by decide) rfl (Nat.le_of_ble_eq_true rfl) ?_
  intro p e s m below meth c A ls hB hE hP hK hD hA hl
  obtain ⟨hx, hb, hr, hml, hts, hown, hlocks⟩ := hB
  have hS : va_S A s.heap s.heap [] := va_S.rf
  have hl : lv_has ls 3 [(0, .ref (a 0)), (1, .int q)] := hl
  have hinX1 : ∀ w ∈ u_ws RX1 TX1 16, w ∈ wsX1_takeLeaves := by decide +kernel
  have fl30 := hts (.fieldLink RX1 30 "RoofDrains$Roof" "leaves" "[I") (by decide +kernel)
  refine lv_aload_n hx hb dX1_takeLeaves_0 rfl (lv_at hl 0 rfl) ?_
  refine va_get (D := D) (ci := 1) (v := .ref (a 7)) (C := RX1) (T := TX1) (N := 16) hx hb hts hinX1 hown hK hP 0 rfl rfl 6 (by decide) fl30 (fun _ h9 => h9) rfl dX1_takeLeaves_1 ?_
  refine lv_iload_n hx hb dX1_takeLeaves_4 rfl (lv_at hl 1 rfl) ?_
  refine k_iald (k := i) (v := r 6 i) hx hb hK hP 7 0 rfl rfl hq hi (rfl) dX1_takeLeaves_5 ?_
  refine lv_topi (fun v2_1 ev2_1 => ?_)
  refine lv_istore_n (lv' := [(2, .int v2_1), (0, .ref (a 0)), (1, .int q)]) hx hb dX1_takeLeaves_6 rfl hl (by decide) rfl (fun ls hl => ?_)
  refine lv_aload_n hx hb dX1_takeLeaves_7 rfl (lv_at hl 1 rfl) ?_
  refine va_get (D := D) (ci := 1) (v := .ref (a 7)) (C := RX1) (T := TX1) (N := 16) hx hb hts hinX1 hown hK hP 0 rfl rfl 6 (by decide) fl30 (fun _ h9 => h9) rfl dX1_takeLeaves_8 ?_
  refine lv_iload_n hx hb dX1_takeLeaves_11 rfl (lv_at hl 2 rfl) ?_
  refine lv_iconst (v := 0) hx hb dX1_takeLeaves_12 (by decide) ?_
  refine k_iast (k := i) (ws' := cR cI a (bp r 6 i 0)) hx hb hK hP hD hS 7 0 rfl rfl hq hi rfl dX1_takeLeaves_13 (fun H locs hP hD hS => ?_)
  refine lv_iload_n hx hb dX1_takeLeaves_14 rfl (lv_at hl 0 rfl) ?_
  exact k_iret hx hb hr hlocks hS hP dX1_takeLeaves_15 (by (subst ev2_1; first | rfl | (simp only [↓reduceIte]; done) | (simp []; done)))
set_option maxHeartbeats 4000000 in
set_option maxRecDepth 100000 in
theorem mX1_changeSetting (l : Launch) (D : va_G) (cI cQ cJ : ClassId) (a : Nat → Nat) (r : rB) (q : Int32) (i : Nat) (hq : vp_in q 3) (hi : q.toNatClampNeg = i) (x : Int32) : Mi l D (tY cI cQ cJ) yX1_changeSetting wsX1_changeSetting ({ frames := 0, cells := 0, slots := 0, locals := 0 } : Room) [.ref (a 0), .int q, .int x] (cR cI a r) (cR cI a (bp r 11 i x)) (r 11 i) := by
  refine M_of (cc := cX1_changeSetting) (maxL := 4) (ret := some .int) (Qc := fun A => va_Qi (fun (x : Int32) (_ : Unit) => x = r 11 i) (fun _ t => Wd D (cR cI a (bp r 11 i x)) t) A) (by decide) rfl (Nat.le_of_ble_eq_true rfl) ?_
  intro p e s m below meth c A ls hB hE hP hK hD hA hl
  obtain ⟨hx, hb, hr, hml, hts, hown, hlocks⟩ := hB
  have hS : va_S A s.heap s.heap [] := va_S.rf
  have hl : lv_has ls 4 [(0, .ref (a 0)), (1, .int q), (2, .int x)] := hl
  have hinX1 : ∀ w ∈ u_ws RX1 TX1 16, w ∈ wsX1_changeSetting := by decide +kernel
  have fl45 := hts (.fieldLink RX1 45 "RoofDrains$Roof" "values" "[I") (by decide +kernel)
  refine lv_aload_n hx hb dX1_changeSetting_0 rfl (lv_at hl 0 rfl) ?_
  refine va_get (D := D) (ci := 1) (v := .ref (a 12)) (C := RX1) (T := TX1) (N := 16) hx hb hts hinX1 hown hK hP 0 rfl rfl 11 (by decide) fl45 (fun _ h9 => h9) rfl dX1_changeSetting_1 ?_
  refine lv_iload_n hx hb dX1_changeSetting_4 rfl (lv_at hl 1 rfl) ?_
  refine k_iald (k := i) (v := r 11 i) hx hb hK hP 12 0 rfl rfl hq hi (rfl) dX1_changeSetting_5 ?_
  refine lv_topi (fun v3_1 ev3_1 => ?_)
  refine lv_istore_n (lv' := [(3, .int v3_1), (0, .ref (a 0)), (1, .int q), (2, .int x)]) hx hb dX1_changeSetting_6 rfl hl (by decide) rfl (fun ls hl => ?_)
  refine lv_aload_n hx hb dX1_changeSetting_7 rfl (lv_at hl 1 rfl) ?_
  refine va_get (D := D) (ci := 1) (v := .ref (a 12)) (C := RX1) (T := TX1) (N := 16) hx hb hts hinX1 hown hK hP 0 rfl rfl 11 (by decide) fl45 (fun _ h9 => h9) rfl dX1_changeSetting_8 ?_
  refine lv_iload_n hx hb dX1_changeSetting_11 rfl (lv_at hl 2 rfl) ?_
  refine lv_iload_n hx hb dX1_changeSetting_12 rfl (lv_at hl 3 rfl) ?_
  refine k_iast (k := i) (ws' := cR cI a (bp r 11 i x)) hx hb hK hP hD hS 12 0 rfl rfl hq hi rfl dX1_changeSetting_13 (fun H locs hP hD hS => ?_)
  refine lv_iload_n hx hb dX1_changeSetting_14 rfl (lv_at hl 0 rfl) ?_
  exact k_iret hx hb hr hlocks hS hP dX1_changeSetting_15 (by (subst ev3_1; first | rfl | (simp only [↓reduceIte]; done) | (simp []; done)))

set_option maxHeartbeats 4000000 in
set_option maxRecDepth 100000 in
theorem mX1_wetPlane (l : Launch) (D : va_G) (cI cQ cJ : ClassId) (a : Nat → Nat) (r : rB) (q : Int32) (i : Nat) (hq : vp_in q 6) (hi : q.toNatClampNeg = i) (x : Int32) : Mv l D (tY cI cQ cJ) yX1_wetPlane wsX1_wetPlane ({ frames := 1, cells := 0, slots := 0, locals := 20 } : Room) [.ref (a 0), .int q, .int x] (cR cI a r) (cR cI a (wet r i x)) := by
  refine M_of (cc := cX1_wetPlane) (maxL := 6) (ret := none) (Qc := fun A => va_Qv (fun (_ : Unit) => True) (fun _ t => Wd D (cR cI a (wet r i x)) t) A) (by decide) rfl (Nat.le_of_ble_eq_true rfl) ?_
  intro p e s m below meth c A ls hB hE hP hK hD hA hl
  obtain ⟨hx, hb, hr, hml, hts, hown, hlocks⟩ := hB
  have hS : va_S A s.heap s.heap [] := va_S.rf
  have hl : lv_has ls 6 [(0, .ref (a 0)), (1, .int q), (2, .int x)] := hl
  have hinX1 : ∀ w ∈ u_ws RX1 TX1 16, w ∈ wsX1_wetPlane := by decide +kernel
  have fl9 := hts (.fieldLink RX1 9 "RoofDrains$Roof" "area" "[I") (by decide +kernel)
  have fl61 := hts (.fieldLink RX1 61 "RoofDrains$Roof" "rained" "I") (by decide +kernel)
  have fl21 := hts (.fieldLink RX1 21 "RoofDrains$Roof" "onPlane" "[I") (by decide +kernel)
  have fl15 := hts (.fieldLink RX1 15 "RoofDrains$Roof" "slope" "[I") (by decide +kernel)
  have fl18 := hts (.fieldLink RX1 18 "RoofDrains$Roof" "leadsTo" "[I") (by decide +kernel)
  have fl36 := hts (.fieldLink RX1 36 "RoofDrains$Roof" "inGutter" "[I") (by decide +kernel)
  refine lv_aload_n hx hb dX1_wetPlane_0 rfl (lv_at hl 0 rfl) ?_
  refine va_get (D := D) (ci := 1) (v := .ref (a 1)) (C := RX1) (T := TX1) (N := 16) hx hb hts hinX1 hown hK hP 0 rfl rfl 0 (by decide) fl9 (fun _ h9 => h9) rfl dX1_wetPlane_1 ?_
  refine lv_iload_n hx hb dX1_wetPlane_4 rfl (lv_at hl 1 rfl) ?_
  refine k_iald (k := i) (v := r 0 i) hx hb hK hP 1 0 rfl rfl hq hi (rfl) dX1_wetPlane_5 ?_
  refine lv_iload_n hx hb dX1_wetPlane_6 rfl (lv_at hl 2 rfl) ?_
  refine lv_imul hx hb dX1_wetPlane_7 ?_
  refine lv_bipush (v := 10) hx hb dX1_wetPlane_8 (by decide) ?_
  refine lv_idiv hx hb dX1_wetPlane_10 (by decide) ?_
  refine lv_topi (fun v3_1 ev3_1 => ?_)
  refine lv_istore_n (lv' := [(3, .int v3_1), (0, .ref (a 0)), (1, .int q), (2, .int x)]) hx hb dX1_wetPlane_11 rfl hl (by decide) rfl (fun ls hl => ?_)
  refine lv_aload_n hx hb dX1_wetPlane_12 rfl (lv_at hl 1 rfl) ?_
  refine lv_dup hx hb dX1_wetPlane_13 rfl ?_
  refine va_get (D := D) (ci := 1) (v := .int (r 12 2)) (C := RX1) (T := TX1) (N := 16) hx hb hts hinX1 hown hK hP 0 rfl rfl 14 (by decide) fl61 (fun _ h9 => h9) (congrArg (fun z => some (Value.int z)) (rfl)) dX1_wetPlane_14 ?_
  refine lv_iload_n hx hb dX1_wetPlane_17 rfl (lv_at hl 0 rfl) ?_
  refine lv_iadd hx hb dX1_wetPlane_18 ?_
  refine lv_topi (fun f_2 ef_2 => ?_)
  refine k_put (D := D) (ci := 1) (v := .int f_2) (ty := .int) (C := RX1) (T := TX1) (N := 16) hx hb hts hinX1 tyX1 tyX1_ok nmX1 hown hK hP hD hS 0 rfl rfl 14 (by decide) fl61 (fun _ h9 => h9) rfl (by decide +kernel) rfl rfl (Nat.le_of_ble_eq_true rfl) (ws' := cR cI a (bp r 12 2 f_2)) rfl dX1_wetPlane_19 (fun H locs hP hD hS => ?_)
  refine lv_aload_n hx hb dX1_wetPlane_22 rfl (lv_at hl 1 rfl) ?_
  refine va_get (D := D) (ci := 1) (v := .ref (a 4)) (C := RX1) (T := TX1) (N := 16) hx hb hts hinX1 hown hK hP 0 rfl rfl 3 (by decide) fl21 (fun _ h9 => h9) rfl dX1_wetPlane_23 ?_
  refine lv_iload_n hx hb dX1_wetPlane_26 rfl (lv_at hl 2 rfl) ?_
  refine lv_dup2_11 hx hb dX1_wetPlane_27 rfl rfl ?_
  refine k_iald (k := i) (v := r 3 i) hx hb hK hP 4 0 rfl rfl hq hi ((bp_rw (by decide)).trans (rfl)) dX1_wetPlane_28 ?_
  refine lv_iload_n hx hb dX1_wetPlane_29 rfl (lv_at hl 0 rfl) ?_
  refine lv_iadd hx hb dX1_wetPlane_30 ?_
  refine lv_topi (fun a_3 ea_3 => ?_)
  refine k_iast (k := i) (ws' := cR cI a (bp (bp r 12 2 f_2) 3 i a_3)) hx hb hK hP hD hS 4 0 rfl rfl hq hi rfl dX1_wetPlane_31 (fun H locs hP hD hS => ?_)
  refine lv_aload_n hx hb dX1_wetPlane_32 rfl (lv_at hl 1 rfl) ?_
  refine va_get (D := D) (ci := 1) (v := .ref (a 4)) (C := RX1) (T := TX1) (N := 16) hx hb hts hinX1 hown hK hP 0 rfl rfl 3 (by decide) fl21 (fun _ h9 => h9) rfl dX1_wetPlane_33 ?_
  refine lv_iload_n hx hb dX1_wetPlane_36 rfl (lv_at hl 2 rfl) ?_
  refine k_iald (k := i) (v := a_3) hx hb hK hP 4 0 rfl rfl hq hi (bp_eq) dX1_wetPlane_37 ?_
  refine lv_iconst (v := 5) hx hb dX1_wetPlane_38 (by decide) ?_
  refine lv_aload_n hx hb dX1_wetPlane_39 rfl (lv_at hl 1 rfl) ?_
  refine va_get (D := D) (ci := 1) (v := .ref (a 2)) (C := RX1) (T := TX1) (N := 16) hx hb hts hinX1 hown hK hP 0 rfl rfl 1 (by decide) fl15 (fun _ h9 => h9) rfl dX1_wetPlane_40 ?_
  refine lv_iload_n hx hb dX1_wetPlane_43 rfl (lv_at hl 2 rfl) ?_
  refine k_iald (k := i) (v := r 1 i) hx hb hK hP 2 0 rfl rfl hq hi ((bp_rw (by decide)).trans ((bp_rw (by decide)).trans (rfl))) dX1_wetPlane_44 ?_
  refine lv_iadd hx hb dX1_wetPlane_45 ?_
  refine lv_imul hx hb dX1_wetPlane_46 ?_
  refine lv_bipush (v := 14) hx hb dX1_wetPlane_47 (by decide) ?_
  refine lv_idiv hx hb dX1_wetPlane_49 (by decide) ?_
  refine lv_topi (fun v4_4 ev4_4 => ?_)
  refine lv_istore (lv' := [(4, .int v4_4), (3, .int v3_1), (0, .ref (a 0)), (1, .int q), (2, .int x)]) hx hb dX1_wetPlane_50 hl (by decide) rfl (fun ls hl => ?_)
  refine lv_iload hx hb dX1_wetPlane_52 (lv_at hl 0 rfl) ?_
  refine lv_if_ne (tgt := 69) hx hb dX1_wetPlane_54 (by decide) (fun c_5 => ?_) (fun c_5 => ?_)
  · skip
    refine lv_aload_n hx hb dX1_wetPlane_69 rfl (lv_at hl 2 rfl) ?_
    refine va_get (D := D) (ci := 1) (v := .ref (a 4)) (C := RX1) (T := TX1) (N := 16) hx hb hts hinX1 hown hK hP 0 rfl rfl 3 (by decide) fl21 (fun _ h9 => h9) rfl dX1_wetPlane_70 ?_
    refine lv_iload_n hx hb dX1_wetPlane_73 rfl (lv_at hl 3 rfl) ?_
    refine lv_dup2_11 hx hb dX1_wetPlane_74 rfl rfl ?_
    refine k_iald (k := i) (v := a_3) hx hb hK hP 4 0 rfl rfl hq hi (bp_eq) dX1_wetPlane_75 ?_
    refine lv_iload hx hb dX1_wetPlane_76 (lv_at hl 0 rfl) ?_
    refine lv_isub hx hb dX1_wetPlane_78 ?_
    refine lv_topi (fun a_6 ea_6 => ?_)
    refine k_iast (k := i) (ws' := cR cI a (bp (bp (bp r 12 2 f_2) 3 i a_3) 3 i a_6)) hx hb hK hP hD hS 4 0 rfl rfl hq hi rfl dX1_wetPlane_79 (fun H locs hP hD hS => ?_)
    refine lv_aload_n hx hb dX1_wetPlane_80 rfl (lv_at hl 2 rfl) ?_
    refine va_get (D := D) (ci := 1) (v := .ref (a 3)) (C := RX1) (T := TX1) (N := 16) hx hb hts hinX1 hown hK hP 0 rfl rfl 2 (by decide) fl18 (fun _ h9 => h9) rfl dX1_wetPlane_81 ?_
    refine lv_iload_n hx hb dX1_wetPlane_84 rfl (lv_at hl 3 rfl) ?_
    refine k_iald (k := i) (v := r 2 i) hx hb hK hP 3 0 rfl rfl hq hi ((bp_rw (by decide)).trans ((bp_rw (by decide)).trans ((bp_rw (by decide)).trans (rfl)))) dX1_wetPlane_85 ?_
    refine lv_topi (fun v5_7 ev5_7 => ?_)
    refine lv_istore (lv' := [(5, .int v5_7), (4, .int v4_4), (3, .int v3_1), (0, .ref (a 0)), (1, .int q), (2, .int x)]) hx hb dX1_wetPlane_86 hl (by decide) rfl (fun ls hl => ?_)
    refine lv_iload hx hb dX1_wetPlane_88 (lv_at hl 0 rfl) ?_
    refine k_calli (wc := ([] : va_W)) (w' := ([] : va_W)) (wn := cR cI a (bp (bp (bp r 12 2 f_2) 3 i a_3) 3 i a_6)) (va_runSN (As := [.int v5_7]) (rest := []) ⟨hx, hb, hml, hown, hts⟩ (mX3_isGutter l D cI cQ cJ v5_7 _) ⟨va_cnB 1 hts gX1_wetPlane_X3_isGutter_n67 rfl rfl rfl hE.1 (hts (.initialized RX3) (by decide +kernel)) (by decide +kernel) ⟨Nat.le_of_ble_eq_true rfl, Nat.le_of_ble_eq_true rfl⟩, hts (.static yX3_isGutter) (by decide +kernel), trivial⟩ (k_preS (wc := ([] : va_W)) hE hK hP hD [] (by decide) rfl [.int v5_7]) rfl rfl hl.1 rfl (lv_room (Nat.le_of_ble_eq_true rfl)) dX1_wetPlane_90 ⟨Nat.zero_le _, Nat.zero_le _⟩) hP hD hS hA [] rfl rfl rfl (fun H locs hP hD hS => ?_)
    refine lv_if_eq (tgt := 108) hx hb dX1_wetPlane_93 (by decide) (fun c_8 => ?_) (fun c_8 => ?_)
    · skip
      have e9 : (bp (bp (bp r 12 2 f_2) 3 i a_3) 3 i a_6 : rB) = wet r i x := by (replace ev5_7 := ev5_7.symm; subst ev5_7; replace ea_6 := ea_6.symm; subst ea_6; replace ev4_4 := ev4_4.symm; subst ev4_4; replace ea_3 := ea_3.symm; subst ea_3; replace ef_2 := ef_2.symm; subst ef_2; replace ev3_1 := ev3_1.symm; subst ev3_1; simp only [wet, c_5, c_8, ↓reduceIte])
      rw [e9] at hP
      exact k_vret hx hb hr hlocks hS hP dX1_wetPlane_108
    · skip
      refine lv_aload_n hx hb dX1_wetPlane_96 rfl (lv_at hl 3 rfl) ?_
      refine va_get (D := D) (ci := 1) (v := .ref (a 9)) (C := RX1) (T := TX1) (N := 16) hx hb hts hinX1 hown hK hP 0 rfl rfl 8 (by decide) fl36 (fun _ h9 => h9) rfl dX1_wetPlane_97 ?_
      refine lv_iload hx hb dX1_wetPlane_100 (lv_at hl 0 rfl) ?_
      refine lv_dup2_11 hx hb dX1_wetPlane_102 rfl rfl ?_
      refine k_iald (k := v5_7.toNatClampNeg) (v := r 8 v5_7.toNatClampNeg) hx hb hK hP 9 0 rfl rfl (zL_in (n := 6) rfl rfl c_8) rfl ((bp_rw (by decide)).trans ((bp_rw (by decide)).trans ((bp_rw (by decide)).trans (rfl)))) dX1_wetPlane_103 ?_
      refine lv_iload hx hb dX1_wetPlane_104 (lv_at hl 1 rfl) ?_
      refine lv_iadd hx hb dX1_wetPlane_106 ?_
      refine lv_topi (fun a_9 ea_9 => ?_)
      refine k_iast (k := v5_7.toNatClampNeg) (ws' := cR cI a (bp (bp (bp (bp r 12 2 f_2) 3 i a_3) 3 i a_6) 8 v5_7.toNatClampNeg a_9)) hx hb hK hP hD hS 9 0 rfl rfl (zL_in (n := 6) rfl rfl c_8) rfl rfl dX1_wetPlane_107 (fun H locs hP hD hS => ?_)
      have e9 : (bp (bp (bp (bp r 12 2 f_2) 3 i a_3) 3 i a_6) 8 v5_7.toNatClampNeg a_9 : rB) = wet r i x := by (replace ea_9 := ea_9.symm; subst ea_9; replace ev5_7 := ev5_7.symm; subst ev5_7; replace ea_6 := ea_6.symm; subst ea_6; replace ev4_4 := ev4_4.symm; subst ev4_4; replace ea_3 := ea_3.symm; subst ea_3; replace ef_2 := ef_2.symm; subst ef_2; replace ev3_1 := ev3_1.symm; subst ev3_1; simp only [wet, c_5, c_8, ↓reduceIte])
      rw [e9] at hP
      exact k_vret hx hb hr hlocks hS hP dX1_wetPlane_108
  · skip
    refine lv_aload_n hx hb dX1_wetPlane_57 rfl (lv_at hl 2 rfl) ?_
    refine va_get (D := D) (ci := 1) (v := .ref (a 4)) (C := RX1) (T := TX1) (N := 16) hx hb hts hinX1 hown hK hP 0 rfl rfl 3 (by decide) fl21 (fun _ h9 => h9) rfl dX1_wetPlane_58 ?_
    refine lv_iload_n hx hb dX1_wetPlane_61 rfl (lv_at hl 3 rfl) ?_
    refine k_iald (k := i) (v := a_3) hx hb hK hP 4 0 rfl rfl hq hi (bp_eq) dX1_wetPlane_62 ?_
    refine lv_if_le (tgt := 69) hx hb dX1_wetPlane_63 (by decide) (fun c_10 => ?_) (fun c_10 => ?_)
    · skip
      refine lv_aload_n hx hb dX1_wetPlane_69 rfl (lv_at hl 2 rfl) ?_
      refine va_get (D := D) (ci := 1) (v := .ref (a 4)) (C := RX1) (T := TX1) (N := 16) hx hb hts hinX1 hown hK hP 0 rfl rfl 3 (by decide) fl21 (fun _ h9 => h9) rfl dX1_wetPlane_70 ?_
      refine lv_iload_n hx hb dX1_wetPlane_73 rfl (lv_at hl 3 rfl) ?_
      refine lv_dup2_11 hx hb dX1_wetPlane_74 rfl rfl ?_
      refine k_iald (k := i) (v := a_3) hx hb hK hP 4 0 rfl rfl hq hi (bp_eq) dX1_wetPlane_75 ?_
      refine lv_iload hx hb dX1_wetPlane_76 (lv_at hl 0 rfl) ?_
      refine lv_isub hx hb dX1_wetPlane_78 ?_
      refine lv_topi (fun a_11 ea_11 => ?_)
      refine k_iast (k := i) (ws' := cR cI a (bp (bp (bp r 12 2 f_2) 3 i a_3) 3 i a_11)) hx hb hK hP hD hS 4 0 rfl rfl hq hi rfl dX1_wetPlane_79 (fun H locs hP hD hS => ?_)
      refine lv_aload_n hx hb dX1_wetPlane_80 rfl (lv_at hl 2 rfl) ?_
      refine va_get (D := D) (ci := 1) (v := .ref (a 3)) (C := RX1) (T := TX1) (N := 16) hx hb hts hinX1 hown hK hP 0 rfl rfl 2 (by decide) fl18 (fun _ h9 => h9) rfl dX1_wetPlane_81 ?_
      refine lv_iload_n hx hb dX1_wetPlane_84 rfl (lv_at hl 3 rfl) ?_
      refine k_iald (k := i) (v := r 2 i) hx hb hK hP 3 0 rfl rfl hq hi ((bp_rw (by decide)).trans ((bp_rw (by decide)).trans ((bp_rw (by decide)).trans (rfl)))) dX1_wetPlane_85 ?_
      refine lv_topi (fun v5_12 ev5_12 => ?_)
      refine lv_istore (lv' := [(5, .int v5_12), (4, .int v4_4), (3, .int v3_1), (0, .ref (a 0)), (1, .int q), (2, .int x)]) hx hb dX1_wetPlane_86 hl (by decide) rfl (fun ls hl => ?_)
      refine lv_iload hx hb dX1_wetPlane_88 (lv_at hl 0 rfl) ?_
      refine k_calli (wc := ([] : va_W)) (w' := ([] : va_W)) (wn := cR cI a (bp (bp (bp r 12 2 f_2) 3 i a_3) 3 i a_11)) (va_runSN (As := [.int v5_12]) (rest := []) ⟨hx, hb, hml, hown, hts⟩ (mX3_isGutter l D cI cQ cJ v5_12 _) ⟨va_cnB 1 hts gX1_wetPlane_X3_isGutter_n67 rfl rfl rfl hE.1 (hts (.initialized RX3) (by decide +kernel)) (by decide +kernel) ⟨Nat.le_of_ble_eq_true rfl, Nat.le_of_ble_eq_true rfl⟩, hts (.static yX3_isGutter) (by decide +kernel), trivial⟩ (k_preS (wc := ([] : va_W)) hE hK hP hD [] (by decide) rfl [.int v5_12]) rfl rfl hl.1 rfl (lv_room (Nat.le_of_ble_eq_true rfl)) dX1_wetPlane_90 ⟨Nat.zero_le _, Nat.zero_le _⟩) hP hD hS hA [] rfl rfl rfl (fun H locs hP hD hS => ?_)
      refine lv_if_eq (tgt := 108) hx hb dX1_wetPlane_93 (by decide) (fun c_13 => ?_) (fun c_13 => ?_)
      · skip
        have e9 : (bp (bp (bp r 12 2 f_2) 3 i a_3) 3 i a_11 : rB) = wet r i x := by (replace ev5_12 := ev5_12.symm; subst ev5_12; replace ea_11 := ea_11.symm; subst ea_11; replace ev4_4 := ev4_4.symm; subst ev4_4; replace ea_3 := ea_3.symm; subst ea_3; replace ef_2 := ef_2.symm; subst ef_2; replace ev3_1 := ev3_1.symm; subst ev3_1; simp only [wet, c_5, c_10, c_13, ↓reduceIte])
        rw [e9] at hP
        exact k_vret hx hb hr hlocks hS hP dX1_wetPlane_108
      · skip
        refine lv_aload_n hx hb dX1_wetPlane_96 rfl (lv_at hl 3 rfl) ?_
        refine va_get (D := D) (ci := 1) (v := .ref (a 9)) (C := RX1) (T := TX1) (N := 16) hx hb hts hinX1 hown hK hP 0 rfl rfl 8 (by decide) fl36 (fun _ h9 => h9) rfl dX1_wetPlane_97 ?_
        refine lv_iload hx hb dX1_wetPlane_100 (lv_at hl 0 rfl) ?_
        refine lv_dup2_11 hx hb dX1_wetPlane_102 rfl rfl ?_
        refine k_iald (k := v5_12.toNatClampNeg) (v := r 8 v5_12.toNatClampNeg) hx hb hK hP 9 0 rfl rfl (zL_in (n := 6) rfl rfl c_13) rfl ((bp_rw (by decide)).trans ((bp_rw (by decide)).trans ((bp_rw (by decide)).trans (rfl)))) dX1_wetPlane_103 ?_
        refine lv_iload hx hb dX1_wetPlane_104 (lv_at hl 1 rfl) ?_
        refine lv_iadd hx hb dX1_wetPlane_106 ?_
        refine lv_topi (fun a_14 ea_14 => ?_)
        refine k_iast (k := v5_12.toNatClampNeg) (ws' := cR cI a (bp (bp (bp (bp r 12 2 f_2) 3 i a_3) 3 i a_11) 8 v5_12.toNatClampNeg a_14)) hx hb hK hP hD hS 9 0 rfl rfl (zL_in (n := 6) rfl rfl c_13) rfl rfl dX1_wetPlane_107 (fun H locs hP hD hS => ?_)
        have e9 : (bp (bp (bp (bp r 12 2 f_2) 3 i a_3) 3 i a_11) 8 v5_12.toNatClampNeg a_14 : rB) = wet r i x := by (replace ea_14 := ea_14.symm; subst ea_14; replace ev5_12 := ev5_12.symm; subst ev5_12; replace ea_11 := ea_11.symm; subst ea_11; replace ev4_4 := ev4_4.symm; subst ev4_4; replace ea_3 := ea_3.symm; subst ea_3; replace ef_2 := ef_2.symm; subst ef_2; replace ev3_1 := ev3_1.symm; subst ev3_1; simp only [wet, c_5, c_10, c_13, ↓reduceIte])
        rw [e9] at hP
        exact k_vret hx hb hr hlocks hS hP dX1_wetPlane_108
    · skip
      refine lv_iconst (v := 1) hx hb dX1_wetPlane_66 (by decide) ?_
      refine lv_istore (lv' := [(4, .int 1), (3, .int v3_1), (0, .ref (a 0)), (1, .int q), (2, .int x)]) hx hb dX1_wetPlane_67 hl (by decide) rfl (fun ls hl => ?_)
      refine lv_aload_n hx hb dX1_wetPlane_69 rfl (lv_at hl 2 rfl) ?_
      refine va_get (D := D) (ci := 1) (v := .ref (a 4)) (C := RX1) (T := TX1) (N := 16) hx hb hts hinX1 hown hK hP 0 rfl rfl 3 (by decide) fl21 (fun _ h9 => h9) rfl dX1_wetPlane_70 ?_
      refine lv_iload_n hx hb dX1_wetPlane_73 rfl (lv_at hl 3 rfl) ?_
      refine lv_dup2_11 hx hb dX1_wetPlane_74 rfl rfl ?_
      refine k_iald (k := i) (v := a_3) hx hb hK hP 4 0 rfl rfl hq hi (bp_eq) dX1_wetPlane_75 ?_
      refine lv_iload hx hb dX1_wetPlane_76 (lv_at hl 0 rfl) ?_
      refine lv_isub hx hb dX1_wetPlane_78 ?_
      refine lv_topi (fun a_15 ea_15 => ?_)
      refine k_iast (k := i) (ws' := cR cI a (bp (bp (bp r 12 2 f_2) 3 i a_3) 3 i a_15)) hx hb hK hP hD hS 4 0 rfl rfl hq hi rfl dX1_wetPlane_79 (fun H locs hP hD hS => ?_)
      refine lv_aload_n hx hb dX1_wetPlane_80 rfl (lv_at hl 2 rfl) ?_
      refine va_get (D := D) (ci := 1) (v := .ref (a 3)) (C := RX1) (T := TX1) (N := 16) hx hb hts hinX1 hown hK hP 0 rfl rfl 2 (by decide) fl18 (fun _ h9 => h9) rfl dX1_wetPlane_81 ?_
      refine lv_iload_n hx hb dX1_wetPlane_84 rfl (lv_at hl 3 rfl) ?_
      refine k_iald (k := i) (v := r 2 i) hx hb hK hP 3 0 rfl rfl hq hi ((bp_rw (by decide)).trans ((bp_rw (by decide)).trans ((bp_rw (by decide)).trans (rfl)))) dX1_wetPlane_85 ?_
      refine lv_topi (fun v5_16 ev5_16 => ?_)
      refine lv_istore (lv' := [(5, .int v5_16), (4, .int 1), (3, .int v3_1), (0, .ref (a 0)), (1, .int q), (2, .int x)]) hx hb dX1_wetPlane_86 hl (by decide) rfl (fun ls hl => ?_)
      refine lv_iload hx hb dX1_wetPlane_88 (lv_at hl 0 rfl) ?_
      refine k_calli (wc := ([] : va_W)) (w' := ([] : va_W)) (wn := cR cI a (bp (bp (bp r 12 2 f_2) 3 i a_3) 3 i a_15)) (va_runSN (As := [.int v5_16]) (rest := []) ⟨hx, hb, hml, hown, hts⟩ (mX3_isGutter l D cI cQ cJ v5_16 _) ⟨va_cnB 1 hts gX1_wetPlane_X3_isGutter_n67 rfl rfl rfl hE.1 (hts (.initialized RX3) (by decide +kernel)) (by decide +kernel) ⟨Nat.le_of_ble_eq_true rfl, Nat.le_of_ble_eq_true rfl⟩, hts (.static yX3_isGutter) (by decide +kernel), trivial⟩ (k_preS (wc := ([] : va_W)) hE hK hP hD [] (by decide) rfl [.int v5_16]) rfl rfl hl.1 rfl (lv_room (Nat.le_of_ble_eq_true rfl)) dX1_wetPlane_90 ⟨Nat.zero_le _, Nat.zero_le _⟩) hP hD hS hA [] rfl rfl rfl (fun H locs hP hD hS => ?_)
      refine lv_if_eq (tgt := 108) hx hb dX1_wetPlane_93 (by decide) (fun c_17 => ?_) (fun c_17 => ?_)
      · skip
        have e9 : (bp (bp (bp r 12 2 f_2) 3 i a_3) 3 i a_15 : rB) = wet r i x := by (replace ev5_16 := ev5_16.symm; subst ev5_16; replace ea_15 := ea_15.symm; subst ea_15; replace ev4_4 := ev4_4.symm; subst ev4_4; replace ea_3 := ea_3.symm; subst ea_3; replace ef_2 := ef_2.symm; subst ef_2; replace ev3_1 := ev3_1.symm; subst ev3_1; simp only [wet, c_5, c_10, c_17, ↓reduceIte])
        rw [e9] at hP
        exact k_vret hx hb hr hlocks hS hP dX1_wetPlane_108
      · skip
        refine lv_aload_n hx hb dX1_wetPlane_96 rfl (lv_at hl 3 rfl) ?_
        refine va_get (D := D) (ci := 1) (v := .ref (a 9)) (C := RX1) (T := TX1) (N := 16) hx hb hts hinX1 hown hK hP 0 rfl rfl 8 (by decide) fl36 (fun _ h9 => h9) rfl dX1_wetPlane_97 ?_
        refine lv_iload hx hb dX1_wetPlane_100 (lv_at hl 0 rfl) ?_
        refine lv_dup2_11 hx hb dX1_wetPlane_102 rfl rfl ?_
        refine k_iald (k := v5_16.toNatClampNeg) (v := r 8 v5_16.toNatClampNeg) hx hb hK hP 9 0 rfl rfl (zL_in (n := 6) rfl rfl c_17) rfl ((bp_rw (by decide)).trans ((bp_rw (by decide)).trans ((bp_rw (by decide)).trans (rfl)))) dX1_wetPlane_103 ?_
        refine lv_iload hx hb dX1_wetPlane_104 (lv_at hl 1 rfl) ?_
        refine lv_iadd hx hb dX1_wetPlane_106 ?_
        refine lv_topi (fun a_18 ea_18 => ?_)
        refine k_iast (k := v5_16.toNatClampNeg) (ws' := cR cI a (bp (bp (bp (bp r 12 2 f_2) 3 i a_3) 3 i a_15) 8 v5_16.toNatClampNeg a_18)) hx hb hK hP hD hS 9 0 rfl rfl (zL_in (n := 6) rfl rfl c_17) rfl rfl dX1_wetPlane_107 (fun H locs hP hD hS => ?_)
        have e9 : (bp (bp (bp (bp r 12 2 f_2) 3 i a_3) 3 i a_15) 8 v5_16.toNatClampNeg a_18 : rB) = wet r i x := by (replace ea_18 := ea_18.symm; subst ea_18; replace ev5_16 := ev5_16.symm; subst ev5_16; replace ea_15 := ea_15.symm; subst ea_15; replace ev4_4 := ev4_4.symm; subst ev4_4; replace ea_3 := ea_3.symm; subst ea_3; replace ef_2 := ef_2.symm; subst ef_2; replace ev3_1 := ev3_1.symm; subst ev3_1; simp only [wet, c_5, c_10, c_17, ↓reduceIte])
        rw [e9] at hP
        exact k_vret hx hb hr hlocks hS hP dX1_wetPlane_108

set_option maxHeartbeats 4000000 in
set_option maxRecDepth 100000 in
theorem mX1_overflow (l : Launch) (D : va_G) (cI cQ cJ : ClassId) (a : Nat → Nat) (r : rB) (q : Int32) (i : Nat) (hq : vp_in q 6) (hi : q.toNatClampNeg = i) : Mv l D (tY cI cQ cJ) yX1_overflow wsX1_overflow ({ frames := 1, cells := 0, slots := 0, locals := 21 } : Room) [.ref (a 0), .int q] (cR cI a r) (cR cI a (ovf r i)) := by
  refine M_of (cc := cX1_overflow) (maxL := 4) (ret := none) (Qc := fun A => va_Qv (fun (_ : Unit) => True) (fun _ t => Wd D (cR cI a (ovf r i)) t) A) (by decide) rfl (Nat.le_of_ble_eq_true rfl) ?_
  intro p e s m below meth c A ls hB hE hP hK hD hA hl
  obtain ⟨hx, hb, hr, hml, hts, hown, hlocks⟩ := hB
  have hS : va_S A s.heap s.heap [] := va_S.rf
  have hl : lv_has ls 4 [(0, .ref (a 0)), (1, .int q)] := hl
  have hinX1 : ∀ w ∈ u_ws RX1 TX1 16, w ∈ wsX1_overflow := by decide +kernel
  have fl36 := hts (.fieldLink RX1 36 "RoofDrains$Roof" "inGutter" "[I") (by decide +kernel)
  have fl33 := hts (.fieldLink RX1 33 "RoofDrains$Roof" "valleyTo" "[I") (by decide +kernel)
  have fl39 := hts (.fieldLink RX1 39 "RoofDrains$Roof" "spilt" "[I") (by decide +kernel)
  refine lv_aload_n hx hb dX1_overflow_0 rfl (lv_at hl 0 rfl) ?_
  refine va_get (D := D) (ci := 1) (v := .ref (a 9)) (C := RX1) (T := TX1) (N := 16) hx hb hts hinX1 hown hK hP 0 rfl rfl 8 (by decide) fl36 (fun _ h9 => h9) rfl dX1_overflow_1 ?_
  refine lv_iload_n hx hb dX1_overflow_4 rfl (lv_at hl 1 rfl) ?_
  refine k_iald (k := i) (v := r 8 i) hx hb hK hP 9 0 rfl rfl hq hi (rfl) dX1_overflow_5 ?_
  refine lv_aload_n hx hb dX1_overflow_6 rfl (lv_at hl 0 rfl) ?_
  refine lv_iload_n hx hb dX1_overflow_7 rfl (lv_at hl 1 rfl) ?_
  refine k_calli (wc := cR cI a r) (w' := cR cI a r) (wn := cR cI a r) (va_runV (As := [.int q]) (rest := [.int (r 8 i)]) ⟨hx, hb, hml, hown, hts⟩ (mX1_room l D cI cQ cJ a r q i hq hi _) (cwV 1 hts gX1_overflow_X1_room rfl rfl rfl (by decide +kernel) ⟨Nat.le_of_ble_eq_true rfl, Nat.le_of_ble_eq_true rfl⟩) (k_preV (wc := cR cI a r) hE hK hP hD [0, 1, 2, 3, 4, 5, 6, 7, 8, 9, 10, 11, 12] (by decide) rfl (ci := 1) (q0 := 0) rfl rfl [.int q]) rfl rfl hl.1 rfl (lv_room (Nat.le_of_ble_eq_true rfl)) dX1_overflow_8 ⟨Nat.zero_le _, Nat.zero_le _⟩) hP hD hS hA [0, 1, 2, 3, 4, 5, 6, 7, 8, 9, 10, 11, 12] rfl rfl rfl (fun H locs hP hD hS => ?_)
  refine lv_isub hx hb dX1_overflow_11 ?_
  refine lv_topi (fun v2_1 ev2_1 => ?_)
  refine lv_istore_n (lv' := [(2, .int v2_1), (0, .ref (a 0)), (1, .int q)]) hx hb dX1_overflow_12 rfl hl (by decide) rfl (fun ls hl => ?_)
  refine lv_iload_n hx hb dX1_overflow_13 rfl (lv_at hl 0 rfl) ?_
  refine lv_if_gt (tgt := 18) hx hb dX1_overflow_14 (by decide) (fun c_2 => ?_) (fun c_2 => ?_)
  · skip
    refine lv_aload_n hx hb dX1_overflow_18 rfl (lv_at hl 1 rfl) ?_
    refine va_get (D := D) (ci := 1) (v := .ref (a 9)) (C := RX1) (T := TX1) (N := 16) hx hb hts hinX1 hown hK hP 0 rfl rfl 8 (by decide) fl36 (fun _ h9 => h9) rfl dX1_overflow_19 ?_
    refine lv_iload_n hx hb dX1_overflow_22 rfl (lv_at hl 2 rfl) ?_
    refine lv_dup2_11 hx hb dX1_overflow_23 rfl rfl ?_
    refine k_iald (k := i) (v := r 8 i) hx hb hK hP 9 0 rfl rfl hq hi (rfl) dX1_overflow_24 ?_
    refine lv_iload_n hx hb dX1_overflow_25 rfl (lv_at hl 0 rfl) ?_
    refine lv_isub hx hb dX1_overflow_26 ?_
    refine lv_topi (fun a_3 ea_3 => ?_)
    refine k_iast (k := i) (ws' := cR cI a (bp r 8 i a_3)) hx hb hK hP hD hS 9 0 rfl rfl hq hi rfl dX1_overflow_27 (fun H locs hP hD hS => ?_)
    refine lv_aload_n hx hb dX1_overflow_28 rfl (lv_at hl 1 rfl) ?_
    refine va_get (D := D) (ci := 1) (v := .ref (a 8)) (C := RX1) (T := TX1) (N := 16) hx hb hts hinX1 hown hK hP 0 rfl rfl 7 (by decide) fl33 (fun _ h9 => h9) rfl dX1_overflow_29 ?_
    refine lv_iload_n hx hb dX1_overflow_32 rfl (lv_at hl 2 rfl) ?_
    refine k_iald (k := i) (v := r 7 i) hx hb hK hP 8 0 rfl rfl hq hi ((bp_rw (by decide)).trans (rfl)) dX1_overflow_33 ?_
    refine lv_topi (fun v3_4 ev3_4 => ?_)
    refine lv_istore_n (lv' := [(3, .int v3_4), (2, .int v2_1), (0, .ref (a 0)), (1, .int q)]) hx hb dX1_overflow_34 rfl hl (by decide) rfl (fun ls hl => ?_)
    refine lv_iload_n hx hb dX1_overflow_35 rfl (lv_at hl 0 rfl) ?_
    refine k_calli (wc := ([] : va_W)) (w' := ([] : va_W)) (wn := cR cI a (bp r 8 i a_3)) (va_runSN (As := [.int v3_4]) (rest := []) ⟨hx, hb, hml, hown, hts⟩ (mX3_isGutter l D cI cQ cJ v3_4 _) ⟨va_cnB 1 hts gX1_overflow_X3_isGutter_n67 rfl rfl rfl hE.1 (hts (.initialized RX3) (by decide +kernel)) (by decide +kernel) ⟨Nat.le_of_ble_eq_true rfl, Nat.le_of_ble_eq_true rfl⟩, hts (.static yX3_isGutter) (by decide +kernel), trivial⟩ (k_preS (wc := ([] : va_W)) hE hK hP hD [] (by decide) rfl [.int v3_4]) rfl rfl hl.1 rfl (lv_room (Nat.le_of_ble_eq_true rfl)) dX1_overflow_36 ⟨Nat.zero_le _, Nat.zero_le _⟩) hP hD hS hA [] rfl rfl rfl (fun H locs hP hD hS => ?_)
    refine lv_if_eq (tgt := 55) hx hb dX1_overflow_39 (by decide) (fun c_5 => ?_) (fun c_5 => ?_)
    · skip
      refine lv_aload_n hx hb dX1_overflow_55 rfl (lv_at hl 2 rfl) ?_
      refine va_get (D := D) (ci := 1) (v := .ref (a 10)) (C := RX1) (T := TX1) (N := 16) hx hb hts hinX1 hown hK hP 0 rfl rfl 9 (by decide) fl39 (fun _ h9 => h9) rfl dX1_overflow_56 ?_
      refine lv_iload_n hx hb dX1_overflow_59 rfl (lv_at hl 3 rfl) ?_
      refine lv_dup2_11 hx hb dX1_overflow_60 rfl rfl ?_
      refine k_iald (k := i) (v := r 9 i) hx hb hK hP 10 0 rfl rfl hq hi ((bp_rw (by decide)).trans (rfl)) dX1_overflow_61 ?_
      refine lv_iload_n hx hb dX1_overflow_62 rfl (lv_at hl 1 rfl) ?_
      refine lv_iadd hx hb dX1_overflow_63 ?_
      refine lv_topi (fun a_6 ea_6 => ?_)
      refine k_iast (k := i) (ws' := cR cI a (bp (bp r 8 i a_3) 9 i a_6)) hx hb hK hP hD hS 10 0 rfl rfl hq hi rfl dX1_overflow_64 (fun H locs hP hD hS => ?_)
      have e9 : (bp (bp r 8 i a_3) 9 i a_6 : rB) = ovf r i := by (replace ea_6 := ea_6.symm; subst ea_6; replace ev3_4 := ev3_4.symm; subst ev3_4; replace ea_3 := ea_3.symm; subst ea_3; replace ev2_1 := ev2_1.symm; subst ev2_1; simp only [ovf, c_2, c_5, ↓reduceIte])
      rw [e9] at hP
      exact k_vret hx hb hr hlocks hS hP dX1_overflow_65
    · skip
      refine lv_aload_n hx hb dX1_overflow_42 rfl (lv_at hl 2 rfl) ?_
      refine va_get (D := D) (ci := 1) (v := .ref (a 9)) (C := RX1) (T := TX1) (N := 16) hx hb hts hinX1 hown hK hP 0 rfl rfl 8 (by decide) fl36 (fun _ h9 => h9) rfl dX1_overflow_43 ?_
      refine lv_iload_n hx hb dX1_overflow_46 rfl (lv_at hl 0 rfl) ?_
      refine lv_dup2_11 hx hb dX1_overflow_47 rfl rfl ?_
      refine k_iald (k := v3_4.toNatClampNeg) (v := (bp r 8 i a_3) 8 v3_4.toNatClampNeg) hx hb hK hP 9 0 rfl rfl (zL_in (n := 6) rfl rfl c_5) rfl (rfl) dX1_overflow_48 ?_
      refine lv_iload_n hx hb dX1_overflow_49 rfl (lv_at hl 1 rfl) ?_
      refine lv_iadd hx hb dX1_overflow_50 ?_
      refine lv_topi (fun a_7 ea_7 => ?_)
      refine k_iast (k := v3_4.toNatClampNeg) (ws' := cR cI a (bp (bp r 8 i a_3) 8 v3_4.toNatClampNeg a_7)) hx hb hK hP hD hS 9 0 rfl rfl (zL_in (n := 6) rfl rfl c_5) rfl rfl dX1_overflow_51 (fun H locs hP hD hS => ?_)
      refine lv_goto (tgt := 65) hx hb dX1_overflow_52 (by decide) ?_
      have e9 : (bp (bp r 8 i a_3) 8 v3_4.toNatClampNeg a_7 : rB) = ovf r i := by (replace ea_7 := ea_7.symm; subst ea_7; replace ev3_4 := ev3_4.symm; subst ev3_4; replace ea_3 := ea_3.symm; subst ea_3; replace ev2_1 := ev2_1.symm; subst ev2_1; simp only [ovf, c_2, c_5, ↓reduceIte])
      rw [e9] at hP
      exact k_vret hx hb hr hlocks hS hP dX1_overflow_65
  · skip
    have e9 : (r : rB) = ovf r i := by (replace ev2_1 := ev2_1.symm; subst ev2_1; simp only [ovf, c_2, ↓reduceIte])
    rw [e9] at hP
    exact k_vret hx hb hr hlocks hS hP dX1_overflow_17

set_option maxHeartbeats 4000000 in
set_option maxRecDepth 100000 in
theorem mX1_emptyIntoDrain (l : Launch) (D : va_G) (cI cQ cJ : ClassId) (a : Nat → Nat) (r : rB)  : Mv l D (tY cI cQ cJ) yX1_emptyIntoDrain wsX1_emptyIntoDrain ({ frames := 1, cells := 0, slots := 0, locals := 22 } : Room) [.ref (a 0)] (cR cI a r) (cR cI a (emptyD r)) := by
  refine M_of (cc := cX1_emptyIntoDrain) (maxL := 6) (ret := none) (Qc := fun A => va_Qv (fun (_ : Unit) => True) (fun _ t => Wd D (cR cI a (emptyD r)) t) A) (by decide) rfl (Nat.le_of_ble_eq_true rfl) ?_
  intro p e s m below meth c A ls hB hE hP hK hD hA hl
  obtain ⟨hx, hb, hr, hml, hts, hown, hlocks⟩ := hB
  have hS : va_S A s.heap s.heap [] := va_S.rf
  have hl : lv_has ls 6 [(0, .ref (a 0))] := hl
  have hinX1 : ∀ w ∈ u_ws RX1 TX1 16, w ∈ wsX1_emptyIntoDrain := by decide +kernel
  have fl45 := hts (.fieldLink RX1 45 "RoofDrains$Roof" "values" "[I") (by decide +kernel)
  have fl64 := hts (.fieldLink RX1 64 "RoofDrains$Roof" "backedUp" "I") (by decide +kernel)
  have fl36 := hts (.fieldLink RX1 36 "RoofDrains$Roof" "inGutter" "[I") (by decide +kernel)
  have mm1 := hts (.methodLink RX1 85 Lib.Math.min.name) (by decide +kernel)
  have mm2 := hts (.static Lib.Math.min.name) (by decide +kernel)
  have mm3 := hts (.initialized "java/lang/Math") (by decide +kernel)
  have mm4 := hts (.code Lib.Math.min.name Lib.Math.min.code 2 (some .int)) (by decide +kernel)
  have fl42 := hts (.fieldLink RX1 42 "RoofDrains$Roof" "drained" "[I") (by decide +kernel)
  refine lv_aload_n hx hb dX1_emptyIntoDrain_0 rfl (lv_at hl 0 rfl) ?_
  refine va_get (D := D) (ci := 1) (v := .ref (a 12)) (C := RX1) (T := TX1) (N := 16) hx hb hts hinX1 hown hK hP 0 rfl rfl 11 (by decide) fl45 (fun _ h9 => h9) rfl dX1_emptyIntoDrain_1 ?_
  refine lv_iconst (v := 0) hx hb dX1_emptyIntoDrain_4 (by decide) ?_
  refine k_iald (k := 0) (v := r 11 0) hx hb hK hP 12 0 rfl rfl (vp_in_nI (n := 0) (by omega) (by omega)) (nI_clamp (n := 0) (by omega)) (rfl) dX1_emptyIntoDrain_5 ?_
  refine lv_topi (fun v1_1 ev1_1 => ?_)
  refine lv_istore_n (lv' := [(1, .int v1_1), (0, .ref (a 0))]) hx hb dX1_emptyIntoDrain_6 rfl hl (by decide) rfl (fun ls hl => ?_)
  refine lv_iconst (v := 0) hx hb dX1_emptyIntoDrain_7 (by decide) ?_
  refine lv_istore_n (lv' := [(2, .int 0), (1, .int v1_1), (0, .ref (a 0))]) hx hb dX1_emptyIntoDrain_8 rfl hl (by decide) rfl (fun ls hl => ?_)
  refine lv_iconst (v := 0) hx hb dX1_emptyIntoDrain_9 (by decide) ?_
  refine lv_istore_n (lv' := [(3, .int 0), (2, .int 0), (1, .int v1_1), (0, .ref (a 0))]) hx hb dX1_emptyIntoDrain_10 rfl hl (by decide) rfl (fun ls hl => ?_)
  have Lp11 : ∀ (n i : Nat) (r1 : rB) (lf : Int32) (b : Int32), i + n = 6 → drL n i r1 lf b = drL 6 0 r v1_1 0 → ∀ (H : Heap) (locs : List Loc), va_P D vwCl (cR cI a r1) H → va_D A (cR cI a r1) → va_S A s.heap H locs → ∀ (ls : Array Slot), lv_has ls 6 [(3, .int (nI i)), (2, .int b), (1, .int lf), (0, .ref (a 0))] → W p l e ({ frames := 1, cells := 0, slots := 0, locals := 22 } : Room) s m ([.ref (a 0)] : List Value).toArray below meth c H locs 0 0 (MQ below (va_Qv (fun (_ : Unit) => True) (fun _ t => Wd D (cR cI a (emptyD r)) t) A) ([.ref (a 0)] : List Value).toArray s 0 0 A) (F0 m 11 ls []) := by
    intro n
    induction n with
    | zero =>
      intro i r1 lf b hin hres H locs hP hD hS ls hl
      have h9r1 : r1 = (drL 6 0 r v1_1 0).1 := congrArg Prod.fst hres
      have h9b : b = (drL 6 0 r v1_1 0).2 := congrArg Prod.snd hres
      refine lv_iload_n hx hb dX1_emptyIntoDrain_11 rfl (lv_at hl 0 rfl) ?_
      refine lv_bipush (v := 6) hx hb dX1_emptyIntoDrain_12 (by decide) ?_
      refine lv_icmp_ge (tgt := 91) hx hb dX1_emptyIntoDrain_14 (by decide) (fun _ => ?_) (fun h9 => absurd (nI_le (a := 6) (b := i) (by omega) (by omega)) h9)
      refine lv_iload_n hx hb dX1_emptyIntoDrain_91 rfl (lv_at hl 1 rfl) ?_
      refine lv_if_eq (tgt := 105) hx hb dX1_emptyIntoDrain_92 (by decide) (fun c_2 => ?_) (fun c_2 => ?_)
      · skip
        have e9 : (r1 : rB) = emptyD r := by (replace h9b := h9b.symm; subst h9b; replace h9r1 := h9r1.symm; subst h9r1; replace ev1_1 := ev1_1.symm; subst ev1_1; simp only [emptyD, c_2, ↓reduceIte])
        rw [e9] at hP
        exact k_vret hx hb hr hlocks hS hP dX1_emptyIntoDrain_105
      · skip
        refine lv_aload_n hx hb dX1_emptyIntoDrain_95 rfl (lv_at hl 3 rfl) ?_
        refine lv_dup hx hb dX1_emptyIntoDrain_96 rfl ?_
        refine va_get (D := D) (ci := 1) (v := .int (r1 12 3)) (C := RX1) (T := TX1) (N := 16) hx hb hts hinX1 hown hK hP 0 rfl rfl 15 (by decide) fl64 (fun _ h9 => h9) (congrArg (fun z => some (Value.int z)) (rfl)) dX1_emptyIntoDrain_97 ?_
        refine lv_iconst (v := 1) hx hb dX1_emptyIntoDrain_100 (by decide) ?_
        refine lv_iadd hx hb dX1_emptyIntoDrain_101 ?_
        refine lv_topi (fun f_3 ef_3 => ?_)
        refine k_put (D := D) (ci := 1) (v := .int f_3) (ty := .int) (C := RX1) (T := TX1) (N := 16) hx hb hts hinX1 tyX1 tyX1_ok nmX1 hown hK hP hD hS 0 rfl rfl 15 (by decide) fl64 (fun _ h9 => h9) rfl (by decide +kernel) rfl rfl (Nat.le_of_ble_eq_true rfl) (ws' := cR cI a (bp r1 12 3 f_3)) rfl dX1_emptyIntoDrain_102 (fun H locs hP hD hS => ?_)
        have e9 : (bp r1 12 3 f_3 : rB) = emptyD r := by (replace ef_3 := ef_3.symm; subst ef_3; replace h9b := h9b.symm; subst h9b; replace h9r1 := h9r1.symm; subst h9r1; replace ev1_1 := ev1_1.symm; subst ev1_1; simp only [emptyD, c_2, ↓reduceIte])
        rw [e9] at hP
        exact k_vret hx hb hr hlocks hS hP dX1_emptyIntoDrain_105
    | succ n ih =>
      intro i r1 lf b hin hres H locs hP hD hS ls hl
      refine lv_iload_n hx hb dX1_emptyIntoDrain_11 rfl (lv_at hl 0 rfl) ?_
      refine lv_bipush (v := 6) hx hb dX1_emptyIntoDrain_12 (by decide) ?_
      refine lv_icmp_ge (tgt := 91) hx hb dX1_emptyIntoDrain_14 (by decide) (fun h9 => absurd h9 (nI_ge (a := i) (b := 6) (by omega) (by omega))) (fun _ => ?_)
      refine lv_aload_n hx hb dX1_emptyIntoDrain_17 rfl (lv_at hl 3 rfl) ?_
      refine lv_iload_n hx hb dX1_emptyIntoDrain_18 rfl (lv_at hl 0 rfl) ?_
      refine k_calli (wc := cR cI a r1) (w' := cR cI a r1) (wn := cR cI a r1) (va_runV (As := [.int (nI i)]) (rest := []) ⟨hx, hb, hml, hown, hts⟩ (mX1_pipeTakes l D cI cQ cJ a r1 (nI i) i (vp_in_nI (n := i) (by omega) (by omega)) (nI_clamp (n := i) (by omega)) _) (cwV 1 hts gX1_emptyIntoDrain_X1_pipeTakes rfl rfl rfl (by decide +kernel) ⟨Nat.le_of_ble_eq_true rfl, Nat.le_of_ble_eq_true rfl⟩) (k_preV (wc := cR cI a r1) hE hK hP hD [0, 1, 2, 3, 4, 5, 6, 7, 8, 9, 10, 11, 12] (by decide) rfl (ci := 1) (q0 := 0) rfl rfl [.int (nI i)]) rfl rfl hl.1 rfl (lv_room (Nat.le_of_ble_eq_true rfl)) dX1_emptyIntoDrain_19 ⟨Nat.zero_le _, Nat.zero_le _⟩) hP hD hS hA [0, 1, 2, 3, 4, 5, 6, 7, 8, 9, 10, 11, 12] rfl rfl rfl (fun H locs hP hD hS => ?_)
      refine lv_aload_n hx hb dX1_emptyIntoDrain_22 rfl (lv_at hl 3 rfl) ?_
      refine va_get (D := D) (ci := 1) (v := .ref (a 9)) (C := RX1) (T := TX1) (N := 16) hx hb hts hinX1 hown hK hP 0 rfl rfl 8 (by decide) fl36 (fun _ h9 => h9) rfl dX1_emptyIntoDrain_23 ?_
      refine lv_iload_n hx hb dX1_emptyIntoDrain_26 rfl (lv_at hl 0 rfl) ?_
      refine k_iald (k := i) (v := r1 8 i) hx hb hK hP 9 0 rfl rfl (vp_in_nI (n := i) (by omega) (by omega)) (nI_clamp (n := i) (by omega)) (rfl) dX1_emptyIntoDrain_27 ?_
      refine va_mmin hx hb (hml.trans hl.1.symm) hown mm1 mm2 mm3 mm4 (Nat.le_of_ble_eq_true rfl) (Nat.le_of_ble_eq_true rfl) (Nat.zero_le _) (Nat.zero_le _) dX1_emptyIntoDrain_28 ?_
      refine lv_eqi (y := mn (pipeT r1 i) (r1 8 i)) rfl ?_
      refine lv_topi (fun mn_4 emn_4 => ?_)
      refine lv_istore (lv' := [(4, .int mn_4), (3, .int (nI i)), (2, .int b), (1, .int lf), (0, .ref (a 0))]) hx hb dX1_emptyIntoDrain_31 hl (by decide) rfl (fun ls hl => ?_)
      refine lv_iload hx hb dX1_emptyIntoDrain_33 (lv_at hl 0 rfl) ?_
      refine lv_iload_n hx hb dX1_emptyIntoDrain_35 rfl (lv_at hl 3 rfl) ?_
      refine va_mmin hx hb (hml.trans hl.1.symm) hown mm1 mm2 mm3 mm4 (Nat.le_of_ble_eq_true rfl) (Nat.le_of_ble_eq_true rfl) (Nat.zero_le _) (Nat.zero_le _) dX1_emptyIntoDrain_36 ?_
      refine lv_eqi (y := mn mn_4 lf) rfl ?_
      refine lv_topi (fun mn_5 emn_5 => ?_)
      refine lv_istore (lv' := [(5, .int mn_5), (4, .int mn_4), (3, .int (nI i)), (2, .int b), (1, .int lf), (0, .ref (a 0))]) hx hb dX1_emptyIntoDrain_39 hl (by decide) rfl (fun ls hl => ?_)
      refine lv_aload_n hx hb dX1_emptyIntoDrain_41 rfl (lv_at hl 5 rfl) ?_
      refine va_get (D := D) (ci := 1) (v := .ref (a 9)) (C := RX1) (T := TX1) (N := 16) hx hb hts hinX1 hown hK hP 0 rfl rfl 8 (by decide) fl36 (fun _ h9 => h9) rfl dX1_emptyIntoDrain_42 ?_
      refine lv_iload_n hx hb dX1_emptyIntoDrain_45 rfl (lv_at hl 2 rfl) ?_
      refine lv_dup2_11 hx hb dX1_emptyIntoDrain_46 rfl rfl ?_
      refine k_iald (k := i) (v := r1 8 i) hx hb hK hP 9 0 rfl rfl (vp_in_nI (n := i) (by omega) (by omega)) (nI_clamp (n := i) (by omega)) (rfl) dX1_emptyIntoDrain_47 ?_
      refine lv_iload hx hb dX1_emptyIntoDrain_48 (lv_at hl 0 rfl) ?_
      refine lv_isub hx hb dX1_emptyIntoDrain_50 ?_
      refine lv_topi (fun a_6 ea_6 => ?_)
      refine k_iast (k := i) (ws' := cR cI a (bp r1 8 i a_6)) hx hb hK hP hD hS 9 0 rfl rfl (vp_in_nI (n := i) (by omega) (by omega)) (nI_clamp (n := i) (by omega)) rfl dX1_emptyIntoDrain_51 (fun H locs hP hD hS => ?_)
      refine lv_aload_n hx hb dX1_emptyIntoDrain_52 rfl (lv_at hl 5 rfl) ?_
      refine va_get (D := D) (ci := 1) (v := .ref (a 11)) (C := RX1) (T := TX1) (N := 16) hx hb hts hinX1 hown hK hP 0 rfl rfl 10 (by decide) fl42 (fun _ h9 => h9) rfl dX1_emptyIntoDrain_53 ?_
      refine lv_iload_n hx hb dX1_emptyIntoDrain_56 rfl (lv_at hl 2 rfl) ?_
      refine lv_dup2_11 hx hb dX1_emptyIntoDrain_57 rfl rfl ?_
      refine k_iald (k := i) (v := r1 10 i) hx hb hK hP 11 0 rfl rfl (vp_in_nI (n := i) (by omega) (by omega)) (nI_clamp (n := i) (by omega)) ((bp_rw (by decide)).trans (rfl)) dX1_emptyIntoDrain_58 ?_
      refine lv_iload hx hb dX1_emptyIntoDrain_59 (lv_at hl 0 rfl) ?_
      refine lv_iadd hx hb dX1_emptyIntoDrain_61 ?_
      refine lv_topi (fun a_7 ea_7 => ?_)
      refine k_iast (k := i) (ws' := cR cI a (bp (bp r1 8 i a_6) 10 i a_7)) hx hb hK hP hD hS 11 0 rfl rfl (vp_in_nI (n := i) (by omega) (by omega)) (nI_clamp (n := i) (by omega)) rfl dX1_emptyIntoDrain_62 (fun H locs hP hD hS => ?_)
      refine lv_iload_n hx hb dX1_emptyIntoDrain_63 rfl (lv_at hl 4 rfl) ?_
      refine lv_iload hx hb dX1_emptyIntoDrain_64 (lv_at hl 0 rfl) ?_
      refine lv_isub hx hb dX1_emptyIntoDrain_66 ?_
      refine lv_topi (fun v1_8 ev1_8 => ?_)
      refine lv_istore_n (lv' := [(1, .int v1_8), (5, .int mn_5), (4, .int mn_4), (3, .int (nI i)), (2, .int b), (0, .ref (a 0))]) hx hb dX1_emptyIntoDrain_67 rfl hl (by decide) rfl (fun ls hl => ?_)
      refine lv_iload_n hx hb dX1_emptyIntoDrain_68 rfl (lv_at hl 4 rfl) ?_
      refine lv_if_ne (tgt := 79) hx hb dX1_emptyIntoDrain_69 (by decide) (fun c_9 => ?_) (fun c_9 => ?_)
      · skip
        refine lv_iconst (v := 1) hx hb dX1_emptyIntoDrain_79 (by decide) ?_
        refine lv_goto (tgt := 84) hx hb dX1_emptyIntoDrain_80 (by decide) ?_
        refine lv_istore_n (lv' := [(2, .int 1), (1, .int v1_8), (5, .int mn_5), (4, .int mn_4), (3, .int (nI i)), (0, .ref (a 0))]) hx hb dX1_emptyIntoDrain_84 rfl hl (by decide) rfl (fun ls hl => ?_)
        refine lv_iinc (v := nI (i + 1)) (lv' := [(3, .int (nI (i + 1))), (2, .int 1), (1, .int v1_8), (5, .int mn_5), (4, .int mn_4), (0, .ref (a 0))]) hx hb dX1_emptyIntoDrain_85 hl (k := 4) rfl (nI_1 i) (by decide) rfl (fun ls hl => ?_)
        refine lv_goto (tgt := 11) hx hb dX1_emptyIntoDrain_88 (by decide) ?_
        exact ih (i + 1) (bp (bp r1 8 i a_6) 10 i a_7) v1_8 1 (by omega) (by replace ev1_8 := ev1_8.symm; subst ev1_8; replace ea_7 := ea_7.symm; subst ea_7; replace ea_6 := ea_6.symm; subst ea_6; replace emn_5 := emn_5.symm; subst emn_5; replace emn_4 := emn_4.symm; subst emn_4; replace ev1_1 := ev1_1.symm; subst ev1_1; rw [← hres]; simp only [drL, drStep, drS, drW, c_9, ↓reduceIte]) H locs hP hD hS ls (lv_sub hl [0, 1, 2, 5] rfl)
      · skip
        refine lv_iload hx hb dX1_emptyIntoDrain_72 (lv_at hl 1 rfl) ?_
        refine lv_iload hx hb dX1_emptyIntoDrain_74 (lv_at hl 2 rfl) ?_
        refine lv_icmp_ge (tgt := 83) hx hb dX1_emptyIntoDrain_76 (by decide) (fun c_10 => ?_) (fun c_10 => ?_)
        · skip
          refine lv_iconst (v := 0) hx hb dX1_emptyIntoDrain_83 (by decide) ?_
          refine lv_istore_n (lv' := [(2, .int 0), (1, .int v1_8), (5, .int mn_5), (4, .int mn_4), (3, .int (nI i)), (0, .ref (a 0))]) hx hb dX1_emptyIntoDrain_84 rfl hl (by decide) rfl (fun ls hl => ?_)
          refine lv_iinc (v := nI (i + 1)) (lv' := [(3, .int (nI (i + 1))), (2, .int 0), (1, .int v1_8), (5, .int mn_5), (4, .int mn_4), (0, .ref (a 0))]) hx hb dX1_emptyIntoDrain_85 hl (k := 4) rfl (nI_1 i) (by decide) rfl (fun ls hl => ?_)
          refine lv_goto (tgt := 11) hx hb dX1_emptyIntoDrain_88 (by decide) ?_
          exact ih (i + 1) (bp (bp r1 8 i a_6) 10 i a_7) v1_8 0 (by omega) (by replace ev1_8 := ev1_8.symm; subst ev1_8; replace ea_7 := ea_7.symm; subst ea_7; replace ea_6 := ea_6.symm; subst ea_6; replace emn_5 := emn_5.symm; subst emn_5; replace emn_4 := emn_4.symm; subst emn_4; replace ev1_1 := ev1_1.symm; subst ev1_1; rw [← hres]; simp only [drL, drStep, drS, drW, c_9, c_10, ↓reduceIte]) H locs hP hD hS ls (lv_sub hl [0, 1, 2, 5] rfl)
        · skip
          refine lv_iconst (v := 1) hx hb dX1_emptyIntoDrain_79 (by decide) ?_
          refine lv_goto (tgt := 84) hx hb dX1_emptyIntoDrain_80 (by decide) ?_
          refine lv_istore_n (lv' := [(2, .int 1), (1, .int v1_8), (5, .int mn_5), (4, .int mn_4), (3, .int (nI i)), (0, .ref (a 0))]) hx hb dX1_emptyIntoDrain_84 rfl hl (by decide) rfl (fun ls hl => ?_)
          refine lv_iinc (v := nI (i + 1)) (lv' := [(3, .int (nI (i + 1))), (2, .int 1), (1, .int v1_8), (5, .int mn_5), (4, .int mn_4), (0, .ref (a 0))]) hx hb dX1_emptyIntoDrain_85 hl (k := 4) rfl (nI_1 i) (by decide) rfl (fun ls hl => ?_)
          refine lv_goto (tgt := 11) hx hb dX1_emptyIntoDrain_88 (by decide) ?_
          exact ih (i + 1) (bp (bp r1 8 i a_6) 10 i a_7) v1_8 1 (by omega) (by replace ev1_8 := ev1_8.symm; subst ev1_8; replace ea_7 := ea_7.symm; subst ea_7; replace ea_6 := ea_6.symm; subst ea_6; replace emn_5 := emn_5.symm; subst emn_5; replace emn_4 := emn_4.symm; subst emn_4; replace ev1_1 := ev1_1.symm; subst ev1_1; rw [← hres]; simp only [drL, drStep, drS, drW, c_9, c_10, ↓reduceIte]) H locs hP hD hS ls (lv_sub hl [0, 1, 2, 5] rfl)
  exact Lp11 6 0 r v1_1 0 (by omega) rfl _ _ hP hD hS ls (lv_sub hl [0, 1, 2, 3] rfl)

set_option maxHeartbeats 4000000 in
set_option maxRecDepth 100000 in
theorem mX1_passMinute (l : Launch) (D : va_G) (cI cQ cJ : ClassId) (a : Nat → Nat) (r : rB) (x : Int32) : Mv l D (tY cI cQ cJ) yX1_passMinute wsX1_passMinute ({ frames := 2, cells := 0, slots := 0, locals := 47 } : Room) [.ref (a 0), .int x] (cR cI a r) (cR cI a (minuteC r x)) := by
  refine M_of (cc := cX1_passMinute) (maxL := 3) (ret := none) (Qc := fun A => va_Qv (fun (_ : Unit) => True) (fun _ t => Wd D (cR cI a (minuteC r x)) t) A) (by decide) rfl (Nat.le_of_ble_eq_true rfl) ?_
  intro p e s m below meth c A ls hB hE hP hK hD hA hl
  obtain ⟨hx, hb, hr, hml, hts, hown, hlocks⟩ := hB
  have hS : va_S A s.heap s.heap [] := va_S.rf
  have hl : lv_has ls 3 [(0, .ref (a 0)), (1, .int x)] := hl
  have hinX1 : ∀ w ∈ u_ws RX1 TX1 16, w ∈ wsX1_passMinute := by decide +kernel
  have fl54 := hts (.fieldLink RX1 54 "RoofDrains$Roof" "minutesGone" "I") (by decide +kernel)
  refine lv_iconst (v := 0) hx hb dX1_passMinute_0 (by decide) ?_
  refine lv_istore_n (lv' := [(2, .int 0), (0, .ref (a 0)), (1, .int x)]) hx hb dX1_passMinute_1 rfl hl (by decide) rfl (fun ls hl => ?_)
  have Lp2 : ∀ (n i : Nat) (r1 : rB), i + n = 6 → wetAll n i r1 x = wetAll 6 0 r x → ∀ (H : Heap) (locs : List Loc), va_P D vwCl (cR cI a r1) H → va_D A (cR cI a r1) → va_S A s.heap H locs → ∀ (ls : Array Slot), lv_has ls 3 [(2, .int (nI i)), (0, .ref (a 0)), (1, .int x)] → W p l e ({ frames := 2, cells := 0, slots := 0, locals := 47 } : Room) s m ([.ref (a 0), .int x] : List Value).toArray below meth c H locs 0 0 (MQ below (va_Qv (fun (_ : Unit) => True) (fun _ t => Wd D (cR cI a (minuteC r x)) t) A) ([.ref (a 0), .int x] : List Value).toArray s 0 0 A) (F0 m 2 ls []) := by
    intro n
    induction n with
    | zero =>
      intro i r1 hin hres H locs hP hD hS ls hl
      have h9r1 : r1 = wetAll 6 0 r x := hres
      refine lv_iload_n hx hb dX1_passMinute_2 rfl (lv_at hl 0 rfl) ?_
      refine lv_bipush (v := 6) hx hb dX1_passMinute_3 (by decide) ?_
      refine lv_icmp_ge (tgt := 20) hx hb dX1_passMinute_5 (by decide) (fun _ => ?_) (fun h9 => absurd (nI_le (a := 6) (b := i) (by omega) (by omega)) h9)
      refine lv_aload_n hx hb dX1_passMinute_20 rfl (lv_at hl 1 rfl) ?_
      obtain ⟨r_1, er_1⟩ : ∃ z : rB, z = emptyD r1 := ⟨_, rfl⟩
      have hm_2 := mX1_emptyIntoDrain l D cI cQ cJ a r1
      rw [← er_1] at hm_2
      refine k_callv (wc := cR cI a r1) (w' := cR cI a r_1) (wn := cR cI a r_1) (va_runV (As := []) (rest := []) ⟨hx, hb, hml, hown, hts⟩ (hm_2 _) (cwV 0 hts gX1_passMinute_X1_emptyIntoDrain rfl rfl rfl (by decide +kernel) ⟨Nat.le_of_ble_eq_true rfl, Nat.le_of_ble_eq_true rfl⟩) (k_preV (wc := cR cI a r1) hE hK hP hD [0, 1, 2, 3, 4, 5, 6, 7, 8, 9, 10, 11, 12] (by decide) rfl (ci := 1) (q0 := 0) rfl rfl []) rfl rfl hl.1 rfl (lv_room (Nat.le_of_ble_eq_true rfl)) dX1_passMinute_21 ⟨Nat.zero_le _, Nat.zero_le _⟩) hP hD hS hA [0, 1, 2, 3, 4, 5, 6, 7, 8, 9, 10, 11, 12] rfl rfl rfl (fun H locs hP hD hS => ?_)
      refine lv_iconst (v := 0) hx hb dX1_passMinute_24 (by decide) ?_
      refine lv_istore_n (lv' := [(2, .int 0), (0, .ref (a 0)), (1, .int x)]) hx hb dX1_passMinute_25 rfl hl (by decide) rfl (fun ls hl => ?_)
      have Lp26 : ∀ (n i : Nat) (r2 : rB), i + n = 6 → ovfAll n i r2 = ovfAll 6 0 r_1 → ∀ (H : Heap) (locs : List Loc), va_P D vwCl (cR cI a r2) H → va_D A (cR cI a r2) → va_S A s.heap H locs → ∀ (ls : Array Slot), lv_has ls 3 [(2, .int (nI i)), (0, .ref (a 0)), (1, .int x)] → W p l e ({ frames := 2, cells := 0, slots := 0, locals := 47 } : Room) s m ([.ref (a 0), .int x] : List Value).toArray below meth c H locs 0 0 (MQ below (va_Qv (fun (_ : Unit) => True) (fun _ t => Wd D (cR cI a (minuteC r x)) t) A) ([.ref (a 0), .int x] : List Value).toArray s 0 0 A) (F0 m 26 ls []) := by
        intro n
        induction n with
        | zero =>
          intro i r2 hin hres H locs hP hD hS ls hl
          have h9r2 : r2 = ovfAll 6 0 r_1 := hres
          refine lv_iload_n hx hb dX1_passMinute_26 rfl (lv_at hl 0 rfl) ?_
          refine lv_bipush (v := 6) hx hb dX1_passMinute_27 (by decide) ?_
          refine lv_icmp_ge (tgt := 43) hx hb dX1_passMinute_29 (by decide) (fun _ => ?_) (fun h9 => absurd (nI_le (a := 6) (b := i) (by omega) (by omega)) h9)
          refine lv_aload_n hx hb dX1_passMinute_43 rfl (lv_at hl 1 rfl) ?_
          refine lv_dup hx hb dX1_passMinute_44 rfl ?_
          refine va_get (D := D) (ci := 1) (v := .int (r2 12 0)) (C := RX1) (T := TX1) (N := 16) hx hb hts hinX1 hown hK hP 0 rfl rfl 12 (by decide) fl54 (fun _ h9 => h9) (congrArg (fun z => some (Value.int z)) (rfl)) dX1_passMinute_45 ?_
          refine lv_iconst (v := 1) hx hb dX1_passMinute_48 (by decide) ?_
          refine lv_iadd hx hb dX1_passMinute_49 ?_
          refine lv_topi (fun f_3 ef_3 => ?_)
          refine k_put (D := D) (ci := 1) (v := .int f_3) (ty := .int) (C := RX1) (T := TX1) (N := 16) hx hb hts hinX1 tyX1 tyX1_ok nmX1 hown hK hP hD hS 0 rfl rfl 12 (by decide) fl54 (fun _ h9 => h9) rfl (by decide +kernel) rfl rfl (Nat.le_of_ble_eq_true rfl) (ws' := cR cI a (bp r2 12 0 f_3)) rfl dX1_passMinute_50 (fun H locs hP hD hS => ?_)
          have e9 : (bp r2 12 0 f_3 : rB) = minuteC r x := by (replace ef_3 := ef_3.symm; subst ef_3; replace h9r2 := h9r2.symm; subst h9r2; replace er_1 := er_1.symm; subst er_1; replace h9r1 := h9r1.symm; subst h9r1; simp only [minuteC, ↓reduceIte])
          rw [e9] at hP
          exact k_vret hx hb hr hlocks hS hP dX1_passMinute_53
        | succ n ih =>
          intro i r2 hin hres H locs hP hD hS ls hl
          refine lv_iload_n hx hb dX1_passMinute_26 rfl (lv_at hl 0 rfl) ?_
          refine lv_bipush (v := 6) hx hb dX1_passMinute_27 (by decide) ?_
          refine lv_icmp_ge (tgt := 43) hx hb dX1_passMinute_29 (by decide) (fun h9 => absurd h9 (nI_ge (a := i) (b := 6) (by omega) (by omega))) (fun _ => ?_)
          refine lv_aload_n hx hb dX1_passMinute_32 rfl (lv_at hl 1 rfl) ?_
          refine lv_iload_n hx hb dX1_passMinute_33 rfl (lv_at hl 0 rfl) ?_
          obtain ⟨r_4, er_4⟩ : ∃ z : rB, z = ovf r2 i := ⟨_, rfl⟩
          have hm_5 := mX1_overflow l D cI cQ cJ a r2 (nI i) i (vp_in_nI (n := i) (by omega) (by omega)) (nI_clamp (n := i) (by omega))
          rw [← er_4] at hm_5
          refine k_callv (wc := cR cI a r2) (w' := cR cI a r_4) (wn := cR cI a r_4) (va_runV (As := [.int (nI i)]) (rest := []) ⟨hx, hb, hml, hown, hts⟩ (hm_5 _) (cwV 1 hts gX1_passMinute_X1_overflow rfl rfl rfl (by decide +kernel) ⟨Nat.le_of_ble_eq_true rfl, Nat.le_of_ble_eq_true rfl⟩) (k_preV (wc := cR cI a r2) hE hK hP hD [0, 1, 2, 3, 4, 5, 6, 7, 8, 9, 10, 11, 12] (by decide) rfl (ci := 1) (q0 := 0) rfl rfl [.int (nI i)]) rfl rfl hl.1 rfl (lv_room (Nat.le_of_ble_eq_true rfl)) dX1_passMinute_34 ⟨Nat.zero_le _, Nat.zero_le _⟩) hP hD hS hA [0, 1, 2, 3, 4, 5, 6, 7, 8, 9, 10, 11, 12] rfl rfl rfl (fun H locs hP hD hS => ?_)
          refine lv_iinc (v := nI (i + 1)) (lv' := [(2, .int (nI (i + 1))), (0, .ref (a 0)), (1, .int x)]) hx hb dX1_passMinute_37 hl (k := 0) rfl (nI_1 i) (by decide) rfl (fun ls hl => ?_)
          refine lv_goto (tgt := 26) hx hb dX1_passMinute_40 (by decide) ?_
          exact ih (i + 1) r_4 (by omega) (by replace er_4 := er_4.symm; subst er_4; replace er_1 := er_1.symm; subst er_1; replace h9r1 := h9r1.symm; subst h9r1; exact hres) H locs hP hD hS ls (lv_sub hl [0, 1, 2] rfl)
      exact Lp26 6 0 r_1 (by omega) rfl _ _ hP hD hS ls (lv_sub hl [0, 1, 2] rfl)
    | succ n ih =>
      intro i r1 hin hres H locs hP hD hS ls hl
      refine lv_iload_n hx hb dX1_passMinute_2 rfl (lv_at hl 0 rfl) ?_
      refine lv_bipush (v := 6) hx hb dX1_passMinute_3 (by decide) ?_
      refine lv_icmp_ge (tgt := 20) hx hb dX1_passMinute_5 (by decide) (fun h9 => absurd h9 (nI_ge (a := i) (b := 6) (by omega) (by omega))) (fun _ => ?_)
      refine lv_aload_n hx hb dX1_passMinute_8 rfl (lv_at hl 1 rfl) ?_
      refine lv_iload_n hx hb dX1_passMinute_9 rfl (lv_at hl 0 rfl) ?_
      refine lv_iload_n hx hb dX1_passMinute_10 rfl (lv_at hl 2 rfl) ?_
      obtain ⟨r_6, er_6⟩ : ∃ z : rB, z = wet r1 i x := ⟨_, rfl⟩
      have hm_7 := mX1_wetPlane l D cI cQ cJ a r1 (nI i) i (vp_in_nI (n := i) (by omega) (by omega)) (nI_clamp (n := i) (by omega)) x
      rw [← er_6] at hm_7
      refine k_callv (wc := cR cI a r1) (w' := cR cI a r_6) (wn := cR cI a r_6) (va_runV (As := [.int (nI i), .int x]) (rest := []) ⟨hx, hb, hml, hown, hts⟩ (hm_7 _) (cwV 2 hts gX1_passMinute_X1_wetPlane rfl rfl rfl (by decide +kernel) ⟨Nat.le_of_ble_eq_true rfl, Nat.le_of_ble_eq_true rfl⟩) (k_preV (wc := cR cI a r1) hE hK hP hD [0, 1, 2, 3, 4, 5, 6, 7, 8, 9, 10, 11, 12] (by decide) rfl (ci := 1) (q0 := 0) rfl rfl [.int (nI i), .int x]) rfl rfl hl.1 rfl (lv_room (Nat.le_of_ble_eq_true rfl)) dX1_passMinute_11 ⟨Nat.zero_le _, Nat.zero_le _⟩) hP hD hS hA [0, 1, 2, 3, 4, 5, 6, 7, 8, 9, 10, 11, 12] rfl rfl rfl (fun H locs hP hD hS => ?_)
      refine lv_iinc (v := nI (i + 1)) (lv' := [(2, .int (nI (i + 1))), (0, .ref (a 0)), (1, .int x)]) hx hb dX1_passMinute_14 hl (k := 0) rfl (nI_1 i) (by decide) rfl (fun ls hl => ?_)
      refine lv_goto (tgt := 2) hx hb dX1_passMinute_17 (by decide) ?_
      exact ih (i + 1) r_6 (by omega) (by replace er_6 := er_6.symm; subst er_6; exact hres) H locs hP hD hS ls (lv_sub hl [0, 1, 2] rfl)
  exact Lp2 6 0 r (by omega) rfl _ _ hP hD hS ls (lv_sub hl [0, 1, 2] rfl)

set_option maxHeartbeats 4000000 in
set_option maxRecDepth 100000 in
theorem mX1_passMinutes (l : Launch) (D : va_G) (cI cQ cJ : ClassId) (a : Nat → Nat) (r : rB) (x mi : Int32) (k : Nat) (hk : mi.toNatClampNeg = k) : Mv l D (tY cI cQ cJ) yX1_passMinutes wsX1_passMinutes ({ frames := 3, cells := 0, slots := 0, locals := 69 } : Room) [.ref (a 0), .int x, .int mi] (cR cI a r) (cR cI a (minutesC k r x)) := by
  refine M_of (cc := cX1_passMinutes) (maxL := 4) (ret := none) (Qc := fun A => va_Qv (fun (_ : Unit) => True) (fun _ t => Wd D (cR cI a (minutesC k r x)) t) A) (by decide) rfl (Nat.le_of_ble_eq_true rfl) ?_
  intro p e s m below meth c A ls hB hE hP hK hD hA hl
  obtain ⟨hx, hb, hr, hml, hts, hown, hlocks⟩ := hB
  have hS : va_S A s.heap s.heap [] := va_S.rf
  have hl : lv_has ls 4 [(0, .ref (a 0)), (1, .int x), (2, .int mi)] := hl
  refine lv_iconst (v := 0) hx hb dX1_passMinutes_0 (by decide) ?_
  refine lv_istore_n (lv' := [(3, .int 0), (0, .ref (a 0)), (1, .int x), (2, .int mi)]) hx hb dX1_passMinutes_1 rfl hl (by decide) rfl (fun ls hl => ?_)
  have Lp2 : ∀ (n i : Nat) (r1 : rB), i + n = k → i ≤ k → minutesC n r1 x = minutesC k r x → ∀ (H : Heap) (locs : List Loc), va_P D vwCl (cR cI a r1) H → va_D A (cR cI a r1) → va_S A s.heap H locs → ∀ (ls : Array Slot), lv_has ls 4 [(3, .int (nI i)), (0, .ref (a 0)), (1, .int x), (2, .int mi)] → W p l e ({ frames := 3, cells := 0, slots := 0, locals := 69 } : Room) s m ([.ref (a 0), .int x, .int mi] : List Value).toArray below meth c H locs 0 0 (MQ below (va_Qv (fun (_ : Unit) => True) (fun _ t => Wd D (cR cI a (minutesC k r x)) t) A) ([.ref (a 0), .int x, .int mi] : List Value).toArray s 0 0 A) (F0 m 2 ls []) := by
    intro n
    induction n with
    | zero =>
      intro i r1 hin h8 hres H locs hP hD hS ls hl
      have h9r1 : r1 = minutesC k r x := hres
      refine lv_iload_n hx hb dX1_passMinutes_2 rfl (lv_at hl 0 rfl) ?_
      refine lv_iload_n hx hb dX1_passMinutes_3 rfl (lv_at hl 3 rfl) ?_
      refine lv_icmp_ge (tgt := 18) hx hb dX1_passMinutes_4 (by decide) (fun _ => ?_) (fun h9 => absurd (cl_le (i := i) (by omega)) h9)
      have e9 : (r1 : rB) = minutesC k r x := by (replace h9r1 := h9r1.symm; subst h9r1; simp only [↓reduceIte])
      rw [e9] at hP
      exact k_vret hx hb hr hlocks hS hP dX1_passMinutes_18
    | succ n ih =>
      intro i r1 hin h8 hres H locs hP hD hS ls hl
      refine lv_iload_n hx hb dX1_passMinutes_2 rfl (lv_at hl 0 rfl) ?_
      refine lv_iload_n hx hb dX1_passMinutes_3 rfl (lv_at hl 3 rfl) ?_
      refine lv_icmp_ge (tgt := 18) hx hb dX1_passMinutes_4 (by decide) (fun h9 => absurd h9 (cl_nle (i := i) (by omega))) (fun _ => ?_)
      refine lv_aload_n hx hb dX1_passMinutes_7 rfl (lv_at hl 1 rfl) ?_
      refine lv_iload_n hx hb dX1_passMinutes_8 rfl (lv_at hl 2 rfl) ?_
      obtain ⟨r_1, er_1⟩ : ∃ z : rB, z = minuteC r1 x := ⟨_, rfl⟩
      have hm_2 := mX1_passMinute l D cI cQ cJ a r1 x
      rw [← er_1] at hm_2
      refine k_callv (wc := cR cI a r1) (w' := cR cI a r_1) (wn := cR cI a r_1) (va_runV (As := [.int x]) (rest := []) ⟨hx, hb, hml, hown, hts⟩ (hm_2 _) (cwV 1 hts gX1_passMinutes_X1_passMinute rfl rfl rfl (by decide +kernel) ⟨Nat.le_of_ble_eq_true rfl, Nat.le_of_ble_eq_true rfl⟩) (k_preV (wc := cR cI a r1) hE hK hP hD [0, 1, 2, 3, 4, 5, 6, 7, 8, 9, 10, 11, 12] (by decide) rfl (ci := 1) (q0 := 0) rfl rfl [.int x]) rfl rfl hl.1 rfl (lv_room (Nat.le_of_ble_eq_true rfl)) dX1_passMinutes_9 ⟨Nat.zero_le _, Nat.zero_le _⟩) hP hD hS hA [0, 1, 2, 3, 4, 5, 6, 7, 8, 9, 10, 11, 12] rfl rfl rfl (fun H locs hP hD hS => ?_)
      refine lv_iinc (v := nI (i + 1)) (lv' := [(3, .int (nI (i + 1))), (0, .ref (a 0)), (1, .int x), (2, .int mi)]) hx hb dX1_passMinutes_12 hl (k := 0) rfl (nI_1 i) (by decide) rfl (fun ls hl => ?_)
      refine lv_goto (tgt := 2) hx hb dX1_passMinutes_15 (by decide) ?_
      exact ih (i + 1) r_1 (by omega) (by omega) (by replace er_1 := er_1.symm; subst er_1; exact hres) H locs hP hD hS ls (lv_sub hl [0, 1, 2, 3] rfl)
  exact Lp2 k 0 r (by omega) (by omega) rfl _ _ hP hD hS ls (lv_sub hl [0, 1, 2, 3] rfl)

set_option maxHeartbeats 4000000 in
set_option maxRecDepth 100000 in
theorem mX1_passWeek (l : Launch) (D : va_G) (cI cQ cJ : ClassId) (a : Nat → Nat) (r : rB)  : Mv l D (tY cI cQ cJ) yX1_passWeek wsX1_passWeek ({ frames := 1, cells := 0, slots := 0, locals := 21 } : Room) [.ref (a 0)] (cR cI a r) (cR cI a (weekC r)) := by
  refine M_of (cc := cX1_passWeek) (maxL := 2) (ret := none) (Qc := fun A => va_Qv (fun (_ : Unit) => True) (fun _ t => Wd D (cR cI a (weekC r)) t) A) (by decide) rfl (Nat.le_of_ble_eq_true rfl) ?_
  intro p e s m below meth c A ls hB hE hP hK hD hA hl
  obtain ⟨hx, hb, hr, hml, hts, hown, hlocks⟩ := hB
  have hS : va_S A s.heap s.heap [] := va_S.rf
  have hl : lv_has ls 2 [(0, .ref (a 0))] := hl
  have hinX1 : ∀ w ∈ u_ws RX1 TX1 16, w ∈ wsX1_passWeek := by decide +kernel
  have fl58 := hts (.fieldLink RX1 58 "RoofDrains$Roof" "weeksPassed" "I") (by decide +kernel)
  have fl30 := hts (.fieldLink RX1 30 "RoofDrains$Roof" "leaves" "[I") (by decide +kernel)
  have fl45 := hts (.fieldLink RX1 45 "RoofDrains$Roof" "values" "[I") (by decide +kernel)
  have mm1 := hts (.methodLink RX1 85 Lib.Math.min.name) (by decide +kernel)
  have mm2 := hts (.static Lib.Math.min.name) (by decide +kernel)
  have mm3 := hts (.initialized "java/lang/Math") (by decide +kernel)
  have mm4 := hts (.code Lib.Math.min.name Lib.Math.min.code 2 (some .int)) (by decide +kernel)
  refine lv_iconst (v := 0) hx hb dX1_passWeek_0 (by decide) ?_
  refine lv_istore_n (lv' := [(1, .int 0), (0, .ref (a 0))]) hx hb dX1_passWeek_1 rfl hl (by decide) rfl (fun ls hl => ?_)
  have Lp2 : ∀ (n i : Nat) (r1 : rB), i + n = 6 → weekL n i r1 = weekL 6 0 r → ∀ (H : Heap) (locs : List Loc), va_P D vwCl (cR cI a r1) H → va_D A (cR cI a r1) → va_S A s.heap H locs → ∀ (ls : Array Slot), lv_has ls 2 [(1, .int (nI i)), (0, .ref (a 0))] → W p l e ({ frames := 1, cells := 0, slots := 0, locals := 21 } : Room) s m ([.ref (a 0)] : List Value).toArray below meth c H locs 0 0 (MQ below (va_Qv (fun (_ : Unit) => True) (fun _ t => Wd D (cR cI a (weekC r)) t) A) ([.ref (a 0)] : List Value).toArray s 0 0 A) (F0 m 2 ls []) := by
    intro n
    induction n with
    | zero =>
      intro i r1 hin hres H locs hP hD hS ls hl
      have h9r1 : r1 = weekL 6 0 r := hres
      refine lv_iload_n hx hb dX1_passWeek_2 rfl (lv_at hl 0 rfl) ?_
      refine lv_bipush (v := 6) hx hb dX1_passWeek_3 (by decide) ?_
      refine lv_icmp_ge (tgt := 38) hx hb dX1_passWeek_5 (by decide) (fun _ => ?_) (fun h9 => absurd (nI_le (a := 6) (b := i) (by omega) (by omega)) h9)
      refine lv_aload_n hx hb dX1_passWeek_38 rfl (lv_at hl 1 rfl) ?_
      refine lv_dup hx hb dX1_passWeek_39 rfl ?_
      refine va_get (D := D) (ci := 1) (v := .int (r1 12 1)) (C := RX1) (T := TX1) (N := 16) hx hb hts hinX1 hown hK hP 0 rfl rfl 13 (by decide) fl58 (fun _ h9 => h9) (congrArg (fun z => some (Value.int z)) (rfl)) dX1_passWeek_40 ?_
      refine lv_iconst (v := 1) hx hb dX1_passWeek_43 (by decide) ?_
      refine lv_iadd hx hb dX1_passWeek_44 ?_
      refine lv_topi (fun f_1 ef_1 => ?_)
      refine k_put (D := D) (ci := 1) (v := .int f_1) (ty := .int) (C := RX1) (T := TX1) (N := 16) hx hb hts hinX1 tyX1 tyX1_ok nmX1 hown hK hP hD hS 0 rfl rfl 13 (by decide) fl58 (fun _ h9 => h9) rfl (by decide +kernel) rfl rfl (Nat.le_of_ble_eq_true rfl) (ws' := cR cI a (bp r1 12 1 f_1)) rfl dX1_passWeek_45 (fun H locs hP hD hS => ?_)
      have e9 : (bp r1 12 1 f_1 : rB) = weekC r := by (replace ef_1 := ef_1.symm; subst ef_1; replace h9r1 := h9r1.symm; subst h9r1; simp only [weekC, ↓reduceIte])
      rw [e9] at hP
      exact k_vret hx hb hr hlocks hS hP dX1_passWeek_48
    | succ n ih =>
      intro i r1 hin hres H locs hP hD hS ls hl
      refine lv_iload_n hx hb dX1_passWeek_2 rfl (lv_at hl 0 rfl) ?_
      refine lv_bipush (v := 6) hx hb dX1_passWeek_3 (by decide) ?_
      refine lv_icmp_ge (tgt := 38) hx hb dX1_passWeek_5 (by decide) (fun h9 => absurd h9 (nI_ge (a := i) (b := 6) (by omega) (by omega))) (fun _ => ?_)
      refine lv_aload_n hx hb dX1_passWeek_8 rfl (lv_at hl 1 rfl) ?_
      refine va_get (D := D) (ci := 1) (v := .ref (a 7)) (C := RX1) (T := TX1) (N := 16) hx hb hts hinX1 hown hK hP 0 rfl rfl 6 (by decide) fl30 (fun _ h9 => h9) rfl dX1_passWeek_9 ?_
      refine lv_iload_n hx hb dX1_passWeek_12 rfl (lv_at hl 0 rfl) ?_
      refine lv_bipush (v := 100) hx hb dX1_passWeek_13 (by decide) ?_
      refine lv_aload_n hx hb dX1_passWeek_15 rfl (lv_at hl 1 rfl) ?_
      refine va_get (D := D) (ci := 1) (v := .ref (a 7)) (C := RX1) (T := TX1) (N := 16) hx hb hts hinX1 hown hK hP 0 rfl rfl 6 (by decide) fl30 (fun _ h9 => h9) rfl dX1_passWeek_16 ?_
      refine lv_iload_n hx hb dX1_passWeek_19 rfl (lv_at hl 0 rfl) ?_
      refine k_iald (k := i) (v := r1 6 i) hx hb hK hP 7 0 rfl rfl (vp_in_nI (n := i) (by omega) (by omega)) (nI_clamp (n := i) (by omega)) (rfl) dX1_passWeek_20 ?_
      refine lv_aload_n hx hb dX1_passWeek_21 rfl (lv_at hl 1 rfl) ?_
      refine va_get (D := D) (ci := 1) (v := .ref (a 12)) (C := RX1) (T := TX1) (N := 16) hx hb hts hinX1 hown hK hP 0 rfl rfl 11 (by decide) fl45 (fun _ h9 => h9) rfl dX1_passWeek_22 ?_
      refine lv_iconst (v := 1) hx hb dX1_passWeek_25 (by decide) ?_
      refine k_iald (k := 1) (v := r1 11 1) hx hb hK hP 12 0 rfl rfl (vp_in_nI (n := 1) (by omega) (by omega)) (nI_clamp (n := 1) (by omega)) (rfl) dX1_passWeek_26 ?_
      refine lv_iadd hx hb dX1_passWeek_27 ?_
      refine va_mmin hx hb (hml.trans hl.1.symm) hown mm1 mm2 mm3 mm4 (Nat.le_of_ble_eq_true rfl) (Nat.le_of_ble_eq_true rfl) (Nat.zero_le _) (Nat.zero_le _) dX1_passWeek_28 ?_
      refine lv_eqi (y := mn 100 ((r1 6 i) + (r1 11 1))) rfl ?_
      refine lv_topi (fun mn_2 emn_2 => ?_)
      refine k_iast (k := i) (ws' := cR cI a (bp r1 6 i mn_2)) hx hb hK hP hD hS 7 0 rfl rfl (vp_in_nI (n := i) (by omega) (by omega)) (nI_clamp (n := i) (by omega)) rfl dX1_passWeek_31 (fun H locs hP hD hS => ?_)
      refine lv_iinc (v := nI (i + 1)) (lv' := [(1, .int (nI (i + 1))), (0, .ref (a 0))]) hx hb dX1_passWeek_32 hl (k := 0) rfl (nI_1 i) (by decide) rfl (fun ls hl => ?_)
      refine lv_goto (tgt := 2) hx hb dX1_passWeek_35 (by decide) ?_
      exact ih (i + 1) (bp r1 6 i mn_2) (by omega) (by replace emn_2 := emn_2.symm; subst emn_2; rw [← hres]; simp only [weekL, ↓reduceIte]) H locs hP hD hS ls (lv_sub hl [0, 1] rfl)
  exact Lp2 6 0 r (by omega) rfl _ _ hP hD hS ls (lv_sub hl [0, 1] rfl)

set_option maxHeartbeats 4000000 in
set_option maxRecDepth 100000 in
theorem mX1_valleysLead (l : Launch) (D : va_G) (cI cQ cJ : ClassId) (a : Nat → Nat) (r : rB) (q t : Int32) : Mi l D (tY cI cQ cJ) yX1_valleysLead wsX1_valleysLead ({ frames := 1, cells := 0, slots := 0, locals := 20 } : Room) [.ref (a 0), .int q, .int t] (cR cI a r) (cR cI a r) (vlead r t 6 q) := by
  refine M_of (cc := cX1_valleysLead) (maxL := 5) (ret := some .boolean) (Qc := fun A => va_Qi (fun (x : Int32) (_ : Unit) => x = vlead r t 6 q) (fun _ t => Wd D (cR cI a r) t) A) (by decide) rfl (Nat.le_of_ble_eq_true rfl) ?_
  intro p e s m below meth c A ls hB hE hP hK hD hA hl
  obtain ⟨hx, hb, hr, hml, hts, hown, hlocks⟩ := hB
  have hS : va_S A s.heap s.heap [] := va_S.rf
  have hl : lv_has ls 5 [(0, .ref (a 0)), (1, .int q), (2, .int t)] := hl
  have hinX1 : ∀ w ∈ u_ws RX1 TX1 16, w ∈ wsX1_valleysLead := by decide +kernel
  have fl33 := hts (.fieldLink RX1 33 "RoofDrains$Roof" "valleyTo" "[I") (by decide +kernel)
  refine lv_iload_n hx hb dX1_valleysLead_0 rfl (lv_at hl 1 rfl) ?_
  refine lv_istore_n (lv' := [(3, .int q), (0, .ref (a 0)), (1, .int q), (2, .int t)]) hx hb dX1_valleysLead_1 rfl hl (by decide) rfl (fun ls hl => ?_)
  refine lv_iconst (v := 0) hx hb dX1_valleysLead_2 (by decide) ?_
  refine lv_istore (lv' := [(4, .int 0), (3, .int q), (0, .ref (a 0)), (1, .int q), (2, .int t)]) hx hb dX1_valleysLead_3 hl (by decide) rfl (fun ls hl => ?_)
  have Lp5 : ∀ (n i : Nat) (aq : Int32), i + n = 6 → vlead r t n aq = vlead r t 6 q → ∀ (H : Heap) (locs : List Loc), va_P D vwCl (cR cI a r) H → va_D A (cR cI a r) → va_S A s.heap H locs → ∀ (ls : Array Slot), lv_has ls 5 [(4, .int (nI i)), (3, .int aq), (0, .ref (a 0)), (1, .int q), (2, .int t)] → W p l e ({ frames := 1, cells := 0, slots := 0, locals := 20 } : Room) s m ([.ref (a 0), .int q, .int t] : List Value).toArray below meth c H locs 0 0 (MQ below (va_Qi (fun (x : Int32) (_ : Unit) => x = vlead r t 6 q) (fun _ t => Wd D (cR cI a r) t) A) ([.ref (a 0), .int q, .int t] : List Value).toArray s 0 0 A) (F0 m 5 ls []) := by
    intro n
    induction n with
    | zero =>
      intro i aq hin hres H locs hP hD hS ls hl
      refine lv_iload hx hb dX1_valleysLead_5 (lv_at hl 0 rfl) ?_
      refine lv_bipush (v := 6) hx hb dX1_valleysLead_7 (by decide) ?_
      refine lv_icmp_ge (tgt := 39) hx hb dX1_valleysLead_9 (by decide) (fun _ => ?_) (fun h9 => absurd (nI_le (a := 6) (b := i) (by omega) (by omega)) h9)
      refine lv_iconst (v := 0) hx hb dX1_valleysLead_39 (by decide) ?_
      exact k_zret hx hb hr hlocks hS hP dX1_valleysLead_40 (by first | rfl | decide | exact rfl) (by (rw [← hres]; simp only [vlead, ↓reduceIte]))
    | succ n ih =>
      intro i aq hin hres H locs hP hD hS ls hl
      refine lv_iload hx hb dX1_valleysLead_5 (lv_at hl 0 rfl) ?_
      refine lv_bipush (v := 6) hx hb dX1_valleysLead_7 (by decide) ?_
      refine lv_icmp_ge (tgt := 39) hx hb dX1_valleysLead_9 (by decide) (fun h9 => absurd h9 (nI_ge (a := i) (b := 6) (by omega) (by omega))) (fun _ => ?_)
      refine lv_iload_n hx hb dX1_valleysLead_12 rfl (lv_at hl 1 rfl) ?_
      refine k_calli (wc := ([] : va_W)) (w' := ([] : va_W)) (wn := cR cI a r) (va_runSN (As := [.int aq]) (rest := []) ⟨hx, hb, hml, hown, hts⟩ (mX3_isGutter l D cI cQ cJ aq _) ⟨va_cnB 1 hts gX1_valleysLead_X3_isGutter_n67 rfl rfl rfl hE.1 (hts (.initialized RX3) (by decide +kernel)) (by decide +kernel) ⟨Nat.le_of_ble_eq_true rfl, Nat.le_of_ble_eq_true rfl⟩, hts (.static yX3_isGutter) (by decide +kernel), trivial⟩ (k_preS (wc := ([] : va_W)) hE hK hP hD [] (by decide) rfl [.int aq]) rfl rfl hl.1 rfl (lv_room (Nat.le_of_ble_eq_true rfl)) dX1_valleysLead_13 ⟨Nat.zero_le _, Nat.zero_le _⟩) hP hD hS hA [] rfl rfl rfl (fun H locs hP hD hS => ?_)
      refine lv_if_eq (tgt := 39) hx hb dX1_valleysLead_16 (by decide) (fun c_1 => ?_) (fun c_1 => ?_)
      · skip
        refine lv_iconst (v := 0) hx hb dX1_valleysLead_39 (by decide) ?_
        exact k_zret hx hb hr hlocks hS hP dX1_valleysLead_40 (by first | rfl | decide | exact rfl) (by (rw [← hres]; simp only [vlead, if_pos c_1, ↓reduceIte]))
      · skip
        refine lv_iload_n hx hb dX1_valleysLead_19 rfl (lv_at hl 1 rfl) ?_
        refine lv_iload_n hx hb dX1_valleysLead_20 rfl (lv_at hl 4 rfl) ?_
        refine lv_icmp_ne (tgt := 26) hx hb dX1_valleysLead_21 (by decide) (fun c_2 => ?_) (fun c_2 => ?_)
        · skip
          refine lv_aload_n hx hb dX1_valleysLead_26 rfl (lv_at hl 2 rfl) ?_
          refine va_get (D := D) (ci := 1) (v := .ref (a 8)) (C := RX1) (T := TX1) (N := 16) hx hb hts hinX1 hown hK hP 0 rfl rfl 7 (by decide) fl33 (fun _ h9 => h9) rfl dX1_valleysLead_27 ?_
          refine lv_iload_n hx hb dX1_valleysLead_30 rfl (lv_at hl 1 rfl) ?_
          refine k_iald (k := aq.toNatClampNeg) (v := r 7 aq.toNatClampNeg) hx hb hK hP 8 0 rfl rfl (zL_in (n := 6) rfl rfl c_1) rfl (rfl) dX1_valleysLead_31 ?_
          refine lv_topi (fun v3_3 ev3_3 => ?_)
          refine lv_istore_n (lv' := [(3, .int v3_3), (4, .int (nI i)), (0, .ref (a 0)), (1, .int q), (2, .int t)]) hx hb dX1_valleysLead_32 rfl hl (by decide) rfl (fun ls hl => ?_)
          refine lv_iinc (v := nI (i + 1)) (lv' := [(4, .int (nI (i + 1))), (3, .int v3_3), (0, .ref (a 0)), (1, .int q), (2, .int t)]) hx hb dX1_valleysLead_33 hl (k := 1) rfl (nI_1 i) (by decide) rfl (fun ls hl => ?_)
          refine lv_goto (tgt := 5) hx hb dX1_valleysLead_36 (by decide) ?_
          exact ih (i + 1) v3_3 (by omega) (by replace ev3_3 := ev3_3.symm; subst ev3_3; rw [← hres]; simp only [vlead, if_neg c_1, if_neg c_2, ↓reduceIte]) H locs hP hD hS ls (lv_sub hl [0, 1, 2, 3, 4] rfl)
        · skip
          refine lv_iconst (v := 1) hx hb dX1_valleysLead_24 (by decide) ?_
          exact k_zret hx hb hr hlocks hS hP dX1_valleysLead_25 (by first | rfl | decide | exact rfl) (by (rw [← hres]; simp only [vlead, if_neg c_1, if_pos c_2, ↓reduceIte]))
  exact Lp5 6 0 q (by omega) rfl _ _ hP hD hS ls (lv_sub hl [0, 1, 2, 3, 4] rfl)

set_option maxHeartbeats 4000000 in
set_option maxRecDepth 100000 in
theorem mX1_planeNumber (l : Launch) (D : va_G) (cI cQ cJ : ClassId) (a : Nat → Nat) (r : rB) (q : Int32) (i w : Nat) (hq : vp_in q 6) (hi : q.toNatClampNeg = i) (hw : w < 4) : Mi l D (tY cI cQ cJ) yX1_planeNumber wsX1_planeNumber ({ frames := 0, cells := 0, slots := 0, locals := 0 } : Room) [.ref (a 0), .int q, .int (nI w)] (cR cI a r) (cR cI a r) (pnC r i w) := by
  refine M_of (cc := cX1_planeNumber) (maxL := 3) (ret := some .int) (Qc := fun A => va_Qi (fun (x : Int32) (_ : Unit) => x = pnC r i w) (fun _ t => Wd D (cR cI a r) t) A) (by decide) rfl (Nat.le_of_ble_eq_true rfl) ?_
  intro p e s m below meth c A ls hB hE hP hK hD hA hl
  obtain ⟨hx, hb, hr, hml, hts, hown, hlocks⟩ := hB
  have hS : va_S A s.heap s.heap [] := va_S.rf
  have hl : lv_has ls 3 [(0, .ref (a 0)), (1, .int q), (2, .int (nI w))] := hl
  have hinX1 : ∀ w ∈ u_ws RX1 TX1 16, w ∈ wsX1_planeNumber := by decide +kernel
  have fl9 := hts (.fieldLink RX1 9 "RoofDrains$Roof" "area" "[I") (by decide +kernel)
  have fl15 := hts (.fieldLink RX1 15 "RoofDrains$Roof" "slope" "[I") (by decide +kernel)
  have fl18 := hts (.fieldLink RX1 18 "RoofDrains$Roof" "leadsTo" "[I") (by decide +kernel)
  have fl21 := hts (.fieldLink RX1 21 "RoofDrains$Roof" "onPlane" "[I") (by decide +kernel)
  refine lv_iload_n hx hb dX1_planeNumber_0 rfl (lv_at hl 2 rfl) ?_
  have hsw : w = 0 ∨ w = 1 ∨ w = 2 ∨ w = 3 := by omega
  rcases hsw with rfl | rfl | rfl | rfl
  · skip
    refine lv_tableIn (off := 27) (tgt := 28) hx hb dX1_planeNumber_1 (by decide +kernel) (by decide +kernel) (by decide +kernel) (by decide) ?_
    refine lv_aload_n hx hb dX1_planeNumber_28 rfl (lv_at hl 0 rfl) ?_
    refine va_get (D := D) (ci := 1) (v := .ref (a 1)) (C := RX1) (T := TX1) (N := 16) hx hb hts hinX1 hown hK hP 0 rfl rfl 0 (by decide) fl9 (fun _ h9 => h9) rfl dX1_planeNumber_29 ?_
    refine lv_iload_n hx hb dX1_planeNumber_32 rfl (lv_at hl 1 rfl) ?_
    refine k_iald (k := i) (v := r 0 i) hx hb hK hP 1 0 rfl rfl hq hi (rfl) dX1_planeNumber_33 ?_
    exact k_iret hx hb hr hlocks hS hP dX1_planeNumber_34 (by (simp only [pnC, ↓reduceIte]))
  · skip
    refine lv_tableIn (off := 34) (tgt := 35) hx hb dX1_planeNumber_1 (by decide +kernel) (by decide +kernel) (by decide +kernel) (by decide) ?_
    refine lv_aload_n hx hb dX1_planeNumber_35 rfl (lv_at hl 0 rfl) ?_
    refine va_get (D := D) (ci := 1) (v := .ref (a 2)) (C := RX1) (T := TX1) (N := 16) hx hb hts hinX1 hown hK hP 0 rfl rfl 1 (by decide) fl15 (fun _ h9 => h9) rfl dX1_planeNumber_36 ?_
    refine lv_iload_n hx hb dX1_planeNumber_39 rfl (lv_at hl 1 rfl) ?_
    refine k_iald (k := i) (v := r 1 i) hx hb hK hP 2 0 rfl rfl hq hi (rfl) dX1_planeNumber_40 ?_
    exact k_iret hx hb hr hlocks hS hP dX1_planeNumber_41 (by (simp only [pnC, ↓reduceIte]))
  · skip
    refine lv_tableIn (off := 41) (tgt := 42) hx hb dX1_planeNumber_1 (by decide +kernel) (by decide +kernel) (by decide +kernel) (by decide) ?_
    refine lv_aload_n hx hb dX1_planeNumber_42 rfl (lv_at hl 0 rfl) ?_
    refine va_get (D := D) (ci := 1) (v := .ref (a 3)) (C := RX1) (T := TX1) (N := 16) hx hb hts hinX1 hown hK hP 0 rfl rfl 2 (by decide) fl18 (fun _ h9 => h9) rfl dX1_planeNumber_43 ?_
    refine lv_iload_n hx hb dX1_planeNumber_46 rfl (lv_at hl 1 rfl) ?_
    refine k_iald (k := i) (v := r 2 i) hx hb hK hP 3 0 rfl rfl hq hi (rfl) dX1_planeNumber_47 ?_
    exact k_iret hx hb hr hlocks hS hP dX1_planeNumber_48 (by (simp only [pnC, ↓reduceIte]))
  · skip
    refine lv_tableOut (tgt := 49) hx hb dX1_planeNumber_1 (by decide +kernel) (by decide) ?_
    refine lv_aload_n hx hb dX1_planeNumber_49 rfl (lv_at hl 0 rfl) ?_
    refine va_get (D := D) (ci := 1) (v := .ref (a 4)) (C := RX1) (T := TX1) (N := 16) hx hb hts hinX1 hown hK hP 0 rfl rfl 3 (by decide) fl21 (fun _ h9 => h9) rfl dX1_planeNumber_50 ?_
    refine lv_iload_n hx hb dX1_planeNumber_53 rfl (lv_at hl 1 rfl) ?_
    refine k_iald (k := i) (v := r 3 i) hx hb hK hP 4 0 rfl rfl hq hi (rfl) dX1_planeNumber_54 ?_
    exact k_iret hx hb hr hlocks hS hP dX1_planeNumber_55 (by (simp only [pnC, ↓reduceIte]))

set_option maxHeartbeats 4000000 in
set_option maxRecDepth 100000 in
theorem mX1_gutterNumber (l : Launch) (D : va_G) (cI cQ cJ : ClassId) (a : Nat → Nat) (r : rB) (q : Int32) (i w : Nat) (hq : vp_in q 6) (hi : q.toNatClampNeg = i) (hw : w < 9) : Mi l D (tY cI cQ cJ) yX1_gutterNumber wsX1_gutterNumber ({ frames := 1, cells := 0, slots := 0, locals := 22 } : Room) [.ref (a 0), .int q, .int (nI w)] (cR cI a r) (cR cI a r) (gnC r i w) := by
  refine M_of (cc := cX1_gutterNumber) (maxL := 3) (ret := some .int) (Qc := fun A => va_Qi (fun (x : Int32) (_ : Unit) => x = gnC r i w) (fun _ t => Wd D (cR cI a r) t) A) (by decide) rfl (Nat.le_of_ble_eq_true rfl) ?_
  intro p e s m below meth c A ls hB hE hP hK hD hA hl
  obtain ⟨hx, hb, hr, hml, hts, hown, hlocks⟩ := hB
  have hS : va_S A s.heap s.heap [] := va_S.rf
  have hl : lv_has ls 3 [(0, .ref (a 0)), (1, .int q), (2, .int (nI w))] := hl
  have hinX1 : ∀ w ∈ u_ws RX1 TX1 16, w ∈ wsX1_gutterNumber := by decide +kernel
  have fl24 := hts (.fieldLink RX1 24 "RoofDrains$Roof" "size" "[I") (by decide +kernel)
  have fl27 := hts (.fieldLink RX1 27 "RoofDrains$Roof" "bore" "[I") (by decide +kernel)
  have fl30 := hts (.fieldLink RX1 30 "RoofDrains$Roof" "leaves" "[I") (by decide +kernel)
  have fl33 := hts (.fieldLink RX1 33 "RoofDrains$Roof" "valleyTo" "[I") (by decide +kernel)
  have fl36 := hts (.fieldLink RX1 36 "RoofDrains$Roof" "inGutter" "[I") (by decide +kernel)
  have fl39 := hts (.fieldLink RX1 39 "RoofDrains$Roof" "spilt" "[I") (by decide +kernel)
  have fl42 := hts (.fieldLink RX1 42 "RoofDrains$Roof" "drained" "[I") (by decide +kernel)
  refine lv_iload_n hx hb dX1_gutterNumber_0 rfl (lv_at hl 2 rfl) ?_
  have hsw : w = 0 ∨ w = 1 ∨ w = 2 ∨ w = 3 ∨ w = 4 ∨ w = 5 ∨ w = 6 ∨ w = 7 ∨ w = 8 := by omega
  rcases hsw with rfl | rfl | rfl | rfl | rfl | rfl | rfl | rfl | rfl
  · skip
    refine lv_tableIn (off := 47) (tgt := 48) hx hb dX1_gutterNumber_1 (by decide +kernel) (by decide +kernel) (by decide +kernel) (by decide) ?_
    refine lv_aload_n hx hb dX1_gutterNumber_48 rfl (lv_at hl 0 rfl) ?_
    refine va_get (D := D) (ci := 1) (v := .ref (a 5)) (C := RX1) (T := TX1) (N := 16) hx hb hts hinX1 hown hK hP 0 rfl rfl 4 (by decide) fl24 (fun _ h9 => h9) rfl dX1_gutterNumber_49 ?_
    refine lv_iload_n hx hb dX1_gutterNumber_52 rfl (lv_at hl 1 rfl) ?_
    refine k_iald (k := i) (v := r 4 i) hx hb hK hP 5 0 rfl rfl hq hi (rfl) dX1_gutterNumber_53 ?_
    exact k_iret hx hb hr hlocks hS hP dX1_gutterNumber_54 (by (simp only [gnC, ↓reduceIte]))
  · skip
    refine lv_tableIn (off := 54) (tgt := 55) hx hb dX1_gutterNumber_1 (by decide +kernel) (by decide +kernel) (by decide +kernel) (by decide) ?_
    refine lv_aload_n hx hb dX1_gutterNumber_55 rfl (lv_at hl 0 rfl) ?_
    refine va_get (D := D) (ci := 1) (v := .ref (a 6)) (C := RX1) (T := TX1) (N := 16) hx hb hts hinX1 hown hK hP 0 rfl rfl 5 (by decide) fl27 (fun _ h9 => h9) rfl dX1_gutterNumber_56 ?_
    refine lv_iload_n hx hb dX1_gutterNumber_59 rfl (lv_at hl 1 rfl) ?_
    refine k_iald (k := i) (v := r 5 i) hx hb hK hP 6 0 rfl rfl hq hi (rfl) dX1_gutterNumber_60 ?_
    exact k_iret hx hb hr hlocks hS hP dX1_gutterNumber_61 (by (simp only [gnC, ↓reduceIte]))
  · skip
    refine lv_tableIn (off := 61) (tgt := 62) hx hb dX1_gutterNumber_1 (by decide +kernel) (by decide +kernel) (by decide +kernel) (by decide) ?_
    refine lv_aload_n hx hb dX1_gutterNumber_62 rfl (lv_at hl 0 rfl) ?_
    refine va_get (D := D) (ci := 1) (v := .ref (a 7)) (C := RX1) (T := TX1) (N := 16) hx hb hts hinX1 hown hK hP 0 rfl rfl 6 (by decide) fl30 (fun _ h9 => h9) rfl dX1_gutterNumber_63 ?_
    refine lv_iload_n hx hb dX1_gutterNumber_66 rfl (lv_at hl 1 rfl) ?_
    refine k_iald (k := i) (v := r 6 i) hx hb hK hP 7 0 rfl rfl hq hi (rfl) dX1_gutterNumber_67 ?_
    exact k_iret hx hb hr hlocks hS hP dX1_gutterNumber_68 (by (simp only [gnC, ↓reduceIte]))
  · skip
    refine lv_tableIn (off := 68) (tgt := 69) hx hb dX1_gutterNumber_1 (by decide +kernel) (by decide +kernel) (by decide +kernel) (by decide) ?_
    refine lv_aload_n hx hb dX1_gutterNumber_69 rfl (lv_at hl 0 rfl) ?_
    refine va_get (D := D) (ci := 1) (v := .ref (a 8)) (C := RX1) (T := TX1) (N := 16) hx hb hts hinX1 hown hK hP 0 rfl rfl 7 (by decide) fl33 (fun _ h9 => h9) rfl dX1_gutterNumber_70 ?_
    refine lv_iload_n hx hb dX1_gutterNumber_73 rfl (lv_at hl 1 rfl) ?_
    refine k_iald (k := i) (v := r 7 i) hx hb hK hP 8 0 rfl rfl hq hi (rfl) dX1_gutterNumber_74 ?_
    exact k_iret hx hb hr hlocks hS hP dX1_gutterNumber_75 (by (simp only [gnC, ↓reduceIte]))
  · skip
    refine lv_tableIn (off := 75) (tgt := 76) hx hb dX1_gutterNumber_1 (by decide +kernel) (by decide +kernel) (by decide +kernel) (by decide) ?_
    refine lv_aload_n hx hb dX1_gutterNumber_76 rfl (lv_at hl 0 rfl) ?_
    refine va_get (D := D) (ci := 1) (v := .ref (a 9)) (C := RX1) (T := TX1) (N := 16) hx hb hts hinX1 hown hK hP 0 rfl rfl 8 (by decide) fl36 (fun _ h9 => h9) rfl dX1_gutterNumber_77 ?_
    refine lv_iload_n hx hb dX1_gutterNumber_80 rfl (lv_at hl 1 rfl) ?_
    refine k_iald (k := i) (v := r 8 i) hx hb hK hP 9 0 rfl rfl hq hi (rfl) dX1_gutterNumber_81 ?_
    exact k_iret hx hb hr hlocks hS hP dX1_gutterNumber_82 (by (simp only [gnC, ↓reduceIte]))
  · skip
    refine lv_tableIn (off := 82) (tgt := 83) hx hb dX1_gutterNumber_1 (by decide +kernel) (by decide +kernel) (by decide +kernel) (by decide) ?_
    refine lv_aload_n hx hb dX1_gutterNumber_83 rfl (lv_at hl 0 rfl) ?_
    refine lv_iload_n hx hb dX1_gutterNumber_84 rfl (lv_at hl 1 rfl) ?_
    refine k_calli (wc := cR cI a r) (w' := cR cI a r) (wn := cR cI a r) (va_runV (As := [.int q]) (rest := []) ⟨hx, hb, hml, hown, hts⟩ (mX1_room l D cI cQ cJ a r q i hq hi _) (cwV 1 hts gX1_gutterNumber_X1_room rfl rfl rfl (by decide +kernel) ⟨Nat.le_of_ble_eq_true rfl, Nat.le_of_ble_eq_true rfl⟩) (k_preV (wc := cR cI a r) hE hK hP hD [0, 1, 2, 3, 4, 5, 6, 7, 8, 9, 10, 11, 12] (by decide) rfl (ci := 1) (q0 := 0) rfl rfl [.int q]) rfl rfl hl.1 rfl (lv_room (Nat.le_of_ble_eq_true rfl)) dX1_gutterNumber_85 ⟨Nat.zero_le _, Nat.zero_le _⟩) hP hD hS hA [0, 1, 2, 3, 4, 5, 6, 7, 8, 9, 10, 11, 12] rfl rfl rfl (fun H locs hP hD hS => ?_)
    exact k_iret hx hb hr hlocks hS hP dX1_gutterNumber_88 (by (simp only [gnC, ↓reduceIte]))
  · skip
    refine lv_tableIn (off := 88) (tgt := 89) hx hb dX1_gutterNumber_1 (by decide +kernel) (by decide +kernel) (by decide +kernel) (by decide) ?_
    refine lv_aload_n hx hb dX1_gutterNumber_89 rfl (lv_at hl 0 rfl) ?_
    refine lv_iload_n hx hb dX1_gutterNumber_90 rfl (lv_at hl 1 rfl) ?_
    refine k_calli (wc := cR cI a r) (w' := cR cI a r) (wn := cR cI a r) (va_runV (As := [.int q]) (rest := []) ⟨hx, hb, hml, hown, hts⟩ (mX1_pipeTakes l D cI cQ cJ a r q i hq hi _) (cwV 1 hts gX1_gutterNumber_X1_pipeTakes rfl rfl rfl (by decide +kernel) ⟨Nat.le_of_ble_eq_true rfl, Nat.le_of_ble_eq_true rfl⟩) (k_preV (wc := cR cI a r) hE hK hP hD [0, 1, 2, 3, 4, 5, 6, 7, 8, 9, 10, 11, 12] (by decide) rfl (ci := 1) (q0 := 0) rfl rfl [.int q]) rfl rfl hl.1 rfl (lv_room (Nat.le_of_ble_eq_true rfl)) dX1_gutterNumber_91 ⟨Nat.zero_le _, Nat.zero_le _⟩) hP hD hS hA [0, 1, 2, 3, 4, 5, 6, 7, 8, 9, 10, 11, 12] rfl rfl rfl (fun H locs hP hD hS => ?_)
    exact k_iret hx hb hr hlocks hS hP dX1_gutterNumber_94 (by (simp only [gnC, ↓reduceIte]))
  · skip
    refine lv_tableIn (off := 94) (tgt := 95) hx hb dX1_gutterNumber_1 (by decide +kernel) (by decide +kernel) (by decide +kernel) (by decide) ?_
    refine lv_aload_n hx hb dX1_gutterNumber_95 rfl (lv_at hl 0 rfl) ?_
    refine va_get (D := D) (ci := 1) (v := .ref (a 10)) (C := RX1) (T := TX1) (N := 16) hx hb hts hinX1 hown hK hP 0 rfl rfl 9 (by decide) fl39 (fun _ h9 => h9) rfl dX1_gutterNumber_96 ?_
    refine lv_iload_n hx hb dX1_gutterNumber_99 rfl (lv_at hl 1 rfl) ?_
    refine k_iald (k := i) (v := r 9 i) hx hb hK hP 10 0 rfl rfl hq hi (rfl) dX1_gutterNumber_100 ?_
    exact k_iret hx hb hr hlocks hS hP dX1_gutterNumber_101 (by (simp only [gnC, ↓reduceIte]))
  · skip
    refine lv_tableOut (tgt := 102) hx hb dX1_gutterNumber_1 (by decide +kernel) (by decide) ?_
    refine lv_aload_n hx hb dX1_gutterNumber_102 rfl (lv_at hl 0 rfl) ?_
    refine va_get (D := D) (ci := 1) (v := .ref (a 11)) (C := RX1) (T := TX1) (N := 16) hx hb hts hinX1 hown hK hP 0 rfl rfl 10 (by decide) fl42 (fun _ h9 => h9) rfl dX1_gutterNumber_103 ?_
    refine lv_iload_n hx hb dX1_gutterNumber_106 rfl (lv_at hl 1 rfl) ?_
    refine k_iald (k := i) (v := r 10 i) hx hb hK hP 11 0 rfl rfl hq hi (rfl) dX1_gutterNumber_107 ?_
    exact k_iret hx hb hr hlocks hS hP dX1_gutterNumber_108 (by (simp only [gnC, ↓reduceIte]))
end
section
set_option maxHeartbeats 4000000 in
set_option maxRecDepth 100000 in
theorem mX1_copyFrom (l : Launch) (D : va_G) (cI cQ cJ : ClassId) (a : Nat → Nat) (r : rB) (a2 : Nat → Nat) (r2 : rB) : Mv l D (tY cI cQ cJ) yX1_copyFrom wsX1_copyFrom ({ frames := 1, cells := 0, slots := 0, locals := 60 } : Room) [.ref (a 0), .ref (a2 0)] ((cR cI a r) ++ (cR cI a2 r2)) ((cR cI a r2) ++ (cR cI a2 r2)) := by
  refine M_of (cc := cX1_copyFrom) (maxL := 2) (ret := none) (Qc := fun A => va_Qv (fun (_ : Unit) => True) (fun _ t => Wd D ((cR cI a r2) ++ (cR cI a2 r2)) t) A) (by decide) rfl (Nat.le_of_ble_eq_true rfl) ?_
  intro p e s m below meth c A ls hB hE hP hK hD hA hl
  obtain ⟨hx, hb, hr, hml, hts, hown, hlocks⟩ := hB
  have hS : va_S A s.heap s.heap [] := va_S.rf
  have hl : lv_has ls 2 [(0, .ref (a 0)), (1, .ref (a2 0))] := hl
  have hinX1 : ∀ w ∈ u_ws RX1 TX1 16, w ∈ wsX1_copyFrom := by decide +kernel
  have fl9 := hts (.fieldLink RX1 9 "RoofDrains$Roof" "area" "[I") (by decide +kernel)
  have ac1 := hts (.methodLink RX1 48 arraycopyName) (by decide +kernel)
  have ac2 := hts (.native arraycopyName) (by decide +kernel)
  have ac3 := hts (.static arraycopyName) (by decide +kernel)
  have ac4 := hts (.initialized "java/lang/System") (by decide +kernel)
  have fl15 := hts (.fieldLink RX1 15 "RoofDrains$Roof" "slope" "[I") (by decide +kernel)
  have fl18 := hts (.fieldLink RX1 18 "RoofDrains$Roof" "leadsTo" "[I") (by decide +kernel)
  have fl21 := hts (.fieldLink RX1 21 "RoofDrains$Roof" "onPlane" "[I") (by decide +kernel)
  have fl24 := hts (.fieldLink RX1 24 "RoofDrains$Roof" "size" "[I") (by decide +kernel)
  have fl27 := hts (.fieldLink RX1 27 "RoofDrains$Roof" "bore" "[I") (by decide +kernel)
  have fl30 := hts (.fieldLink RX1 30 "RoofDrains$Roof" "leaves" "[I") (by decide +kernel)
  have fl33 := hts (.fieldLink RX1 33 "RoofDrains$Roof" "valleyTo" "[I") (by decide +kernel)
  have fl36 := hts (.fieldLink RX1 36 "RoofDrains$Roof" "inGutter" "[I") (by decide +kernel)
  have fl39 := hts (.fieldLink RX1 39 "RoofDrains$Roof" "spilt" "[I") (by decide +kernel)
  have fl42 := hts (.fieldLink RX1 42 "RoofDrains$Roof" "drained" "[I") (by decide +kernel)
  have fl45 := hts (.fieldLink RX1 45 "RoofDrains$Roof" "values" "[I") (by decide +kernel)
  have fl54 := hts (.fieldLink RX1 54 "RoofDrains$Roof" "minutesGone" "I") (by decide +kernel)
  have fl58 := hts (.fieldLink RX1 58 "RoofDrains$Roof" "weeksPassed" "I") (by decide +kernel)
  have fl61 := hts (.fieldLink RX1 61 "RoofDrains$Roof" "rained" "I") (by decide +kernel)
  have fl64 := hts (.fieldLink RX1 64 "RoofDrains$Roof" "backedUp" "I") (by decide +kernel)
  refine lv_aload_n hx hb dX1_copyFrom_0 rfl (lv_at hl 1 rfl) ?_
  refine va_get (D := D) (ci := 1) (v := .ref (a2 1)) (C := RX1) (T := TX1) (N := 16) hx hb hts hinX1 hown hK hP 13 rfl rfl 0 (by decide) fl9 (fun _ h9 => h9) rfl dX1_copyFrom_1 ?_
  refine lv_iconst (v := 0) hx hb dX1_copyFrom_4 (by decide) ?_
  refine lv_aload_n hx hb dX1_copyFrom_5 rfl (lv_at hl 0 rfl) ?_
  refine va_get (D := D) (ci := 1) (v := .ref (a 1)) (C := RX1) (T := TX1) (N := 16) hx hb hts hinX1 hown hK hP 0 rfl rfl 0 (by decide) fl9 (fun _ h9 => h9) rfl dX1_copyFrom_6 ?_
  refine lv_iconst (v := 0) hx hb dX1_copyFrom_9 (by decide) ?_
  refine lv_bipush (v := 6) hx hb dX1_copyFrom_10 (by decide) ?_
  refine va_copyi (ty := .int) hx hb (hml.trans hl.1.symm) hown ac1 ac2 ac3 ac4 hK hP hD hS 14 1 0 0 rfl rfl rfl rfl rfl (by decide) (by decide) (by decide) (by decide) (by decide) (fun i _ => rfl) (Nat.le_of_ble_eq_true rfl) (Nat.le_of_ble_eq_true rfl) dX1_copyFrom_12 (fun H locs hP hD hS => ?_)
  obtain ⟨hP, hD⟩ := P_arr hP hD 1 (r2 0) rfl (fun j hj => sb_cpy0 hj) (ws' := (cR cI a (sr r 0 (r2 0))) ++ (cR cI a2 r2)) rfl
  refine lv_aload_n hx hb dX1_copyFrom_15 rfl (lv_at hl 1 rfl) ?_
  refine va_get (D := D) (ci := 1) (v := .ref (a2 2)) (C := RX1) (T := TX1) (N := 16) hx hb hts hinX1 hown hK hP 13 rfl rfl 1 (by decide) fl15 (fun _ h9 => h9) rfl dX1_copyFrom_16 ?_
  refine lv_iconst (v := 0) hx hb dX1_copyFrom_19 (by decide) ?_
  refine lv_aload_n hx hb dX1_copyFrom_20 rfl (lv_at hl 0 rfl) ?_
  refine va_get (D := D) (ci := 1) (v := .ref (a 2)) (C := RX1) (T := TX1) (N := 16) hx hb hts hinX1 hown hK hP 0 rfl rfl 1 (by decide) fl15 (fun _ h9 => h9) rfl dX1_copyFrom_21 ?_
  refine lv_iconst (v := 0) hx hb dX1_copyFrom_24 (by decide) ?_
  refine lv_bipush (v := 6) hx hb dX1_copyFrom_25 (by decide) ?_
  refine va_copyi (ty := .int) hx hb (hml.trans hl.1.symm) hown ac1 ac2 ac3 ac4 hK hP hD hS 15 2 0 0 rfl rfl rfl rfl rfl (by decide) (by decide) (by decide) (by decide) (by decide) (fun i _ => rfl) (Nat.le_of_ble_eq_true rfl) (Nat.le_of_ble_eq_true rfl) dX1_copyFrom_27 (fun H locs hP hD hS => ?_)
  obtain ⟨hP, hD⟩ := P_arr hP hD 2 (r2 1) rfl (fun j hj => sb_cpy0 hj) (ws' := (cR cI a (sr (sr r 0 (r2 0)) 1 (r2 1))) ++ (cR cI a2 r2)) rfl
  refine lv_aload_n hx hb dX1_copyFrom_30 rfl (lv_at hl 1 rfl) ?_
  refine va_get (D := D) (ci := 1) (v := .ref (a2 3)) (C := RX1) (T := TX1) (N := 16) hx hb hts hinX1 hown hK hP 13 rfl rfl 2 (by decide) fl18 (fun _ h9 => h9) rfl dX1_copyFrom_31 ?_
  refine lv_iconst (v := 0) hx hb dX1_copyFrom_34 (by decide) ?_
  refine lv_aload_n hx hb dX1_copyFrom_35 rfl (lv_at hl 0 rfl) ?_
  refine va_get (D := D) (ci := 1) (v := .ref (a 3)) (C := RX1) (T := TX1) (N := 16) hx hb hts hinX1 hown hK hP 0 rfl rfl 2 (by decide) fl18 (fun _ h9 => h9) rfl dX1_copyFrom_36 ?_
  refine lv_iconst (v := 0) hx hb dX1_copyFrom_39 (by decide) ?_
  refine lv_bipush (v := 6) hx hb dX1_copyFrom_40 (by decide) ?_
  refine va_copyi (ty := .int) hx hb (hml.trans hl.1.symm) hown ac1 ac2 ac3 ac4 hK hP hD hS 16 3 0 0 rfl rfl rfl rfl rfl (by decide) (by decide) (by decide) (by decide) (by decide) (fun i _ => rfl) (Nat.le_of_ble_eq_true rfl) (Nat.le_of_ble_eq_true rfl) dX1_copyFrom_42 (fun H locs hP hD hS => ?_)
  obtain ⟨hP, hD⟩ := P_arr hP hD 3 (r2 2) rfl (fun j hj => sb_cpy0 hj) (ws' := (cR cI a (sr (sr (sr r 0 (r2 0)) 1 (r2 1)) 2 (r2 2))) ++ (cR cI a2 r2)) rfl
  refine lv_aload_n hx hb dX1_copyFrom_45 rfl (lv_at hl 1 rfl) ?_
  refine va_get (D := D) (ci := 1) (v := .ref (a2 4)) (C := RX1) (T := TX1) (N := 16) hx hb hts hinX1 hown hK hP 13 rfl rfl 3 (by decide) fl21 (fun _ h9 => h9) rfl dX1_copyFrom_46 ?_
  refine lv_iconst (v := 0) hx hb dX1_copyFrom_49 (by decide) ?_
  refine lv_aload_n hx hb dX1_copyFrom_50 rfl (lv_at hl 0 rfl) ?_
  refine va_get (D := D) (ci := 1) (v := .ref (a 4)) (C := RX1) (T := TX1) (N := 16) hx hb hts hinX1 hown hK hP 0 rfl rfl 3 (by decide) fl21 (fun _ h9 => h9) rfl dX1_copyFrom_51 ?_
  refine lv_iconst (v := 0) hx hb dX1_copyFrom_54 (by decide) ?_
  refine lv_bipush (v := 6) hx hb dX1_copyFrom_55 (by decide) ?_
  refine va_copyi (ty := .int) hx hb (hml.trans hl.1.symm) hown ac1 ac2 ac3 ac4 hK hP hD hS 17 4 0 0 rfl rfl rfl rfl rfl (by decide) (by decide) (by decide) (by decide) (by decide) (fun i _ => rfl) (Nat.le_of_ble_eq_true rfl) (Nat.le_of_ble_eq_true rfl) dX1_copyFrom_57 (fun H locs hP hD hS => ?_)
  obtain ⟨hP, hD⟩ := P_arr hP hD 4 (r2 3) rfl (fun j hj => sb_cpy0 hj) (ws' := (cR cI a (sr (sr (sr (sr r 0 (r2 0)) 1 (r2 1)) 2 (r2 2)) 3 (r2 3))) ++ (cR cI a2 r2)) rfl
  refine lv_aload_n hx hb dX1_copyFrom_60 rfl (lv_at hl 1 rfl) ?_
  refine va_get (D := D) (ci := 1) (v := .ref (a2 5)) (C := RX1) (T := TX1) (N := 16) hx hb hts hinX1 hown hK hP 13 rfl rfl 4 (by decide) fl24 (fun _ h9 => h9) rfl dX1_copyFrom_61 ?_
  refine lv_iconst (v := 0) hx hb dX1_copyFrom_64 (by decide) ?_
  refine lv_aload_n hx hb dX1_copyFrom_65 rfl (lv_at hl 0 rfl) ?_
  refine va_get (D := D) (ci := 1) (v := .ref (a 5)) (C := RX1) (T := TX1) (N := 16) hx hb hts hinX1 hown hK hP 0 rfl rfl 4 (by decide) fl24 (fun _ h9 => h9) rfl dX1_copyFrom_66 ?_
  refine lv_iconst (v := 0) hx hb dX1_copyFrom_69 (by decide) ?_
  refine lv_bipush (v := 6) hx hb dX1_copyFrom_70 (by decide) ?_
  refine va_copyi (ty := .int) hx hb (hml.trans hl.1.symm) hown ac1 ac2 ac3 ac4 hK hP hD hS 18 5 0 0 rfl rfl rfl rfl rfl (by decide) (by decide) (by decide) (by decide) (by decide) (fun i _ => rfl) (Nat.le_of_ble_eq_true rfl) (Nat.le_of_ble_eq_true rfl) dX1_copyFrom_72 (fun H locs hP hD hS => ?_)
  obtain ⟨hP, hD⟩ := P_arr hP hD 5 (r2 4) rfl (fun j hj => sb_cpy0 hj) (ws' := (cR cI a (sr (sr (sr (sr (sr r 0 (r2 0)) 1 (r2 1)) 2 (r2 2)) 3 (r2 3)) 4 (r2 4))) ++ (cR cI a2 r2)) rfl
  refine lv_aload_n hx hb dX1_copyFrom_75 rfl (lv_at hl 1 rfl) ?_
  refine va_get (D := D) (ci := 1) (v := .ref (a2 6)) (C := RX1) (T := TX1) (N := 16) hx hb hts hinX1 hown hK hP 13 rfl rfl 5 (by decide) fl27 (fun _ h9 => h9) rfl dX1_copyFrom_76 ?_
  refine lv_iconst (v := 0) hx hb dX1_copyFrom_79 (by decide) ?_
  refine lv_aload_n hx hb dX1_copyFrom_80 rfl (lv_at hl 0 rfl) ?_
  refine va_get (D := D) (ci := 1) (v := .ref (a 6)) (C := RX1) (T := TX1) (N := 16) hx hb hts hinX1 hown hK hP 0 rfl rfl 5 (by decide) fl27 (fun _ h9 => h9) rfl dX1_copyFrom_81 ?_
  refine lv_iconst (v := 0) hx hb dX1_copyFrom_84 (by decide) ?_
  refine lv_bipush (v := 6) hx hb dX1_copyFrom_85 (by decide) ?_
  refine va_copyi (ty := .int) hx hb (hml.trans hl.1.symm) hown ac1 ac2 ac3 ac4 hK hP hD hS 19 6 0 0 rfl rfl rfl rfl rfl (by decide) (by decide) (by decide) (by decide) (by decide) (fun i _ => rfl) (Nat.le_of_ble_eq_true rfl) (Nat.le_of_ble_eq_true rfl) dX1_copyFrom_87 (fun H locs hP hD hS => ?_)
  obtain ⟨hP, hD⟩ := P_arr hP hD 6 (r2 5) rfl (fun j hj => sb_cpy0 hj) (ws' := (cR cI a (sr (sr (sr (sr (sr (sr r 0 (r2 0)) 1 (r2 1)) 2 (r2 2)) 3 (r2 3)) 4 (r2 4)) 5 (r2 5))) ++ (cR cI a2 r2)) rfl
  refine lv_aload_n hx hb dX1_copyFrom_90 rfl (lv_at hl 1 rfl) ?_
  refine va_get (D := D) (ci := 1) (v := .ref (a2 7)) (C := RX1) (T := TX1) (N := 16) hx hb hts hinX1 hown hK hP 13 rfl rfl 6 (by decide) fl30 (fun _ h9 => h9) rfl dX1_copyFrom_91 ?_
  refine lv_iconst (v := 0) hx hb dX1_copyFrom_94 (by decide) ?_
  refine lv_aload_n hx hb dX1_copyFrom_95 rfl (lv_at hl 0 rfl) ?_
  refine va_get (D := D) (ci := 1) (v := .ref (a 7)) (C := RX1) (T := TX1) (N := 16) hx hb hts hinX1 hown hK hP 0 rfl rfl 6 (by decide) fl30 (fun _ h9 => h9) rfl dX1_copyFrom_96 ?_
  refine lv_iconst (v := 0) hx hb dX1_copyFrom_99 (by decide) ?_
  refine lv_bipush (v := 6) hx hb dX1_copyFrom_100 (by decide) ?_
  refine va_copyi (ty := .int) hx hb (hml.trans hl.1.symm) hown ac1 ac2 ac3 ac4 hK hP hD hS 20 7 0 0 rfl rfl rfl rfl rfl (by decide) (by decide) (by decide) (by decide) (by decide) (fun i _ => rfl) (Nat.le_of_ble_eq_true rfl) (Nat.le_of_ble_eq_true rfl) dX1_copyFrom_102 (fun H locs hP hD hS => ?_)
  obtain ⟨hP, hD⟩ := P_arr hP hD 7 (r2 6) rfl (fun j hj => sb_cpy0 hj) (ws' := (cR cI a (sr (sr (sr (sr (sr (sr (sr r 0 (r2 0)) 1 (r2 1)) 2 (r2 2)) 3 (r2 3)) 4 (r2 4)) 5 (r2 5)) 6 (r2 6))) ++ (cR cI a2 r2)) rfl
  refine lv_aload_n hx hb dX1_copyFrom_105 rfl (lv_at hl 1 rfl) ?_
  refine va_get (D := D) (ci := 1) (v := .ref (a2 8)) (C := RX1) (T := TX1) (N := 16) hx hb hts hinX1 hown hK hP 13 rfl rfl 7 (by decide) fl33 (fun _ h9 => h9) rfl dX1_copyFrom_106 ?_
  refine lv_iconst (v := 0) hx hb dX1_copyFrom_109 (by decide) ?_
  refine lv_aload_n hx hb dX1_copyFrom_110 rfl (lv_at hl 0 rfl) ?_
  refine va_get (D := D) (ci := 1) (v := .ref (a 8)) (C := RX1) (T := TX1) (N := 16) hx hb hts hinX1 hown hK hP 0 rfl rfl 7 (by decide) fl33 (fun _ h9 => h9) rfl dX1_copyFrom_111 ?_
  refine lv_iconst (v := 0) hx hb dX1_copyFrom_114 (by decide) ?_
  refine lv_bipush (v := 6) hx hb dX1_copyFrom_115 (by decide) ?_
  refine va_copyi (ty := .int) hx hb (hml.trans hl.1.symm) hown ac1 ac2 ac3 ac4 hK hP hD hS 21 8 0 0 rfl rfl rfl rfl rfl (by decide) (by decide) (by decide) (by decide) (by decide) (fun i _ => rfl) (Nat.le_of_ble_eq_true rfl) (Nat.le_of_ble_eq_true rfl) dX1_copyFrom_117 (fun H locs hP hD hS => ?_)
  obtain ⟨hP, hD⟩ := P_arr hP hD 8 (r2 7) rfl (fun j hj => sb_cpy0 hj) (ws' := (cR cI a (sr (sr (sr (sr (sr (sr (sr (sr r 0 (r2 0)) 1 (r2 1)) 2 (r2 2)) 3 (r2 3)) 4 (r2 4)) 5 (r2 5)) 6 (r2 6)) 7 (r2 7))) ++ (cR cI a2 r2)) rfl
  refine lv_aload_n hx hb dX1_copyFrom_120 rfl (lv_at hl 1 rfl) ?_
  refine va_get (D := D) (ci := 1) (v := .ref (a2 9)) (C := RX1) (T := TX1) (N := 16) hx hb hts hinX1 hown hK hP 13 rfl rfl 8 (by decide) fl36 (fun _ h9 => h9) rfl dX1_copyFrom_121 ?_
  refine lv_iconst (v := 0) hx hb dX1_copyFrom_124 (by decide) ?_
  refine lv_aload_n hx hb dX1_copyFrom_125 rfl (lv_at hl 0 rfl) ?_
  refine va_get (D := D) (ci := 1) (v := .ref (a 9)) (C := RX1) (T := TX1) (N := 16) hx hb hts hinX1 hown hK hP 0 rfl rfl 8 (by decide) fl36 (fun _ h9 => h9) rfl dX1_copyFrom_126 ?_
  refine lv_iconst (v := 0) hx hb dX1_copyFrom_129 (by decide) ?_
  refine lv_bipush (v := 6) hx hb dX1_copyFrom_130 (by decide) ?_
  refine va_copyi (ty := .int) hx hb (hml.trans hl.1.symm) hown ac1 ac2 ac3 ac4 hK hP hD hS 22 9 0 0 rfl rfl rfl rfl rfl (by decide) (by decide) (by decide) (by decide) (by decide) (fun i _ => rfl) (Nat.le_of_ble_eq_true rfl) (Nat.le_of_ble_eq_true rfl) dX1_copyFrom_132 (fun H locs hP hD hS => ?_)
  obtain ⟨hP, hD⟩ := P_arr hP hD 9 (r2 8) rfl (fun j hj => sb_cpy0 hj) (ws' := (cR cI a (sr (sr (sr (sr (sr (sr (sr (sr (sr r 0 (r2 0)) 1 (r2 1)) 2 (r2 2)) 3 (r2 3)) 4 (r2 4)) 5 (r2 5)) 6 (r2 6)) 7 (r2 7)) 8 (r2 8))) ++ (cR cI a2 r2)) rfl
  refine lv_aload_n hx hb dX1_copyFrom_135 rfl (lv_at hl 1 rfl) ?_
  refine va_get (D := D) (ci := 1) (v := .ref (a2 10)) (C := RX1) (T := TX1) (N := 16) hx hb hts hinX1 hown hK hP 13 rfl rfl 9 (by decide) fl39 (fun _ h9 => h9) rfl dX1_copyFrom_136 ?_
  refine lv_iconst (v := 0) hx hb dX1_copyFrom_139 (by decide) ?_
  refine lv_aload_n hx hb dX1_copyFrom_140 rfl (lv_at hl 0 rfl) ?_
  refine va_get (D := D) (ci := 1) (v := .ref (a 10)) (C := RX1) (T := TX1) (N := 16) hx hb hts hinX1 hown hK hP 0 rfl rfl 9 (by decide) fl39 (fun _ h9 => h9) rfl dX1_copyFrom_141 ?_
  refine lv_iconst (v := 0) hx hb dX1_copyFrom_144 (by decide) ?_
  refine lv_bipush (v := 6) hx hb dX1_copyFrom_145 (by decide) ?_
  refine va_copyi (ty := .int) hx hb (hml.trans hl.1.symm) hown ac1 ac2 ac3 ac4 hK hP hD hS 23 10 0 0 rfl rfl rfl rfl rfl (by decide) (by decide) (by decide) (by decide) (by decide) (fun i _ => rfl) (Nat.le_of_ble_eq_true rfl) (Nat.le_of_ble_eq_true rfl) dX1_copyFrom_147 (fun H locs hP hD hS => ?_)
  obtain ⟨hP, hD⟩ := P_arr hP hD 10 (r2 9) rfl (fun j hj => sb_cpy0 hj) (ws' := (cR cI a (sr (sr (sr (sr (sr (sr (sr (sr (sr (sr r 0 (r2 0)) 1 (r2 1)) 2 (r2 2)) 3 (r2 3)) 4 (r2 4)) 5 (r2 5)) 6 (r2 6)) 7 (r2 7)) 8 (r2 8)) 9 (r2 9))) ++ (cR cI a2 r2)) rfl
  refine lv_aload_n hx hb dX1_copyFrom_150 rfl (lv_at hl 1 rfl) ?_
  refine va_get (D := D) (ci := 1) (v := .ref (a2 11)) (C := RX1) (T := TX1) (N := 16) hx hb hts hinX1 hown hK hP 13 rfl rfl 10 (by decide) fl42 (fun _ h9 => h9) rfl dX1_copyFrom_151 ?_
  refine lv_iconst (v := 0) hx hb dX1_copyFrom_154 (by decide) ?_
  refine lv_aload_n hx hb dX1_copyFrom_155 rfl (lv_at hl 0 rfl) ?_
  refine va_get (D := D) (ci := 1) (v := .ref (a 11)) (C := RX1) (T := TX1) (N := 16) hx hb hts hinX1 hown hK hP 0 rfl rfl 10 (by decide) fl42 (fun _ h9 => h9) rfl dX1_copyFrom_156 ?_
  refine lv_iconst (v := 0) hx hb dX1_copyFrom_159 (by decide) ?_
  refine lv_bipush (v := 6) hx hb dX1_copyFrom_160 (by decide) ?_
  refine va_copyi (ty := .int) hx hb (hml.trans hl.1.symm) hown ac1 ac2 ac3 ac4 hK hP hD hS 24 11 0 0 rfl rfl rfl rfl rfl (by decide) (by decide) (by decide) (by decide) (by decide) (fun i _ => rfl) (Nat.le_of_ble_eq_true rfl) (Nat.le_of_ble_eq_true rfl) dX1_copyFrom_162 (fun H locs hP hD hS => ?_)
  obtain ⟨hP, hD⟩ := P_arr hP hD 11 (r2 10) rfl (fun j hj => sb_cpy0 hj) (ws' := (cR cI a (sr (sr (sr (sr (sr (sr (sr (sr (sr (sr (sr r 0 (r2 0)) 1 (r2 1)) 2 (r2 2)) 3 (r2 3)) 4 (r2 4)) 5 (r2 5)) 6 (r2 6)) 7 (r2 7)) 8 (r2 8)) 9 (r2 9)) 10 (r2 10))) ++ (cR cI a2 r2)) rfl
  refine lv_aload_n hx hb dX1_copyFrom_165 rfl (lv_at hl 1 rfl) ?_
  refine va_get (D := D) (ci := 1) (v := .ref (a2 12)) (C := RX1) (T := TX1) (N := 16) hx hb hts hinX1 hown hK hP 13 rfl rfl 11 (by decide) fl45 (fun _ h9 => h9) rfl dX1_copyFrom_166 ?_
  refine lv_iconst (v := 0) hx hb dX1_copyFrom_169 (by decide) ?_
  refine lv_aload_n hx hb dX1_copyFrom_170 rfl (lv_at hl 0 rfl) ?_
  refine va_get (D := D) (ci := 1) (v := .ref (a 12)) (C := RX1) (T := TX1) (N := 16) hx hb hts hinX1 hown hK hP 0 rfl rfl 11 (by decide) fl45 (fun _ h9 => h9) rfl dX1_copyFrom_171 ?_
  refine lv_iconst (v := 0) hx hb dX1_copyFrom_174 (by decide) ?_
  refine lv_iconst (v := 3) hx hb dX1_copyFrom_175 (by decide) ?_
  refine va_copyi (ty := .int) hx hb (hml.trans hl.1.symm) hown ac1 ac2 ac3 ac4 hK hP hD hS 25 12 0 0 rfl rfl rfl rfl rfl (by decide) (by decide) (by decide) (by decide) (by decide) (fun i _ => rfl) (Nat.le_of_ble_eq_true rfl) (Nat.le_of_ble_eq_true rfl) dX1_copyFrom_176 (fun H locs hP hD hS => ?_)
  obtain ⟨hP, hD⟩ := P_arr hP hD 12 (r2 11) rfl (fun j hj => sb_cpy0 hj) (ws' := (cR cI a (sr (sr (sr (sr (sr (sr (sr (sr (sr (sr (sr (sr r 0 (r2 0)) 1 (r2 1)) 2 (r2 2)) 3 (r2 3)) 4 (r2 4)) 5 (r2 5)) 6 (r2 6)) 7 (r2 7)) 8 (r2 8)) 9 (r2 9)) 10 (r2 10)) 11 (r2 11))) ++ (cR cI a2 r2)) rfl
  refine lv_aload_n hx hb dX1_copyFrom_179 rfl (lv_at hl 0 rfl) ?_
  refine lv_aload_n hx hb dX1_copyFrom_180 rfl (lv_at hl 1 rfl) ?_
  refine va_get (D := D) (ci := 1) (v := .int (r2 12 0)) (C := RX1) (T := TX1) (N := 16) hx hb hts hinX1 hown hK hP 13 rfl rfl 12 (by decide) fl54 (fun _ h9 => h9) (congrArg (fun z => some (Value.int z)) (rfl)) dX1_copyFrom_181 ?_
  refine lv_topi (fun f_1 ef_1 => ?_)
  refine k_put (D := D) (ci := 1) (v := .int f_1) (ty := .int) (C := RX1) (T := TX1) (N := 16) hx hb hts hinX1 tyX1 tyX1_ok nmX1 hown hK hP hD hS 0 rfl rfl 12 (by decide) fl54 (fun _ h9 => h9) rfl (by decide +kernel) rfl rfl (Nat.le_of_ble_eq_true rfl) (ws' := (cR cI a (bp (sr (sr (sr (sr (sr (sr (sr (sr (sr (sr (sr (sr r 0 (r2 0)) 1 (r2 1)) 2 (r2 2)) 3 (r2 3)) 4 (r2 4)) 5 (r2 5)) 6 (r2 6)) 7 (r2 7)) 8 (r2 8)) 9 (r2 9)) 10 (r2 10)) 11 (r2 11)) 12 0 f_1)) ++ (cR cI a2 r2)) rfl dX1_copyFrom_184 (fun H locs hP hD hS => ?_)
  refine lv_aload_n hx hb dX1_copyFrom_187 rfl (lv_at hl 0 rfl) ?_
  refine lv_aload_n hx hb dX1_copyFrom_188 rfl (lv_at hl 1 rfl) ?_
  refine va_get (D := D) (ci := 1) (v := .int (r2 12 1)) (C := RX1) (T := TX1) (N := 16) hx hb hts hinX1 hown hK hP 13 rfl rfl 13 (by decide) fl58 (fun _ h9 => h9) (congrArg (fun z => some (Value.int z)) (rfl)) dX1_copyFrom_189 ?_
  refine lv_topi (fun f_2 ef_2 => ?_)
  refine k_put (D := D) (ci := 1) (v := .int f_2) (ty := .int) (C := RX1) (T := TX1) (N := 16) hx hb hts hinX1 tyX1 tyX1_ok nmX1 hown hK hP hD hS 0 rfl rfl 13 (by decide) fl58 (fun _ h9 => h9) rfl (by decide +kernel) rfl rfl (Nat.le_of_ble_eq_true rfl) (ws' := (cR cI a (bp (bp (sr (sr (sr (sr (sr (sr (sr (sr (sr (sr (sr (sr r 0 (r2 0)) 1 (r2 1)) 2 (r2 2)) 3 (r2 3)) 4 (r2 4)) 5 (r2 5)) 6 (r2 6)) 7 (r2 7)) 8 (r2 8)) 9 (r2 9)) 10 (r2 10)) 11 (r2 11)) 12 0 f_1) 12 1 f_2)) ++ (cR cI a2 r2)) rfl dX1_copyFrom_192 (fun H locs hP hD hS => ?_)
  refine lv_aload_n hx hb dX1_copyFrom_195 rfl (lv_at hl 0 rfl) ?_
  refine lv_aload_n hx hb dX1_copyFrom_196 rfl (lv_at hl 1 rfl) ?_
  refine va_get (D := D) (ci := 1) (v := .int (r2 12 2)) (C := RX1) (T := TX1) (N := 16) hx hb hts hinX1 hown hK hP 13 rfl rfl 14 (by decide) fl61 (fun _ h9 => h9) (congrArg (fun z => some (Value.int z)) (rfl)) dX1_copyFrom_197 ?_
  refine lv_topi (fun f_3 ef_3 => ?_)
  refine k_put (D := D) (ci := 1) (v := .int f_3) (ty := .int) (C := RX1) (T := TX1) (N := 16) hx hb hts hinX1 tyX1 tyX1_ok nmX1 hown hK hP hD hS 0 rfl rfl 14 (by decide) fl61 (fun _ h9 => h9) rfl (by decide +kernel) rfl rfl (Nat.le_of_ble_eq_true rfl) (ws' := (cR cI a (bp (bp (bp (sr (sr (sr (sr (sr (sr (sr (sr (sr (sr (sr (sr r 0 (r2 0)) 1 (r2 1)) 2 (r2 2)) 3 (r2 3)) 4 (r2 4)) 5 (r2 5)) 6 (r2 6)) 7 (r2 7)) 8 (r2 8)) 9 (r2 9)) 10 (r2 10)) 11 (r2 11)) 12 0 f_1) 12 1 f_2) 12 2 f_3)) ++ (cR cI a2 r2)) rfl dX1_copyFrom_200 (fun H locs hP hD hS => ?_)
  refine lv_aload_n hx hb dX1_copyFrom_203 rfl (lv_at hl 0 rfl) ?_
  refine lv_aload_n hx hb dX1_copyFrom_204 rfl (lv_at hl 1 rfl) ?_
  refine va_get (D := D) (ci := 1) (v := .int (r2 12 3)) (C := RX1) (T := TX1) (N := 16) hx hb hts hinX1 hown hK hP 13 rfl rfl 15 (by decide) fl64 (fun _ h9 => h9) (congrArg (fun z => some (Value.int z)) (rfl)) dX1_copyFrom_205 ?_
  refine lv_topi (fun f_4 ef_4 => ?_)
  refine k_put (D := D) (ci := 1) (v := .int f_4) (ty := .int) (C := RX1) (T := TX1) (N := 16) hx hb hts hinX1 tyX1 tyX1_ok nmX1 hown hK hP hD hS 0 rfl rfl 15 (by decide) fl64 (fun _ h9 => h9) rfl (by decide +kernel) rfl rfl (Nat.le_of_ble_eq_true rfl) (ws' := (cR cI a (bp (bp (bp (bp (sr (sr (sr (sr (sr (sr (sr (sr (sr (sr (sr (sr r 0 (r2 0)) 1 (r2 1)) 2 (r2 2)) 3 (r2 3)) 4 (r2 4)) 5 (r2 5)) 6 (r2 6)) 7 (r2 7)) 8 (r2 8)) 9 (r2 9)) 10 (r2 10)) 11 (r2 11)) 12 0 f_1) 12 1 f_2) 12 2 f_3) 12 3 f_4)) ++ (cR cI a2 r2)) rfl dX1_copyFrom_208 (fun H locs hP hD hS => ?_)
  replace ef_4 := ef_4.symm; subst ef_4
  replace ef_3 := ef_3.symm; subst ef_3
  replace ef_2 := ef_2.symm; subst ef_2
  replace ef_1 := ef_1.symm; subst ef_1
  have hP : va_P D vwCl ((cR cI a r2) ++ (cR cI a2 r2)) H := hP
  exact k_vret hx hb hr hlocks hS hP dX1_copyFrom_211
end
section
theorem putAt_cat : ∀ (is : List Nat) (w w' : va_W) (js : List Nat) (v' : va_W), is.length = w'.length → putAt w (is ++ js) (w' ++ v') = putAt (putAt w is w') js v'
  | [], w, w', js, v', h => by
    cases w' with
    | nil => rfl
    | cons a b => simp at h
  | i :: is, w, w', js, v', h => by
    cases w' with
    | nil => simp at h
    | cons a b => exact putAt_cat is (w.set i a) b js v' (by simpa using h)
theorem putAt_l : ∀ (is : List Nat) (x y v' : va_W) (n : Nat), x.length = n → (∀ i ∈ is, i < n) → putAt (x ++ y) is v' = putAt x is v' ++ y
  | [], x, y, v', n, _, _ => by cases v' <;> rfl
  | i :: is, x, y, v', n, hx, h => by
    cases v' with
    | nil => rfl
    | cons e es =>
      show putAt ((x ++ y).set i e) is es = putAt (x.set i e) is es ++ y
      rw [List.set_append_left i e (by rw [hx]; exact h i (List.mem_cons_self ..))]
      exact putAt_l is (x.set i e) y es n (by rw [List.length_set, hx]) (fun j hj => h j (List.mem_cons_of_mem i hj))
theorem putAt_0 : ∀ (m : Nat) (u v v' : va_W) (k : Nat), u.length = k → v.length = m → v'.length = m → putAt (u ++ v) (List.range' k m) v' = u ++ v'
  | 0, u, v, v', k, _, hv, hv' => by
    rw [List.length_eq_zero_iff.mp hv, List.length_eq_zero_iff.mp hv']; rfl
  | m + 1, u, v, v', k, hu, hv, hv' => by
    cases v with
    | nil => simp at hv
    | cons x v =>
      cases v' with
      | nil => simp at hv'
      | cons y v' =>
        show putAt ((u ++ x :: v).set k y) (List.range' (k + 1) m) v' = u ++ y :: v'
        rw [List.set_append_right k y (by omega), hu, Nat.sub_self]
        show putAt (u ++ y :: v) (List.range' (k + 1) m) v' = u ++ y :: v'
        have h := putAt_0 m (u ++ [y]) v v' (k + 1) (by simp [hu]) (by simpa using hv) (by simpa using hv')
        rw [List.append_assoc, List.append_assoc] at h
        exact h
theorem putAt_f (m : Nat) (v v' : va_W) (hv : v.length = m) (hv' : v'.length = m) : putAt v (List.range' 0 m) v' = v' := putAt_0 m [] v v' 0 rfl hv hv'
abbrev cO (o : Nat) (fs : List Value) : va_W := [(o, .inr (3, fs))]
/-! what would be, by the class: r the roof, the thought roof's bank behind it -/
def sicB (r : rB) (i : Nat) : rB := minutesC 30 (bp r 6 i 0) (r 11 2)
def sicV (r : rB) (i : Nat) : Int32 := smI (sicB r i 9) 6 0 0 - smI (r 9) 6 0 0
def wsC (r : rB) (x : Int32) : Nat → rB → rB × Int32
  | 0, q => (q, 0)
  | n + 1, q => if lowL (minuteC q x) r 6 0 = -1 then wsC r x n (minuteC q x) else (minuteC q x, 1)
def mrC (r : rB) (k : Nat) : Nat → rB → rB × Int32
  | 0, q => (q, -1)
  | n + 1, _ => if (wsC r (nI n) k r).2 = 0 then ((wsC r (nI n) k r).1, nI n) else mrC r k n (wsC r (nI n) k r).1
def sfC (r : rB) (w : Int32) : Nat → Nat → rB → rB × Int32
  | 0, _, q => (q, -1)
  | n + 1, i, q => if lowL (minuteC q (r 11 2)) r 6 0 = -1 then sfC r w n (i + 1) (minuteC q (r 11 2)) else (minuteC q (r 11 2), if w = 0 then lowL (minuteC q (r 11 2)) r 6 0 else nI i)
def bcT (r : rB) (i : Nat) (be le : Int32) : Int32 := if hasL r i = 0 then 0 else if be = -1 then 1 else if le ≤ sicV r i then 0 else 1
def bcC (r : rB) : Nat → Nat → rB → Int32 → Int32 → rB × Int32
  | 0, _, q, be, _ => (q, be)
  | n + 1, i, q, be, le => bcC r n (i + 1) (if hasL r i = 0 then q else sicB r i) (if bcT r i be le = 0 then be else nI i) (if bcT r i be le = 0 then le else sicV r i)
def dyC : Nat → Nat → rB → rB × Int32
  | 0, _, q => (q, -1)
  | n + 1, i, q => if standC q = 0 then (q, nI i) else dyC n (i + 1) (minuteC q 0)
def ifC (r : rB) (k : Nat) (w : Int32) : Int32 :=
  if w = 0 then smI (minutesC k r (r 11 2) 9) 6 0 0 - smI (r 9) 6 0 0 else if w = 1 then smI (minutesC k r (r 11 2) 10) 6 0 0 - smI (r 10) 6 0 0 else standC (minutesC k r (r 11 2))
theorem zW_ok {q lo hi : Int32} (h1 : ¬ q < lo) (h2 : ¬ hi < q) : ¬ zW q lo hi = 0 := by
  unfold zW; rw [if_neg h1, if_neg h2]; decide
theorem zL_ok {i : Nat} {n : Nat} {N : Int32} (hN : N = nI n) (hn : n < 2 ^ 31) (h : i < n) : ¬ zL (nI i) N = 0 := by
  subst hN
  unfold zL
  rw [if_neg (nI_pos (by omega)), if_neg (nI_ge h hn)]
  decide

/-! the bits of the share, the hash -/
theorem putAt_same : ∀ (is : List Nat) (w wc : va_W), is.map (fun i => w[i]?) = wc.map some → putAt w is wc = w
  | [], w, wc, _ => by cases wc <;> rfl
  | i :: is, w, wc, h => by
    cases wc with
    | nil => rfl
    | cons e es =>
      simp only [List.map_cons, List.cons.injEq] at h
      have h1 : w.set i e = w := by
        apply List.ext_getElem?
        intro k
        by_cases hk : i = k
        · subst hk
          rw [h.1, List.getElem?_set_self (List.getElem?_eq_some_iff.mp h.1).1]
        · rw [List.getElem?_set_ne hk]
      show putAt (w.set i e) is es = w
      rw [h1]
      exact putAt_same is w es h.2
end
section
set_option maxHeartbeats 4000000 in
set_option maxRecDepth 100000 in
theorem mX3_dryIn (l : Launch) (D : va_G) (cI cQ cJ : ClassId) (o s0 x0 : Nat) (a a2 : Nat → Nat) (r q : rB)  : Mi l D (tY cI cQ cJ) yX3_dryIn wsX3_dryIn ({ frames := 3, cells := 0, slots := 0, locals := 81 } : Room) [.ref o] ((cO o [.ref (a 0), .ref (a2 0), .ref s0, .ref x0]) ++ (cR cI a r) ++ (cR cI a2 q)) ((cO o [.ref (a 0), .ref (a2 0), .ref s0, .ref x0]) ++ (cR cI a r) ++ (cR cI a2 ((dyC 301 0 r).1))) ((dyC 301 0 r).2) := by
  refine M_of (cc := cX3_dryIn) (maxL := 2) (ret := some .int) (Qc := fun A => va_Qi (fun (x : Int32) (_ : Unit) => x = (dyC 301 0 r).2) (fun _ t => Wd D ((cO o [.ref (a 0), .ref (a2 0), .ref s0, .ref x0]) ++ (cR cI a r) ++ (cR cI a2 ((dyC 301 0 r).1))) t) A) (by decide) rfl (Nat.le_of_ble_eq_true rfl) ?_
  intro p e s m below meth c A ls hB hE hP hK hD hA hl
  obtain ⟨hx, hb, hr, hml, hts, hown, hlocks⟩ := hB
  have hS : va_S A s.heap s.heap [] := va_S.rf
  have hl : lv_has ls 2 [(0, .ref o)] := hl
  have hinX3 : ∀ w ∈ u_ws RX3 TX3 4, w ∈ wsX3_dryIn := by decide +kernel
  have fl16 := hts (.fieldLink RX3 16 "RoofDrains" "thought" "LRoofDrains$Roof;") (by decide +kernel)
  have fl10 := hts (.fieldLink RX3 10 "RoofDrains" "roof" "LRoofDrains$Roof;") (by decide +kernel)
  refine lv_aload_n hx hb dX3_dryIn_0 rfl (lv_at hl 0 rfl) ?_
  refine va_get (D := D) (ci := 3) (v := .ref (a2 0)) (C := RX3) (T := TX3) (N := 4) hx hb hts hinX3 hown hK hP 0 rfl rfl 1 (by decide) fl16 (fun _ h9 => h9) rfl dX3_dryIn_1 ?_
  refine lv_aload_n hx hb dX3_dryIn_4 rfl (lv_at hl 0 rfl) ?_
  refine va_get (D := D) (ci := 3) (v := .ref (a 0)) (C := RX3) (T := TX3) (N := 4) hx hb hts hinX3 hown hK hP 0 rfl rfl 0 (by decide) fl10 (fun _ h9 => h9) rfl dX3_dryIn_5 ?_
  refine k_callv (wc := (cR cI a2 q) ++ (cR cI a r)) (w' := (cR cI a2 r) ++ (cR cI a r)) (wn := (cO o [.ref (a 0), .ref (a2 0), .ref s0, .ref x0]) ++ (cR cI a r) ++ (cR cI a2 r)) (va_runV (As := [.ref (a 0)]) (rest := []) ⟨hx, hb, hml, hown, hts⟩ (mX1_copyFrom l D cI cQ cJ a2 q a r _) (cwV 1 hts gX3_dryIn_X1_copyFrom rfl rfl rfl (by decide +kernel) ⟨Nat.le_of_ble_eq_true rfl, Nat.le_of_ble_eq_true rfl⟩) (k_preV (wc := (cR cI a2 q) ++ (cR cI a r)) hE hK hP hD [14, 15, 16, 17, 18, 19, 20, 21, 22, 23, 24, 25, 26, 1, 2, 3, 4, 5, 6, 7, 8, 9, 10, 11, 12, 13] (by decide) rfl (ci := 1) (q0 := 14) rfl rfl [.ref (a 0)]) rfl rfl hl.1 rfl (lv_room (Nat.le_of_ble_eq_true rfl)) dX3_dryIn_8 ⟨Nat.zero_le _, Nat.zero_le _⟩) hP hD hS hA [14, 15, 16, 17, 18, 19, 20, 21, 22, 23, 24, 25, 26, 1, 2, 3, 4, 5, 6, 7, 8, 9, 10, 11, 12, 13] rfl rfl (by rw [show [14, 15, 16, 17, 18, 19, 20, 21, 22, 23, 24, 25, 26, 1, 2, 3, 4, 5, 6, 7, 8, 9, 10, 11, 12, 13] = List.range' 14 13 ++ List.range' 1 13 from rfl, putAt_cat, putAt_0 13 _ _ _ 14, putAt_l _ _ _ _ 14, putAt_0 13 _ _ _ 1] <;> first | rfl | decide) (fun H locs hP hD hS => ?_)
  refine lv_iconst (v := 0) hx hb dX3_dryIn_11 (by decide) ?_
  refine lv_istore_n (lv' := [(1, .int 0), (0, .ref o)]) hx hb dX3_dryIn_12 rfl hl (by decide) rfl (fun ls hl => ?_)
  have Lp13 : ∀ (n i : Nat) (q1 : rB), i + n = 301 → dyC n i q1 = dyC 301 0 r → ∀ (H : Heap) (locs : List Loc), va_P D vwCl ((cO o [.ref (a 0), .ref (a2 0), .ref s0, .ref x0]) ++ (cR cI a r) ++ (cR cI a2 q1)) H → va_D A ((cO o [.ref (a 0), .ref (a2 0), .ref s0, .ref x0]) ++ (cR cI a r) ++ (cR cI a2 q1)) → va_S A s.heap H locs → ∀ (ls : Array Slot), lv_has ls 2 [(1, .int (nI i)), (0, .ref o)] → W p l e ({ frames := 3, cells := 0, slots := 0, locals := 81 } : Room) s m ([.ref o] : List Value).toArray below meth c H locs 0 0 (MQ below (va_Qi (fun (x : Int32) (_ : Unit) => x = (dyC 301 0 r).2) (fun _ t => Wd D ((cO o [.ref (a 0), .ref (a2 0), .ref s0, .ref x0]) ++ (cR cI a r) ++ (cR cI a2 ((dyC 301 0 r).1))) t) A) ([.ref o] : List Value).toArray s 0 0 A) (F0 m 13 ls []) := by
    intro n
    induction n with
    | zero =>
      intro i q1 hin hres H locs hP hD hS ls hl
      refine lv_iload_n hx hb dX3_dryIn_13 rfl (lv_at hl 0 rfl) ?_
      refine lv_sipush (v := 300) hx hb dX3_dryIn_14 (by decide) ?_
      refine lv_icmp_gt (tgt := 46) hx hb dX3_dryIn_17 (by decide) (fun _ => ?_) (fun h9 => absurd (nI_lt (a := 300) (b := i) (by omega) (by omega)) h9)
      refine lv_iconst (v := (-1)) hx hb dX3_dryIn_46 (by decide) ?_
      have e9 : (q1 : rB) = (dyC 301 0 r).1 := by (rw [← hres]; simp only [dyC, ↓reduceIte])
      rw [e9] at hP
      exact k_iret hx hb hr hlocks hS hP dX3_dryIn_47 (by (rw [← hres]; simp only [dyC, ↓reduceIte]))
    | succ n ih =>
      intro i q1 hin hres H locs hP hD hS ls hl
      refine lv_iload_n hx hb dX3_dryIn_13 rfl (lv_at hl 0 rfl) ?_
      refine lv_sipush (v := 300) hx hb dX3_dryIn_14 (by decide) ?_
      refine lv_icmp_gt (tgt := 46) hx hb dX3_dryIn_17 (by decide) (fun h9 => absurd h9 (nI_nlt (a := 300) (b := i) (by omega) (by omega))) (fun _ => ?_)
      refine lv_aload_n hx hb dX3_dryIn_20 rfl (lv_at hl 1 rfl) ?_
      refine va_get (D := D) (ci := 3) (v := .ref (a2 0)) (C := RX3) (T := TX3) (N := 4) hx hb hts hinX3 hown hK hP 0 rfl rfl 1 (by decide) fl16 (fun _ h9 => h9) rfl dX3_dryIn_21 ?_
      refine k_calli (wc := cR cI a2 q1) (w' := cR cI a2 q1) (wn := (cO o [.ref (a 0), .ref (a2 0), .ref s0, .ref x0]) ++ (cR cI a r) ++ (cR cI a2 q1)) (va_runV (As := []) (rest := []) ⟨hx, hb, hml, hown, hts⟩ (mX1_standingLitres l D cI cQ cJ a2 q1 _) (cwV 0 hts gX3_dryIn_X1_standingLitres rfl rfl rfl (by decide +kernel) ⟨Nat.le_of_ble_eq_true rfl, Nat.le_of_ble_eq_true rfl⟩) (k_preV (wc := cR cI a2 q1) hE hK hP hD [14, 15, 16, 17, 18, 19, 20, 21, 22, 23, 24, 25, 26] (by decide) rfl (ci := 1) (q0 := 14) rfl rfl []) rfl rfl hl.1 rfl (lv_room (Nat.le_of_ble_eq_true rfl)) dX3_dryIn_24 ⟨Nat.zero_le _, Nat.zero_le _⟩) hP hD hS hA [14, 15, 16, 17, 18, 19, 20, 21, 22, 23, 24, 25, 26] rfl rfl (by rw [show [14, 15, 16, 17, 18, 19, 20, 21, 22, 23, 24, 25, 26] = List.range' 14 13 from rfl, putAt_0 13 _ _ _ 14] <;> first | rfl | decide) (fun H locs hP hD hS => ?_)
      refine lv_if_ne (tgt := 32) hx hb dX3_dryIn_27 (by decide) (fun c_1 => ?_) (fun c_1 => ?_)
      · skip
        refine lv_aload_n hx hb dX3_dryIn_32 rfl (lv_at hl 1 rfl) ?_
        refine va_get (D := D) (ci := 3) (v := .ref (a2 0)) (C := RX3) (T := TX3) (N := 4) hx hb hts hinX3 hown hK hP 0 rfl rfl 1 (by decide) fl16 (fun _ h9 => h9) rfl dX3_dryIn_33 ?_
        refine lv_iconst (v := 0) hx hb dX3_dryIn_36 (by decide) ?_
        obtain ⟨r_2, er_2⟩ : ∃ z : rB, z = minuteC q1 0 := ⟨_, rfl⟩
        have hm_3 := mX1_passMinute l D cI cQ cJ a2 q1 0
        rw [← er_2] at hm_3
        refine k_callv (wc := cR cI a2 q1) (w' := cR cI a2 r_2) (wn := (cO o [.ref (a 0), .ref (a2 0), .ref s0, .ref x0]) ++ (cR cI a r) ++ (cR cI a2 r_2)) (va_runV (As := [.int 0]) (rest := []) ⟨hx, hb, hml, hown, hts⟩ (hm_3 _) (cwV 1 hts gX3_dryIn_X1_passMinute rfl rfl rfl (by decide +kernel) ⟨Nat.le_of_ble_eq_true rfl, Nat.le_of_ble_eq_true rfl⟩) (k_preV (wc := cR cI a2 q1) hE hK hP hD [14, 15, 16, 17, 18, 19, 20, 21, 22, 23, 24, 25, 26] (by decide) rfl (ci := 1) (q0 := 14) rfl rfl [.int 0]) rfl rfl hl.1 rfl (lv_room (Nat.le_of_ble_eq_true rfl)) dX3_dryIn_37 ⟨Nat.zero_le _, Nat.zero_le _⟩) hP hD hS hA [14, 15, 16, 17, 18, 19, 20, 21, 22, 23, 24, 25, 26] rfl rfl (by rw [show [14, 15, 16, 17, 18, 19, 20, 21, 22, 23, 24, 25, 26] = List.range' 14 13 from rfl, putAt_0 13 _ _ _ 14] <;> first | rfl | decide) (fun H locs hP hD hS => ?_)
        refine lv_iinc (v := nI (i + 1)) (lv' := [(1, .int (nI (i + 1))), (0, .ref o)]) hx hb dX3_dryIn_40 hl (k := 0) rfl (nI_1 i) (by decide) rfl (fun ls hl => ?_)
        refine lv_goto (tgt := 13) hx hb dX3_dryIn_43 (by decide) ?_
        exact ih (i + 1) r_2 (by omega) (by replace er_2 := er_2.symm; subst er_2; rw [← hres]; simp only [dyC, if_neg c_1, ↓reduceIte]) H locs hP hD hS ls (lv_sub hl [0, 1] rfl)
      · skip
        refine lv_iload_n hx hb dX3_dryIn_30 rfl (lv_at hl 0 rfl) ?_
        have e9 : (q1 : rB) = (dyC 301 0 r).1 := by (rw [← hres]; simp only [dyC, if_pos c_1, ↓reduceIte])
        rw [e9] at hP
        exact k_iret hx hb hr hlocks hS hP dX3_dryIn_31 (by (rw [← hres]; simp only [dyC, if_pos c_1, ↓reduceIte]))
  exact Lp13 301 0 r (by omega) rfl _ _ hP hD hS ls (lv_sub hl [0, 1] rfl)
end
section
/-! the class's own calls: the world of an object, what they need of the machine, how they end -/
def zF (A : Nat → Nat → Nat) (n : Nat) : Nat → Option Nat := fun i => if i < n then some (A i 0) else none
/-- the saved roofs -/
def cZ (cI : ClassId) (A : Nat → Nat → Nat) (B : Nat → rB) : Nat → va_W
  | 0 => []
  | n + 1 => cZ cI A B n ++ cR cI (A n) (B n)
abbrev cS (cQ : ClassId) (s0 w0 : Nat) (f : Nat → Option Nat) (vo vh : Int32) : va_W := [(s0, .inr (2, [.ref w0, .int vo, .int vh])), (w0, .inl (cQ, 6, .inr (.inr (.inr (.inr f)))))]
theorem cZ_len {cI : ClassId} {A : Nat → Nat → Nat} {B : Nat → rB} : ∀ n, (cZ cI A B n).length = 13 * n
  | 0 => rfl
  | n + 1 => by
    show (cZ cI A B n ++ cR cI (A n) (B n)).length = 13 * (n + 1)
    rw [List.length_append, cZ_len n]
    show 13 * n + 13 = 13 * (n + 1)
    omega
theorem cZ_get {cI : ClassId} {A : Nat → Nat → Nat} {B : Nat → rB} {i j : Nat} (hj : j < 13) : ∀ n, i < n → (cZ cI A B n)[13 * i + j]? = (cR cI (A i) (B i))[j]?
  | 0, hi => absurd hi (by omega)
  | n + 1, hi => by
    show (cZ cI A B n ++ cR cI (A n) (B n))[13 * i + j]? = _
    by_cases h : i < n
    · rw [List.getElem?_append_left (by rw [cZ_len]; omega)]
      exact cZ_get hj n h
    · obtain rfl : i = n := by omega
      rw [List.getElem?_append_right (by rw [cZ_len]; omega), cZ_len, show 13 * i + j - 13 * i = j by omega]
theorem cZ_map {cI : ClassId} {A : Nat → Nat → Nat} {B : Nat → rB} {w : va_W} {k i n b : Nat} (hw : w.length = k) (hb : b = k + 13 * i) (hi : i < n) : (List.range' b 13).map (fun z => (w ++ cZ cI A B n)[z]?) = (cR cI (A i) (B i)).map some := by
  subst hb
  refine List.ext_getElem? fun j => ?_
  rw [List.getElem?_map, List.getElem?_map]
  by_cases hj : j < 13
  · rw [List.getElem?_range' hj]
    show some ((w ++ cZ cI A B n)[k + 13 * i + 1 * j]?) = _
    rw [List.getElem?_append_right (by omega), hw, show k + 13 * i + 1 * j - k = 13 * i + j by omega, cZ_get hj n hi]
    have hl : j < (cR cI (A i) (B i)).length := hj
    rw [List.getElem?_eq_getElem hl]
    rfl
  · rw [List.getElem?_eq_none (by rw [List.length_range']; omega), List.getElem?_eq_none (by show 13 ≤ j; omega)]
    rfl
theorem cZ_cong {cI : ClassId} {A A1 : Nat → Nat → Nat} {B B1 : Nat → rB} : ∀ n, (∀ z, z < n → A z = A1 z ∧ B z = B1 z) → cZ cI A B n = cZ cI A1 B1 n
  | 0, _ => rfl
  | n + 1, h => by
    show cZ cI A B n ++ cR cI (A n) (B n) = cZ cI A1 B1 n ++ cR cI (A1 n) (B1 n)
    rw [cZ_cong n (fun z hz => h z (by omega)), (h n (by omega)).1, (h n (by omega)).2]
theorem cZ_put {cI : ClassId} {A : Nat → Nat → Nat} {B : Nat → rB} {w : va_W} {k i b : Nat} {r : rB} (hw : w.length = k) (hb : b = k + 13 * i) : ∀ n, i < n → putAt (w ++ cZ cI A B n) (List.range' b 13) (cR cI (A i) r) = w ++ cZ cI A (fun z => if z = i then r else B z) n
  | 0, hi => absurd hi (by omega)
  | n + 1, hi => by
    show putAt (w ++ (cZ cI A B n ++ cR cI (A n) (B n))) (List.range' b 13) (cR cI (A i) r) = w ++ (cZ cI A (fun z => if z = i then r else B z) n ++ cR cI (A n) (if n = i then r else B n))
    rw [← List.append_assoc, ← List.append_assoc]
    by_cases h : i < n
    · rw [putAt_l _ _ _ _ (k + 13 * n) (by rw [List.length_append, hw, cZ_len]) (fun z hz => by have := List.mem_range'_1.mp hz; omega), cZ_put hw hb n h, if_neg (show ¬ n = i by omega)]
    · obtain rfl : i = n := by omega
      rw [putAt_0 13 _ _ _ _ (by rw [List.length_append, hw, cZ_len, hb]) rfl rfl, if_pos rfl, cZ_cong i (A := A) (B := B) (A1 := A) (B1 := fun z => if z = i then r else B z) (fun z hz => ⟨rfl, (if_neg (show ¬ z = i by omega)).symm⟩)]
/-- the whole object -/
abbrev WX (cI cQ : ClassId) (o s0 w0 : Nat) (x a a2 : Nat → Nat) (A : Nat → Nat → Nat) (r q t : rB) (n : Nat) (f : Nat → Option Nat) (vo vh : Int32) (B : Nat → rB) : va_W :=
  (cO o [.ref (a 0), .ref (a2 0), .ref s0, .ref (x 0)]) ++ (cR cI a r) ++ (cR cI a2 q) ++ (cS cQ s0 w0 f vo vh) ++ (cT cI x t) ++ (cZ cI A B n)
/-- a callee's world, behind others, comes back changed and grown -/
theorem k_join {A0 : Nat → Prop} {D : va_G} {cl : List vw_C} {wr wc w1 : va_W} {H H1 : Heap} (hP : va_P D cl (wr ++ wc) H) (hD : va_D A0 (wr ++ wc)) (hk : ∀ q : Nat, q < H.size → ¬ va_A wc H.size q → H1[q]? = H[q]?) (hP1 : va_P D cl w1 H1) (hD1 : va_D (va_A wc H.size) w1) (hA : ∀ q, H.size ≤ q → A0 q) : va_P D cl (wr ++ w1) H1 ∧ va_D A0 (wr ++ w1) := by
  have hr : ∀ (k : Nat) (q : Nat × va_E), wr[k]? = some q → (wr ++ wc)[k]? = some q := fun k q h => by
    rw [List.getElem?_append_left (List.getElem?_eq_some_iff.mp h).1]; exact h
  have hc : ∀ (k : Nat) (q : Nat × va_E), wc[k]? = some q → (wr ++ wc)[wr.length + k]? = some q := fun k q h => by
    rw [List.getElem?_append_right (by omega), Nat.add_sub_cancel_left]; exact h
  have hno : ∀ (k : Nat) (q : Nat × va_E), wr[k]? = some q → ¬ va_A wc H.size q.1 := by
    intro k q h h2
    have hlt := (hP k q (hr k q h)).lt
    rcases h2 with ⟨j, e, h3⟩ | h3
    · have h4 := hD.1 k (wr.length + j) q (q.1, e) (hr k q h) (hc j _ h3) rfl
      have := (List.getElem?_eq_some_iff.mp h).1
      omega
    · omega
  refine ⟨va_P.app (fun k q h => (hP k q (hr k q h)).kept (hk q.1 (hP k q (hr k q h)).lt (hno k q h))) hP1, ?_, ?_⟩
  · intro i j p q hi hj hpq
    by_cases h1 : i < wr.length
    · rw [List.getElem?_append_left h1] at hi
      by_cases h2 : j < wr.length
      · rw [List.getElem?_append_left h2] at hj
        exact hD.1 i j p q (hr i p hi) (hr j q hj) hpq
      · rw [List.getElem?_append_right (by omega)] at hj
        have h3 := hD1.2 _ q hj
        rw [← hpq] at h3
        exact absurd h3 (hno i p hi)
    · rw [List.getElem?_append_right (by omega)] at hi
      by_cases h2 : j < wr.length
      · rw [List.getElem?_append_left h2] at hj
        have h3 := hD1.2 _ p hi
        rw [hpq] at h3
        exact absurd h3 (hno j q hj)
      · rw [List.getElem?_append_right (by omega)] at hj
        have := hD1.1 _ _ p q hi hj hpq
        omega
  · intro k q hq
    by_cases h1 : k < wr.length
    · rw [List.getElem?_append_left h1] at hq
      exact hD.2 k q (hr k q hq)
    · rw [List.getElem?_append_right (by omega)] at hq
      rcases hD1.2 _ q hq with ⟨j, e, h3⟩ | h3
      · exact hD.2 _ (q.1, e) (hc j _ h3)
      · exact hA _ h3
theorem va_A_r {wr wc : va_W} {sz q : Nat} (h : va_A wc sz q) : va_A (wr ++ wc) sz q := by
  rcases h with ⟨k, e, h⟩ | h
  · exact Or.inl ⟨wr.length + k, e, by rw [List.getElem?_append_right (by omega), Nat.add_sub_cancel_left]; exact h⟩
  · exact Or.inr h
/-- what is free to a callee behind other cells is free here -/
theorem k_freeR {A0 : Nat → Prop} {wr wc : va_W} {H0 H : Heap} {locs : List Loc} (hD : va_D A0 (wr ++ wc)) (hS : va_S A0 H0 H locs) (hA : ∀ q, H0.size ≤ q → A0 q) : ∀ q, va_A wc H.size q → A0 q := by
  intro q h
  rcases h with ⟨k, e, h⟩ | h
  · exact hD.2 (wr.length + k) (q, e) (by rw [List.getElem?_append_right (by omega), Nat.add_sub_cancel_left]; exact h)
  · exact hA q (Nat.le_trans hS.1 h)
theorem va_D_r {A0 : Nat → Prop} {wr wc : va_W} (hD : va_D A0 (wr ++ wc)) : va_D A0 wc := by
  have hc : ∀ (k : Nat) (q : Nat × va_E), wc[k]? = some q → (wr ++ wc)[wr.length + k]? = some q := fun k q h => by
    rw [List.getElem?_append_right (by omega), Nat.add_sub_cancel_left]; exact h
  exact ⟨fun i j p q hi hj hpq => by have := hD.1 _ _ p q (hc i p hi) (hc j q hj) hpq; omega, fun k q h => hD.2 _ q (hc k q h)⟩
theorem va_P_r {D : va_G} {cl : List vw_C} {wr wc : va_W} {H : Heap} (hP : va_P D cl (wr ++ wc) H) : va_P D cl wc H := fun k q h => hP (wr.length + k) q (by
    rw [List.getElem?_append_right (by omega), Nat.add_sub_cancel_left]; exact h)
/-- the class of an array of ints is one -/
theorem va_RA_int {U : State} {c1 c2 : ClassId} (h1 : va_RA U c1 .int) (h2 : va_RA U c2 .int) : c1 = c2 := Option.some.inj (Eq.trans (Eq.symm h1) h2)
theorem va_RA_long {U : State} {c1 c2 : ClassId} (h1 : va_RA U c1 .long) (h2 : va_RA U c2 .long) : c1 = c2 := Option.some.inj (Eq.trans (Eq.symm h1) h2)
theorem va_RA_obj {U : State} {C : String} {c1 c2 : ClassId} (h1 : va_RA U c1 (.object C)) (h2 : va_RA U c2 (.object C)) : c1 = c2 := by
  obtain ⟨_, _, _, _, _, h1⟩ := h1
  obtain ⟨_, _, _, _, _, h2⟩ := h2
  exact Option.some.inj (h1.symm.trans h2)
section KN
variable {p : Program} {l : Launch} {e : Env} {R : Room} {s : State} {m : MethodId} {args : Array Value} {below : List Frame} {meth : Method} {c : Code} {H : Heap} {locs : List Loc} {cells slots : Nat} {Q : State → Prop}
variable {cc : ByteArray} {pc : Nat} {ls : Array Slot} {rest st0 : List Value} {D : va_G} {A : Nat → Prop} {a : Nat} {tys : List (ClassId × FieldType)} {ws : va_W} {H0 : Heap} {cl : List vw_C}
theorem k_newa (hexec : p.tables.exec = Jvm.exec) (hb : c.code = cc) (harr : (Cond.arrayClass .int).before args s = true) (hK : va_K D cl tys s) (hP : va_P D cl ws H) (hD : va_D A ws) (hS : va_S A H0 H locs) (hA : ∀ q, H0.size ≤ q → A q) {cI : ClassId} (t0 : Nat) (ht : tys[t0]? = some (cI, .int))
    {n : Int32} {N : Nat} (hn : ¬ n < 0) (hN : n.toNatClampNeg = N) (hbytes : N * 4 ≤ 536870912) (hcells : cells + 1 ≤ R.cells) (hslots : slots + N ≤ R.slots) (hdg : decode cc pc = .ok (.newarray .int, 2))
    (kk : ∀ (q : Nat) (H1 : Heap), va_P D cl (ws ++ [(q, .inl (cI, N, .inl (fun _ => 0)))]) H1 → va_D A (ws ++ [(q, .inl (cI, N, .inl (fun _ => 0)))]) → va_S A H0 H1 locs →
      W p l e R s m args below meth c H1 locs (cells + 1) (slots + N) Q (F0 m (pc + 2) ls (.ref q :: rest))) : W p l e R s m args below meth c H locs cells slots Q (F0 m pc ls (.int n :: rest)) := by
  refine va_newa (atype := .int) (ty := .int) (a0 := (N, .inl (fun _ => 0))) hexec hb harr rfl hK hP hD hS hA (fun _ => rfl) hn hN hbytes hcells hslots hdg (fun q cA H1 hK1 hP1 hD1 hS1 => ?_)
  have e : cA = cI := va_RA_int (U := s) (hK1.2 tys.length (cA, .int) (by rw [List.getElem?_append_right (Nat.le_refl _), Nat.sub_self]; rfl)).2 (hK.2 t0 _ ht).2
  subst e
  exact kk q H1 hP1 hD1 hS1
theorem k_newq (hexec : p.tables.exec = Jvm.exec) (hb : c.code = cc) {own C : String} {index : Nat} (hown : s.vm.findClass own = some m.cls) (hclink : (Cond.classLink own index C).before args s = true) (hover : va_AO C s) (hK : va_K D cl tys s) (hP : va_P D cl ws H) (hD : va_D A ws) (hS : va_S A H0 H locs) (hA : ∀ q, H0.size ≤ q → A q) {cQ : ClassId} (t0 : Nat) (ht : tys[t0]? = some (cQ, .object C))
    {n : Int32} {N : Nat} (hn : ¬ n < 0) (hN : n.toNatClampNeg = N) (hbytes : N * 4 ≤ 536870912) (hcells : cells + 1 ≤ R.cells) (hslots : slots + N ≤ R.slots) (hdg : decode cc pc = .ok (.anewarray index, 3))
    (kk : ∀ (q : Nat) (H1 : Heap), va_P D cl (ws ++ [(q, .inl (cQ, N, .inr (.inr (.inr (.inr (fun _ => none))))))]) H1 → va_D A (ws ++ [(q, .inl (cQ, N, .inr (.inr (.inr (.inr (fun _ => none))))))]) → va_S A H0 H1 locs →
      W p l e R s m args below meth c H1 locs (cells + 1) (slots + N) Q (F0 m (pc + 3) ls (.ref q :: rest))) : W p l e R s m args below meth c H locs cells slots Q (F0 m pc ls (.int n :: rest)) := by
  refine va_newq hexec hb hown hclink hover hK hP hD hS hA hn hN hbytes hcells hslots hdg (fun q cA H1 hK1 hP1 hD1 hS1 => ?_)
  have e : cA = cQ := va_RA_obj (U := s) (hK1.2 tys.length (cA, .object C) (by rw [List.getElem?_append_right (Nat.le_refl _), Nat.sub_self]; rfl)).2 (hK.2 t0 _ ht).2
  subst e
  exact kk q H1 hP1 hD1 hS1
theorem k_putF (hexec : p.tables.exec = Jvm.exec) (hb : c.code = cc) {own ref C : String} {T : u_T} {N ci index : Nat} {Ts : List Cond} (hts : ∀ w ∈ Ts, w.before args s = true) (hin : ∀ w ∈ u_ws C T N, w ∈ Ts) (ty0 : Nat → FieldType) (hty : ∀ k, k < N → parseFieldDescriptor (T k).2.2.1 = some (ty0 k)) (hnm : ∀ a, a < N → ∀ b, b < N → a ≠ b → (T a).2.1 ≠ (T b).2.1) (hown : s.vm.findClass own = some m.cls) (hK : va_K D cl tys s) (hP : va_P D cl ws H) (hD : va_D A ws) (hS0 : va_S A H0 H locs) (q0 : Nat) {fs : List Value} (he : ws[q0]? = some (a, .inr (ci, fs))) (hc : cl[ci]? = some (C, T, N)) (k : Nat) (hk : k < N) (hlink : (Cond.fieldLink own index ref (T k).2.1 (T k).2.2.1).before args s = true) (hsame : ∀ x, s.fieldFound? (T k).1 (T k).2.1 (T k).2.2.1 = some x → s.fieldFound? ref (T k).2.1 (T k).2.2.1 = some x) (hfin : (T k).2.2.2 = true) (hin2 : meth.name = "<init>") (hdecl : (T k).1 = own) {ty : FieldType} {v : Value} (hd : parseFieldDescriptor (T k).2.2.1 = some ty) (hn : narrow ty v = v) (hfit : fits ty v = true) (hl : k < fs.length) {ws' : va_W} (hw : ws.set q0 (a, .inr (ci, fs.set k v)) = ws')
    (hdg : decode cc pc = .ok (.putfield index, 3)) (kk : ∀ (H : Heap) (locs : List Loc), va_P D cl ws' H → va_D A ws' → va_S A H0 H locs → W p l e R s m args below meth c H locs cells slots Q (F0 m (pc + 3) ls rest)) : W p l e R s m args below meth c H locs cells slots Q (F0 m pc ls (v :: .ref a :: rest)) := by
  subst hw
  exact va_putF hexec hb hts hin ty0 hty hnm hown hK hP hD hS0 q0 he hc k hk hlink hsame hfin hin2 hdecl hd hn hfit hl hdg kk
theorem lv_eqv {x y : Value} (h : x = y) (k : W p l e R s m args below meth c H locs cells slots Q (F0 m pc ls (y :: rest))) : W p l e R s m args below meth c H locs cells slots Q (F0 m pc ls (x :: rest)) := by subst h; exact k
theorem k_eqw {w w' : va_W} (h : w = w') (hP : va_P D cl w H) (hD : va_D A w) : va_P D cl w' H ∧ va_D A w' := by subst h; exact ⟨hP, hD⟩
end KN
/-- a contract of a constructor: from its bare cell to a world that grew -/
def Mn (l : Launch) (D : va_G) (ty : List (ClassId × FieldType)) (y : MethodName) (ws : List Cond) (rm : Room) (av : List Value) (w : va_W) (S : Type) (w' : S → va_W) (mc ms : Nat) : Prop := ∀ sz : Nat, Met l y ws rm (va_Pc av (Prx D ty sz w)) (va_Qv (fun (_ : S) => True) (fun u t => Wd D (w' u) t ∧ va_D (va_A w sz) (w' u)) (va_A w sz)) mc ms (va_A w sz)
section KE
variable {p : Program} {l : Launch} {e : Env} {R : Room} {s : State} {m : MethodId} {args : Array Value} {below : List Frame} {meth : Method} {c : Code} {H : Heap} {locs : List Loc} {cells slots : Nat} {Q : State → Prop}
variable {cc : ByteArray} {pc : Nat} {ls : Array Slot} {rest st0 : List Value} {D : va_G} {A : Nat → Prop} {tys : List (ClassId × FieldType)} {wr wc : va_W} {H0 : Heap} {a : Array Value} {mc ms : Nat}
theorem k_vretN {S : Type} {w' : S → va_W} (u : S) (hx : p.tables.exec = Jvm.exec) (hb : c.code = cc) (hr : meth.sig.returnType = none) (hlocks : meth.locks = false) (hS : va_S A s.heap H locs) (hP : va_P D vwCl (w' u) H) (hD : va_D A (w' u)) (hdg : decode cc pc = .ok (.return_, 1)) :
    W p l e R s m args below meth c H locs cells slots (MQ below (va_Qv (fun (_ : S) => True) (fun u t => Wd D (w' u) t ∧ va_D A (w' u)) A) args s cells slots A) (F0 m pc ls []) :=
  W.vret hx hb hr (fun t ht hW => ⟨⟨u, rfl, trivial, by show va_P D vwCl (w' u) t.heap; rw [ht]; exact hP, hD⟩, hS.F ht⟩) hS.2.2 hdg hlocks
/-- a constructor's call: its cell is the last -/
theorem k_calln {S : Type} {w' : S → va_W} (hr : va_Run p l e R s m args below meth c H locs cells slots mc ms (F0 m pc ls st0) rest (va_Qv (fun (_ : S) => True) (fun u t => Wd D (w' u) t ∧ va_D (va_A wc H.size) (w' u)) (va_A wc H.size) a) (va_A wc H.size)) (hP : va_P D vwCl (wr ++ wc) H) (hD : va_D A (wr ++ wc)) (hS : va_S A H0 H locs) (hA : ∀ q, H0.size ≤ q → A q)
    (kk : ∀ (u : S) (H : Heap) (locs : List Loc), va_P D vwCl (wr ++ w' u) H → va_D A (wr ++ w' u) → va_S A H0 H locs → W p l e R s m args below meth c H locs (cells + mc) (slots + ms) Q (F0 m (pc + 3) ls rest)) : W p l e R s m args below meth c H locs cells slots Q (F0 m pc ls st0) := by
  have hF : ∀ q, va_A wc H.size q → A q := k_freeR hD hS hA
  refine va_callv hr hS (fun q _ h => hF q h) hF (fun u t H1 locs ht hvm hw hB hz1 hk1 hS1 => ?_)
  obtain ⟨hB1, hB2⟩ := hB
  have hB1 : va_P D vwCl (w' u) t.heap := hB1
  rw [ht] at hB1
  obtain ⟨h1, h2⟩ := k_join hP hD hk1 hB1 hB2 (fun q h => hA q (Nat.le_trans hS.1 h))
  exact kk u H1 locs h1 h2 hS1
theorem k_preR (hE : EV s) (hK : va_K D vwCl tys s) (hP : va_P D vwCl (wr ++ wc) H) (hD : va_D A (wr ++ wc)) (av : List Value) : PreS s H (va_Pc av (Prx D tys H.size wc)) av :=
  ⟨Prx.blind, fun U hU hW => ⟨rfl, by rw [hU], hE.warm hW, by rw [hU]; exact va_P_r hP, va_K.moved hW.alike hK, (va_D_r hD).weaken (fun _ _ _ _ => trivial)⟩⟩
end KE
end
section
/-! what a call that may throw needs of the machine, and how it ends -/
def eIOB : String := "java/lang/IndexOutOfBoundsException"
def eIAE : String := "java/lang/IllegalArgumentException"
def eISE : String := "java/lang/IllegalStateException"
def exN (k : Nat) : String := match k with
  | 1 => "java/lang/IndexOutOfBoundsException"
  | 2 => "java/lang/IllegalArgumentException"
  | _ => "java/lang/IllegalStateException"
def nmX : List String := ["java/lang/RuntimeException", "java/lang/Exception"]
def strsX : List (Nat × String) := [(42, "no such plane or gutter"), (53, "area or slope out of range"), (64, "no such gutter"), (66, "size or bore out of range"), (72, "both gutters are the same"), (80, "water would come back"), (94, "no such setting"), (100, "value out of range"), (105, "rain or minutes out of range"), (115, "weeks out of range"), (156, "no saved state"), (164, "no such plane"), (166, "what is not 0 to 3"), (171, "what is not 0 to 8")]
def mosF (i : Nat) : Int32 := match i with
  | 0 => 600
  | 1 => 50
  | _ => 99
def exB (E : String) : List Cond := [.castable E E, .declares (Bundle.initS "java/lang/RuntimeException"), .declares (Bundle.initS "java/lang/Exception"), .declares (Bundle.initS Bundle.tN)]
def EX (A : Nat → Prop) (U : State) : Prop :=
  vx_Zq Bundle.tN "UNASSIGNED_STACK" Bundle.steD A U U.heap ∧ vx_Zq Bundle.tN "SUPPRESSED_SENTINEL" Bundle.listD A U U.heap ∧
  (∀ q ∈ strsX, ∃ sa, vk_R RX3 q.1 q.2 sa U) ∧
  (∀ n ∈ ["java/lang/RuntimeException", "java/lang/Exception", Bundle.tN], va_Nw (.declares (Bundle.initS n)) U) ∧
  (∀ E ∈ [eIOB, eIAE, eISE], va_Nw (.castable E E) U) ∧
  (∀ q ∈ [(eIOB, eIAE), (eIOB, eISE), (eIAE, eIOB), (eIAE, eISE), (eISE, eIOB), (eISE, eIAE)], va_Nc q.1 q.2 U) ∧
  va_AO RX1 U ∧
  ∃ b : Nat, va_Z RX3 "MOST_OF_SETTING" "[I" (.ref b) A U U.heap ∧ va_X b 3 mosF U U.heap ∧ b < U.heap.size ∧ ¬ A b
theorem EX.go {A B : Nat → Prop} {s U : State} {H : Heap} {locs : List Loc} (h : EX A s) (hS : va_S A s.heap H locs) (hU : U.heap = H) (hW : s.WarmedH U.vm) (hAB : ∀ q, B q → A q) : EX B U := by
  obtain ⟨h1, h2, h3, h4, h5, h6, h7, b, h8, h9, h10, h11⟩ := h
  have hk : ∀ a : Nat, a < s.heap.size → ¬ A a → U.heap[a]? = s.heap[a]? := by rw [hU]; exact hS.2.1
  refine ⟨vx_Zq.moved hW.alike ((h1.kept hk).narrow hAB), vx_Zq.moved hW.alike ((h2.kept hk).narrow hAB), fun q hq => ?_, fun n hn => va_Nw.warmD hW (h4 n hn), fun E hE => va_Nw.warmC hW (h5 E hE), fun q hq => va_Nc.moved hW.alike (h6 q hq), va_AO.moved hW.alike h7, b, va_Z.moved hW.alike ((h8.kept hk).narrow hAB), va_X.moved hW.alike (h9.kept (hk b h10 h11)), ?_, fun h => h11 (hAB b h)⟩
  · obtain ⟨sa, h⟩ := h3 q hq
    exact ⟨sa, vk_R.warm hW h⟩
  · rw [hU]; exact Nat.lt_of_lt_of_le h10 hS.1
def Pry (D : va_G) (ty : List (ClassId × FieldType)) (sz : Nat) (w : va_W) (U : State) : Prop := U.heap.size = sz ∧ EV U ∧ EX (va_A w sz) U ∧ va_P D vwCl w U.heap ∧ va_K D vwCl ty U ∧ va_D (fun _ => True) w
theorem Pry.blind {D : va_G} {ty : List (ClassId × FieldType)} {sz : Nat} {w : va_W} {av : List Value} : FrameBlind (va_Pc av (Pry D ty sz w)) := fun a U g mk q => by
  obtain ⟨q0, q1, q2, q6, q3, q4, q5⟩ := q
  exact ⟨q0, q1, EV.same (s := U) (U := U.calling g mk a) rfl q2, q6.go (U := U.calling g mk a) va_S.rf rfl (State.WarmedH.refl U) (fun _ h => h), q3, va_K.moved (u := U) (U := U.calling g mk a) (Vm.Alike.refl U.vm) q4, q5⟩
theorem Pry.x {D : va_G} {ty : List (ClassId × FieldType)} {sz : Nat} {w : va_W} {U : State} (h : Pry D ty sz w U) : Prx D ty sz w U := ⟨h.1, h.2.1, h.2.2.2.1, h.2.2.2.2.1, h.2.2.2.2.2⟩
theorem k_preY {s : State} {H : Heap} {A : Nat → Prop} {D : va_G} {tys : List (ClassId × FieldType)} {wr wc : va_W} {locs : List Loc} (hE : EV s) (hX : EX A s) (hK : va_K D vwCl tys s) (hP : va_P D vwCl (wr ++ wc) H) (hD : va_D A (wr ++ wc)) (hS : va_S A s.heap H locs) (hA : ∀ q, s.heap.size ≤ q → A q) (av : List Value) : PreS s H (va_Pc av (Pry D tys H.size wc)) av :=
  ⟨Pry.blind, fun U hU hW => ⟨rfl, by rw [hU], hE.warm hW, hX.go hS hU hW (k_freeR hD hS hA), by rw [hU]; exact va_P_r hP, va_K.moved hW.alike hK, (va_D_r hD).weaken (fun _ _ _ _ => trivial)⟩⟩
/-- what a body has at its entry, of a contract without throws (a constructor's name too) -/
theorem Y_of {l : Launch} {D : va_G} {ty : List (ClassId × FieldType)} {y : MethodName} {ws ws' : List Cond} {rm : Room} {av : List Value} {w : va_W} {cc : ByteArray} {maxL : Nat} {ret : Option FieldType} {Qc : (Nat → Prop) → Array Value → State → Outcome → State → Prop} {mc ms : Nat}
    (hy : plainName y.cls = true) (hw : ws = Cond.code y cc maxL ret :: ws') (hn : (lg_sl av).length ≤ maxL)
    (body : ∀ (p : Program) (e : Env) (s : State) (m : MethodId) (below : List Frame) (meth : Method) (c : Code) (A : Nat → Prop) (ls : Array Slot), BF p s m av.toArray meth c cc maxL ret ws y.cls → meth.name = y.name → EV s → EX A s → va_P D vwCl w s.heap → va_K D vwCl ty s → va_D A w → (∀ q, s.heap.size ≤ q → A q) → lv_has ls maxL (lv_args 0 av) →
      W p l e rm s m av.toArray below meth c s.heap [] 0 0 (MQ below (Qc A) av.toArray s mc ms A) (F0 m 0 ls [])) (sz : Nat) : Met l y ws rm (va_Pc av (Pry D ty sz w)) (Qc (va_A w sz)) mc ms (va_A w sz) := by
  refine Met.ofW (cc := cc) (maxL := maxL) (ret := ret) hy hw ?_
  intro p e s m args below meth c s₁ B hml hv
  obtain ⟨rfl, hsz, hE, hX, hP, hK, hD0⟩ := hv
  subst hsz
  have hl := lv_entry av (n := maxL) hn
  rw [lg_entry_eq]
  exact body p e s m below meth c _ _ ⟨B.exec, B.bytes, B.returns, hml, atoms_spec (ws := ws) B.pre, findClass_of_methodNamed B.named, B.notSynchronized⟩ (name_of_methodNamed B.named B.method).1 hE hX hP hK hD0.self (fun q h => Or.inr h) hl
theorem N_of {l : Launch} {D : va_G} {ty : List (ClassId × FieldType)} {y : MethodName} {ws ws' : List Cond} {rm : Room} {av : List Value} {w : va_W} {cc : ByteArray} {maxL : Nat} {ret : Option FieldType} {Qc : (Nat → Prop) → Array Value → State → Outcome → State → Prop} {mc ms : Nat}
    (hy : plainName y.cls = true) (hw : ws = Cond.code y cc maxL ret :: ws') (hn : (lg_sl av).length ≤ maxL)
    (body : ∀ (p : Program) (e : Env) (s : State) (m : MethodId) (below : List Frame) (meth : Method) (c : Code) (A : Nat → Prop) (ls : Array Slot), BF p s m av.toArray meth c cc maxL ret ws y.cls → meth.name = y.name → EV s → va_P D vwCl w s.heap → va_K D vwCl ty s → va_D A w → (∀ q, s.heap.size ≤ q → A q) → lv_has ls maxL (lv_args 0 av) →
      W p l e rm s m av.toArray below meth c s.heap [] 0 0 (MQ below (Qc A) av.toArray s mc ms A) (F0 m 0 ls [])) (sz : Nat) : Met l y ws rm (va_Pc av (Prx D ty sz w)) (Qc (va_A w sz)) mc ms (va_A w sz) := by
  refine Met.ofW (cc := cc) (maxL := maxL) (ret := ret) hy hw ?_
  intro p e s m args below meth c s₁ B hml hv
  obtain ⟨rfl, hsz, hE, hP, hK, hD0⟩ := hv
  subst hsz
  have hl := lv_entry av (n := maxL) hn
  rw [lg_entry_eq]
  exact body p e s m below meth c _ _ ⟨B.exec, B.bytes, B.returns, hml, atoms_spec (ws := ws) B.pre, findClass_of_methodNamed B.named, B.notSynchronized⟩ (name_of_methodNamed B.named B.method).1 hE hP hK hD0.self (fun q h => Or.inr h) hl
/-- a call's contract: its code of a throw, 0 for none; else its answer and world -/
def XQ (D : va_G) (k : Nat) (post : Int32 → va_W → Prop) (A : Nat → Prop) : Array Value → State → Outcome → State → Prop := va_Qi (fun (x : Int32) (u : va_W) => k = 0 ∧ post x u) (fun u t => Wd D u t ∧ va_D A u) A
def XX (D : va_G) (k : Nat) (w : va_W) (A : Nat → Prop) : String → State → State → Prop := vx_X (fun (_ : Unit) => True) (fun E _ t => (k ≠ 0 ∧ E = exN k) ∧ Wd D w t) A
def XM (l : Launch) (D : va_G) (ty : List (ClassId × FieldType)) (y : MethodName) (ws : List Cond) (rm : Room) (av : List Value) (w : va_W) (k : Nat) (post : Int32 → va_W → Prop) : Prop := ∀ sz : Nat, vx_Met l y ws rm (va_Pc av (Pry D ty sz w)) (XQ D k post (va_A w sz)) (XX D k w (va_A w sz)) rm.cells rm.slots (va_A w sz)
theorem X_of {l : Launch} {D : va_G} {ty : List (ClassId × FieldType)} {y : MethodName} {ws ws' : List Cond} {rm : Room} {av : List Value} {w : va_W} {k : Nat} {post : Int32 → va_W → Prop} {cc : ByteArray} {maxL : Nat} {ret : Option FieldType}
    (hy : plainName y.cls = true) (hw : ws = Cond.code y cc maxL ret :: ws') (hn : (lg_sl av).length ≤ maxL)
    (body : ∀ (p : Program) (e : Env) (s : State) (m : MethodId) (below : List Frame) (meth : Method) (c : Code) (A : Nat → Prop) (ls : Array Slot), BF p s m av.toArray meth c cc maxL ret ws y.cls → (∀ x ∈ c.exceptionTable.toList, False) → EV s → EX A s → va_P D vwCl w s.heap → va_K D vwCl ty s → va_D A w → (∀ q, s.heap.size ≤ q → A q) → lv_has ls maxL (lv_args 0 av) →
      W p l e rm s m av.toArray below meth c s.heap [] 0 0 (vx_MQ below (XQ D k post A) (XX D k w A) av.toArray s rm.cells rm.slots A) (F0 m 0 ls [])) : XM l D ty y ws rm av w k post := by
  intro sz
  refine vx_ofW (cc := cc) (maxL := maxL) (ret := ret) hy hw ?_
  intro p e s m args below meth c s₁ B hml ht hv
  obtain ⟨rfl, hsz, hE, hX, hP, hK, hD0⟩ := hv
  subst hsz
  have hl := lv_entry av (n := maxL) hn
  rw [lg_entry_eq]
  exact body p e s m below meth c _ _ ⟨B.exec, B.bytes, B.returns, hml, atoms_spec (ws := ws) B.pre, findClass_of_methodNamed B.named, B.notSynchronized⟩ ht hE hX hP hK hD0.self (fun q h => Or.inr h) hl
section KX
variable {p : Program} {l : Launch} {e : Env} {R : Room} {s : State} {m : MethodId} {args : Array Value} {below : List Frame} {meth : Method} {c : Code} {H : Heap} {locs : List Loc} {cells slots : Nat} {Q : State → Prop}
variable {cc : ByteArray} {pc : Nat} {ls : Array Slot} {rest st0 : List Value} {D : va_G} {A : Nat → Prop} {tys : List (ClassId × FieldType)} {H0 : Heap} {a : Array Value} {mc ms : Nat}
theorem x_throw {nL : Nat} {Ts : List Cond} {w : va_W} {post : Int32 → va_W → Prop} {k kE : Nat} {E text : String} {ik is ic : Nat} (hl : l.stackTraces = false) (hx : p.tables.exec = Jvm.exec) (hb : c.code = cc) (hml : c.maxLocals = nL) (hts : ∀ w ∈ Ts, w.before args s = true) (hown : s.vm.findClass RX3 = some m.cls) (hX : EX A s) (hS : va_S A s.heap H locs) (hP : va_P D vwCl w H) (hT : ∀ x ∈ c.exceptionTable.toList, False) (hlocks : meth.locks = false)
    (hE : exN kE = E) (hEm : E ∈ [eIOB, eIAE, eISE]) (hk : Cond.classLink RX3 ik E ∈ Ts) (hini : Cond.initialized E ∈ Ts) (hgd : ∀ w ∈ (vx_atS RX3 ic E nmX).filter goodWord, w ∈ Ts) (hbad : ∀ w ∈ (vx_atS RX3 ic E nmX).filter (fun w => !goodWord w), w ∈ exB E) (hot : ∀ w ∈ Cond.classLink RX3 ik E :: Cond.initialized E :: vx_atS RX3 ic E nmX, vx_ot w = true) (hfit : Bundle.fit E = true) (hstr : (is, text) ∈ strsX)
    (hsize : ls.size = nL) (hkE : k = kE) (hk0 : kE ≠ 0)
    (d0 : decode cc pc = .ok (.new ik, 3)) (d3 : decode cc (pc + 3) = .ok (.dup, 1)) (d4 : decode cc (pc + 4) = .ok (.ldc is, 2)) (d6 : decode cc (pc + 6) = .ok (.invokespecial ic, 3)) (d9 : decode cc (pc + 9) = .ok (.athrow, 1))
    (hRf : 5 < R.frames) (hRl : (rest.map fun v => v.category).sum + 82 ≤ R.locals) (hRc : cells + 1 ≤ R.cells) (hRs : slots + 6 ≤ R.slots) (hc : cells + 1 ≤ mc) (hs : slots + 6 ≤ ms) :
    W p l e R s m args below meth c H locs cells slots (vx_MQ below (XQ D k post A) (XX D k w A) args s mc ms A) (F0 m pc ls rest) := by
  subst hkE
  obtain ⟨sa, hsa⟩ := hX.2.2.1 (is, text) hstr
  have hd := hX.2.2.2.1
  refine vx_throwS (names := nmX) (sa := sa) (text := text) (cls := E) hx hb hl hown hfit (by decide +kernel) (hts _ hk) (hts _ hini) hsa (vx_hat (fun w hw => hts w (hgd w hw)) hbad ?_) hot hX.1 hX.2.1 hS (hsize.trans hml.symm) d0 d3 d4 d6 d9 (fun x hx => absurd (hT x hx) id) hRf hRl hRc hRs hlocks (fun t hal hz hq => ⟨(), trivial, ⟨⟨hk0, hE.symm⟩, ?_⟩, ?_⟩) hS.2.2 hc hs
  · exact vx_c (va_Nw.use rfl (hX.2.2.2.2.1 E hEm)) (vx_c (va_Nw.use rfl (hd _ (by simp))) (vx_c (va_Nw.use rfl (hd _ (by simp))) (vx_c (va_Nw.use rfl (hd _ (by simp))) vx_n)))
  · exact hP.kept (fun j q hj => hq q.1 (hP j q hj).lt)
  · exact ⟨Nat.le_trans hS.1 hz, fun q h1 h2 => (hq q (Nat.lt_of_lt_of_le h1 hS.1)).trans (hS.2.1 q h1 h2)⟩
theorem x_iret {k : Nat} {w u : va_W} {v : Int32} {post : Int32 → va_W → Prop} (hx : p.tables.exec = Jvm.exec) (hb : c.code = cc) (hr : meth.sig.returnType = some .int) (hlocks : meth.locks = false) (hS : va_S A s.heap H locs) (hP : va_P D vwCl u H) (hD : va_D A u) (hdg : decode cc pc = .ok (.ireturn, 1)) (hk : k = 0) (hpost : post v u) (hc : cells ≤ mc) (hs : slots ≤ ms) :
    W p l e R s m args below meth c H locs cells slots (vx_MQ below (XQ D k post A) (XX D k w A) args s mc ms A) (F0 m pc ls [.int v]) :=
  W.widen hc hs (vx_ret (W.iret hx hb hr (fun t ht hW => ⟨⟨v, u, rfl, ⟨hk, hpost⟩, by show va_P D vwCl u t.heap; rw [ht]; exact hP, hD⟩, hS.F ht⟩) hS.2.2 hdg hlocks))
end KX
theorem MF_room {l : Launch} {y : MethodName} {ws : List Cond} {rm rm' : Room} {P : Array Value → State → Prop} {K : Program → Env → List Frame → State → Array Value → Prop} {Q : Array Value → State → Outcome → State → Prop} (h : MetFree l y (headSpec ws rm) P K Q) (hR : rm.frames ≤ rm'.frames ∧ rm.cells ≤ rm'.cells ∧ rm.slots ≤ rm'.slots ∧ rm.locals ≤ rm'.locals) : MetFree l y (headSpec ws rm') P K Q := by
  intro p e ha hc hk s m args below hfr happ hP hK
  refine h p e ha hc hk s m args below hfr ?_ hP hK
  rw [Spec.appliesLoose_iff hfr] at happ ⊢
  obtain ⟨a1, a2, a3, a4, a5, a6, a7, a8⟩ := happ
  refine ⟨a1, a2, a3, a4, a5, a6, ?_, a8⟩
  have e1 : (headSpec ws rm).room = rm := rfl
  have e2 : (headSpec ws rm').room = rm' := rfl
  rw [e2] at a7
  rw [e1]
  obtain ⟨h1, h2, h3, h4⟩ := hR
  simp only [State.hasRoom, Bool.and_eq_true, decide_eq_true_eq] at a7 ⊢
  obtain ⟨⟨⟨⟨b1, b2, b3, b4, b5, b6⟩, b7⟩, b8⟩, b9⟩ := a7
  exact ⟨⟨⟨⟨by omega, by omega, by omega, by omega, by omega, b6⟩, by omega⟩, by omega⟩, b9⟩
theorem FE_mono {s t : State} {o : Outcome} {L : List Loc} {k n k' n' : Nat} (h : FrameEnd s o t L k n) (hk : k ≤ k') (hn : n ≤ n') : FrameEnd s o t L k' n' := by
  obtain ⟨h1, h2, h3⟩ := h
  exact ⟨h1, h2, h3.mono hk hn⟩
/-- a plain contract of few cells is one of the whole object -/
theorem XM_up {l : Launch} {D : va_G} {ty : List (ClassId × FieldType)} {y : MethodName} {ws : List Cond} {rm rm' : Room} {av : List Value} {w wc w' wn : va_W} {r : Int32} {k : Nat} {post : Int32 → va_W → Prop} (hM : Mi l D ty y ws rm av wc w' r) (hR : rm.frames ≤ rm'.frames ∧ rm.cells ≤ rm'.cells ∧ rm.slots ≤ rm'.slots ∧ rm.locals ≤ rm'.locals) (isC : List Nat) (hnd : va_nd isC = true) (hC : isC.map (fun i => w[i]?) = wc.map some) (ha : w'.map Prod.fst = wc.map Prod.fst) (hn : putAt w isC w' = wn) (hk : k = 0) (hpost : post r wn) : XM l D ty y ws rm' av w k post := by
  intro sz
  have hC2 : isC.filterMap (fun i => w[i]?) = wc := by
    have : ∀ (is : List Nat) (g : va_W), is.map (fun i => w[i]?) = g.map some → is.filterMap (fun i => w[i]?) = g := by
      intro is
      induction is with
      | nil => intro g hg; cases g with
        | nil => rfl
        | cons x y => simp at hg
      | cons i is ih =>
        intro g hg
        cases g with
        | nil => simp at hg
        | cons x y =>
          simp only [List.map_cons, List.cons.injEq] at hg
          rw [List.filterMap_cons, hg.1, ih y hg.2]
    exact this isC wc hC
  have hsub : ∀ q, va_A wc sz q → va_A w sz q := by
    intro q h
    rcases h with ⟨j, e, h⟩ | h
    · have h1 : (isC.map (fun i => w[i]?))[j]? = some (some (q, e)) := by rw [hC, List.getElem?_map, h]; rfl
      rw [List.getElem?_map] at h1
      cases hi : isC[j]? with
      | none => rw [hi] at h1; cases h1
      | some i =>
        rw [hi] at h1
        exact Or.inl ⟨i, e, Option.some.inj h1⟩
    · exact Or.inr h
  refine MF_room (rm := rm) ?_ hR
  refine Jvm.Free.MetFree.mono (hM sz) (fun av' U h => ?_) (fun _ _ _ _ _ h => h) (fun av' st o t h hq => ?_)
  · exact ⟨h.1, h.2.1, h.2.2.1, h.2.2.2.2.1.sub isC hC2, h.2.2.2.2.2.1, h.2.2.2.2.2.2.sub isC hnd hC⟩
  · obtain ⟨⟨⟨x, u, h1, h2, h3⟩, hF⟩, L, hfe, hL⟩ := hq
    obtain ⟨h0, hsz, hE, hX, hP, hK, hD⟩ := h
    subst h2
    subst hsz
    have h3 : va_P D vwCl w' t.heap := h3
    obtain ⟨g1, g2⟩ := k_back hP (hD.self) isC hC ha hn hF.2 h3
    exact Or.inl ⟨⟨⟨x, wn, h1, ⟨hk, hpost⟩, g1, g2⟩, hF.1, fun q b1 b2 => hF.2 q b1 (fun b3 => b2 (hsub q b3))⟩, L, FE_mono hfe (Nat.zero_le _) (Nat.zero_le _), fun q hq => hsub _ (hL q hq)⟩
end
section
/-! constructors -/
def adF (o : Nat) (u : Nat → Nat) : Nat → Nat := fun k => match k with
  | 0 => o
  | k + 1 => u k
def tB0 : rB := fun _ _ => 0
def rB0 : rB := fun a => match a with
  | 0 => upd (upd (upd (upd (upd (upd (fun _ => 0) 0 40) 1 40) 2 40) 3 40) 4 40) 5 40
  | 1 => upd (upd (upd (upd (upd (upd (fun _ => 0) 0 3) 1 3) 2 3) 3 3) 4 3) 5 3
  | 2 => upd (upd (upd (upd (upd (upd (fun _ => 0) 0 0) 1 1) 2 2) 3 3) 4 4) 5 5
  | 3 => (fun _ => 0)
  | 4 => upd (upd (upd (upd (upd (upd (fun _ => 0) 0 60) 1 60) 2 60) 3 60) 4 60) 5 60
  | 5 => upd (upd (upd (upd (upd (upd (fun _ => 0) 0 20) 1 20) 2 20) 3 20) 4 20) 5 20
  | 6 => (fun _ => 0)
  | 7 => upd (upd (upd (upd (upd (upd (fun _ => 0) 0 (-1)) 1 (-1)) 2 (-1)) 3 (-1)) 4 (-1)) 5 (-1)
  | 8 => (fun _ => 0)
  | 9 => (fun _ => 0)
  | 10 => (fun _ => 0)
  | 11 => upd (upd (upd (fun _ => 0) 0 100) 1 4) 2 20
  | _ => fun _ => 0
set_option maxHeartbeats 4000000 in
set_option maxRecDepth 100000 in
theorem mX1_init (l : Launch) (D : va_G) (cI cQ cJ : ClassId) (o : Nat) (sz : Nat) : Met l yX1_init wsX1_init ({ frames := 1, cells := 12, slots := 69, locals := 40 } : Room) (va_Pc [.ref o] (Prx D (tY cI cQ cJ) sz [(o, .inr (1, [.null, .null, .null, .null, .null, .null, .null, .null, .null, .null, .null, .null, .int 0, .int 0, .int 0, .int 0]))])) (va_Qv (fun (_ : Nat → Nat) => True) (fun u t => Wd D (cR cI (adF o u) rB0) t ∧ va_D (va_A [(o, .inr (1, [.null, .null, .null, .null, .null, .null, .null, .null, .null, .null, .null, .null, .int 0, .int 0, .int 0, .int 0]))] sz) (cR cI (adF o u) rB0)) (va_A [(o, .inr (1, [.null, .null, .null, .null, .null, .null, .null, .null, .null, .null, .null, .null, .int 0, .int 0, .int 0, .int 0]))] sz)) 12 69 (va_A [(o, .inr (1, [.null, .null, .null, .null, .null, .null, .null, .null, .null, .null, .null, .null, .int 0, .int 0, .int 0, .int 0]))] sz) := by
  refine N_of (cc := cX1_init) (maxL := 2) (ret := none) (Qc := fun A => va_Qv (fun (_ : Nat → Nat) => True) (fun u t => Wd D (cR cI (adF o u) rB0) t ∧ va_D A (cR cI (adF o u) rB0)) A) (by decide) rfl (Nat.le_of_ble_eq_true rfl) ?_ sz
  intro p e s m below meth c A ls hB hnm hE hP hK hD hA hl
  obtain ⟨hx, hb, hr, hml, hts, hown, hlocks⟩ := hB
  have hin : meth.name = "<init>" := hnm
  have hS : va_S A s.heap s.heap [] := va_S.rf
  have hl : lv_has ls 2 [(0, .ref o)] := hl
  have hinX1 : ∀ w ∈ u_ws RX1 TX1 16, w ∈ wsX1_init := by decide +kernel
  have fl9 := hts (.fieldLink RX1 9 "RoofDrains$Roof" "area" "[I") (by decide +kernel)
  have fl15 := hts (.fieldLink RX1 15 "RoofDrains$Roof" "slope" "[I") (by decide +kernel)
  have fl18 := hts (.fieldLink RX1 18 "RoofDrains$Roof" "leadsTo" "[I") (by decide +kernel)
  have fl21 := hts (.fieldLink RX1 21 "RoofDrains$Roof" "onPlane" "[I") (by decide +kernel)
  have fl24 := hts (.fieldLink RX1 24 "RoofDrains$Roof" "size" "[I") (by decide +kernel)
  have fl27 := hts (.fieldLink RX1 27 "RoofDrains$Roof" "bore" "[I") (by decide +kernel)
  have fl30 := hts (.fieldLink RX1 30 "RoofDrains$Roof" "leaves" "[I") (by decide +kernel)
  have fl33 := hts (.fieldLink RX1 33 "RoofDrains$Roof" "valleyTo" "[I") (by decide +kernel)
  have fl36 := hts (.fieldLink RX1 36 "RoofDrains$Roof" "inGutter" "[I") (by decide +kernel)
  have fl39 := hts (.fieldLink RX1 39 "RoofDrains$Roof" "spilt" "[I") (by decide +kernel)
  have fl42 := hts (.fieldLink RX1 42 "RoofDrains$Roof" "drained" "[I") (by decide +kernel)
  have fl45 := hts (.fieldLink RX1 45 "RoofDrains$Roof" "values" "[I") (by decide +kernel)
  refine lv_aload_n hx hb dX1_init_0 rfl (lv_at hl 0 rfl) ?_
  refine W.objInit hx hb hown (hts (.methodLink RX1 3 objectInit) (by decide +kernel)) (hts (.instanceMethod objectInit) (by decide +kernel)) (hts (.code objectInit ⟨#[0xb1]⟩ 1 none) (by decide +kernel)) rfl (by rw [hml]; exact hl.1) rfl dX1_init_1 (Nat.le_of_ble_eq_true rfl) (Nat.le_of_ble_eq_true rfl) ?_
  refine W.eq (g2 := F0 m 4 ls []) rfl ?_
  refine lv_aload_n hx hb dX1_init_4 rfl (lv_at hl 0 rfl) ?_
  refine lv_bipush (v := 6) hx hb dX1_init_5 (by decide) ?_
  refine k_newa (N := 6) hx hb (hts (.arrayClass .int) (by decide +kernel)) hK hP hD hS hA 0 rfl (by decide) (by decide) (Nat.le_of_ble_eq_true rfl) (Nat.le_of_ble_eq_true rfl) (Nat.le_of_ble_eq_true rfl) dX1_init_7 (fun q_7 H hP hD hS => ?_)
  have hP : va_P D vwCl ([(o, .inr (1, [.null, .null, .null, .null, .null, .null, .null, .null, .null, .null, .null, .null, .int 0, .int 0, .int 0, .int 0])), (q_7, .inl (cI, 6, .inl (fun _ => 0)))]) H := hP
  have hD : va_D A ([(o, .inr (1, [.null, .null, .null, .null, .null, .null, .null, .null, .null, .null, .null, .null, .int 0, .int 0, .int 0, .int 0])), (q_7, .inl (cI, 6, .inl (fun _ => 0)))]) := hD
  refine k_putF (D := D) (ci := 1) (v := .ref q_7) (ty := .array .int) (C := RX1) (T := TX1) (N := 16) hx hb hts hinX1 tyX1 tyX1_ok nmX1 hown hK hP hD hS 0 rfl rfl 0 (by decide) fl9 (fun _ h9 => h9) rfl hin rfl (by decide +kernel) rfl rfl (Nat.le_of_ble_eq_true rfl) (ws' := [(o, .inr (1, [.ref q_7, .null, .null, .null, .null, .null, .null, .null, .null, .null, .null, .null, .int 0, .int 0, .int 0, .int 0])), (q_7, .inl (cI, 6, .inl (fun _ => 0)))]) rfl dX1_init_9 (fun H locs hP hD hS => ?_)
  refine lv_aload_n hx hb dX1_init_12 rfl (lv_at hl 0 rfl) ?_
  refine lv_bipush (v := 6) hx hb dX1_init_13 (by decide) ?_
  refine k_newa (N := 6) hx hb (hts (.arrayClass .int) (by decide +kernel)) hK hP hD hS hA 0 rfl (by decide) (by decide) (Nat.le_of_ble_eq_true rfl) (Nat.le_of_ble_eq_true rfl) (Nat.le_of_ble_eq_true rfl) dX1_init_15 (fun q_15 H hP hD hS => ?_)
  have hP : va_P D vwCl ([(o, .inr (1, [.ref q_7, .null, .null, .null, .null, .null, .null, .null, .null, .null, .null, .null, .int 0, .int 0, .int 0, .int 0])), (q_7, .inl (cI, 6, .inl (fun _ => 0))), (q_15, .inl (cI, 6, .inl (fun _ => 0)))]) H := hP
  have hD : va_D A ([(o, .inr (1, [.ref q_7, .null, .null, .null, .null, .null, .null, .null, .null, .null, .null, .null, .int 0, .int 0, .int 0, .int 0])), (q_7, .inl (cI, 6, .inl (fun _ => 0))), (q_15, .inl (cI, 6, .inl (fun _ => 0)))]) := hD
  refine k_putF (D := D) (ci := 1) (v := .ref q_15) (ty := .array .int) (C := RX1) (T := TX1) (N := 16) hx hb hts hinX1 tyX1 tyX1_ok nmX1 hown hK hP hD hS 0 rfl rfl 1 (by decide) fl15 (fun _ h9 => h9) rfl hin rfl (by decide +kernel) rfl rfl (Nat.le_of_ble_eq_true rfl) (ws' := [(o, .inr (1, [.ref q_7, .ref q_15, .null, .null, .null, .null, .null, .null, .null, .null, .null, .null, .int 0, .int 0, .int 0, .int 0])), (q_7, .inl (cI, 6, .inl (fun _ => 0))), (q_15, .inl (cI, 6, .inl (fun _ => 0)))]) rfl dX1_init_17 (fun H locs hP hD hS => ?_)
  refine lv_aload_n hx hb dX1_init_20 rfl (lv_at hl 0 rfl) ?_
  refine lv_bipush (v := 6) hx hb dX1_init_21 (by decide) ?_
  refine k_newa (N := 6) hx hb (hts (.arrayClass .int) (by decide +kernel)) hK hP hD hS hA 0 rfl (by decide) (by decide) (Nat.le_of_ble_eq_true rfl) (Nat.le_of_ble_eq_true rfl) (Nat.le_of_ble_eq_true rfl) dX1_init_23 (fun q_23 H hP hD hS => ?_)
  have hP : va_P D vwCl ([(o, .inr (1, [.ref q_7, .ref q_15, .null, .null, .null, .null, .null, .null, .null, .null, .null, .null, .int 0, .int 0, .int 0, .int 0])), (q_7, .inl (cI, 6, .inl (fun _ => 0))), (q_15, .inl (cI, 6, .inl (fun _ => 0))), (q_23, .inl (cI, 6, .inl (fun _ => 0)))]) H := hP
  have hD : va_D A ([(o, .inr (1, [.ref q_7, .ref q_15, .null, .null, .null, .null, .null, .null, .null, .null, .null, .null, .int 0, .int 0, .int 0, .int 0])), (q_7, .inl (cI, 6, .inl (fun _ => 0))), (q_15, .inl (cI, 6, .inl (fun _ => 0))), (q_23, .inl (cI, 6, .inl (fun _ => 0)))]) := hD
  refine k_putF (D := D) (ci := 1) (v := .ref q_23) (ty := .array .int) (C := RX1) (T := TX1) (N := 16) hx hb hts hinX1 tyX1 tyX1_ok nmX1 hown hK hP hD hS 0 rfl rfl 2 (by decide) fl18 (fun _ h9 => h9) rfl hin rfl (by decide +kernel) rfl rfl (Nat.le_of_ble_eq_true rfl) (ws' := [(o, .inr (1, [.ref q_7, .ref q_15, .ref q_23, .null, .null, .null, .null, .null, .null, .null, .null, .null, .int 0, .int 0, .int 0, .int 0])), (q_7, .inl (cI, 6, .inl (fun _ => 0))), (q_15, .inl (cI, 6, .inl (fun _ => 0))), (q_23, .inl (cI, 6, .inl (fun _ => 0)))]) rfl dX1_init_25 (fun H locs hP hD hS => ?_)
  refine lv_aload_n hx hb dX1_init_28 rfl (lv_at hl 0 rfl) ?_
  refine lv_bipush (v := 6) hx hb dX1_init_29 (by decide) ?_
  refine k_newa (N := 6) hx hb (hts (.arrayClass .int) (by decide +kernel)) hK hP hD hS hA 0 rfl (by decide) (by decide) (Nat.le_of_ble_eq_true rfl) (Nat.le_of_ble_eq_true rfl) (Nat.le_of_ble_eq_true rfl) dX1_init_31 (fun q_31 H hP hD hS => ?_)
  have hP : va_P D vwCl ([(o, .inr (1, [.ref q_7, .ref q_15, .ref q_23, .null, .null, .null, .null, .null, .null, .null, .null, .null, .int 0, .int 0, .int 0, .int 0])), (q_7, .inl (cI, 6, .inl (fun _ => 0))), (q_15, .inl (cI, 6, .inl (fun _ => 0))), (q_23, .inl (cI, 6, .inl (fun _ => 0))), (q_31, .inl (cI, 6, .inl (fun _ => 0)))]) H := hP
  have hD : va_D A ([(o, .inr (1, [.ref q_7, .ref q_15, .ref q_23, .null, .null, .null, .null, .null, .null, .null, .null, .null, .int 0, .int 0, .int 0, .int 0])), (q_7, .inl (cI, 6, .inl (fun _ => 0))), (q_15, .inl (cI, 6, .inl (fun _ => 0))), (q_23, .inl (cI, 6, .inl (fun _ => 0))), (q_31, .inl (cI, 6, .inl (fun _ => 0)))]) := hD
  refine k_putF (D := D) (ci := 1) (v := .ref q_31) (ty := .array .int) (C := RX1) (T := TX1) (N := 16) hx hb hts hinX1 tyX1 tyX1_ok nmX1 hown hK hP hD hS 0 rfl rfl 3 (by decide) fl21 (fun _ h9 => h9) rfl hin rfl (by decide +kernel) rfl rfl (Nat.le_of_ble_eq_true rfl) (ws' := [(o, .inr (1, [.ref q_7, .ref q_15, .ref q_23, .ref q_31, .null, .null, .null, .null, .null, .null, .null, .null, .int 0, .int 0, .int 0, .int 0])), (q_7, .inl (cI, 6, .inl (fun _ => 0))), (q_15, .inl (cI, 6, .inl (fun _ => 0))), (q_23, .inl (cI, 6, .inl (fun _ => 0))), (q_31, .inl (cI, 6, .inl (fun _ => 0)))]) rfl dX1_init_33 (fun H locs hP hD hS => ?_)
  refine lv_iconst (v := 0) hx hb dX1_init_36 (by decide) ?_
  refine lv_istore_n (lv' := [(1, .int 0), (0, .ref o)]) hx hb dX1_init_37 rfl hl (by decide) rfl (fun ls hl => ?_)
  refine lv_iload_n hx hb dX1_init_38 rfl (lv_at hl 0 rfl) ?_
  refine lv_bipush (v := 6) hx hb dX1_init_39 (by decide) ?_
  refine lv_icmp_ge (tgt := 72) hx hb dX1_init_41 (by decide) (fun h9 => absurd h9 (by decide)) (fun _ => ?_)
  refine lv_aload_n hx hb dX1_init_44 rfl (lv_at hl 1 rfl) ?_
  refine va_get (D := D) (ci := 1) (v := .ref q_7) (C := RX1) (T := TX1) (N := 16) hx hb hts hinX1 hown hK hP 0 rfl rfl 0 (by decide) fl9 (fun _ h9 => h9) rfl dX1_init_45 ?_
  refine lv_iload_n hx hb dX1_init_48 rfl (lv_at hl 0 rfl) ?_
  refine lv_bipush (v := 40) hx hb dX1_init_49 (by decide) ?_
  refine k_iast (k := 0) (ws' := [(o, .inr (1, [.ref q_7, .ref q_15, .ref q_23, .ref q_31, .null, .null, .null, .null, .null, .null, .null, .null, .int 0, .int 0, .int 0, .int 0])), (q_7, .inl (cI, 6, .inl (upd (fun _ => 0) 0 40))), (q_15, .inl (cI, 6, .inl (fun _ => 0))), (q_23, .inl (cI, 6, .inl (fun _ => 0))), (q_31, .inl (cI, 6, .inl (fun _ => 0)))]) hx hb hK hP hD hS 1 0 rfl rfl (vp_in_nI (n := 0) (by omega) (by omega)) (nI_clamp (n := 0) (by omega)) rfl dX1_init_51 (fun H locs hP hD hS => ?_)
  refine lv_aload_n hx hb dX1_init_52 rfl (lv_at hl 1 rfl) ?_
  refine va_get (D := D) (ci := 1) (v := .ref q_15) (C := RX1) (T := TX1) (N := 16) hx hb hts hinX1 hown hK hP 0 rfl rfl 1 (by decide) fl15 (fun _ h9 => h9) rfl dX1_init_53 ?_
  refine lv_iload_n hx hb dX1_init_56 rfl (lv_at hl 0 rfl) ?_
  refine lv_iconst (v := 3) hx hb dX1_init_57 (by decide) ?_
  refine k_iast (k := 0) (ws' := [(o, .inr (1, [.ref q_7, .ref q_15, .ref q_23, .ref q_31, .null, .null, .null, .null, .null, .null, .null, .null, .int 0, .int 0, .int 0, .int 0])), (q_7, .inl (cI, 6, .inl (upd (fun _ => 0) 0 40))), (q_15, .inl (cI, 6, .inl (upd (fun _ => 0) 0 3))), (q_23, .inl (cI, 6, .inl (fun _ => 0))), (q_31, .inl (cI, 6, .inl (fun _ => 0)))]) hx hb hK hP hD hS 2 0 rfl rfl (vp_in_nI (n := 0) (by omega) (by omega)) (nI_clamp (n := 0) (by omega)) rfl dX1_init_58 (fun H locs hP hD hS => ?_)
  refine lv_aload_n hx hb dX1_init_59 rfl (lv_at hl 1 rfl) ?_
  refine va_get (D := D) (ci := 1) (v := .ref q_23) (C := RX1) (T := TX1) (N := 16) hx hb hts hinX1 hown hK hP 0 rfl rfl 2 (by decide) fl18 (fun _ h9 => h9) rfl dX1_init_60 ?_
  refine lv_iload_n hx hb dX1_init_63 rfl (lv_at hl 0 rfl) ?_
  refine lv_iload_n hx hb dX1_init_64 rfl (lv_at hl 0 rfl) ?_
  refine k_iast (k := 0) (ws' := [(o, .inr (1, [.ref q_7, .ref q_15, .ref q_23, .ref q_31, .null, .null, .null, .null, .null, .null, .null, .null, .int 0, .int 0, .int 0, .int 0])), (q_7, .inl (cI, 6, .inl (upd (fun _ => 0) 0 40))), (q_15, .inl (cI, 6, .inl (upd (fun _ => 0) 0 3))), (q_23, .inl (cI, 6, .inl (upd (fun _ => 0) 0 0))), (q_31, .inl (cI, 6, .inl (fun _ => 0)))]) hx hb hK hP hD hS 3 0 rfl rfl (vp_in_nI (n := 0) (by omega) (by omega)) (nI_clamp (n := 0) (by omega)) rfl dX1_init_65 (fun H locs hP hD hS => ?_)
  refine lv_iinc (v := 1) (lv' := [(1, .int 1), (0, .ref o)]) hx hb dX1_init_66 hl (k := 0) rfl (by decide) (by decide) rfl (fun ls hl => ?_)
  refine lv_goto (tgt := 38) hx hb dX1_init_69 (by decide) ?_
  refine lv_iload_n hx hb dX1_init_38 rfl (lv_at hl 0 rfl) ?_
  refine lv_bipush (v := 6) hx hb dX1_init_39 (by decide) ?_
  refine lv_icmp_ge (tgt := 72) hx hb dX1_init_41 (by decide) (fun h9 => absurd h9 (by decide)) (fun _ => ?_)
  refine lv_aload_n hx hb dX1_init_44 rfl (lv_at hl 1 rfl) ?_
  refine va_get (D := D) (ci := 1) (v := .ref q_7) (C := RX1) (T := TX1) (N := 16) hx hb hts hinX1 hown hK hP 0 rfl rfl 0 (by decide) fl9 (fun _ h9 => h9) rfl dX1_init_45 ?_
  refine lv_iload_n hx hb dX1_init_48 rfl (lv_at hl 0 rfl) ?_
  refine lv_bipush (v := 40) hx hb dX1_init_49 (by decide) ?_
  refine k_iast (k := 1) (ws' := [(o, .inr (1, [.ref q_7, .ref q_15, .ref q_23, .ref q_31, .null, .null, .null, .null, .null, .null, .null, .null, .int 0, .int 0, .int 0, .int 0])), (q_7, .inl (cI, 6, .inl (upd (upd (fun _ => 0) 0 40) 1 40))), (q_15, .inl (cI, 6, .inl (upd (fun _ => 0) 0 3))), (q_23, .inl (cI, 6, .inl (upd (fun _ => 0) 0 0))), (q_31, .inl (cI, 6, .inl (fun _ => 0)))]) hx hb hK hP hD hS 1 0 rfl rfl (vp_in_nI (n := 1) (by omega) (by omega)) (nI_clamp (n := 1) (by omega)) rfl dX1_init_51 (fun H locs hP hD hS => ?_)
  refine lv_aload_n hx hb dX1_init_52 rfl (lv_at hl 1 rfl) ?_
  refine va_get (D := D) (ci := 1) (v := .ref q_15) (C := RX1) (T := TX1) (N := 16) hx hb hts hinX1 hown hK hP 0 rfl rfl 1 (by decide) fl15 (fun _ h9 => h9) rfl dX1_init_53 ?_
  refine lv_iload_n hx hb dX1_init_56 rfl (lv_at hl 0 rfl) ?_
  refine lv_iconst (v := 3) hx hb dX1_init_57 (by decide) ?_
  refine k_iast (k := 1) (ws' := [(o, .inr (1, [.ref q_7, .ref q_15, .ref q_23, .ref q_31, .null, .null, .null, .null, .null, .null, .null, .null, .int 0, .int 0, .int 0, .int 0])), (q_7, .inl (cI, 6, .inl (upd (upd (fun _ => 0) 0 40) 1 40))), (q_15, .inl (cI, 6, .inl (upd (upd (fun _ => 0) 0 3) 1 3))), (q_23, .inl (cI, 6, .inl (upd (fun _ => 0) 0 0))), (q_31, .inl (cI, 6, .inl (fun _ => 0)))]) hx hb hK hP hD hS 2 0 rfl rfl (vp_in_nI (n := 1) (by omega) (by omega)) (nI_clamp (n := 1) (by omega)) rfl dX1_init_58 (fun H locs hP hD hS => ?_)
  refine lv_aload_n hx hb dX1_init_59 rfl (lv_at hl 1 rfl) ?_
  refine va_get (D := D) (ci := 1) (v := .ref q_23) (C := RX1) (T := TX1) (N := 16) hx hb hts hinX1 hown hK hP 0 rfl rfl 2 (by decide) fl18 (fun _ h9 => h9) rfl dX1_init_60 ?_
  refine lv_iload_n hx hb dX1_init_63 rfl (lv_at hl 0 rfl) ?_
  refine lv_iload_n hx hb dX1_init_64 rfl (lv_at hl 0 rfl) ?_
  refine k_iast (k := 1) (ws' := [(o, .inr (1, [.ref q_7, .ref q_15, .ref q_23, .ref q_31, .null, .null, .null, .null, .null, .null, .null, .null, .int 0, .int 0, .int 0, .int 0])), (q_7, .inl (cI, 6, .inl (upd (upd (fun _ => 0) 0 40) 1 40))), (q_15, .inl (cI, 6, .inl (upd (upd (fun _ => 0) 0 3) 1 3))), (q_23, .inl (cI, 6, .inl (upd (upd (fun _ => 0) 0 0) 1 1))), (q_31, .inl (cI, 6, .inl (fun _ => 0)))]) hx hb hK hP hD hS 3 0 rfl rfl (vp_in_nI (n := 1) (by omega) (by omega)) (nI_clamp (n := 1) (by omega)) rfl dX1_init_65 (fun H locs hP hD hS => ?_)
  refine lv_iinc (v := 2) (lv' := [(1, .int 2), (0, .ref o)]) hx hb dX1_init_66 hl (k := 0) rfl (by decide) (by decide) rfl (fun ls hl => ?_)
  refine lv_goto (tgt := 38) hx hb dX1_init_69 (by decide) ?_
  refine lv_iload_n hx hb dX1_init_38 rfl (lv_at hl 0 rfl) ?_
  refine lv_bipush (v := 6) hx hb dX1_init_39 (by decide) ?_
  refine lv_icmp_ge (tgt := 72) hx hb dX1_init_41 (by decide) (fun h9 => absurd h9 (by decide)) (fun _ => ?_)
  refine lv_aload_n hx hb dX1_init_44 rfl (lv_at hl 1 rfl) ?_
  refine va_get (D := D) (ci := 1) (v := .ref q_7) (C := RX1) (T := TX1) (N := 16) hx hb hts hinX1 hown hK hP 0 rfl rfl 0 (by decide) fl9 (fun _ h9 => h9) rfl dX1_init_45 ?_
  refine lv_iload_n hx hb dX1_init_48 rfl (lv_at hl 0 rfl) ?_
  refine lv_bipush (v := 40) hx hb dX1_init_49 (by decide) ?_
  refine k_iast (k := 2) (ws' := [(o, .inr (1, [.ref q_7, .ref q_15, .ref q_23, .ref q_31, .null, .null, .null, .null, .null, .null, .null, .null, .int 0, .int 0, .int 0, .int 0])), (q_7, .inl (cI, 6, .inl (upd (upd (upd (fun _ => 0) 0 40) 1 40) 2 40))), (q_15, .inl (cI, 6, .inl (upd (upd (fun _ => 0) 0 3) 1 3))), (q_23, .inl (cI, 6, .inl (upd (upd (fun _ => 0) 0 0) 1 1))), (q_31, .inl (cI, 6, .inl (fun _ => 0)))]) hx hb hK hP hD hS 1 0 rfl rfl (vp_in_nI (n := 2) (by omega) (by omega)) (nI_clamp (n := 2) (by omega)) rfl dX1_init_51 (fun H locs hP hD hS => ?_)
  refine lv_aload_n hx hb dX1_init_52 rfl (lv_at hl 1 rfl) ?_
  refine va_get (D := D) (ci := 1) (v := .ref q_15) (C := RX1) (T := TX1) (N := 16) hx hb hts hinX1 hown hK hP 0 rfl rfl 1 (by decide) fl15 (fun _ h9 => h9) rfl dX1_init_53 ?_
  refine lv_iload_n hx hb dX1_init_56 rfl (lv_at hl 0 rfl) ?_
  refine lv_iconst (v := 3) hx hb dX1_init_57 (by decide) ?_
  refine k_iast (k := 2) (ws' := [(o, .inr (1, [.ref q_7, .ref q_15, .ref q_23, .ref q_31, .null, .null, .null, .null, .null, .null, .null, .null, .int 0, .int 0, .int 0, .int 0])), (q_7, .inl (cI, 6, .inl (upd (upd (upd (fun _ => 0) 0 40) 1 40) 2 40))), (q_15, .inl (cI, 6, .inl (upd (upd (upd (fun _ => 0) 0 3) 1 3) 2 3))), (q_23, .inl (cI, 6, .inl (upd (upd (fun _ => 0) 0 0) 1 1))), (q_31, .inl (cI, 6, .inl (fun _ => 0)))]) hx hb hK hP hD hS 2 0 rfl rfl (vp_in_nI (n := 2) (by omega) (by omega)) (nI_clamp (n := 2) (by omega)) rfl dX1_init_58 (fun H locs hP hD hS => ?_)
  refine lv_aload_n hx hb dX1_init_59 rfl (lv_at hl 1 rfl) ?_
  refine va_get (D := D) (ci := 1) (v := .ref q_23) (C := RX1) (T := TX1) (N := 16) hx hb hts hinX1 hown hK hP 0 rfl rfl 2 (by decide) fl18 (fun _ h9 => h9) rfl dX1_init_60 ?_
  refine lv_iload_n hx hb dX1_init_63 rfl (lv_at hl 0 rfl) ?_
  refine lv_iload_n hx hb dX1_init_64 rfl (lv_at hl 0 rfl) ?_
  refine k_iast (k := 2) (ws' := [(o, .inr (1, [.ref q_7, .ref q_15, .ref q_23, .ref q_31, .null, .null, .null, .null, .null, .null, .null, .null, .int 0, .int 0, .int 0, .int 0])), (q_7, .inl (cI, 6, .inl (upd (upd (upd (fun _ => 0) 0 40) 1 40) 2 40))), (q_15, .inl (cI, 6, .inl (upd (upd (upd (fun _ => 0) 0 3) 1 3) 2 3))), (q_23, .inl (cI, 6, .inl (upd (upd (upd (fun _ => 0) 0 0) 1 1) 2 2))), (q_31, .inl (cI, 6, .inl (fun _ => 0)))]) hx hb hK hP hD hS 3 0 rfl rfl (vp_in_nI (n := 2) (by omega) (by omega)) (nI_clamp (n := 2) (by omega)) rfl dX1_init_65 (fun H locs hP hD hS => ?_)
  refine lv_iinc (v := 3) (lv' := [(1, .int 3), (0, .ref o)]) hx hb dX1_init_66 hl (k := 0) rfl (by decide) (by decide) rfl (fun ls hl => ?_)
  refine lv_goto (tgt := 38) hx hb dX1_init_69 (by decide) ?_
  refine lv_iload_n hx hb dX1_init_38 rfl (lv_at hl 0 rfl) ?_
  refine lv_bipush (v := 6) hx hb dX1_init_39 (by decide) ?_
  refine lv_icmp_ge (tgt := 72) hx hb dX1_init_41 (by decide) (fun h9 => absurd h9 (by decide)) (fun _ => ?_)
  refine lv_aload_n hx hb dX1_init_44 rfl (lv_at hl 1 rfl) ?_
  refine va_get (D := D) (ci := 1) (v := .ref q_7) (C := RX1) (T := TX1) (N := 16) hx hb hts hinX1 hown hK hP 0 rfl rfl 0 (by decide) fl9 (fun _ h9 => h9) rfl dX1_init_45 ?_
  refine lv_iload_n hx hb dX1_init_48 rfl (lv_at hl 0 rfl) ?_
  refine lv_bipush (v := 40) hx hb dX1_init_49 (by decide) ?_
  refine k_iast (k := 3) (ws' := [(o, .inr (1, [.ref q_7, .ref q_15, .ref q_23, .ref q_31, .null, .null, .null, .null, .null, .null, .null, .null, .int 0, .int 0, .int 0, .int 0])), (q_7, .inl (cI, 6, .inl (upd (upd (upd (upd (fun _ => 0) 0 40) 1 40) 2 40) 3 40))), (q_15, .inl (cI, 6, .inl (upd (upd (upd (fun _ => 0) 0 3) 1 3) 2 3))), (q_23, .inl (cI, 6, .inl (upd (upd (upd (fun _ => 0) 0 0) 1 1) 2 2))), (q_31, .inl (cI, 6, .inl (fun _ => 0)))]) hx hb hK hP hD hS 1 0 rfl rfl (vp_in_nI (n := 3) (by omega) (by omega)) (nI_clamp (n := 3) (by omega)) rfl dX1_init_51 (fun H locs hP hD hS => ?_)
  refine lv_aload_n hx hb dX1_init_52 rfl (lv_at hl 1 rfl) ?_
  refine va_get (D := D) (ci := 1) (v := .ref q_15) (C := RX1) (T := TX1) (N := 16) hx hb hts hinX1 hown hK hP 0 rfl rfl 1 (by decide) fl15 (fun _ h9 => h9) rfl dX1_init_53 ?_
  refine lv_iload_n hx hb dX1_init_56 rfl (lv_at hl 0 rfl) ?_
  refine lv_iconst (v := 3) hx hb dX1_init_57 (by decide) ?_
  refine k_iast (k := 3) (ws' := [(o, .inr (1, [.ref q_7, .ref q_15, .ref q_23, .ref q_31, .null, .null, .null, .null, .null, .null, .null, .null, .int 0, .int 0, .int 0, .int 0])), (q_7, .inl (cI, 6, .inl (upd (upd (upd (upd (fun _ => 0) 0 40) 1 40) 2 40) 3 40))), (q_15, .inl (cI, 6, .inl (upd (upd (upd (upd (fun _ => 0) 0 3) 1 3) 2 3) 3 3))), (q_23, .inl (cI, 6, .inl (upd (upd (upd (fun _ => 0) 0 0) 1 1) 2 2))), (q_31, .inl (cI, 6, .inl (fun _ => 0)))]) hx hb hK hP hD hS 2 0 rfl rfl (vp_in_nI (n := 3) (by omega) (by omega)) (nI_clamp (n := 3) (by omega)) rfl dX1_init_58 (fun H locs hP hD hS => ?_)
  refine lv_aload_n hx hb dX1_init_59 rfl (lv_at hl 1 rfl) ?_
  refine va_get (D := D) (ci := 1) (v := .ref q_23) (C := RX1) (T := TX1) (N := 16) hx hb hts hinX1 hown hK hP 0 rfl rfl 2 (by decide) fl18 (fun _ h9 => h9) rfl dX1_init_60 ?_
  refine lv_iload_n hx hb dX1_init_63 rfl (lv_at hl 0 rfl) ?_
  refine lv_iload_n hx hb dX1_init_64 rfl (lv_at hl 0 rfl) ?_
  refine k_iast (k := 3) (ws' := [(o, .inr (1, [.ref q_7, .ref q_15, .ref q_23, .ref q_31, .null, .null, .null, .null, .null, .null, .null, .null, .int 0, .int 0, .int 0, .int 0])), (q_7, .inl (cI, 6, .inl (upd (upd (upd (upd (fun _ => 0) 0 40) 1 40) 2 40) 3 40))), (q_15, .inl (cI, 6, .inl (upd (upd (upd (upd (fun _ => 0) 0 3) 1 3) 2 3) 3 3))), (q_23, .inl (cI, 6, .inl (upd (upd (upd (upd (fun _ => 0) 0 0) 1 1) 2 2) 3 3))), (q_31, .inl (cI, 6, .inl (fun _ => 0)))]) hx hb hK hP hD hS 3 0 rfl rfl (vp_in_nI (n := 3) (by omega) (by omega)) (nI_clamp (n := 3) (by omega)) rfl dX1_init_65 (fun H locs hP hD hS => ?_)
  refine lv_iinc (v := 4) (lv' := [(1, .int 4), (0, .ref o)]) hx hb dX1_init_66 hl (k := 0) rfl (by decide) (by decide) rfl (fun ls hl => ?_)
  refine lv_goto (tgt := 38) hx hb dX1_init_69 (by decide) ?_
  refine lv_iload_n hx hb dX1_init_38 rfl (lv_at hl 0 rfl) ?_
  refine lv_bipush (v := 6) hx hb dX1_init_39 (by decide) ?_
  refine lv_icmp_ge (tgt := 72) hx hb dX1_init_41 (by decide) (fun h9 => absurd h9 (by decide)) (fun _ => ?_)
  refine lv_aload_n hx hb dX1_init_44 rfl (lv_at hl 1 rfl) ?_
  refine va_get (D := D) (ci := 1) (v := .ref q_7) (C := RX1) (T := TX1) (N := 16) hx hb hts hinX1 hown hK hP 0 rfl rfl 0 (by decide) fl9 (fun _ h9 => h9) rfl dX1_init_45 ?_
  refine lv_iload_n hx hb dX1_init_48 rfl (lv_at hl 0 rfl) ?_
  refine lv_bipush (v := 40) hx hb dX1_init_49 (by decide) ?_
  refine k_iast (k := 4) (ws' := [(o, .inr (1, [.ref q_7, .ref q_15, .ref q_23, .ref q_31, .null, .null, .null, .null, .null, .null, .null, .null, .int 0, .int 0, .int 0, .int 0])), (q_7, .inl (cI, 6, .inl (upd (upd (upd (upd (upd (fun _ => 0) 0 40) 1 40) 2 40) 3 40) 4 40))), (q_15, .inl (cI, 6, .inl (upd (upd (upd (upd (fun _ => 0) 0 3) 1 3) 2 3) 3 3))), (q_23, .inl (cI, 6, .inl (upd (upd (upd (upd (fun _ => 0) 0 0) 1 1) 2 2) 3 3))), (q_31, .inl (cI, 6, .inl (fun _ => 0)))]) hx hb hK hP hD hS 1 0 rfl rfl (vp_in_nI (n := 4) (by omega) (by omega)) (nI_clamp (n := 4) (by omega)) rfl dX1_init_51 (fun H locs hP hD hS => ?_)
  refine lv_aload_n hx hb dX1_init_52 rfl (lv_at hl 1 rfl) ?_
  refine va_get (D := D) (ci := 1) (v := .ref q_15) (C := RX1) (T := TX1) (N := 16) hx hb hts hinX1 hown hK hP 0 rfl rfl 1 (by decide) fl15 (fun _ h9 => h9) rfl dX1_init_53 ?_
  refine lv_iload_n hx hb dX1_init_56 rfl (lv_at hl 0 rfl) ?_
  refine lv_iconst (v := 3) hx hb dX1_init_57 (by decide) ?_
  refine k_iast (k := 4) (ws' := [(o, .inr (1, [.ref q_7, .ref q_15, .ref q_23, .ref q_31, .null, .null, .null, .null, .null, .null, .null, .null, .int 0, .int 0, .int 0, .int 0])), (q_7, .inl (cI, 6, .inl (upd (upd (upd (upd (upd (fun _ => 0) 0 40) 1 40) 2 40) 3 40) 4 40))), (q_15, .inl (cI, 6, .inl (upd (upd (upd (upd (upd (fun _ => 0) 0 3) 1 3) 2 3) 3 3) 4 3))), (q_23, .inl (cI, 6, .inl (upd (upd (upd (upd (fun _ => 0) 0 0) 1 1) 2 2) 3 3))), (q_31, .inl (cI, 6, .inl (fun _ => 0)))]) hx hb hK hP hD hS 2 0 rfl rfl (vp_in_nI (n := 4) (by omega) (by omega)) (nI_clamp (n := 4) (by omega)) rfl dX1_init_58 (fun H locs hP hD hS => ?_)
  refine lv_aload_n hx hb dX1_init_59 rfl (lv_at hl 1 rfl) ?_
  refine va_get (D := D) (ci := 1) (v := .ref q_23) (C := RX1) (T := TX1) (N := 16) hx hb hts hinX1 hown hK hP 0 rfl rfl 2 (by decide) fl18 (fun _ h9 => h9) rfl dX1_init_60 ?_
  refine lv_iload_n hx hb dX1_init_63 rfl (lv_at hl 0 rfl) ?_
  refine lv_iload_n hx hb dX1_init_64 rfl (lv_at hl 0 rfl) ?_
  refine k_iast (k := 4) (ws' := [(o, .inr (1, [.ref q_7, .ref q_15, .ref q_23, .ref q_31, .null, .null, .null, .null, .null, .null, .null, .null, .int 0, .int 0, .int 0, .int 0])), (q_7, .inl (cI, 6, .inl (upd (upd (upd (upd (upd (fun _ => 0) 0 40) 1 40) 2 40) 3 40) 4 40))), (q_15, .inl (cI, 6, .inl (upd (upd (upd (upd (upd (fun _ => 0) 0 3) 1 3) 2 3) 3 3) 4 3))), (q_23, .inl (cI, 6, .inl (upd (upd (upd (upd (upd (fun _ => 0) 0 0) 1 1) 2 2) 3 3) 4 4))), (q_31, .inl (cI, 6, .inl (fun _ => 0)))]) hx hb hK hP hD hS 3 0 rfl rfl (vp_in_nI (n := 4) (by omega) (by omega)) (nI_clamp (n := 4) (by omega)) rfl dX1_init_65 (fun H locs hP hD hS => ?_)
  refine lv_iinc (v := 5) (lv' := [(1, .int 5), (0, .ref o)]) hx hb dX1_init_66 hl (k := 0) rfl (by decide) (by decide) rfl (fun ls hl => ?_)
  refine lv_goto (tgt := 38) hx hb dX1_init_69 (by decide) ?_
  refine lv_iload_n hx hb dX1_init_38 rfl (lv_at hl 0 rfl) ?_
  refine lv_bipush (v := 6) hx hb dX1_init_39 (by decide) ?_
  refine lv_icmp_ge (tgt := 72) hx hb dX1_init_41 (by decide) (fun h9 => absurd h9 (by decide)) (fun _ => ?_)
  refine lv_aload_n hx hb dX1_init_44 rfl (lv_at hl 1 rfl) ?_
  refine va_get (D := D) (ci := 1) (v := .ref q_7) (C := RX1) (T := TX1) (N := 16) hx hb hts hinX1 hown hK hP 0 rfl rfl 0 (by decide) fl9 (fun _ h9 => h9) rfl dX1_init_45 ?_
  refine lv_iload_n hx hb dX1_init_48 rfl (lv_at hl 0 rfl) ?_
  refine lv_bipush (v := 40) hx hb dX1_init_49 (by decide) ?_
  refine k_iast (k := 5) (ws' := [(o, .inr (1, [.ref q_7, .ref q_15, .ref q_23, .ref q_31, .null, .null, .null, .null, .null, .null, .null, .null, .int 0, .int 0, .int 0, .int 0])), (q_7, .inl (cI, 6, .inl (upd (upd (upd (upd (upd (upd (fun _ => 0) 0 40) 1 40) 2 40) 3 40) 4 40) 5 40))), (q_15, .inl (cI, 6, .inl (upd (upd (upd (upd (upd (fun _ => 0) 0 3) 1 3) 2 3) 3 3) 4 3))), (q_23, .inl (cI, 6, .inl (upd (upd (upd (upd (upd (fun _ => 0) 0 0) 1 1) 2 2) 3 3) 4 4))), (q_31, .inl (cI, 6, .inl (fun _ => 0)))]) hx hb hK hP hD hS 1 0 rfl rfl (vp_in_nI (n := 5) (by omega) (by omega)) (nI_clamp (n := 5) (by omega)) rfl dX1_init_51 (fun H locs hP hD hS => ?_)
  refine lv_aload_n hx hb dX1_init_52 rfl (lv_at hl 1 rfl) ?_
  refine va_get (D := D) (ci := 1) (v := .ref q_15) (C := RX1) (T := TX1) (N := 16) hx hb hts hinX1 hown hK hP 0 rfl rfl 1 (by decide) fl15 (fun _ h9 => h9) rfl dX1_init_53 ?_
  refine lv_iload_n hx hb dX1_init_56 rfl (lv_at hl 0 rfl) ?_
  refine lv_iconst (v := 3) hx hb dX1_init_57 (by decide) ?_
  refine k_iast (k := 5) (ws' := [(o, .inr (1, [.ref q_7, .ref q_15, .ref q_23, .ref q_31, .null, .null, .null, .null, .null, .null, .null, .null, .int 0, .int 0, .int 0, .int 0])), (q_7, .inl (cI, 6, .inl (upd (upd (upd (upd (upd (upd (fun _ => 0) 0 40) 1 40) 2 40) 3 40) 4 40) 5 40))), (q_15, .inl (cI, 6, .inl (upd (upd (upd (upd (upd (upd (fun _ => 0) 0 3) 1 3) 2 3) 3 3) 4 3) 5 3))), (q_23, .inl (cI, 6, .inl (upd (upd (upd (upd (upd (fun _ => 0) 0 0) 1 1) 2 2) 3 3) 4 4))), (q_31, .inl (cI, 6, .inl (fun _ => 0)))]) hx hb hK hP hD hS 2 0 rfl rfl (vp_in_nI (n := 5) (by omega) (by omega)) (nI_clamp (n := 5) (by omega)) rfl dX1_init_58 (fun H locs hP hD hS => ?_)
  refine lv_aload_n hx hb dX1_init_59 rfl (lv_at hl 1 rfl) ?_
  refine va_get (D := D) (ci := 1) (v := .ref q_23) (C := RX1) (T := TX1) (N := 16) hx hb hts hinX1 hown hK hP 0 rfl rfl 2 (by decide) fl18 (fun _ h9 => h9) rfl dX1_init_60 ?_
  refine lv_iload_n hx hb dX1_init_63 rfl (lv_at hl 0 rfl) ?_
  refine lv_iload_n hx hb dX1_init_64 rfl (lv_at hl 0 rfl) ?_
  refine k_iast (k := 5) (ws' := [(o, .inr (1, [.ref q_7, .ref q_15, .ref q_23, .ref q_31, .null, .null, .null, .null, .null, .null, .null, .null, .int 0, .int 0, .int 0, .int 0])), (q_7, .inl (cI, 6, .inl (upd (upd (upd (upd (upd (upd (fun _ => 0) 0 40) 1 40) 2 40) 3 40) 4 40) 5 40))), (q_15, .inl (cI, 6, .inl (upd (upd (upd (upd (upd (upd (fun _ => 0) 0 3) 1 3) 2 3) 3 3) 4 3) 5 3))), (q_23, .inl (cI, 6, .inl (upd (upd (upd (upd (upd (upd (fun _ => 0) 0 0) 1 1) 2 2) 3 3) 4 4) 5 5))), (q_31, .inl (cI, 6, .inl (fun _ => 0)))]) hx hb hK hP hD hS 3 0 rfl rfl (vp_in_nI (n := 5) (by omega) (by omega)) (nI_clamp (n := 5) (by omega)) rfl dX1_init_65 (fun H locs hP hD hS => ?_)
  refine lv_iinc (v := 6) (lv' := [(1, .int 6), (0, .ref o)]) hx hb dX1_init_66 hl (k := 0) rfl (by decide) (by decide) rfl (fun ls hl => ?_)
  refine lv_goto (tgt := 38) hx hb dX1_init_69 (by decide) ?_
  refine lv_iload_n hx hb dX1_init_38 rfl (lv_at hl 0 rfl) ?_
  refine lv_bipush (v := 6) hx hb dX1_init_39 (by decide) ?_
  refine lv_icmp_ge (tgt := 72) hx hb dX1_init_41 (by decide) (fun _ => ?_) (fun h9 => absurd (by decide) h9)
  refine lv_aload_n hx hb dX1_init_72 rfl (lv_at hl 1 rfl) ?_
  refine lv_bipush (v := 6) hx hb dX1_init_73 (by decide) ?_
  refine k_newa (N := 6) hx hb (hts (.arrayClass .int) (by decide +kernel)) hK hP hD hS hA 0 rfl (by decide) (by decide) (Nat.le_of_ble_eq_true rfl) (Nat.le_of_ble_eq_true rfl) (Nat.le_of_ble_eq_true rfl) dX1_init_75 (fun q_75 H hP hD hS => ?_)
  have hP : va_P D vwCl ([(o, .inr (1, [.ref q_7, .ref q_15, .ref q_23, .ref q_31, .null, .null, .null, .null, .null, .null, .null, .null, .int 0, .int 0, .int 0, .int 0])), (q_7, .inl (cI, 6, .inl (upd (upd (upd (upd (upd (upd (fun _ => 0) 0 40) 1 40) 2 40) 3 40) 4 40) 5 40))), (q_15, .inl (cI, 6, .inl (upd (upd (upd (upd (upd (upd (fun _ => 0) 0 3) 1 3) 2 3) 3 3) 4 3) 5 3))), (q_23, .inl (cI, 6, .inl (upd (upd (upd (upd (upd (upd (fun _ => 0) 0 0) 1 1) 2 2) 3 3) 4 4) 5 5))), (q_31, .inl (cI, 6, .inl (fun _ => 0))), (q_75, .inl (cI, 6, .inl (fun _ => 0)))]) H := hP
  have hD : va_D A ([(o, .inr (1, [.ref q_7, .ref q_15, .ref q_23, .ref q_31, .null, .null, .null, .null, .null, .null, .null, .null, .int 0, .int 0, .int 0, .int 0])), (q_7, .inl (cI, 6, .inl (upd (upd (upd (upd (upd (upd (fun _ => 0) 0 40) 1 40) 2 40) 3 40) 4 40) 5 40))), (q_15, .inl (cI, 6, .inl (upd (upd (upd (upd (upd (upd (fun _ => 0) 0 3) 1 3) 2 3) 3 3) 4 3) 5 3))), (q_23, .inl (cI, 6, .inl (upd (upd (upd (upd (upd (upd (fun _ => 0) 0 0) 1 1) 2 2) 3 3) 4 4) 5 5))), (q_31, .inl (cI, 6, .inl (fun _ => 0))), (q_75, .inl (cI, 6, .inl (fun _ => 0)))]) := hD
  refine k_putF (D := D) (ci := 1) (v := .ref q_75) (ty := .array .int) (C := RX1) (T := TX1) (N := 16) hx hb hts hinX1 tyX1 tyX1_ok nmX1 hown hK hP hD hS 0 rfl rfl 4 (by decide) fl24 (fun _ h9 => h9) rfl hin rfl (by decide +kernel) rfl rfl (Nat.le_of_ble_eq_true rfl) (ws' := [(o, .inr (1, [.ref q_7, .ref q_15, .ref q_23, .ref q_31, .ref q_75, .null, .null, .null, .null, .null, .null, .null, .int 0, .int 0, .int 0, .int 0])), (q_7, .inl (cI, 6, .inl (upd (upd (upd (upd (upd (upd (fun _ => 0) 0 40) 1 40) 2 40) 3 40) 4 40) 5 40))), (q_15, .inl (cI, 6, .inl (upd (upd (upd (upd (upd (upd (fun _ => 0) 0 3) 1 3) 2 3) 3 3) 4 3) 5 3))), (q_23, .inl (cI, 6, .inl (upd (upd (upd (upd (upd (upd (fun _ => 0) 0 0) 1 1) 2 2) 3 3) 4 4) 5 5))), (q_31, .inl (cI, 6, .inl (fun _ => 0))), (q_75, .inl (cI, 6, .inl (fun _ => 0)))]) rfl dX1_init_77 (fun H locs hP hD hS => ?_)
  refine lv_aload_n hx hb dX1_init_80 rfl (lv_at hl 1 rfl) ?_
  refine lv_bipush (v := 6) hx hb dX1_init_81 (by decide) ?_
  refine k_newa (N := 6) hx hb (hts (.arrayClass .int) (by decide +kernel)) hK hP hD hS hA 0 rfl (by decide) (by decide) (Nat.le_of_ble_eq_true rfl) (Nat.le_of_ble_eq_true rfl) (Nat.le_of_ble_eq_true rfl) dX1_init_83 (fun q_83 H hP hD hS => ?_)
  have hP : va_P D vwCl ([(o, .inr (1, [.ref q_7, .ref q_15, .ref q_23, .ref q_31, .ref q_75, .null, .null, .null, .null, .null, .null, .null, .int 0, .int 0, .int 0, .int 0])), (q_7, .inl (cI, 6, .inl (upd (upd (upd (upd (upd (upd (fun _ => 0) 0 40) 1 40) 2 40) 3 40) 4 40) 5 40))), (q_15, .inl (cI, 6, .inl (upd (upd (upd (upd (upd (upd (fun _ => 0) 0 3) 1 3) 2 3) 3 3) 4 3) 5 3))), (q_23, .inl (cI, 6, .inl (upd (upd (upd (upd (upd (upd (fun _ => 0) 0 0) 1 1) 2 2) 3 3) 4 4) 5 5))), (q_31, .inl (cI, 6, .inl (fun _ => 0))), (q_75, .inl (cI, 6, .inl (fun _ => 0))), (q_83, .inl (cI, 6, .inl (fun _ => 0)))]) H := hP
  have hD : va_D A ([(o, .inr (1, [.ref q_7, .ref q_15, .ref q_23, .ref q_31, .ref q_75, .null, .null, .null, .null, .null, .null, .null, .int 0, .int 0, .int 0, .int 0])), (q_7, .inl (cI, 6, .inl (upd (upd (upd (upd (upd (upd (fun _ => 0) 0 40) 1 40) 2 40) 3 40) 4 40) 5 40))), (q_15, .inl (cI, 6, .inl (upd (upd (upd (upd (upd (upd (fun _ => 0) 0 3) 1 3) 2 3) 3 3) 4 3) 5 3))), (q_23, .inl (cI, 6, .inl (upd (upd (upd (upd (upd (upd (fun _ => 0) 0 0) 1 1) 2 2) 3 3) 4 4) 5 5))), (q_31, .inl (cI, 6, .inl (fun _ => 0))), (q_75, .inl (cI, 6, .inl (fun _ => 0))), (q_83, .inl (cI, 6, .inl (fun _ => 0)))]) := hD
  refine k_putF (D := D) (ci := 1) (v := .ref q_83) (ty := .array .int) (C := RX1) (T := TX1) (N := 16) hx hb hts hinX1 tyX1 tyX1_ok nmX1 hown hK hP hD hS 0 rfl rfl 5 (by decide) fl27 (fun _ h9 => h9) rfl hin rfl (by decide +kernel) rfl rfl (Nat.le_of_ble_eq_true rfl) (ws' := [(o, .inr (1, [.ref q_7, .ref q_15, .ref q_23, .ref q_31, .ref q_75, .ref q_83, .null, .null, .null, .null, .null, .null, .int 0, .int 0, .int 0, .int 0])), (q_7, .inl (cI, 6, .inl (upd (upd (upd (upd (upd (upd (fun _ => 0) 0 40) 1 40) 2 40) 3 40) 4 40) 5 40))), (q_15, .inl (cI, 6, .inl (upd (upd (upd (upd (upd (upd (fun _ => 0) 0 3) 1 3) 2 3) 3 3) 4 3) 5 3))), (q_23, .inl (cI, 6, .inl (upd (upd (upd (upd (upd (upd (fun _ => 0) 0 0) 1 1) 2 2) 3 3) 4 4) 5 5))), (q_31, .inl (cI, 6, .inl (fun _ => 0))), (q_75, .inl (cI, 6, .inl (fun _ => 0))), (q_83, .inl (cI, 6, .inl (fun _ => 0)))]) rfl dX1_init_85 (fun H locs hP hD hS => ?_)
  refine lv_aload_n hx hb dX1_init_88 rfl (lv_at hl 1 rfl) ?_
  refine lv_bipush (v := 6) hx hb dX1_init_89 (by decide) ?_
  refine k_newa (N := 6) hx hb (hts (.arrayClass .int) (by decide +kernel)) hK hP hD hS hA 0 rfl (by decide) (by decide) (Nat.le_of_ble_eq_true rfl) (Nat.le_of_ble_eq_true rfl) (Nat.le_of_ble_eq_true rfl) dX1_init_91 (fun q_91 H hP hD hS => ?_)
  have hP : va_P D vwCl ([(o, .inr (1, [.ref q_7, .ref q_15, .ref q_23, .ref q_31, .ref q_75, .ref q_83, .null, .null, .null, .null, .null, .null, .int 0, .int 0, .int 0, .int 0])), (q_7, .inl (cI, 6, .inl (upd (upd (upd (upd (upd (upd (fun _ => 0) 0 40) 1 40) 2 40) 3 40) 4 40) 5 40))), (q_15, .inl (cI, 6, .inl (upd (upd (upd (upd (upd (upd (fun _ => 0) 0 3) 1 3) 2 3) 3 3) 4 3) 5 3))), (q_23, .inl (cI, 6, .inl (upd (upd (upd (upd (upd (upd (fun _ => 0) 0 0) 1 1) 2 2) 3 3) 4 4) 5 5))), (q_31, .inl (cI, 6, .inl (fun _ => 0))), (q_75, .inl (cI, 6, .inl (fun _ => 0))), (q_83, .inl (cI, 6, .inl (fun _ => 0))), (q_91, .inl (cI, 6, .inl (fun _ => 0)))]) H := hP
  have hD : va_D A ([(o, .inr (1, [.ref q_7, .ref q_15, .ref q_23, .ref q_31, .ref q_75, .ref q_83, .null, .null, .null, .null, .null, .null, .int 0, .int 0, .int 0, .int 0])), (q_7, .inl (cI, 6, .inl (upd (upd (upd (upd (upd (upd (fun _ => 0) 0 40) 1 40) 2 40) 3 40) 4 40) 5 40))), (q_15, .inl (cI, 6, .inl (upd (upd (upd (upd (upd (upd (fun _ => 0) 0 3) 1 3) 2 3) 3 3) 4 3) 5 3))), (q_23, .inl (cI, 6, .inl (upd (upd (upd (upd (upd (upd (fun _ => 0) 0 0) 1 1) 2 2) 3 3) 4 4) 5 5))), (q_31, .inl (cI, 6, .inl (fun _ => 0))), (q_75, .inl (cI, 6, .inl (fun _ => 0))), (q_83, .inl (cI, 6, .inl (fun _ => 0))), (q_91, .inl (cI, 6, .inl (fun _ => 0)))]) := hD
  refine k_putF (D := D) (ci := 1) (v := .ref q_91) (ty := .array .int) (C := RX1) (T := TX1) (N := 16) hx hb hts hinX1 tyX1 tyX1_ok nmX1 hown hK hP hD hS 0 rfl rfl 6 (by decide) fl30 (fun _ h9 => h9) rfl hin rfl (by decide +kernel) rfl rfl (Nat.le_of_ble_eq_true rfl) (ws' := [(o, .inr (1, [.ref q_7, .ref q_15, .ref q_23, .ref q_31, .ref q_75, .ref q_83, .ref q_91, .null, .null, .null, .null, .null, .int 0, .int 0, .int 0, .int 0])), (q_7, .inl (cI, 6, .inl (upd (upd (upd (upd (upd (upd (fun _ => 0) 0 40) 1 40) 2 40) 3 40) 4 40) 5 40))), (q_15, .inl (cI, 6, .inl (upd (upd (upd (upd (upd (upd (fun _ => 0) 0 3) 1 3) 2 3) 3 3) 4 3) 5 3))), (q_23, .inl (cI, 6, .inl (upd (upd (upd (upd (upd (upd (fun _ => 0) 0 0) 1 1) 2 2) 3 3) 4 4) 5 5))), (q_31, .inl (cI, 6, .inl (fun _ => 0))), (q_75, .inl (cI, 6, .inl (fun _ => 0))), (q_83, .inl (cI, 6, .inl (fun _ => 0))), (q_91, .inl (cI, 6, .inl (fun _ => 0)))]) rfl dX1_init_93 (fun H locs hP hD hS => ?_)
  refine lv_aload_n hx hb dX1_init_96 rfl (lv_at hl 1 rfl) ?_
  refine lv_bipush (v := 6) hx hb dX1_init_97 (by decide) ?_
  refine k_newa (N := 6) hx hb (hts (.arrayClass .int) (by decide +kernel)) hK hP hD hS hA 0 rfl (by decide) (by decide) (Nat.le_of_ble_eq_true rfl) (Nat.le_of_ble_eq_true rfl) (Nat.le_of_ble_eq_true rfl) dX1_init_99 (fun q_99 H hP hD hS => ?_)
  have hP : va_P D vwCl ([(o, .inr (1, [.ref q_7, .ref q_15, .ref q_23, .ref q_31, .ref q_75, .ref q_83, .ref q_91, .null, .null, .null, .null, .null, .int 0, .int 0, .int 0, .int 0])), (q_7, .inl (cI, 6, .inl (upd (upd (upd (upd (upd (upd (fun _ => 0) 0 40) 1 40) 2 40) 3 40) 4 40) 5 40))), (q_15, .inl (cI, 6, .inl (upd (upd (upd (upd (upd (upd (fun _ => 0) 0 3) 1 3) 2 3) 3 3) 4 3) 5 3))), (q_23, .inl (cI, 6, .inl (upd (upd (upd (upd (upd (upd (fun _ => 0) 0 0) 1 1) 2 2) 3 3) 4 4) 5 5))), (q_31, .inl (cI, 6, .inl (fun _ => 0))), (q_75, .inl (cI, 6, .inl (fun _ => 0))), (q_83, .inl (cI, 6, .inl (fun _ => 0))), (q_91, .inl (cI, 6, .inl (fun _ => 0))), (q_99, .inl (cI, 6, .inl (fun _ => 0)))]) H := hP
  have hD : va_D A ([(o, .inr (1, [.ref q_7, .ref q_15, .ref q_23, .ref q_31, .ref q_75, .ref q_83, .ref q_91, .null, .null, .null, .null, .null, .int 0, .int 0, .int 0, .int 0])), (q_7, .inl (cI, 6, .inl (upd (upd (upd (upd (upd (upd (fun _ => 0) 0 40) 1 40) 2 40) 3 40) 4 40) 5 40))), (q_15, .inl (cI, 6, .inl (upd (upd (upd (upd (upd (upd (fun _ => 0) 0 3) 1 3) 2 3) 3 3) 4 3) 5 3))), (q_23, .inl (cI, 6, .inl (upd (upd (upd (upd (upd (upd (fun _ => 0) 0 0) 1 1) 2 2) 3 3) 4 4) 5 5))), (q_31, .inl (cI, 6, .inl (fun _ => 0))), (q_75, .inl (cI, 6, .inl (fun _ => 0))), (q_83, .inl (cI, 6, .inl (fun _ => 0))), (q_91, .inl (cI, 6, .inl (fun _ => 0))), (q_99, .inl (cI, 6, .inl (fun _ => 0)))]) := hD
  refine k_putF (D := D) (ci := 1) (v := .ref q_99) (ty := .array .int) (C := RX1) (T := TX1) (N := 16) hx hb hts hinX1 tyX1 tyX1_ok nmX1 hown hK hP hD hS 0 rfl rfl 7 (by decide) fl33 (fun _ h9 => h9) rfl hin rfl (by decide +kernel) rfl rfl (Nat.le_of_ble_eq_true rfl) (ws' := [(o, .inr (1, [.ref q_7, .ref q_15, .ref q_23, .ref q_31, .ref q_75, .ref q_83, .ref q_91, .ref q_99, .null, .null, .null, .null, .int 0, .int 0, .int 0, .int 0])), (q_7, .inl (cI, 6, .inl (upd (upd (upd (upd (upd (upd (fun _ => 0) 0 40) 1 40) 2 40) 3 40) 4 40) 5 40))), (q_15, .inl (cI, 6, .inl (upd (upd (upd (upd (upd (upd (fun _ => 0) 0 3) 1 3) 2 3) 3 3) 4 3) 5 3))), (q_23, .inl (cI, 6, .inl (upd (upd (upd (upd (upd (upd (fun _ => 0) 0 0) 1 1) 2 2) 3 3) 4 4) 5 5))), (q_31, .inl (cI, 6, .inl (fun _ => 0))), (q_75, .inl (cI, 6, .inl (fun _ => 0))), (q_83, .inl (cI, 6, .inl (fun _ => 0))), (q_91, .inl (cI, 6, .inl (fun _ => 0))), (q_99, .inl (cI, 6, .inl (fun _ => 0)))]) rfl dX1_init_101 (fun H locs hP hD hS => ?_)
  refine lv_aload_n hx hb dX1_init_104 rfl (lv_at hl 1 rfl) ?_
  refine lv_bipush (v := 6) hx hb dX1_init_105 (by decide) ?_
  refine k_newa (N := 6) hx hb (hts (.arrayClass .int) (by decide +kernel)) hK hP hD hS hA 0 rfl (by decide) (by decide) (Nat.le_of_ble_eq_true rfl) (Nat.le_of_ble_eq_true rfl) (Nat.le_of_ble_eq_true rfl) dX1_init_107 (fun q_107 H hP hD hS => ?_)
  have hP : va_P D vwCl ([(o, .inr (1, [.ref q_7, .ref q_15, .ref q_23, .ref q_31, .ref q_75, .ref q_83, .ref q_91, .ref q_99, .null, .null, .null, .null, .int 0, .int 0, .int 0, .int 0])), (q_7, .inl (cI, 6, .inl (upd (upd (upd (upd (upd (upd (fun _ => 0) 0 40) 1 40) 2 40) 3 40) 4 40) 5 40))), (q_15, .inl (cI, 6, .inl (upd (upd (upd (upd (upd (upd (fun _ => 0) 0 3) 1 3) 2 3) 3 3) 4 3) 5 3))), (q_23, .inl (cI, 6, .inl (upd (upd (upd (upd (upd (upd (fun _ => 0) 0 0) 1 1) 2 2) 3 3) 4 4) 5 5))), (q_31, .inl (cI, 6, .inl (fun _ => 0))), (q_75, .inl (cI, 6, .inl (fun _ => 0))), (q_83, .inl (cI, 6, .inl (fun _ => 0))), (q_91, .inl (cI, 6, .inl (fun _ => 0))), (q_99, .inl (cI, 6, .inl (fun _ => 0))), (q_107, .inl (cI, 6, .inl (fun _ => 0)))]) H := hP
  have hD : va_D A ([(o, .inr (1, [.ref q_7, .ref q_15, .ref q_23, .ref q_31, .ref q_75, .ref q_83, .ref q_91, .ref q_99, .null, .null, .null, .null, .int 0, .int 0, .int 0, .int 0])), (q_7, .inl (cI, 6, .inl (upd (upd (upd (upd (upd (upd (fun _ => 0) 0 40) 1 40) 2 40) 3 40) 4 40) 5 40))), (q_15, .inl (cI, 6, .inl (upd (upd (upd (upd (upd (upd (fun _ => 0) 0 3) 1 3) 2 3) 3 3) 4 3) 5 3))), (q_23, .inl (cI, 6, .inl (upd (upd (upd (upd (upd (upd (fun _ => 0) 0 0) 1 1) 2 2) 3 3) 4 4) 5 5))), (q_31, .inl (cI, 6, .inl (fun _ => 0))), (q_75, .inl (cI, 6, .inl (fun _ => 0))), (q_83, .inl (cI, 6, .inl (fun _ => 0))), (q_91, .inl (cI, 6, .inl (fun _ => 0))), (q_99, .inl (cI, 6, .inl (fun _ => 0))), (q_107, .inl (cI, 6, .inl (fun _ => 0)))]) := hD
  refine k_putF (D := D) (ci := 1) (v := .ref q_107) (ty := .array .int) (C := RX1) (T := TX1) (N := 16) hx hb hts hinX1 tyX1 tyX1_ok nmX1 hown hK hP hD hS 0 rfl rfl 8 (by decide) fl36 (fun _ h9 => h9) rfl hin rfl (by decide +kernel) rfl rfl (Nat.le_of_ble_eq_true rfl) (ws' := [(o, .inr (1, [.ref q_7, .ref q_15, .ref q_23, .ref q_31, .ref q_75, .ref q_83, .ref q_91, .ref q_99, .ref q_107, .null, .null, .null, .int 0, .int 0, .int 0, .int 0])), (q_7, .inl (cI, 6, .inl (upd (upd (upd (upd (upd (upd (fun _ => 0) 0 40) 1 40) 2 40) 3 40) 4 40) 5 40))), (q_15, .inl (cI, 6, .inl (upd (upd (upd (upd (upd (upd (fun _ => 0) 0 3) 1 3) 2 3) 3 3) 4 3) 5 3))), (q_23, .inl (cI, 6, .inl (upd (upd (upd (upd (upd (upd (fun _ => 0) 0 0) 1 1) 2 2) 3 3) 4 4) 5 5))), (q_31, .inl (cI, 6, .inl (fun _ => 0))), (q_75, .inl (cI, 6, .inl (fun _ => 0))), (q_83, .inl (cI, 6, .inl (fun _ => 0))), (q_91, .inl (cI, 6, .inl (fun _ => 0))), (q_99, .inl (cI, 6, .inl (fun _ => 0))), (q_107, .inl (cI, 6, .inl (fun _ => 0)))]) rfl dX1_init_109 (fun H locs hP hD hS => ?_)
  refine lv_aload_n hx hb dX1_init_112 rfl (lv_at hl 1 rfl) ?_
  refine lv_bipush (v := 6) hx hb dX1_init_113 (by decide) ?_
  refine k_newa (N := 6) hx hb (hts (.arrayClass .int) (by decide +kernel)) hK hP hD hS hA 0 rfl (by decide) (by decide) (Nat.le_of_ble_eq_true rfl) (Nat.le_of_ble_eq_true rfl) (Nat.le_of_ble_eq_true rfl) dX1_init_115 (fun q_115 H hP hD hS => ?_)
  have hP : va_P D vwCl ([(o, .inr (1, [.ref q_7, .ref q_15, .ref q_23, .ref q_31, .ref q_75, .ref q_83, .ref q_91, .ref q_99, .ref q_107, .null, .null, .null, .int 0, .int 0, .int 0, .int 0])), (q_7, .inl (cI, 6, .inl (upd (upd (upd (upd (upd (upd (fun _ => 0) 0 40) 1 40) 2 40) 3 40) 4 40) 5 40))), (q_15, .inl (cI, 6, .inl (upd (upd (upd (upd (upd (upd (fun _ => 0) 0 3) 1 3) 2 3) 3 3) 4 3) 5 3))), (q_23, .inl (cI, 6, .inl (upd (upd (upd (upd (upd (upd (fun _ => 0) 0 0) 1 1) 2 2) 3 3) 4 4) 5 5))), (q_31, .inl (cI, 6, .inl (fun _ => 0))), (q_75, .inl (cI, 6, .inl (fun _ => 0))), (q_83, .inl (cI, 6, .inl (fun _ => 0))), (q_91, .inl (cI, 6, .inl (fun _ => 0))), (q_99, .inl (cI, 6, .inl (fun _ => 0))), (q_107, .inl (cI, 6, .inl (fun _ => 0))), (q_115, .inl (cI, 6, .inl (fun _ => 0)))]) H := hP
  have hD : va_D A ([(o, .inr (1, [.ref q_7, .ref q_15, .ref q_23, .ref q_31, .ref q_75, .ref q_83, .ref q_91, .ref q_99, .ref q_107, .null, .null, .null, .int 0, .int 0, .int 0, .int 0])), (q_7, .inl (cI, 6, .inl (upd (upd (upd (upd (upd (upd (fun _ => 0) 0 40) 1 40) 2 40) 3 40) 4 40) 5 40))), (q_15, .inl (cI, 6, .inl (upd (upd (upd (upd (upd (upd (fun _ => 0) 0 3) 1 3) 2 3) 3 3) 4 3) 5 3))), (q_23, .inl (cI, 6, .inl (upd (upd (upd (upd (upd (upd (fun _ => 0) 0 0) 1 1) 2 2) 3 3) 4 4) 5 5))), (q_31, .inl (cI, 6, .inl (fun _ => 0))), (q_75, .inl (cI, 6, .inl (fun _ => 0))), (q_83, .inl (cI, 6, .inl (fun _ => 0))), (q_91, .inl (cI, 6, .inl (fun _ => 0))), (q_99, .inl (cI, 6, .inl (fun _ => 0))), (q_107, .inl (cI, 6, .inl (fun _ => 0))), (q_115, .inl (cI, 6, .inl (fun _ => 0)))]) := hD
  refine k_putF (D := D) (ci := 1) (v := .ref q_115) (ty := .array .int) (C := RX1) (T := TX1) (N := 16) hx hb hts hinX1 tyX1 tyX1_ok nmX1 hown hK hP hD hS 0 rfl rfl 9 (by decide) fl39 (fun _ h9 => h9) rfl hin rfl (by decide +kernel) rfl rfl (Nat.le_of_ble_eq_true rfl) (ws' := [(o, .inr (1, [.ref q_7, .ref q_15, .ref q_23, .ref q_31, .ref q_75, .ref q_83, .ref q_91, .ref q_99, .ref q_107, .ref q_115, .null, .null, .int 0, .int 0, .int 0, .int 0])), (q_7, .inl (cI, 6, .inl (upd (upd (upd (upd (upd (upd (fun _ => 0) 0 40) 1 40) 2 40) 3 40) 4 40) 5 40))), (q_15, .inl (cI, 6, .inl (upd (upd (upd (upd (upd (upd (fun _ => 0) 0 3) 1 3) 2 3) 3 3) 4 3) 5 3))), (q_23, .inl (cI, 6, .inl (upd (upd (upd (upd (upd (upd (fun _ => 0) 0 0) 1 1) 2 2) 3 3) 4 4) 5 5))), (q_31, .inl (cI, 6, .inl (fun _ => 0))), (q_75, .inl (cI, 6, .inl (fun _ => 0))), (q_83, .inl (cI, 6, .inl (fun _ => 0))), (q_91, .inl (cI, 6, .inl (fun _ => 0))), (q_99, .inl (cI, 6, .inl (fun _ => 0))), (q_107, .inl (cI, 6, .inl (fun _ => 0))), (q_115, .inl (cI, 6, .inl (fun _ => 0)))]) rfl dX1_init_117 (fun H locs hP hD hS => ?_)
  refine lv_aload_n hx hb dX1_init_120 rfl (lv_at hl 1 rfl) ?_
  refine lv_bipush (v := 6) hx hb dX1_init_121 (by decide) ?_
  refine k_newa (N := 6) hx hb (hts (.arrayClass .int) (by decide +kernel)) hK hP hD hS hA 0 rfl (by decide) (by decide) (Nat.le_of_ble_eq_true rfl) (Nat.le_of_ble_eq_true rfl) (Nat.le_of_ble_eq_true rfl) dX1_init_123 (fun q_123 H hP hD hS => ?_)
  have hP : va_P D vwCl ([(o, .inr (1, [.ref q_7, .ref q_15, .ref q_23, .ref q_31, .ref q_75, .ref q_83, .ref q_91, .ref q_99, .ref q_107, .ref q_115, .null, .null, .int 0, .int 0, .int 0, .int 0])), (q_7, .inl (cI, 6, .inl (upd (upd (upd (upd (upd (upd (fun _ => 0) 0 40) 1 40) 2 40) 3 40) 4 40) 5 40))), (q_15, .inl (cI, 6, .inl (upd (upd (upd (upd (upd (upd (fun _ => 0) 0 3) 1 3) 2 3) 3 3) 4 3) 5 3))), (q_23, .inl (cI, 6, .inl (upd (upd (upd (upd (upd (upd (fun _ => 0) 0 0) 1 1) 2 2) 3 3) 4 4) 5 5))), (q_31, .inl (cI, 6, .inl (fun _ => 0))), (q_75, .inl (cI, 6, .inl (fun _ => 0))), (q_83, .inl (cI, 6, .inl (fun _ => 0))), (q_91, .inl (cI, 6, .inl (fun _ => 0))), (q_99, .inl (cI, 6, .inl (fun _ => 0))), (q_107, .inl (cI, 6, .inl (fun _ => 0))), (q_115, .inl (cI, 6, .inl (fun _ => 0))), (q_123, .inl (cI, 6, .inl (fun _ => 0)))]) H := hP
  have hD : va_D A ([(o, .inr (1, [.ref q_7, .ref q_15, .ref q_23, .ref q_31, .ref q_75, .ref q_83, .ref q_91, .ref q_99, .ref q_107, .ref q_115, .null, .null, .int 0, .int 0, .int 0, .int 0])), (q_7, .inl (cI, 6, .inl (upd (upd (upd (upd (upd (upd (fun _ => 0) 0 40) 1 40) 2 40) 3 40) 4 40) 5 40))), (q_15, .inl (cI, 6, .inl (upd (upd (upd (upd (upd (upd (fun _ => 0) 0 3) 1 3) 2 3) 3 3) 4 3) 5 3))), (q_23, .inl (cI, 6, .inl (upd (upd (upd (upd (upd (upd (fun _ => 0) 0 0) 1 1) 2 2) 3 3) 4 4) 5 5))), (q_31, .inl (cI, 6, .inl (fun _ => 0))), (q_75, .inl (cI, 6, .inl (fun _ => 0))), (q_83, .inl (cI, 6, .inl (fun _ => 0))), (q_91, .inl (cI, 6, .inl (fun _ => 0))), (q_99, .inl (cI, 6, .inl (fun _ => 0))), (q_107, .inl (cI, 6, .inl (fun _ => 0))), (q_115, .inl (cI, 6, .inl (fun _ => 0))), (q_123, .inl (cI, 6, .inl (fun _ => 0)))]) := hD
  refine k_putF (D := D) (ci := 1) (v := .ref q_123) (ty := .array .int) (C := RX1) (T := TX1) (N := 16) hx hb hts hinX1 tyX1 tyX1_ok nmX1 hown hK hP hD hS 0 rfl rfl 10 (by decide) fl42 (fun _ h9 => h9) rfl hin rfl (by decide +kernel) rfl rfl (Nat.le_of_ble_eq_true rfl) (ws' := [(o, .inr (1, [.ref q_7, .ref q_15, .ref q_23, .ref q_31, .ref q_75, .ref q_83, .ref q_91, .ref q_99, .ref q_107, .ref q_115, .ref q_123, .null, .int 0, .int 0, .int 0, .int 0])), (q_7, .inl (cI, 6, .inl (upd (upd (upd (upd (upd (upd (fun _ => 0) 0 40) 1 40) 2 40) 3 40) 4 40) 5 40))), (q_15, .inl (cI, 6, .inl (upd (upd (upd (upd (upd (upd (fun _ => 0) 0 3) 1 3) 2 3) 3 3) 4 3) 5 3))), (q_23, .inl (cI, 6, .inl (upd (upd (upd (upd (upd (upd (fun _ => 0) 0 0) 1 1) 2 2) 3 3) 4 4) 5 5))), (q_31, .inl (cI, 6, .inl (fun _ => 0))), (q_75, .inl (cI, 6, .inl (fun _ => 0))), (q_83, .inl (cI, 6, .inl (fun _ => 0))), (q_91, .inl (cI, 6, .inl (fun _ => 0))), (q_99, .inl (cI, 6, .inl (fun _ => 0))), (q_107, .inl (cI, 6, .inl (fun _ => 0))), (q_115, .inl (cI, 6, .inl (fun _ => 0))), (q_123, .inl (cI, 6, .inl (fun _ => 0)))]) rfl dX1_init_125 (fun H locs hP hD hS => ?_)
  refine lv_iconst (v := 0) hx hb dX1_init_128 (by decide) ?_
  refine lv_istore_n (lv' := [(1, .int 0), (0, .ref o)]) hx hb dX1_init_129 rfl hl (by decide) rfl (fun ls hl => ?_)
  refine lv_iload_n hx hb dX1_init_130 rfl (lv_at hl 0 rfl) ?_
  refine lv_bipush (v := 6) hx hb dX1_init_131 (by decide) ?_
  refine lv_icmp_ge (tgt := 165) hx hb dX1_init_133 (by decide) (fun h9 => absurd h9 (by decide)) (fun _ => ?_)
  refine lv_aload_n hx hb dX1_init_136 rfl (lv_at hl 1 rfl) ?_
  refine va_get (D := D) (ci := 1) (v := .ref q_75) (C := RX1) (T := TX1) (N := 16) hx hb hts hinX1 hown hK hP 0 rfl rfl 4 (by decide) fl24 (fun _ h9 => h9) rfl dX1_init_137 ?_
  refine lv_iload_n hx hb dX1_init_140 rfl (lv_at hl 0 rfl) ?_
  refine lv_bipush (v := 60) hx hb dX1_init_141 (by decide) ?_
  refine k_iast (k := 0) (ws' := [(o, .inr (1, [.ref q_7, .ref q_15, .ref q_23, .ref q_31, .ref q_75, .ref q_83, .ref q_91, .ref q_99, .ref q_107, .ref q_115, .ref q_123, .null, .int 0, .int 0, .int 0, .int 0])), (q_7, .inl (cI, 6, .inl (upd (upd (upd (upd (upd (upd (fun _ => 0) 0 40) 1 40) 2 40) 3 40) 4 40) 5 40))), (q_15, .inl (cI, 6, .inl (upd (upd (upd (upd (upd (upd (fun _ => 0) 0 3) 1 3) 2 3) 3 3) 4 3) 5 3))), (q_23, .inl (cI, 6, .inl (upd (upd (upd (upd (upd (upd (fun _ => 0) 0 0) 1 1) 2 2) 3 3) 4 4) 5 5))), (q_31, .inl (cI, 6, .inl (fun _ => 0))), (q_75, .inl (cI, 6, .inl (upd (fun _ => 0) 0 60))), (q_83, .inl (cI, 6, .inl (fun _ => 0))), (q_91, .inl (cI, 6, .inl (fun _ => 0))), (q_99, .inl (cI, 6, .inl (fun _ => 0))), (q_107, .inl (cI, 6, .inl (fun _ => 0))), (q_115, .inl (cI, 6, .inl (fun _ => 0))), (q_123, .inl (cI, 6, .inl (fun _ => 0)))]) hx hb hK hP hD hS 5 0 rfl rfl (vp_in_nI (n := 0) (by omega) (by omega)) (nI_clamp (n := 0) (by omega)) rfl dX1_init_143 (fun H locs hP hD hS => ?_)
  refine lv_aload_n hx hb dX1_init_144 rfl (lv_at hl 1 rfl) ?_
  refine va_get (D := D) (ci := 1) (v := .ref q_83) (C := RX1) (T := TX1) (N := 16) hx hb hts hinX1 hown hK hP 0 rfl rfl 5 (by decide) fl27 (fun _ h9 => h9) rfl dX1_init_145 ?_
  refine lv_iload_n hx hb dX1_init_148 rfl (lv_at hl 0 rfl) ?_
  refine lv_bipush (v := 20) hx hb dX1_init_149 (by decide) ?_
  refine k_iast (k := 0) (ws' := [(o, .inr (1, [.ref q_7, .ref q_15, .ref q_23, .ref q_31, .ref q_75, .ref q_83, .ref q_91, .ref q_99, .ref q_107, .ref q_115, .ref q_123, .null, .int 0, .int 0, .int 0, .int 0])), (q_7, .inl (cI, 6, .inl (upd (upd (upd (upd (upd (upd (fun _ => 0) 0 40) 1 40) 2 40) 3 40) 4 40) 5 40))), (q_15, .inl (cI, 6, .inl (upd (upd (upd (upd (upd (upd (fun _ => 0) 0 3) 1 3) 2 3) 3 3) 4 3) 5 3))), (q_23, .inl (cI, 6, .inl (upd (upd (upd (upd (upd (upd (fun _ => 0) 0 0) 1 1) 2 2) 3 3) 4 4) 5 5))), (q_31, .inl (cI, 6, .inl (fun _ => 0))), (q_75, .inl (cI, 6, .inl (upd (fun _ => 0) 0 60))), (q_83, .inl (cI, 6, .inl (upd (fun _ => 0) 0 20))), (q_91, .inl (cI, 6, .inl (fun _ => 0))), (q_99, .inl (cI, 6, .inl (fun _ => 0))), (q_107, .inl (cI, 6, .inl (fun _ => 0))), (q_115, .inl (cI, 6, .inl (fun _ => 0))), (q_123, .inl (cI, 6, .inl (fun _ => 0)))]) hx hb hK hP hD hS 6 0 rfl rfl (vp_in_nI (n := 0) (by omega) (by omega)) (nI_clamp (n := 0) (by omega)) rfl dX1_init_151 (fun H locs hP hD hS => ?_)
  refine lv_aload_n hx hb dX1_init_152 rfl (lv_at hl 1 rfl) ?_
  refine va_get (D := D) (ci := 1) (v := .ref q_99) (C := RX1) (T := TX1) (N := 16) hx hb hts hinX1 hown hK hP 0 rfl rfl 7 (by decide) fl33 (fun _ h9 => h9) rfl dX1_init_153 ?_
  refine lv_iload_n hx hb dX1_init_156 rfl (lv_at hl 0 rfl) ?_
  refine lv_iconst (v := (-1)) hx hb dX1_init_157 (by decide) ?_
  refine k_iast (k := 0) (ws' := [(o, .inr (1, [.ref q_7, .ref q_15, .ref q_23, .ref q_31, .ref q_75, .ref q_83, .ref q_91, .ref q_99, .ref q_107, .ref q_115, .ref q_123, .null, .int 0, .int 0, .int 0, .int 0])), (q_7, .inl (cI, 6, .inl (upd (upd (upd (upd (upd (upd (fun _ => 0) 0 40) 1 40) 2 40) 3 40) 4 40) 5 40))), (q_15, .inl (cI, 6, .inl (upd (upd (upd (upd (upd (upd (fun _ => 0) 0 3) 1 3) 2 3) 3 3) 4 3) 5 3))), (q_23, .inl (cI, 6, .inl (upd (upd (upd (upd (upd (upd (fun _ => 0) 0 0) 1 1) 2 2) 3 3) 4 4) 5 5))), (q_31, .inl (cI, 6, .inl (fun _ => 0))), (q_75, .inl (cI, 6, .inl (upd (fun _ => 0) 0 60))), (q_83, .inl (cI, 6, .inl (upd (fun _ => 0) 0 20))), (q_91, .inl (cI, 6, .inl (fun _ => 0))), (q_99, .inl (cI, 6, .inl (upd (fun _ => 0) 0 (-1)))), (q_107, .inl (cI, 6, .inl (fun _ => 0))), (q_115, .inl (cI, 6, .inl (fun _ => 0))), (q_123, .inl (cI, 6, .inl (fun _ => 0)))]) hx hb hK hP hD hS 8 0 rfl rfl (vp_in_nI (n := 0) (by omega) (by omega)) (nI_clamp (n := 0) (by omega)) rfl dX1_init_158 (fun H locs hP hD hS => ?_)
  refine lv_iinc (v := 1) (lv' := [(1, .int 1), (0, .ref o)]) hx hb dX1_init_159 hl (k := 0) rfl (by decide) (by decide) rfl (fun ls hl => ?_)
  refine lv_goto (tgt := 130) hx hb dX1_init_162 (by decide) ?_
  refine lv_iload_n hx hb dX1_init_130 rfl (lv_at hl 0 rfl) ?_
  refine lv_bipush (v := 6) hx hb dX1_init_131 (by decide) ?_
  refine lv_icmp_ge (tgt := 165) hx hb dX1_init_133 (by decide) (fun h9 => absurd h9 (by decide)) (fun _ => ?_)
  refine lv_aload_n hx hb dX1_init_136 rfl (lv_at hl 1 rfl) ?_
  refine va_get (D := D) (ci := 1) (v := .ref q_75) (C := RX1) (T := TX1) (N := 16) hx hb hts hinX1 hown hK hP 0 rfl rfl 4 (by decide) fl24 (fun _ h9 => h9) rfl dX1_init_137 ?_
  refine lv_iload_n hx hb dX1_init_140 rfl (lv_at hl 0 rfl) ?_
  refine lv_bipush (v := 60) hx hb dX1_init_141 (by decide) ?_
  refine k_iast (k := 1) (ws' := [(o, .inr (1, [.ref q_7, .ref q_15, .ref q_23, .ref q_31, .ref q_75, .ref q_83, .ref q_91, .ref q_99, .ref q_107, .ref q_115, .ref q_123, .null, .int 0, .int 0, .int 0, .int 0])), (q_7, .inl (cI, 6, .inl (upd (upd (upd (upd (upd (upd (fun _ => 0) 0 40) 1 40) 2 40) 3 40) 4 40) 5 40))), (q_15, .inl (cI, 6, .inl (upd (upd (upd (upd (upd (upd (fun _ => 0) 0 3) 1 3) 2 3) 3 3) 4 3) 5 3))), (q_23, .inl (cI, 6, .inl (upd (upd (upd (upd (upd (upd (fun _ => 0) 0 0) 1 1) 2 2) 3 3) 4 4) 5 5))), (q_31, .inl (cI, 6, .inl (fun _ => 0))), (q_75, .inl (cI, 6, .inl (upd (upd (fun _ => 0) 0 60) 1 60))), (q_83, .inl (cI, 6, .inl (upd (fun _ => 0) 0 20))), (q_91, .inl (cI, 6, .inl (fun _ => 0))), (q_99, .inl (cI, 6, .inl (upd (fun _ => 0) 0 (-1)))), (q_107, .inl (cI, 6, .inl (fun _ => 0))), (q_115, .inl (cI, 6, .inl (fun _ => 0))), (q_123, .inl (cI, 6, .inl (fun _ => 0)))]) hx hb hK hP hD hS 5 0 rfl rfl (vp_in_nI (n := 1) (by omega) (by omega)) (nI_clamp (n := 1) (by omega)) rfl dX1_init_143 (fun H locs hP hD hS => ?_)
  refine lv_aload_n hx hb dX1_init_144 rfl (lv_at hl 1 rfl) ?_
  refine va_get (D := D) (ci := 1) (v := .ref q_83) (C := RX1) (T := TX1) (N := 16) hx hb hts hinX1 hown hK hP 0 rfl rfl 5 (by decide) fl27 (fun _ h9 => h9) rfl dX1_init_145 ?_
  refine lv_iload_n hx hb dX1_init_148 rfl (lv_at hl 0 rfl) ?_
  refine lv_bipush (v := 20) hx hb dX1_init_149 (by decide) ?_
  refine k_iast (k := 1) (ws' := [(o, .inr (1, [.ref q_7, .ref q_15, .ref q_23, .ref q_31, .ref q_75, .ref q_83, .ref q_91, .ref q_99, .ref q_107, .ref q_115, .ref q_123, .null, .int 0, .int 0, .int 0, .int 0])), (q_7, .inl (cI, 6, .inl (upd (upd (upd (upd (upd (upd (fun _ => 0) 0 40) 1 40) 2 40) 3 40) 4 40) 5 40))), (q_15, .inl (cI, 6, .inl (upd (upd (upd (upd (upd (upd (fun _ => 0) 0 3) 1 3) 2 3) 3 3) 4 3) 5 3))), (q_23, .inl (cI, 6, .inl (upd (upd (upd (upd (upd (upd (fun _ => 0) 0 0) 1 1) 2 2) 3 3) 4 4) 5 5))), (q_31, .inl (cI, 6, .inl (fun _ => 0))), (q_75, .inl (cI, 6, .inl (upd (upd (fun _ => 0) 0 60) 1 60))), (q_83, .inl (cI, 6, .inl (upd (upd (fun _ => 0) 0 20) 1 20))), (q_91, .inl (cI, 6, .inl (fun _ => 0))), (q_99, .inl (cI, 6, .inl (upd (fun _ => 0) 0 (-1)))), (q_107, .inl (cI, 6, .inl (fun _ => 0))), (q_115, .inl (cI, 6, .inl (fun _ => 0))), (q_123, .inl (cI, 6, .inl (fun _ => 0)))]) hx hb hK hP hD hS 6 0 rfl rfl (vp_in_nI (n := 1) (by omega) (by omega)) (nI_clamp (n := 1) (by omega)) rfl dX1_init_151 (fun H locs hP hD hS => ?_)
  refine lv_aload_n hx hb dX1_init_152 rfl (lv_at hl 1 rfl) ?_
  refine va_get (D := D) (ci := 1) (v := .ref q_99) (C := RX1) (T := TX1) (N := 16) hx hb hts hinX1 hown hK hP 0 rfl rfl 7 (by decide) fl33 (fun _ h9 => h9) rfl dX1_init_153 ?_
  refine lv_iload_n hx hb dX1_init_156 rfl (lv_at hl 0 rfl) ?_
  refine lv_iconst (v := (-1)) hx hb dX1_init_157 (by decide) ?_
  refine k_iast (k := 1) (ws' := [(o, .inr (1, [.ref q_7, .ref q_15, .ref q_23, .ref q_31, .ref q_75, .ref q_83, .ref q_91, .ref q_99, .ref q_107, .ref q_115, .ref q_123, .null, .int 0, .int 0, .int 0, .int 0])), (q_7, .inl (cI, 6, .inl (upd (upd (upd (upd (upd (upd (fun _ => 0) 0 40) 1 40) 2 40) 3 40) 4 40) 5 40))), (q_15, .inl (cI, 6, .inl (upd (upd (upd (upd (upd (upd (fun _ => 0) 0 3) 1 3) 2 3) 3 3) 4 3) 5 3))), (q_23, .inl (cI, 6, .inl (upd (upd (upd (upd (upd (upd (fun _ => 0) 0 0) 1 1) 2 2) 3 3) 4 4) 5 5))), (q_31, .inl (cI, 6, .inl (fun _ => 0))), (q_75, .inl (cI, 6, .inl (upd (upd (fun _ => 0) 0 60) 1 60))), (q_83, .inl (cI, 6, .inl (upd (upd (fun _ => 0) 0 20) 1 20))), (q_91, .inl (cI, 6, .inl (fun _ => 0))), (q_99, .inl (cI, 6, .inl (upd (upd (fun _ => 0) 0 (-1)) 1 (-1)))), (q_107, .inl (cI, 6, .inl (fun _ => 0))), (q_115, .inl (cI, 6, .inl (fun _ => 0))), (q_123, .inl (cI, 6, .inl (fun _ => 0)))]) hx hb hK hP hD hS 8 0 rfl rfl (vp_in_nI (n := 1) (by omega) (by omega)) (nI_clamp (n := 1) (by omega)) rfl dX1_init_158 (fun H locs hP hD hS => ?_)
  refine lv_iinc (v := 2) (lv' := [(1, .int 2), (0, .ref o)]) hx hb dX1_init_159 hl (k := 0) rfl (by decide) (by decide) rfl (fun ls hl => ?_)
  refine lv_goto (tgt := 130) hx hb dX1_init_162 (by decide) ?_
  refine lv_iload_n hx hb dX1_init_130 rfl (lv_at hl 0 rfl) ?_
  refine lv_bipush (v := 6) hx hb dX1_init_131 (by decide) ?_
  refine lv_icmp_ge (tgt := 165) hx hb dX1_init_133 (by decide) (fun h9 => absurd h9 (by decide)) (fun _ => ?_)
  refine lv_aload_n hx hb dX1_init_136 rfl (lv_at hl 1 rfl) ?_
  refine va_get (D := D) (ci := 1) (v := .ref q_75) (C := RX1) (T := TX1) (N := 16) hx hb hts hinX1 hown hK hP 0 rfl rfl 4 (by decide) fl24 (fun _ h9 => h9) rfl dX1_init_137 ?_
  refine lv_iload_n hx hb dX1_init_140 rfl (lv_at hl 0 rfl) ?_
  refine lv_bipush (v := 60) hx hb dX1_init_141 (by decide) ?_
  refine k_iast (k := 2) (ws' := [(o, .inr (1, [.ref q_7, .ref q_15, .ref q_23, .ref q_31, .ref q_75, .ref q_83, .ref q_91, .ref q_99, .ref q_107, .ref q_115, .ref q_123, .null, .int 0, .int 0, .int 0, .int 0])), (q_7, .inl (cI, 6, .inl (upd (upd (upd (upd (upd (upd (fun _ => 0) 0 40) 1 40) 2 40) 3 40) 4 40) 5 40))), (q_15, .inl (cI, 6, .inl (upd (upd (upd (upd (upd (upd (fun _ => 0) 0 3) 1 3) 2 3) 3 3) 4 3) 5 3))), (q_23, .inl (cI, 6, .inl (upd (upd (upd (upd (upd (upd (fun _ => 0) 0 0) 1 1) 2 2) 3 3) 4 4) 5 5))), (q_31, .inl (cI, 6, .inl (fun _ => 0))), (q_75, .inl (cI, 6, .inl (upd (upd (upd (fun _ => 0) 0 60) 1 60) 2 60))), (q_83, .inl (cI, 6, .inl (upd (upd (fun _ => 0) 0 20) 1 20))), (q_91, .inl (cI, 6, .inl (fun _ => 0))), (q_99, .inl (cI, 6, .inl (upd (upd (fun _ => 0) 0 (-1)) 1 (-1)))), (q_107, .inl (cI, 6, .inl (fun _ => 0))), (q_115, .inl (cI, 6, .inl (fun _ => 0))), (q_123, .inl (cI, 6, .inl (fun _ => 0)))]) hx hb hK hP hD hS 5 0 rfl rfl (vp_in_nI (n := 2) (by omega) (by omega)) (nI_clamp (n := 2) (by omega)) rfl dX1_init_143 (fun H locs hP hD hS => ?_)
  refine lv_aload_n hx hb dX1_init_144 rfl (lv_at hl 1 rfl) ?_
  refine va_get (D := D) (ci := 1) (v := .ref q_83) (C := RX1) (T := TX1) (N := 16) hx hb hts hinX1 hown hK hP 0 rfl rfl 5 (by decide) fl27 (fun _ h9 => h9) rfl dX1_init_145 ?_
  refine lv_iload_n hx hb dX1_init_148 rfl (lv_at hl 0 rfl) ?_
  refine lv_bipush (v := 20) hx hb dX1_init_149 (by decide) ?_
  refine k_iast (k := 2) (ws' := [(o, .inr (1, [.ref q_7, .ref q_15, .ref q_23, .ref q_31, .ref q_75, .ref q_83, .ref q_91, .ref q_99, .ref q_107, .ref q_115, .ref q_123, .null, .int 0, .int 0, .int 0, .int 0])), (q_7, .inl (cI, 6, .inl (upd (upd (upd (upd (upd (upd (fun _ => 0) 0 40) 1 40) 2 40) 3 40) 4 40) 5 40))), (q_15, .inl (cI, 6, .inl (upd (upd (upd (upd (upd (upd (fun _ => 0) 0 3) 1 3) 2 3) 3 3) 4 3) 5 3))), (q_23, .inl (cI, 6, .inl (upd (upd (upd (upd (upd (upd (fun _ => 0) 0 0) 1 1) 2 2) 3 3) 4 4) 5 5))), (q_31, .inl (cI, 6, .inl (fun _ => 0))), (q_75, .inl (cI, 6, .inl (upd (upd (upd (fun _ => 0) 0 60) 1 60) 2 60))), (q_83, .inl (cI, 6, .inl (upd (upd (upd (fun _ => 0) 0 20) 1 20) 2 20))), (q_91, .inl (cI, 6, .inl (fun _ => 0))), (q_99, .inl (cI, 6, .inl (upd (upd (fun _ => 0) 0 (-1)) 1 (-1)))), (q_107, .inl (cI, 6, .inl (fun _ => 0))), (q_115, .inl (cI, 6, .inl (fun _ => 0))), (q_123, .inl (cI, 6, .inl (fun _ => 0)))]) hx hb hK hP hD hS 6 0 rfl rfl (vp_in_nI (n := 2) (by omega) (by omega)) (nI_clamp (n := 2) (by omega)) rfl dX1_init_151 (fun H locs hP hD hS => ?_)
  refine lv_aload_n hx hb dX1_init_152 rfl (lv_at hl 1 rfl) ?_
  refine va_get (D := D) (ci := 1) (v := .ref q_99) (C := RX1) (T := TX1) (N := 16) hx hb hts hinX1 hown hK hP 0 rfl rfl 7 (by decide) fl33 (fun _ h9 => h9) rfl dX1_init_153 ?_
  refine lv_iload_n hx hb dX1_init_156 rfl (lv_at hl 0 rfl) ?_
  refine lv_iconst (v := (-1)) hx hb dX1_init_157 (by decide) ?_
  refine k_iast (k := 2) (ws' := [(o, .inr (1, [.ref q_7, .ref q_15, .ref q_23, .ref q_31, .ref q_75, .ref q_83, .ref q_91, .ref q_99, .ref q_107, .ref q_115, .ref q_123, .null, .int 0, .int 0, .int 0, .int 0])), (q_7, .inl (cI, 6, .inl (upd (upd (upd (upd (upd (upd (fun _ => 0) 0 40) 1 40) 2 40) 3 40) 4 40) 5 40))), (q_15, .inl (cI, 6, .inl (upd (upd (upd (upd (upd (upd (fun _ => 0) 0 3) 1 3) 2 3) 3 3) 4 3) 5 3))), (q_23, .inl (cI, 6, .inl (upd (upd (upd (upd (upd (upd (fun _ => 0) 0 0) 1 1) 2 2) 3 3) 4 4) 5 5))), (q_31, .inl (cI, 6, .inl (fun _ => 0))), (q_75, .inl (cI, 6, .inl (upd (upd (upd (fun _ => 0) 0 60) 1 60) 2 60))), (q_83, .inl (cI, 6, .inl (upd (upd (upd (fun _ => 0) 0 20) 1 20) 2 20))), (q_91, .inl (cI, 6, .inl (fun _ => 0))), (q_99, .inl (cI, 6, .inl (upd (upd (upd (fun _ => 0) 0 (-1)) 1 (-1)) 2 (-1)))), (q_107, .inl (cI, 6, .inl (fun _ => 0))), (q_115, .inl (cI, 6, .inl (fun _ => 0))), (q_123, .inl (cI, 6, .inl (fun _ => 0)))]) hx hb hK hP hD hS 8 0 rfl rfl (vp_in_nI (n := 2) (by omega) (by omega)) (nI_clamp (n := 2) (by omega)) rfl dX1_init_158 (fun H locs hP hD hS => ?_)
  refine lv_iinc (v := 3) (lv' := [(1, .int 3), (0, .ref o)]) hx hb dX1_init_159 hl (k := 0) rfl (by decide) (by decide) rfl (fun ls hl => ?_)
  refine lv_goto (tgt := 130) hx hb dX1_init_162 (by decide) ?_
  refine lv_iload_n hx hb dX1_init_130 rfl (lv_at hl 0 rfl) ?_
  refine lv_bipush (v := 6) hx hb dX1_init_131 (by decide) ?_
  refine lv_icmp_ge (tgt := 165) hx hb dX1_init_133 (by decide) (fun h9 => absurd h9 (by decide)) (fun _ => ?_)
  refine lv_aload_n hx hb dX1_init_136 rfl (lv_at hl 1 rfl) ?_
  refine va_get (D := D) (ci := 1) (v := .ref q_75) (C := RX1) (T := TX1) (N := 16) hx hb hts hinX1 hown hK hP 0 rfl rfl 4 (by decide) fl24 (fun _ h9 => h9) rfl dX1_init_137 ?_
  refine lv_iload_n hx hb dX1_init_140 rfl (lv_at hl 0 rfl) ?_
  refine lv_bipush (v := 60) hx hb dX1_init_141 (by decide) ?_
  refine k_iast (k := 3) (ws' := [(o, .inr (1, [.ref q_7, .ref q_15, .ref q_23, .ref q_31, .ref q_75, .ref q_83, .ref q_91, .ref q_99, .ref q_107, .ref q_115, .ref q_123, .null, .int 0, .int 0, .int 0, .int 0])), (q_7, .inl (cI, 6, .inl (upd (upd (upd (upd (upd (upd (fun _ => 0) 0 40) 1 40) 2 40) 3 40) 4 40) 5 40))), (q_15, .inl (cI, 6, .inl (upd (upd (upd (upd (upd (upd (fun _ => 0) 0 3) 1 3) 2 3) 3 3) 4 3) 5 3))), (q_23, .inl (cI, 6, .inl (upd (upd (upd (upd (upd (upd (fun _ => 0) 0 0) 1 1) 2 2) 3 3) 4 4) 5 5))), (q_31, .inl (cI, 6, .inl (fun _ => 0))), (q_75, .inl (cI, 6, .inl (upd (upd (upd (upd (fun _ => 0) 0 60) 1 60) 2 60) 3 60))), (q_83, .inl (cI, 6, .inl (upd (upd (upd (fun _ => 0) 0 20) 1 20) 2 20))), (q_91, .inl (cI, 6, .inl (fun _ => 0))), (q_99, .inl (cI, 6, .inl (upd (upd (upd (fun _ => 0) 0 (-1)) 1 (-1)) 2 (-1)))), (q_107, .inl (cI, 6, .inl (fun _ => 0))), (q_115, .inl (cI, 6, .inl (fun _ => 0))), (q_123, .inl (cI, 6, .inl (fun _ => 0)))]) hx hb hK hP hD hS 5 0 rfl rfl (vp_in_nI (n := 3) (by omega) (by omega)) (nI_clamp (n := 3) (by omega)) rfl dX1_init_143 (fun H locs hP hD hS => ?_)
  refine lv_aload_n hx hb dX1_init_144 rfl (lv_at hl 1 rfl) ?_
  refine va_get (D := D) (ci := 1) (v := .ref q_83) (C := RX1) (T := TX1) (N := 16) hx hb hts hinX1 hown hK hP 0 rfl rfl 5 (by decide) fl27 (fun _ h9 => h9) rfl dX1_init_145 ?_
  refine lv_iload_n hx hb dX1_init_148 rfl (lv_at hl 0 rfl) ?_
  refine lv_bipush (v := 20) hx hb dX1_init_149 (by decide) ?_
  refine k_iast (k := 3) (ws' := [(o, .inr (1, [.ref q_7, .ref q_15, .ref q_23, .ref q_31, .ref q_75, .ref q_83, .ref q_91, .ref q_99, .ref q_107, .ref q_115, .ref q_123, .null, .int 0, .int 0, .int 0, .int 0])), (q_7, .inl (cI, 6, .inl (upd (upd (upd (upd (upd (upd (fun _ => 0) 0 40) 1 40) 2 40) 3 40) 4 40) 5 40))), (q_15, .inl (cI, 6, .inl (upd (upd (upd (upd (upd (upd (fun _ => 0) 0 3) 1 3) 2 3) 3 3) 4 3) 5 3))), (q_23, .inl (cI, 6, .inl (upd (upd (upd (upd (upd (upd (fun _ => 0) 0 0) 1 1) 2 2) 3 3) 4 4) 5 5))), (q_31, .inl (cI, 6, .inl (fun _ => 0))), (q_75, .inl (cI, 6, .inl (upd (upd (upd (upd (fun _ => 0) 0 60) 1 60) 2 60) 3 60))), (q_83, .inl (cI, 6, .inl (upd (upd (upd (upd (fun _ => 0) 0 20) 1 20) 2 20) 3 20))), (q_91, .inl (cI, 6, .inl (fun _ => 0))), (q_99, .inl (cI, 6, .inl (upd (upd (upd (fun _ => 0) 0 (-1)) 1 (-1)) 2 (-1)))), (q_107, .inl (cI, 6, .inl (fun _ => 0))), (q_115, .inl (cI, 6, .inl (fun _ => 0))), (q_123, .inl (cI, 6, .inl (fun _ => 0)))]) hx hb hK hP hD hS 6 0 rfl rfl (vp_in_nI (n := 3) (by omega) (by omega)) (nI_clamp (n := 3) (by omega)) rfl dX1_init_151 (fun H locs hP hD hS => ?_)
  refine lv_aload_n hx hb dX1_init_152 rfl (lv_at hl 1 rfl) ?_
  refine va_get (D := D) (ci := 1) (v := .ref q_99) (C := RX1) (T := TX1) (N := 16) hx hb hts hinX1 hown hK hP 0 rfl rfl 7 (by decide) fl33 (fun _ h9 => h9) rfl dX1_init_153 ?_
  refine lv_iload_n hx hb dX1_init_156 rfl (lv_at hl 0 rfl) ?_
  refine lv_iconst (v := (-1)) hx hb dX1_init_157 (by decide) ?_
  refine k_iast (k := 3) (ws' := [(o, .inr (1, [.ref q_7, .ref q_15, .ref q_23, .ref q_31, .ref q_75, .ref q_83, .ref q_91, .ref q_99, .ref q_107, .ref q_115, .ref q_123, .null, .int 0, .int 0, .int 0, .int 0])), (q_7, .inl (cI, 6, .inl (upd (upd (upd (upd (upd (upd (fun _ => 0) 0 40) 1 40) 2 40) 3 40) 4 40) 5 40))), (q_15, .inl (cI, 6, .inl (upd (upd (upd (upd (upd (upd (fun _ => 0) 0 3) 1 3) 2 3) 3 3) 4 3) 5 3))), (q_23, .inl (cI, 6, .inl (upd (upd (upd (upd (upd (upd (fun _ => 0) 0 0) 1 1) 2 2) 3 3) 4 4) 5 5))), (q_31, .inl (cI, 6, .inl (fun _ => 0))), (q_75, .inl (cI, 6, .inl (upd (upd (upd (upd (fun _ => 0) 0 60) 1 60) 2 60) 3 60))), (q_83, .inl (cI, 6, .inl (upd (upd (upd (upd (fun _ => 0) 0 20) 1 20) 2 20) 3 20))), (q_91, .inl (cI, 6, .inl (fun _ => 0))), (q_99, .inl (cI, 6, .inl (upd (upd (upd (upd (fun _ => 0) 0 (-1)) 1 (-1)) 2 (-1)) 3 (-1)))), (q_107, .inl (cI, 6, .inl (fun _ => 0))), (q_115, .inl (cI, 6, .inl (fun _ => 0))), (q_123, .inl (cI, 6, .inl (fun _ => 0)))]) hx hb hK hP hD hS 8 0 rfl rfl (vp_in_nI (n := 3) (by omega) (by omega)) (nI_clamp (n := 3) (by omega)) rfl dX1_init_158 (fun H locs hP hD hS => ?_)
  refine lv_iinc (v := 4) (lv' := [(1, .int 4), (0, .ref o)]) hx hb dX1_init_159 hl (k := 0) rfl (by decide) (by decide) rfl (fun ls hl => ?_)
  refine lv_goto (tgt := 130) hx hb dX1_init_162 (by decide) ?_
  refine lv_iload_n hx hb dX1_init_130 rfl (lv_at hl 0 rfl) ?_
  refine lv_bipush (v := 6) hx hb dX1_init_131 (by decide) ?_
  refine lv_icmp_ge (tgt := 165) hx hb dX1_init_133 (by decide) (fun h9 => absurd h9 (by decide)) (fun _ => ?_)
  refine lv_aload_n hx hb dX1_init_136 rfl (lv_at hl 1 rfl) ?_
  refine va_get (D := D) (ci := 1) (v := .ref q_75) (C := RX1) (T := TX1) (N := 16) hx hb hts hinX1 hown hK hP 0 rfl rfl 4 (by decide) fl24 (fun _ h9 => h9) rfl dX1_init_137 ?_
  refine lv_iload_n hx hb dX1_init_140 rfl (lv_at hl 0 rfl) ?_
  refine lv_bipush (v := 60) hx hb dX1_init_141 (by decide) ?_
  refine k_iast (k := 4) (ws' := [(o, .inr (1, [.ref q_7, .ref q_15, .ref q_23, .ref q_31, .ref q_75, .ref q_83, .ref q_91, .ref q_99, .ref q_107, .ref q_115, .ref q_123, .null, .int 0, .int 0, .int 0, .int 0])), (q_7, .inl (cI, 6, .inl (upd (upd (upd (upd (upd (upd (fun _ => 0) 0 40) 1 40) 2 40) 3 40) 4 40) 5 40))), (q_15, .inl (cI, 6, .inl (upd (upd (upd (upd (upd (upd (fun _ => 0) 0 3) 1 3) 2 3) 3 3) 4 3) 5 3))), (q_23, .inl (cI, 6, .inl (upd (upd (upd (upd (upd (upd (fun _ => 0) 0 0) 1 1) 2 2) 3 3) 4 4) 5 5))), (q_31, .inl (cI, 6, .inl (fun _ => 0))), (q_75, .inl (cI, 6, .inl (upd (upd (upd (upd (upd (fun _ => 0) 0 60) 1 60) 2 60) 3 60) 4 60))), (q_83, .inl (cI, 6, .inl (upd (upd (upd (upd (fun _ => 0) 0 20) 1 20) 2 20) 3 20))), (q_91, .inl (cI, 6, .inl (fun _ => 0))), (q_99, .inl (cI, 6, .inl (upd (upd (upd (upd (fun _ => 0) 0 (-1)) 1 (-1)) 2 (-1)) 3 (-1)))), (q_107, .inl (cI, 6, .inl (fun _ => 0))), (q_115, .inl (cI, 6, .inl (fun _ => 0))), (q_123, .inl (cI, 6, .inl (fun _ => 0)))]) hx hb hK hP hD hS 5 0 rfl rfl (vp_in_nI (n := 4) (by omega) (by omega)) (nI_clamp (n := 4) (by omega)) rfl dX1_init_143 (fun H locs hP hD hS => ?_)
  refine lv_aload_n hx hb dX1_init_144 rfl (lv_at hl 1 rfl) ?_
  refine va_get (D := D) (ci := 1) (v := .ref q_83) (C := RX1) (T := TX1) (N := 16) hx hb hts hinX1 hown hK hP 0 rfl rfl 5 (by decide) fl27 (fun _ h9 => h9) rfl dX1_init_145 ?_
  refine lv_iload_n hx hb dX1_init_148 rfl (lv_at hl 0 rfl) ?_
  refine lv_bipush (v := 20) hx hb dX1_init_149 (by decide) ?_
  refine k_iast (k := 4) (ws' := [(o, .inr (1, [.ref q_7, .ref q_15, .ref q_23, .ref q_31, .ref q_75, .ref q_83, .ref q_91, .ref q_99, .ref q_107, .ref q_115, .ref q_123, .null, .int 0, .int 0, .int 0, .int 0])), (q_7, .inl (cI, 6, .inl (upd (upd (upd (upd (upd (upd (fun _ => 0) 0 40) 1 40) 2 40) 3 40) 4 40) 5 40))), (q_15, .inl (cI, 6, .inl (upd (upd (upd (upd (upd (upd (fun _ => 0) 0 3) 1 3) 2 3) 3 3) 4 3) 5 3))), (q_23, .inl (cI, 6, .inl (upd (upd (upd (upd (upd (upd (fun _ => 0) 0 0) 1 1) 2 2) 3 3) 4 4) 5 5))), (q_31, .inl (cI, 6, .inl (fun _ => 0))), (q_75, .inl (cI, 6, .inl (upd (upd (upd (upd (upd (fun _ => 0) 0 60) 1 60) 2 60) 3 60) 4 60))), (q_83, .inl (cI, 6, .inl (upd (upd (upd (upd (upd (fun _ => 0) 0 20) 1 20) 2 20) 3 20) 4 20))), (q_91, .inl (cI, 6, .inl (fun _ => 0))), (q_99, .inl (cI, 6, .inl (upd (upd (upd (upd (fun _ => 0) 0 (-1)) 1 (-1)) 2 (-1)) 3 (-1)))), (q_107, .inl (cI, 6, .inl (fun _ => 0))), (q_115, .inl (cI, 6, .inl (fun _ => 0))), (q_123, .inl (cI, 6, .inl (fun _ => 0)))]) hx hb hK hP hD hS 6 0 rfl rfl (vp_in_nI (n := 4) (by omega) (by omega)) (nI_clamp (n := 4) (by omega)) rfl dX1_init_151 (fun H locs hP hD hS => ?_)
  refine lv_aload_n hx hb dX1_init_152 rfl (lv_at hl 1 rfl) ?_
  refine va_get (D := D) (ci := 1) (v := .ref q_99) (C := RX1) (T := TX1) (N := 16) hx hb hts hinX1 hown hK hP 0 rfl rfl 7 (by decide) fl33 (fun _ h9 => h9) rfl dX1_init_153 ?_
  refine lv_iload_n hx hb dX1_init_156 rfl (lv_at hl 0 rfl) ?_
  refine lv_iconst (v := (-1)) hx hb dX1_init_157 (by decide) ?_
  refine k_iast (k := 4) (ws' := [(o, .inr (1, [.ref q_7, .ref q_15, .ref q_23, .ref q_31, .ref q_75, .ref q_83, .ref q_91, .ref q_99, .ref q_107, .ref q_115, .ref q_123, .null, .int 0, .int 0, .int 0, .int 0])), (q_7, .inl (cI, 6, .inl (upd (upd (upd (upd (upd (upd (fun _ => 0) 0 40) 1 40) 2 40) 3 40) 4 40) 5 40))), (q_15, .inl (cI, 6, .inl (upd (upd (upd (upd (upd (upd (fun _ => 0) 0 3) 1 3) 2 3) 3 3) 4 3) 5 3))), (q_23, .inl (cI, 6, .inl (upd (upd (upd (upd (upd (upd (fun _ => 0) 0 0) 1 1) 2 2) 3 3) 4 4) 5 5))), (q_31, .inl (cI, 6, .inl (fun _ => 0))), (q_75, .inl (cI, 6, .inl (upd (upd (upd (upd (upd (fun _ => 0) 0 60) 1 60) 2 60) 3 60) 4 60))), (q_83, .inl (cI, 6, .inl (upd (upd (upd (upd (upd (fun _ => 0) 0 20) 1 20) 2 20) 3 20) 4 20))), (q_91, .inl (cI, 6, .inl (fun _ => 0))), (q_99, .inl (cI, 6, .inl (upd (upd (upd (upd (upd (fun _ => 0) 0 (-1)) 1 (-1)) 2 (-1)) 3 (-1)) 4 (-1)))), (q_107, .inl (cI, 6, .inl (fun _ => 0))), (q_115, .inl (cI, 6, .inl (fun _ => 0))), (q_123, .inl (cI, 6, .inl (fun _ => 0)))]) hx hb hK hP hD hS 8 0 rfl rfl (vp_in_nI (n := 4) (by omega) (by omega)) (nI_clamp (n := 4) (by omega)) rfl dX1_init_158 (fun H locs hP hD hS => ?_)
  refine lv_iinc (v := 5) (lv' := [(1, .int 5), (0, .ref o)]) hx hb dX1_init_159 hl (k := 0) rfl (by decide) (by decide) rfl (fun ls hl => ?_)
  refine lv_goto (tgt := 130) hx hb dX1_init_162 (by decide) ?_
  refine lv_iload_n hx hb dX1_init_130 rfl (lv_at hl 0 rfl) ?_
  refine lv_bipush (v := 6) hx hb dX1_init_131 (by decide) ?_
  refine lv_icmp_ge (tgt := 165) hx hb dX1_init_133 (by decide) (fun h9 => absurd h9 (by decide)) (fun _ => ?_)
  refine lv_aload_n hx hb dX1_init_136 rfl (lv_at hl 1 rfl) ?_
  refine va_get (D := D) (ci := 1) (v := .ref q_75) (C := RX1) (T := TX1) (N := 16) hx hb hts hinX1 hown hK hP 0 rfl rfl 4 (by decide) fl24 (fun _ h9 => h9) rfl dX1_init_137 ?_
  refine lv_iload_n hx hb dX1_init_140 rfl (lv_at hl 0 rfl) ?_
  refine lv_bipush (v := 60) hx hb dX1_init_141 (by decide) ?_
  refine k_iast (k := 5) (ws' := [(o, .inr (1, [.ref q_7, .ref q_15, .ref q_23, .ref q_31, .ref q_75, .ref q_83, .ref q_91, .ref q_99, .ref q_107, .ref q_115, .ref q_123, .null, .int 0, .int 0, .int 0, .int 0])), (q_7, .inl (cI, 6, .inl (upd (upd (upd (upd (upd (upd (fun _ => 0) 0 40) 1 40) 2 40) 3 40) 4 40) 5 40))), (q_15, .inl (cI, 6, .inl (upd (upd (upd (upd (upd (upd (fun _ => 0) 0 3) 1 3) 2 3) 3 3) 4 3) 5 3))), (q_23, .inl (cI, 6, .inl (upd (upd (upd (upd (upd (upd (fun _ => 0) 0 0) 1 1) 2 2) 3 3) 4 4) 5 5))), (q_31, .inl (cI, 6, .inl (fun _ => 0))), (q_75, .inl (cI, 6, .inl (upd (upd (upd (upd (upd (upd (fun _ => 0) 0 60) 1 60) 2 60) 3 60) 4 60) 5 60))), (q_83, .inl (cI, 6, .inl (upd (upd (upd (upd (upd (fun _ => 0) 0 20) 1 20) 2 20) 3 20) 4 20))), (q_91, .inl (cI, 6, .inl (fun _ => 0))), (q_99, .inl (cI, 6, .inl (upd (upd (upd (upd (upd (fun _ => 0) 0 (-1)) 1 (-1)) 2 (-1)) 3 (-1)) 4 (-1)))), (q_107, .inl (cI, 6, .inl (fun _ => 0))), (q_115, .inl (cI, 6, .inl (fun _ => 0))), (q_123, .inl (cI, 6, .inl (fun _ => 0)))]) hx hb hK hP hD hS 5 0 rfl rfl (vp_in_nI (n := 5) (by omega) (by omega)) (nI_clamp (n := 5) (by omega)) rfl dX1_init_143 (fun H locs hP hD hS => ?_)
  refine lv_aload_n hx hb dX1_init_144 rfl (lv_at hl 1 rfl) ?_
  refine va_get (D := D) (ci := 1) (v := .ref q_83) (C := RX1) (T := TX1) (N := 16) hx hb hts hinX1 hown hK hP 0 rfl rfl 5 (by decide) fl27 (fun _ h9 => h9) rfl dX1_init_145 ?_
  refine lv_iload_n hx hb dX1_init_148 rfl (lv_at hl 0 rfl) ?_
  refine lv_bipush (v := 20) hx hb dX1_init_149 (by decide) ?_
  refine k_iast (k := 5) (ws' := [(o, .inr (1, [.ref q_7, .ref q_15, .ref q_23, .ref q_31, .ref q_75, .ref q_83, .ref q_91, .ref q_99, .ref q_107, .ref q_115, .ref q_123, .null, .int 0, .int 0, .int 0, .int 0])), (q_7, .inl (cI, 6, .inl (upd (upd (upd (upd (upd (upd (fun _ => 0) 0 40) 1 40) 2 40) 3 40) 4 40) 5 40))), (q_15, .inl (cI, 6, .inl (upd (upd (upd (upd (upd (upd (fun _ => 0) 0 3) 1 3) 2 3) 3 3) 4 3) 5 3))), (q_23, .inl (cI, 6, .inl (upd (upd (upd (upd (upd (upd (fun _ => 0) 0 0) 1 1) 2 2) 3 3) 4 4) 5 5))), (q_31, .inl (cI, 6, .inl (fun _ => 0))), (q_75, .inl (cI, 6, .inl (upd (upd (upd (upd (upd (upd (fun _ => 0) 0 60) 1 60) 2 60) 3 60) 4 60) 5 60))), (q_83, .inl (cI, 6, .inl (upd (upd (upd (upd (upd (upd (fun _ => 0) 0 20) 1 20) 2 20) 3 20) 4 20) 5 20))), (q_91, .inl (cI, 6, .inl (fun _ => 0))), (q_99, .inl (cI, 6, .inl (upd (upd (upd (upd (upd (fun _ => 0) 0 (-1)) 1 (-1)) 2 (-1)) 3 (-1)) 4 (-1)))), (q_107, .inl (cI, 6, .inl (fun _ => 0))), (q_115, .inl (cI, 6, .inl (fun _ => 0))), (q_123, .inl (cI, 6, .inl (fun _ => 0)))]) hx hb hK hP hD hS 6 0 rfl rfl (vp_in_nI (n := 5) (by omega) (by omega)) (nI_clamp (n := 5) (by omega)) rfl dX1_init_151 (fun H locs hP hD hS => ?_)
  refine lv_aload_n hx hb dX1_init_152 rfl (lv_at hl 1 rfl) ?_
  refine va_get (D := D) (ci := 1) (v := .ref q_99) (C := RX1) (T := TX1) (N := 16) hx hb hts hinX1 hown hK hP 0 rfl rfl 7 (by decide) fl33 (fun _ h9 => h9) rfl dX1_init_153 ?_
  refine lv_iload_n hx hb dX1_init_156 rfl (lv_at hl 0 rfl) ?_
  refine lv_iconst (v := (-1)) hx hb dX1_init_157 (by decide) ?_
  refine k_iast (k := 5) (ws' := [(o, .inr (1, [.ref q_7, .ref q_15, .ref q_23, .ref q_31, .ref q_75, .ref q_83, .ref q_91, .ref q_99, .ref q_107, .ref q_115, .ref q_123, .null, .int 0, .int 0, .int 0, .int 0])), (q_7, .inl (cI, 6, .inl (upd (upd (upd (upd (upd (upd (fun _ => 0) 0 40) 1 40) 2 40) 3 40) 4 40) 5 40))), (q_15, .inl (cI, 6, .inl (upd (upd (upd (upd (upd (upd (fun _ => 0) 0 3) 1 3) 2 3) 3 3) 4 3) 5 3))), (q_23, .inl (cI, 6, .inl (upd (upd (upd (upd (upd (upd (fun _ => 0) 0 0) 1 1) 2 2) 3 3) 4 4) 5 5))), (q_31, .inl (cI, 6, .inl (fun _ => 0))), (q_75, .inl (cI, 6, .inl (upd (upd (upd (upd (upd (upd (fun _ => 0) 0 60) 1 60) 2 60) 3 60) 4 60) 5 60))), (q_83, .inl (cI, 6, .inl (upd (upd (upd (upd (upd (upd (fun _ => 0) 0 20) 1 20) 2 20) 3 20) 4 20) 5 20))), (q_91, .inl (cI, 6, .inl (fun _ => 0))), (q_99, .inl (cI, 6, .inl (upd (upd (upd (upd (upd (upd (fun _ => 0) 0 (-1)) 1 (-1)) 2 (-1)) 3 (-1)) 4 (-1)) 5 (-1)))), (q_107, .inl (cI, 6, .inl (fun _ => 0))), (q_115, .inl (cI, 6, .inl (fun _ => 0))), (q_123, .inl (cI, 6, .inl (fun _ => 0)))]) hx hb hK hP hD hS 8 0 rfl rfl (vp_in_nI (n := 5) (by omega) (by omega)) (nI_clamp (n := 5) (by omega)) rfl dX1_init_158 (fun H locs hP hD hS => ?_)
  refine lv_iinc (v := 6) (lv' := [(1, .int 6), (0, .ref o)]) hx hb dX1_init_159 hl (k := 0) rfl (by decide) (by decide) rfl (fun ls hl => ?_)
  refine lv_goto (tgt := 130) hx hb dX1_init_162 (by decide) ?_
  refine lv_iload_n hx hb dX1_init_130 rfl (lv_at hl 0 rfl) ?_
  refine lv_bipush (v := 6) hx hb dX1_init_131 (by decide) ?_
  refine lv_icmp_ge (tgt := 165) hx hb dX1_init_133 (by decide) (fun _ => ?_) (fun h9 => absurd (by decide) h9)
  refine lv_aload_n hx hb dX1_init_165 rfl (lv_at hl 1 rfl) ?_
  refine lv_iconst (v := 3) hx hb dX1_init_166 (by decide) ?_
  refine k_newa (N := 3) hx hb (hts (.arrayClass .int) (by decide +kernel)) hK hP hD hS hA 0 rfl (by decide) (by decide) (Nat.le_of_ble_eq_true rfl) (Nat.le_of_ble_eq_true rfl) (Nat.le_of_ble_eq_true rfl) dX1_init_167 (fun q_167 H hP hD hS => ?_)
  have hP : va_P D vwCl ([(o, .inr (1, [.ref q_7, .ref q_15, .ref q_23, .ref q_31, .ref q_75, .ref q_83, .ref q_91, .ref q_99, .ref q_107, .ref q_115, .ref q_123, .null, .int 0, .int 0, .int 0, .int 0])), (q_7, .inl (cI, 6, .inl (upd (upd (upd (upd (upd (upd (fun _ => 0) 0 40) 1 40) 2 40) 3 40) 4 40) 5 40))), (q_15, .inl (cI, 6, .inl (upd (upd (upd (upd (upd (upd (fun _ => 0) 0 3) 1 3) 2 3) 3 3) 4 3) 5 3))), (q_23, .inl (cI, 6, .inl (upd (upd (upd (upd (upd (upd (fun _ => 0) 0 0) 1 1) 2 2) 3 3) 4 4) 5 5))), (q_31, .inl (cI, 6, .inl (fun _ => 0))), (q_75, .inl (cI, 6, .inl (upd (upd (upd (upd (upd (upd (fun _ => 0) 0 60) 1 60) 2 60) 3 60) 4 60) 5 60))), (q_83, .inl (cI, 6, .inl (upd (upd (upd (upd (upd (upd (fun _ => 0) 0 20) 1 20) 2 20) 3 20) 4 20) 5 20))), (q_91, .inl (cI, 6, .inl (fun _ => 0))), (q_99, .inl (cI, 6, .inl (upd (upd (upd (upd (upd (upd (fun _ => 0) 0 (-1)) 1 (-1)) 2 (-1)) 3 (-1)) 4 (-1)) 5 (-1)))), (q_107, .inl (cI, 6, .inl (fun _ => 0))), (q_115, .inl (cI, 6, .inl (fun _ => 0))), (q_123, .inl (cI, 6, .inl (fun _ => 0))), (q_167, .inl (cI, 3, .inl (fun _ => 0)))]) H := hP
  have hD : va_D A ([(o, .inr (1, [.ref q_7, .ref q_15, .ref q_23, .ref q_31, .ref q_75, .ref q_83, .ref q_91, .ref q_99, .ref q_107, .ref q_115, .ref q_123, .null, .int 0, .int 0, .int 0, .int 0])), (q_7, .inl (cI, 6, .inl (upd (upd (upd (upd (upd (upd (fun _ => 0) 0 40) 1 40) 2 40) 3 40) 4 40) 5 40))), (q_15, .inl (cI, 6, .inl (upd (upd (upd (upd (upd (upd (fun _ => 0) 0 3) 1 3) 2 3) 3 3) 4 3) 5 3))), (q_23, .inl (cI, 6, .inl (upd (upd (upd (upd (upd (upd (fun _ => 0) 0 0) 1 1) 2 2) 3 3) 4 4) 5 5))), (q_31, .inl (cI, 6, .inl (fun _ => 0))), (q_75, .inl (cI, 6, .inl (upd (upd (upd (upd (upd (upd (fun _ => 0) 0 60) 1 60) 2 60) 3 60) 4 60) 5 60))), (q_83, .inl (cI, 6, .inl (upd (upd (upd (upd (upd (upd (fun _ => 0) 0 20) 1 20) 2 20) 3 20) 4 20) 5 20))), (q_91, .inl (cI, 6, .inl (fun _ => 0))), (q_99, .inl (cI, 6, .inl (upd (upd (upd (upd (upd (upd (fun _ => 0) 0 (-1)) 1 (-1)) 2 (-1)) 3 (-1)) 4 (-1)) 5 (-1)))), (q_107, .inl (cI, 6, .inl (fun _ => 0))), (q_115, .inl (cI, 6, .inl (fun _ => 0))), (q_123, .inl (cI, 6, .inl (fun _ => 0))), (q_167, .inl (cI, 3, .inl (fun _ => 0)))]) := hD
  refine k_putF (D := D) (ci := 1) (v := .ref q_167) (ty := .array .int) (C := RX1) (T := TX1) (N := 16) hx hb hts hinX1 tyX1 tyX1_ok nmX1 hown hK hP hD hS 0 rfl rfl 11 (by decide) fl45 (fun _ h9 => h9) rfl hin rfl (by decide +kernel) rfl rfl (Nat.le_of_ble_eq_true rfl) (ws' := [(o, .inr (1, [.ref q_7, .ref q_15, .ref q_23, .ref q_31, .ref q_75, .ref q_83, .ref q_91, .ref q_99, .ref q_107, .ref q_115, .ref q_123, .ref q_167, .int 0, .int 0, .int 0, .int 0])), (q_7, .inl (cI, 6, .inl (upd (upd (upd (upd (upd (upd (fun _ => 0) 0 40) 1 40) 2 40) 3 40) 4 40) 5 40))), (q_15, .inl (cI, 6, .inl (upd (upd (upd (upd (upd (upd (fun _ => 0) 0 3) 1 3) 2 3) 3 3) 4 3) 5 3))), (q_23, .inl (cI, 6, .inl (upd (upd (upd (upd (upd (upd (fun _ => 0) 0 0) 1 1) 2 2) 3 3) 4 4) 5 5))), (q_31, .inl (cI, 6, .inl (fun _ => 0))), (q_75, .inl (cI, 6, .inl (upd (upd (upd (upd (upd (upd (fun _ => 0) 0 60) 1 60) 2 60) 3 60) 4 60) 5 60))), (q_83, .inl (cI, 6, .inl (upd (upd (upd (upd (upd (upd (fun _ => 0) 0 20) 1 20) 2 20) 3 20) 4 20) 5 20))), (q_91, .inl (cI, 6, .inl (fun _ => 0))), (q_99, .inl (cI, 6, .inl (upd (upd (upd (upd (upd (upd (fun _ => 0) 0 (-1)) 1 (-1)) 2 (-1)) 3 (-1)) 4 (-1)) 5 (-1)))), (q_107, .inl (cI, 6, .inl (fun _ => 0))), (q_115, .inl (cI, 6, .inl (fun _ => 0))), (q_123, .inl (cI, 6, .inl (fun _ => 0))), (q_167, .inl (cI, 3, .inl (fun _ => 0)))]) rfl dX1_init_169 (fun H locs hP hD hS => ?_)
  refine lv_aload_n hx hb dX1_init_172 rfl (lv_at hl 1 rfl) ?_
  refine va_get (D := D) (ci := 1) (v := .ref q_167) (C := RX1) (T := TX1) (N := 16) hx hb hts hinX1 hown hK hP 0 rfl rfl 11 (by decide) fl45 (fun _ h9 => h9) rfl dX1_init_173 ?_
  refine lv_iconst (v := 0) hx hb dX1_init_176 (by decide) ?_
  refine lv_bipush (v := 100) hx hb dX1_init_177 (by decide) ?_
  refine k_iast (k := 0) (ws' := [(o, .inr (1, [.ref q_7, .ref q_15, .ref q_23, .ref q_31, .ref q_75, .ref q_83, .ref q_91, .ref q_99, .ref q_107, .ref q_115, .ref q_123, .ref q_167, .int 0, .int 0, .int 0, .int 0])), (q_7, .inl (cI, 6, .inl (upd (upd (upd (upd (upd (upd (fun _ => 0) 0 40) 1 40) 2 40) 3 40) 4 40) 5 40))), (q_15, .inl (cI, 6, .inl (upd (upd (upd (upd (upd (upd (fun _ => 0) 0 3) 1 3) 2 3) 3 3) 4 3) 5 3))), (q_23, .inl (cI, 6, .inl (upd (upd (upd (upd (upd (upd (fun _ => 0) 0 0) 1 1) 2 2) 3 3) 4 4) 5 5))), (q_31, .inl (cI, 6, .inl (fun _ => 0))), (q_75, .inl (cI, 6, .inl (upd (upd (upd (upd (upd (upd (fun _ => 0) 0 60) 1 60) 2 60) 3 60) 4 60) 5 60))), (q_83, .inl (cI, 6, .inl (upd (upd (upd (upd (upd (upd (fun _ => 0) 0 20) 1 20) 2 20) 3 20) 4 20) 5 20))), (q_91, .inl (cI, 6, .inl (fun _ => 0))), (q_99, .inl (cI, 6, .inl (upd (upd (upd (upd (upd (upd (fun _ => 0) 0 (-1)) 1 (-1)) 2 (-1)) 3 (-1)) 4 (-1)) 5 (-1)))), (q_107, .inl (cI, 6, .inl (fun _ => 0))), (q_115, .inl (cI, 6, .inl (fun _ => 0))), (q_123, .inl (cI, 6, .inl (fun _ => 0))), (q_167, .inl (cI, 3, .inl (upd (fun _ => 0) 0 100)))]) hx hb hK hP hD hS 12 0 rfl rfl (vp_in_nI (n := 0) (by omega) (by omega)) (nI_clamp (n := 0) (by omega)) rfl dX1_init_179 (fun H locs hP hD hS => ?_)
  refine lv_aload_n hx hb dX1_init_180 rfl (lv_at hl 1 rfl) ?_
  refine va_get (D := D) (ci := 1) (v := .ref q_167) (C := RX1) (T := TX1) (N := 16) hx hb hts hinX1 hown hK hP 0 rfl rfl 11 (by decide) fl45 (fun _ h9 => h9) rfl dX1_init_181 ?_
  refine lv_iconst (v := 1) hx hb dX1_init_184 (by decide) ?_
  refine lv_iconst (v := 4) hx hb dX1_init_185 (by decide) ?_
  refine k_iast (k := 1) (ws' := [(o, .inr (1, [.ref q_7, .ref q_15, .ref q_23, .ref q_31, .ref q_75, .ref q_83, .ref q_91, .ref q_99, .ref q_107, .ref q_115, .ref q_123, .ref q_167, .int 0, .int 0, .int 0, .int 0])), (q_7, .inl (cI, 6, .inl (upd (upd (upd (upd (upd (upd (fun _ => 0) 0 40) 1 40) 2 40) 3 40) 4 40) 5 40))), (q_15, .inl (cI, 6, .inl (upd (upd (upd (upd (upd (upd (fun _ => 0) 0 3) 1 3) 2 3) 3 3) 4 3) 5 3))), (q_23, .inl (cI, 6, .inl (upd (upd (upd (upd (upd (upd (fun _ => 0) 0 0) 1 1) 2 2) 3 3) 4 4) 5 5))), (q_31, .inl (cI, 6, .inl (fun _ => 0))), (q_75, .inl (cI, 6, .inl (upd (upd (upd (upd (upd (upd (fun _ => 0) 0 60) 1 60) 2 60) 3 60) 4 60) 5 60))), (q_83, .inl (cI, 6, .inl (upd (upd (upd (upd (upd (upd (fun _ => 0) 0 20) 1 20) 2 20) 3 20) 4 20) 5 20))), (q_91, .inl (cI, 6, .inl (fun _ => 0))), (q_99, .inl (cI, 6, .inl (upd (upd (upd (upd (upd (upd (fun _ => 0) 0 (-1)) 1 (-1)) 2 (-1)) 3 (-1)) 4 (-1)) 5 (-1)))), (q_107, .inl (cI, 6, .inl (fun _ => 0))), (q_115, .inl (cI, 6, .inl (fun _ => 0))), (q_123, .inl (cI, 6, .inl (fun _ => 0))), (q_167, .inl (cI, 3, .inl (upd (upd (fun _ => 0) 0 100) 1 4)))]) hx hb hK hP hD hS 12 0 rfl rfl (vp_in_nI (n := 1) (by omega) (by omega)) (nI_clamp (n := 1) (by omega)) rfl dX1_init_186 (fun H locs hP hD hS => ?_)
  refine lv_aload_n hx hb dX1_init_187 rfl (lv_at hl 1 rfl) ?_
  refine va_get (D := D) (ci := 1) (v := .ref q_167) (C := RX1) (T := TX1) (N := 16) hx hb hts hinX1 hown hK hP 0 rfl rfl 11 (by decide) fl45 (fun _ h9 => h9) rfl dX1_init_188 ?_
  refine lv_iconst (v := 2) hx hb dX1_init_191 (by decide) ?_
  refine lv_bipush (v := 20) hx hb dX1_init_192 (by decide) ?_
  refine k_iast (k := 2) (ws' := [(o, .inr (1, [.ref q_7, .ref q_15, .ref q_23, .ref q_31, .ref q_75, .ref q_83, .ref q_91, .ref q_99, .ref q_107, .ref q_115, .ref q_123, .ref q_167, .int 0, .int 0, .int 0, .int 0])), (q_7, .inl (cI, 6, .inl (upd (upd (upd (upd (upd (upd (fun _ => 0) 0 40) 1 40) 2 40) 3 40) 4 40) 5 40))), (q_15, .inl (cI, 6, .inl (upd (upd (upd (upd (upd (upd (fun _ => 0) 0 3) 1 3) 2 3) 3 3) 4 3) 5 3))), (q_23, .inl (cI, 6, .inl (upd (upd (upd (upd (upd (upd (fun _ => 0) 0 0) 1 1) 2 2) 3 3) 4 4) 5 5))), (q_31, .inl (cI, 6, .inl (fun _ => 0))), (q_75, .inl (cI, 6, .inl (upd (upd (upd (upd (upd (upd (fun _ => 0) 0 60) 1 60) 2 60) 3 60) 4 60) 5 60))), (q_83, .inl (cI, 6, .inl (upd (upd (upd (upd (upd (upd (fun _ => 0) 0 20) 1 20) 2 20) 3 20) 4 20) 5 20))), (q_91, .inl (cI, 6, .inl (fun _ => 0))), (q_99, .inl (cI, 6, .inl (upd (upd (upd (upd (upd (upd (fun _ => 0) 0 (-1)) 1 (-1)) 2 (-1)) 3 (-1)) 4 (-1)) 5 (-1)))), (q_107, .inl (cI, 6, .inl (fun _ => 0))), (q_115, .inl (cI, 6, .inl (fun _ => 0))), (q_123, .inl (cI, 6, .inl (fun _ => 0))), (q_167, .inl (cI, 3, .inl (upd (upd (upd (fun _ => 0) 0 100) 1 4) 2 20)))]) hx hb hK hP hD hS 12 0 rfl rfl (vp_in_nI (n := 2) (by omega) (by omega)) (nI_clamp (n := 2) (by omega)) rfl dX1_init_194 (fun H locs hP hD hS => ?_)
  refine W.widen (k := 12) (n := 69) (Nat.le_of_ble_eq_true rfl) (Nat.le_of_ble_eq_true rfl) ?_
  have hP : va_P D vwCl ((fun (u : Nat → Nat) => cR cI (adF o u) rB0) (fun k => [q_7, q_15, q_23, q_31, q_75, q_83, q_91, q_99, q_107, q_115, q_123, q_167].getD k 0)) H := hP
  have hD : va_D A ((fun (u : Nat → Nat) => cR cI (adF o u) rB0) (fun k => [q_7, q_15, q_23, q_31, q_75, q_83, q_91, q_99, q_107, q_115, q_123, q_167].getD k 0)) := hD
  exact k_vretN (w' := fun (u : Nat → Nat) => cR cI (adF o u) rB0) (fun k => [q_7, q_15, q_23, q_31, q_75, q_83, q_91, q_99, q_107, q_115, q_123, q_167].getD k 0) hx hb hr hlocks hS hP hD dX1_init_195
set_option maxHeartbeats 4000000 in
set_option maxRecDepth 100000 in
theorem mX0_init (l : Launch) (D : va_G) (cI cQ cJ : ClassId) (o : Nat) (sz : Nat) : Met l yX0_init wsX0_init ({ frames := 1, cells := 1, slots := 60, locals := 40 } : Room) (va_Pc [.ref o] (Prx D (tY cI cQ cJ) sz [(o, .inr (0, [.null, .int 0]))])) (va_Qv (fun (_ : Nat) => True) (fun u t => Wd D (cT cI (adF o (fun _ => u)) tB0) t ∧ va_D (va_A [(o, .inr (0, [.null, .int 0]))] sz) (cT cI (adF o (fun _ => u)) tB0)) (va_A [(o, .inr (0, [.null, .int 0]))] sz)) 1 60 (va_A [(o, .inr (0, [.null, .int 0]))] sz) := by
  refine N_of (cc := cX0_init) (maxL := 1) (ret := none) (Qc := fun A => va_Qv (fun (_ : Nat) => True) (fun u t => Wd D (cT cI (adF o (fun _ => u)) tB0) t ∧ va_D A (cT cI (adF o (fun _ => u)) tB0)) A) (by decide) rfl (Nat.le_of_ble_eq_true rfl) ?_ sz
  intro p e s m below meth c A ls hB hnm hE hP hK hD hA hl
  obtain ⟨hx, hb, hr, hml, hts, hown, hlocks⟩ := hB
  have hin : meth.name = "<init>" := hnm
  have hS : va_S A s.heap s.heap [] := va_S.rf
  have hl : lv_has ls 1 [(0, .ref o)] := hl
  have hinX0 : ∀ w ∈ u_ws RX0 TX0 2, w ∈ wsX0_init := by decide +kernel
  have fl9 := hts (.fieldLink RX0 9 "RoofDrains$RainText" "codes" "[I") (by decide +kernel)
  refine lv_aload_n hx hb dX0_init_0 rfl (lv_at hl 0 rfl) ?_
  refine W.objInit hx hb hown (hts (.methodLink RX0 1 objectInit) (by decide +kernel)) (hts (.instanceMethod objectInit) (by decide +kernel)) (hts (.code objectInit ⟨#[0xb1]⟩ 1 none) (by decide +kernel)) rfl (by rw [hml]; exact hl.1) rfl dX0_init_1 (Nat.le_of_ble_eq_true rfl) (Nat.le_of_ble_eq_true rfl) ?_
  refine W.eq (g2 := F0 m 4 ls []) rfl ?_
  refine lv_aload_n hx hb dX0_init_4 rfl (lv_at hl 0 rfl) ?_
  refine lv_bipush (v := 60) hx hb dX0_init_5 (by decide) ?_
  refine k_newa (N := 60) hx hb (hts (.arrayClass .int) (by decide +kernel)) hK hP hD hS hA 0 rfl (by decide) (by decide) (Nat.le_of_ble_eq_true rfl) (Nat.le_of_ble_eq_true rfl) (Nat.le_of_ble_eq_true rfl) dX0_init_7 (fun q_7 H hP hD hS => ?_)
  have hP : va_P D vwCl ([(o, .inr (0, [.null, .int 0])), (q_7, .inl (cI, 60, .inl (fun _ => 0)))]) H := hP
  have hD : va_D A ([(o, .inr (0, [.null, .int 0])), (q_7, .inl (cI, 60, .inl (fun _ => 0)))]) := hD
  refine k_putF (D := D) (ci := 0) (v := .ref q_7) (ty := .array .int) (C := RX0) (T := TX0) (N := 2) hx hb hts hinX0 tyX0 tyX0_ok nmX0 hown hK hP hD hS 0 rfl rfl 0 (by decide) fl9 (fun _ h9 => h9) rfl hin rfl (by decide +kernel) rfl rfl (Nat.le_of_ble_eq_true rfl) (ws' := [(o, .inr (0, [.ref q_7, .int 0])), (q_7, .inl (cI, 60, .inl (fun _ => 0)))]) rfl dX0_init_9 (fun H locs hP hD hS => ?_)
  refine W.widen (k := 1) (n := 60) (Nat.le_of_ble_eq_true rfl) (Nat.le_of_ble_eq_true rfl) ?_
  have hP : va_P D vwCl ((fun (u : Nat) => cT cI (adF o (fun _ => u)) tB0) (q_7)) H := hP
  have hD : va_D A ((fun (u : Nat) => cT cI (adF o (fun _ => u)) tB0) (q_7)) := hD
  exact k_vretN (w' := fun (u : Nat) => cT cI (adF o (fun _ => u)) tB0) (q_7) hx hb hr hlocks hS hP hD dX0_init_12
set_option maxHeartbeats 4000000 in
set_option maxRecDepth 100000 in
theorem mX2_init (l : Launch) (D : va_G) (cI cQ cJ : ClassId) (o : Nat) (sz : Nat) : Met l yX2_init wsX2_init ({ frames := 1, cells := 1, slots := 6, locals := 40 } : Room) (va_Pc [.ref o] (Pry D (tY cI cQ cJ) sz [(o, .inr (2, [.null, .int 0, .int 0]))])) (va_Qv (fun (_ : Nat) => True) (fun u t => Wd D (cS cQ o u (fun _ => none) 0 0) t ∧ va_D (va_A [(o, .inr (2, [.null, .int 0, .int 0]))] sz) (cS cQ o u (fun _ => none) 0 0)) (va_A [(o, .inr (2, [.null, .int 0, .int 0]))] sz)) 1 6 (va_A [(o, .inr (2, [.null, .int 0, .int 0]))] sz) := by
  refine Y_of (cc := cX2_init) (maxL := 1) (ret := none) (Qc := fun A => va_Qv (fun (_ : Nat) => True) (fun u t => Wd D (cS cQ o u (fun _ => none) 0 0) t ∧ va_D A (cS cQ o u (fun _ => none) 0 0)) A) (by decide) rfl (Nat.le_of_ble_eq_true rfl) ?_ sz
  intro p e s m below meth c A ls hB hnm hE hX hP hK hD hA hl
  obtain ⟨hx, hb, hr, hml, hts, hown, hlocks⟩ := hB
  have hin : meth.name = "<init>" := hnm
  have hS : va_S A s.heap s.heap [] := va_S.rf
  have hl : lv_has ls 1 [(0, .ref o)] := hl
  have hinX2 : ∀ w ∈ u_ws RX2 TX2 3, w ∈ wsX2_init := by decide +kernel
  have fl11 := hts (.fieldLink RX2 11 "RoofDrains$SavedRoofs" "rows" "[LRoofDrains$Roof;") (by decide +kernel)
  refine lv_aload_n hx hb dX2_init_0 rfl (lv_at hl 0 rfl) ?_
  refine W.objInit hx hb hown (hts (.methodLink RX2 1 objectInit) (by decide +kernel)) (hts (.instanceMethod objectInit) (by decide +kernel)) (hts (.code objectInit ⟨#[0xb1]⟩ 1 none) (by decide +kernel)) rfl (by rw [hml]; exact hl.1) rfl dX2_init_1 (Nat.le_of_ble_eq_true rfl) (Nat.le_of_ble_eq_true rfl) ?_
  refine W.eq (g2 := F0 m 4 ls []) rfl ?_
  refine lv_aload_n hx hb dX2_init_4 rfl (lv_at hl 0 rfl) ?_
  refine lv_bipush (v := 6) hx hb dX2_init_5 (by decide) ?_
  refine k_newq (N := 6) (C := RX1) hx hb hown (hts (.classLink RX2 9 RX1) (by decide +kernel)) hX.2.2.2.2.2.2.1 hK hP hD hS hA 1 rfl (by decide) (by decide) (Nat.le_of_ble_eq_true rfl) (Nat.le_of_ble_eq_true rfl) (Nat.le_of_ble_eq_true rfl) dX2_init_7 (fun q_7 H hP hD hS => ?_)
  have hP : va_P D vwCl ([(o, .inr (2, [.null, .int 0, .int 0])), (q_7, .inl (cQ, 6, .inr (.inr (.inr (.inr (fun _ => none))))))]) H := hP
  have hD : va_D A ([(o, .inr (2, [.null, .int 0, .int 0])), (q_7, .inl (cQ, 6, .inr (.inr (.inr (.inr (fun _ => none))))))]) := hD
  refine k_putF (D := D) (ci := 2) (v := .ref q_7) (ty := .array (.object "RoofDrains$Roof")) (C := RX2) (T := TX2) (N := 3) hx hb hts hinX2 tyX2 tyX2_ok nmX2 hown hK hP hD hS 0 rfl rfl 0 (by decide) fl11 (fun _ h9 => h9) rfl hin rfl (by decide +kernel) rfl rfl (Nat.le_of_ble_eq_true rfl) (ws' := [(o, .inr (2, [.ref q_7, .int 0, .int 0])), (q_7, .inl (cQ, 6, .inr (.inr (.inr (.inr (fun _ => none))))))]) rfl dX2_init_10 (fun H locs hP hD hS => ?_)
  refine W.widen (k := 1) (n := 6) (Nat.le_of_ble_eq_true rfl) (Nat.le_of_ble_eq_true rfl) ?_
  have hP : va_P D vwCl ((fun (u : Nat) => cS cQ o u (fun _ => none) 0 0) (q_7)) H := hP
  have hD : va_D A ((fun (u : Nat) => cS cQ o u (fun _ => none) 0 0) (q_7)) := hD
  exact k_vretN (w' := fun (u : Nat) => cS cQ o u (fun _ => none) 0 0) (q_7) hx hb hr hlocks hS hP hD dX2_init_13
set_option maxHeartbeats 4000000 in
set_option maxRecDepth 100000 in
theorem mX3_init (l : Launch) (D : va_G) (cI cQ cJ : ClassId) (o : Nat) (sz : Nat) : Met l yX3_init wsX3_init ({ frames := 2, cells := 30, slots := 241, locals := 69 } : Room) (va_Pc [.ref o] (Pry D (tY cI cQ cJ) sz [(o, .inr (3, [.null, .null, .null, .null]))])) (va_Qv (fun (_ : (Nat → Nat) × (Nat → Nat) × Nat × Nat × (Nat → Nat)) => True) (fun u t => Wd D (WX cI cQ o u.2.2.1 u.2.2.2.1 u.2.2.2.2 u.1 u.2.1 (fun _ _ => 0) rB0 rB0 tB0 0 (fun _ => none) 0 0 (fun _ => tB0)) t ∧ va_D (va_A [(o, .inr (3, [.null, .null, .null, .null]))] sz) (WX cI cQ o u.2.2.1 u.2.2.2.1 u.2.2.2.2 u.1 u.2.1 (fun _ _ => 0) rB0 rB0 tB0 0 (fun _ => none) 0 0 (fun _ => tB0))) (va_A [(o, .inr (3, [.null, .null, .null, .null]))] sz)) 30 241 (va_A [(o, .inr (3, [.null, .null, .null, .null]))] sz) := by
  refine Y_of (cc := cX3_init) (maxL := 1) (ret := none) (Qc := fun A => va_Qv (fun (_ : (Nat → Nat) × (Nat → Nat) × Nat × Nat × (Nat → Nat)) => True) (fun u t => Wd D (WX cI cQ o u.2.2.1 u.2.2.2.1 u.2.2.2.2 u.1 u.2.1 (fun _ _ => 0) rB0 rB0 tB0 0 (fun _ => none) 0 0 (fun _ => tB0)) t ∧ va_D A (WX cI cQ o u.2.2.1 u.2.2.2.1 u.2.2.2.2 u.1 u.2.1 (fun _ _ => 0) rB0 rB0 tB0 0 (fun _ => none) 0 0 (fun _ => tB0))) A) (by decide) rfl (Nat.le_of_ble_eq_true rfl) ?_ sz
  intro p e s m below meth c A ls hB hnm hE hX hP hK hD hA hl
  obtain ⟨hx, hb, hr, hml, hts, hown, hlocks⟩ := hB
  have hin : meth.name = "<init>" := hnm
  have hS : va_S A s.heap s.heap [] := va_S.rf
  have hl : lv_has ls 1 [(0, .ref o)] := hl
  have hinX1 : ∀ w ∈ u_ws RX1 TX1 16, w ∈ wsX3_init := by decide +kernel
  have hinX3 : ∀ w ∈ u_ws RX3 TX3 4, w ∈ wsX3_init := by decide +kernel
  have fl10 := hts (.fieldLink RX3 10 "RoofDrains" "roof" "LRoofDrains$Roof;") (by decide +kernel)
  have fl16 := hts (.fieldLink RX3 16 "RoofDrains" "thought" "LRoofDrains$Roof;") (by decide +kernel)
  have hinX2 : ∀ w ∈ u_ws RX2 TX2 3, w ∈ wsX3_init := by decide +kernel
  have fl22 := hts (.fieldLink RX3 22 "RoofDrains" "saved" "LRoofDrains$SavedRoofs;") (by decide +kernel)
  have hinX0 : ∀ w ∈ u_ws RX0 TX0 2, w ∈ wsX3_init := by decide +kernel
  have fl29 := hts (.fieldLink RX3 29 "RoofDrains" "text" "LRoofDrains$RainText;") (by decide +kernel)
  refine lv_aload_n hx hb dX3_init_0 rfl (lv_at hl 0 rfl) ?_
  refine W.objInit hx hb hown (hts (.methodLink RX3 1 objectInit) (by decide +kernel)) (hts (.instanceMethod objectInit) (by decide +kernel)) (hts (.code objectInit ⟨#[0xb1]⟩ 1 none) (by decide +kernel)) rfl (by rw [hml]; exact hl.1) rfl dX3_init_1 (Nat.le_of_ble_eq_true rfl) (Nat.le_of_ble_eq_true rfl) ?_
  refine W.eq (g2 := F0 m 4 ls []) rfl ?_
  refine lv_aload_n hx hb dX3_init_4 rfl (lv_at hl 0 rfl) ?_
  refine va_new (D := D) (ci := 1) (fs := [.null, .null, .null, .null, .null, .null, .null, .null, .null, .null, .null, .null, .int 0, .int 0, .int 0, .int 0]) (C := RX1) (T := TX1) (N := 16) hx hb hts hinX1 tyX1 tyX1_ok hown (hts (.classLink RX3 7 RX1) (by decide +kernel)) (hts (.instantiable RX1 16) (by decide +kernel)) (hts (.initialized RX1) (by decide +kernel)) hK hP hD hS hA rfl (fun j hj => by rcases (show j = 0 ∨ j = 1 ∨ j = 2 ∨ j = 3 ∨ j = 4 ∨ j = 5 ∨ j = 6 ∨ j = 7 ∨ j = 8 ∨ j = 9 ∨ j = 10 ∨ j = 11 ∨ j = 12 ∨ j = 13 ∨ j = 14 ∨ j = 15 by omega) with rfl | rfl | rfl | rfl | rfl | rfl | rfl | rfl | rfl | rfl | rfl | rfl | rfl | rfl | rfl | rfl <;> rfl) (Nat.le_of_ble_eq_true rfl) (Nat.le_of_ble_eq_true rfl) dX3_init_5 (fun q_5 H hP hD hS => ?_)
  refine lv_dup hx hb dX3_init_8 rfl ?_
  refine k_calln (wr := [(o, .inr (3, [.null, .null, .null, .null]))]) (wc := [(q_5, .inr (1, [.null, .null, .null, .null, .null, .null, .null, .null, .null, .null, .null, .null, .int 0, .int 0, .int 0, .int 0]))]) (w' := fun u_9 => cR cI (adF q_5 u_9) rB0) (va_runI (As := []) (rest := [.ref q_5, .ref o]) ⟨hx, hb, hml, hown, hts⟩ (mX1_init l D cI cQ cJ q_5 _) (cwI 0 hts gX3_init_X1_init rfl rfl rfl (hts (.initialized RX1) (by decide +kernel)) (hts (.methodLink RX3 9 yX1_init) (by decide +kernel)) (hts (.instanceMethod yX1_init) (by decide +kernel)) rfl (by decide +kernel) ⟨Nat.le_of_ble_eq_true rfl, Nat.le_of_ble_eq_true rfl⟩) (k_preR (wr := [(o, .inr (3, [.null, .null, .null, .null]))]) (wc := [(q_5, .inr (1, [.null, .null, .null, .null, .null, .null, .null, .null, .null, .null, .null, .null, .int 0, .int 0, .int 0, .int 0]))]) hE hK hP hD [.ref q_5]) rfl rfl hl.1 rfl (lv_room (Nat.le_of_ble_eq_true rfl)) dX3_init_9 ⟨Nat.le_of_ble_eq_true rfl, Nat.le_of_ble_eq_true rfl⟩) hP hD hS hA (fun u_9 H locs hP hD hS => ?_)
  have hP : va_P D vwCl ([(o, .inr (3, [.null, .null, .null, .null]))] ++ (cR cI (adF q_5 u_9) rB0)) H := hP
  have hD : va_D A ([(o, .inr (3, [.null, .null, .null, .null]))] ++ (cR cI (adF q_5 u_9) rB0)) := hD
  refine k_putF (D := D) (ci := 3) (v := .ref q_5) (ty := .object "RoofDrains$Roof") (C := RX3) (T := TX3) (N := 4) hx hb hts hinX3 tyX3 tyX3_ok nmX3 hown hK hP hD hS 0 rfl rfl 0 (by decide) fl10 (fun _ h9 => h9) rfl hin rfl (by decide +kernel) rfl rfl (Nat.le_of_ble_eq_true rfl) (ws' := [(o, .inr (3, [.ref q_5, .null, .null, .null]))] ++ (cR cI (adF q_5 u_9) rB0)) rfl dX3_init_12 (fun H locs hP hD hS => ?_)
  refine lv_aload_n hx hb dX3_init_15 rfl (lv_at hl 0 rfl) ?_
  refine va_new (D := D) (ci := 1) (fs := [.null, .null, .null, .null, .null, .null, .null, .null, .null, .null, .null, .null, .int 0, .int 0, .int 0, .int 0]) (C := RX1) (T := TX1) (N := 16) hx hb hts hinX1 tyX1 tyX1_ok hown (hts (.classLink RX3 7 RX1) (by decide +kernel)) (hts (.instantiable RX1 16) (by decide +kernel)) (hts (.initialized RX1) (by decide +kernel)) hK hP hD hS hA rfl (fun j hj => by rcases (show j = 0 ∨ j = 1 ∨ j = 2 ∨ j = 3 ∨ j = 4 ∨ j = 5 ∨ j = 6 ∨ j = 7 ∨ j = 8 ∨ j = 9 ∨ j = 10 ∨ j = 11 ∨ j = 12 ∨ j = 13 ∨ j = 14 ∨ j = 15 by omega) with rfl | rfl | rfl | rfl | rfl | rfl | rfl | rfl | rfl | rfl | rfl | rfl | rfl | rfl | rfl | rfl <;> rfl) (Nat.le_of_ble_eq_true rfl) (Nat.le_of_ble_eq_true rfl) dX3_init_16 (fun q_16 H hP hD hS => ?_)
  refine lv_dup hx hb dX3_init_19 rfl ?_
  refine k_calln (wr := [(o, .inr (3, [.ref q_5, .null, .null, .null]))] ++ (cR cI (adF q_5 u_9) rB0)) (wc := [(q_16, .inr (1, [.null, .null, .null, .null, .null, .null, .null, .null, .null, .null, .null, .null, .int 0, .int 0, .int 0, .int 0]))]) (w' := fun u_20 => cR cI (adF q_16 u_20) rB0) (va_runI (As := []) (rest := [.ref q_16, .ref o]) ⟨hx, hb, hml, hown, hts⟩ (mX1_init l D cI cQ cJ q_16 _) (cwI 0 hts gX3_init_X1_init rfl rfl rfl (hts (.initialized RX1) (by decide +kernel)) (hts (.methodLink RX3 9 yX1_init) (by decide +kernel)) (hts (.instanceMethod yX1_init) (by decide +kernel)) rfl (by decide +kernel) ⟨Nat.le_of_ble_eq_true rfl, Nat.le_of_ble_eq_true rfl⟩) (k_preR (wr := [(o, .inr (3, [.ref q_5, .null, .null, .null]))] ++ (cR cI (adF q_5 u_9) rB0)) (wc := [(q_16, .inr (1, [.null, .null, .null, .null, .null, .null, .null, .null, .null, .null, .null, .null, .int 0, .int 0, .int 0, .int 0]))]) hE hK hP hD [.ref q_16]) rfl rfl hl.1 rfl (lv_room (Nat.le_of_ble_eq_true rfl)) dX3_init_20 ⟨Nat.le_of_ble_eq_true rfl, Nat.le_of_ble_eq_true rfl⟩) hP hD hS hA (fun u_20 H locs hP hD hS => ?_)
  have hP : va_P D vwCl ([(o, .inr (3, [.ref q_5, .null, .null, .null]))] ++ (cR cI (adF q_5 u_9) rB0) ++ (cR cI (adF q_16 u_20) rB0)) H := hP
  have hD : va_D A ([(o, .inr (3, [.ref q_5, .null, .null, .null]))] ++ (cR cI (adF q_5 u_9) rB0) ++ (cR cI (adF q_16 u_20) rB0)) := hD
  refine k_putF (D := D) (ci := 3) (v := .ref q_16) (ty := .object "RoofDrains$Roof") (C := RX3) (T := TX3) (N := 4) hx hb hts hinX3 tyX3 tyX3_ok nmX3 hown hK hP hD hS 0 rfl rfl 1 (by decide) fl16 (fun _ h9 => h9) rfl hin rfl (by decide +kernel) rfl rfl (Nat.le_of_ble_eq_true rfl) (ws' := [(o, .inr (3, [.ref q_5, .ref q_16, .null, .null]))] ++ (cR cI (adF q_5 u_9) rB0) ++ (cR cI (adF q_16 u_20) rB0)) rfl dX3_init_23 (fun H locs hP hD hS => ?_)
  refine lv_aload_n hx hb dX3_init_26 rfl (lv_at hl 0 rfl) ?_
  refine va_new (D := D) (ci := 2) (fs := [.null, .int 0, .int 0]) (C := RX2) (T := TX2) (N := 3) hx hb hts hinX2 tyX2 tyX2_ok hown (hts (.classLink RX3 19 RX2) (by decide +kernel)) (hts (.instantiable RX2 3) (by decide +kernel)) (hts (.initialized RX2) (by decide +kernel)) hK hP hD hS hA rfl (fun j hj => by rcases (show j = 0 ∨ j = 1 ∨ j = 2 by omega) with rfl | rfl | rfl <;> rfl) (Nat.le_of_ble_eq_true rfl) (Nat.le_of_ble_eq_true rfl) dX3_init_27 (fun q_27 H hP hD hS => ?_)
  refine lv_dup hx hb dX3_init_30 rfl ?_
  refine k_calln (wr := [(o, .inr (3, [.ref q_5, .ref q_16, .null, .null]))] ++ (cR cI (adF q_5 u_9) rB0) ++ (cR cI (adF q_16 u_20) rB0)) (wc := [(q_27, .inr (2, [.null, .int 0, .int 0]))]) (w' := fun u_31 => cS cQ q_27 u_31 (fun _ => none) 0 0) (va_runI (As := []) (rest := [.ref q_27, .ref o]) ⟨hx, hb, hml, hown, hts⟩ (mX2_init l D cI cQ cJ q_27 _) (cwI 0 hts gX3_init_X2_init rfl rfl rfl (hts (.initialized RX2) (by decide +kernel)) (hts (.methodLink RX3 21 yX2_init) (by decide +kernel)) (hts (.instanceMethod yX2_init) (by decide +kernel)) rfl (by decide +kernel) ⟨Nat.le_of_ble_eq_true rfl, Nat.le_of_ble_eq_true rfl⟩) (k_preY (wr := [(o, .inr (3, [.ref q_5, .ref q_16, .null, .null]))] ++ (cR cI (adF q_5 u_9) rB0) ++ (cR cI (adF q_16 u_20) rB0)) (wc := [(q_27, .inr (2, [.null, .int 0, .int 0]))]) hE hX hK hP hD hS hA [.ref q_27]) rfl rfl hl.1 rfl (lv_room (Nat.le_of_ble_eq_true rfl)) dX3_init_31 ⟨Nat.le_of_ble_eq_true rfl, Nat.le_of_ble_eq_true rfl⟩) hP hD hS hA (fun u_31 H locs hP hD hS => ?_)
  have hP : va_P D vwCl ([(o, .inr (3, [.ref q_5, .ref q_16, .null, .null]))] ++ (cR cI (adF q_5 u_9) rB0) ++ (cR cI (adF q_16 u_20) rB0) ++ (cS cQ q_27 u_31 (fun _ => none) 0 0)) H := hP
  have hD : va_D A ([(o, .inr (3, [.ref q_5, .ref q_16, .null, .null]))] ++ (cR cI (adF q_5 u_9) rB0) ++ (cR cI (adF q_16 u_20) rB0) ++ (cS cQ q_27 u_31 (fun _ => none) 0 0)) := hD
  refine k_putF (D := D) (ci := 3) (v := .ref q_27) (ty := .object "RoofDrains$SavedRoofs") (C := RX3) (T := TX3) (N := 4) hx hb hts hinX3 tyX3 tyX3_ok nmX3 hown hK hP hD hS 0 rfl rfl 2 (by decide) fl22 (fun _ h9 => h9) rfl hin rfl (by decide +kernel) rfl rfl (Nat.le_of_ble_eq_true rfl) (ws' := [(o, .inr (3, [.ref q_5, .ref q_16, .ref q_27, .null]))] ++ (cR cI (adF q_5 u_9) rB0) ++ (cR cI (adF q_16 u_20) rB0) ++ (cS cQ q_27 u_31 (fun _ => none) 0 0)) rfl dX3_init_34 (fun H locs hP hD hS => ?_)
  refine lv_aload_n hx hb dX3_init_37 rfl (lv_at hl 0 rfl) ?_
  refine va_new (D := D) (ci := 0) (fs := [.null, .int 0]) (C := RX0) (T := TX0) (N := 2) hx hb hts hinX0 tyX0 tyX0_ok hown (hts (.classLink RX3 26 RX0) (by decide +kernel)) (hts (.instantiable RX0 2) (by decide +kernel)) (hts (.initialized RX0) (by decide +kernel)) hK hP hD hS hA rfl (fun j hj => by rcases (show j = 0 ∨ j = 1 by omega) with rfl | rfl <;> rfl) (Nat.le_of_ble_eq_true rfl) (Nat.le_of_ble_eq_true rfl) dX3_init_38 (fun q_38 H hP hD hS => ?_)
  refine lv_dup hx hb dX3_init_41 rfl ?_
  refine k_calln (wr := [(o, .inr (3, [.ref q_5, .ref q_16, .ref q_27, .null]))] ++ (cR cI (adF q_5 u_9) rB0) ++ (cR cI (adF q_16 u_20) rB0) ++ (cS cQ q_27 u_31 (fun _ => none) 0 0)) (wc := [(q_38, .inr (0, [.null, .int 0]))]) (w' := fun u_42 => cT cI (adF q_38 (fun _ => u_42)) tB0) (va_runI (As := []) (rest := [.ref q_38, .ref o]) ⟨hx, hb, hml, hown, hts⟩ (mX0_init l D cI cQ cJ q_38 _) (cwI 0 hts gX3_init_X0_init rfl rfl rfl (hts (.initialized RX0) (by decide +kernel)) (hts (.methodLink RX3 28 yX0_init) (by decide +kernel)) (hts (.instanceMethod yX0_init) (by decide +kernel)) rfl (by decide +kernel) ⟨Nat.le_of_ble_eq_true rfl, Nat.le_of_ble_eq_true rfl⟩) (k_preR (wr := [(o, .inr (3, [.ref q_5, .ref q_16, .ref q_27, .null]))] ++ (cR cI (adF q_5 u_9) rB0) ++ (cR cI (adF q_16 u_20) rB0) ++ (cS cQ q_27 u_31 (fun _ => none) 0 0)) (wc := [(q_38, .inr (0, [.null, .int 0]))]) hE hK hP hD [.ref q_38]) rfl rfl hl.1 rfl (lv_room (Nat.le_of_ble_eq_true rfl)) dX3_init_42 ⟨Nat.le_of_ble_eq_true rfl, Nat.le_of_ble_eq_true rfl⟩) hP hD hS hA (fun u_42 H locs hP hD hS => ?_)
  have hP : va_P D vwCl ([(o, .inr (3, [.ref q_5, .ref q_16, .ref q_27, .null]))] ++ (cR cI (adF q_5 u_9) rB0) ++ (cR cI (adF q_16 u_20) rB0) ++ (cS cQ q_27 u_31 (fun _ => none) 0 0) ++ (cT cI (adF q_38 (fun _ => u_42)) tB0)) H := hP
  have hD : va_D A ([(o, .inr (3, [.ref q_5, .ref q_16, .ref q_27, .null]))] ++ (cR cI (adF q_5 u_9) rB0) ++ (cR cI (adF q_16 u_20) rB0) ++ (cS cQ q_27 u_31 (fun _ => none) 0 0) ++ (cT cI (adF q_38 (fun _ => u_42)) tB0)) := hD
  refine k_putF (D := D) (ci := 3) (v := .ref q_38) (ty := .object "RoofDrains$RainText") (C := RX3) (T := TX3) (N := 4) hx hb hts hinX3 tyX3 tyX3_ok nmX3 hown hK hP hD hS 0 rfl rfl 3 (by decide) fl29 (fun _ h9 => h9) rfl hin rfl (by decide +kernel) rfl rfl (Nat.le_of_ble_eq_true rfl) (ws' := [(o, .inr (3, [.ref q_5, .ref q_16, .ref q_27, .ref q_38]))] ++ (cR cI (adF q_5 u_9) rB0) ++ (cR cI (adF q_16 u_20) rB0) ++ (cS cQ q_27 u_31 (fun _ => none) 0 0) ++ (cT cI (adF q_38 (fun _ => u_42)) tB0)) rfl dX3_init_45 (fun H locs hP hD hS => ?_)
  refine W.widen (k := 30) (n := 241) (Nat.le_of_ble_eq_true rfl) (Nat.le_of_ble_eq_true rfl) ?_
  obtain ⟨hP, hD⟩ := k_eqw (List.append_nil _).symm hP hD
  have hP : va_P D vwCl ((fun (u : (Nat → Nat) × (Nat → Nat) × Nat × Nat × (Nat → Nat)) => WX cI cQ o u.2.2.1 u.2.2.2.1 u.2.2.2.2 u.1 u.2.1 (fun _ _ => 0) rB0 rB0 tB0 0 (fun _ => none) 0 0 (fun _ => tB0)) ((adF q_5 u_9, adF q_16 u_20, q_27, u_31, adF q_38 (fun _ => u_42)))) H := hP
  have hD : va_D A ((fun (u : (Nat → Nat) × (Nat → Nat) × Nat × Nat × (Nat → Nat)) => WX cI cQ o u.2.2.1 u.2.2.2.1 u.2.2.2.2 u.1 u.2.1 (fun _ _ => 0) rB0 rB0 tB0 0 (fun _ => none) 0 0 (fun _ => tB0)) ((adF q_5 u_9, adF q_16 u_20, q_27, u_31, adF q_38 (fun _ => u_42)))) := hD
  exact k_vretN (w' := fun (u : (Nat → Nat) × (Nat → Nat) × Nat × Nat × (Nat → Nat)) => WX cI cQ o u.2.2.1 u.2.2.2.1 u.2.2.2.2 u.1 u.2.1 (fun _ _ => 0) rB0 rB0 tB0 0 (fun _ => none) 0 0 (fun _ => tB0)) ((adF q_5 u_9, adF q_16 u_20, q_27, u_31, adF q_38 (fun _ => u_42))) hx hb hr hlocks hS hP hD dX3_init_48
end
section
/-! the saved roofs: the ring -/
def kO (old held : Nat) : Nat := if held = 6 then (old + 1) % 6 else old
def kH (held : Nat) : Nat := if held = 6 then 5 else held
def kX (old held : Nat) : Nat := (kO old held + kH held) % 6
def kN (n old held : Nat) : Nat := if kX old held < n then n else n + 1
def kB (B : Nat → rB) (old held : Nat) (r : rB) : Nat → rB := fun z => if z = kX old held then r else B z
def svOk (n old held : Nat) : Prop := n ≤ 6 ∧ old < 6 ∧ held ≤ 6 ∧ (n < 6 → old = 0 ∧ held ≤ n)
theorem kX_le {n old held : Nat} (h : svOk n old held) : kX old held ≤ n ∧ kO old held < 6 ∧ kH held < 6 := by
  obtain ⟨h1, h2, h3, h4⟩ := h
  unfold kX kO kH
  by_cases h5 : held = 6
  · simp only [h5, if_true]
    have : n = 6 := by
      rcases Nat.lt_or_ge n 6 with h6 | h6
      · have := h4 h6; omega
      · omega
    omega
  · simp only [h5, if_false]
    rcases Nat.lt_or_ge n 6 with h6 | h6
    · have := h4 h6
      rw [this.1, Nat.zero_add, Nat.mod_eq_of_lt (by omega)]; omega
    · omega
theorem svOk_keep {n old held : Nat} (h : svOk n old held) : svOk (kN n old held) (kO old held) (kH held + 1) := by
  have h0 := kX_le h
  obtain ⟨h1, h2, h3, h4⟩ := h
  have h7 : kX old held < 6 := Nat.mod_lt _ (by decide)
  refine ⟨?_, h0.2.1, by omega, fun h5 => ?_⟩
  · unfold kN; split <;> omega
  · have h8 : n < 6 := by unfold kN at h5; split at h5 <;> omega
    obtain ⟨h9, h10⟩ := h4 h8
    have h6 : ¬ held = 6 := by omega
    have e1 : kO old held = old := if_neg h6
    have e2 : kH held = held := if_neg h6
    have e3 : kX old held = held := by unfold kX; rw [e1, e2, h9, Nat.zero_add, Nat.mod_eq_of_lt (by omega)]
    refine ⟨by omega, ?_⟩
    unfold kN
    rw [e2, e3]
    split <;> omega
theorem zF_up {A : Nat → Nat → Nat} {n : Nat} {u : Nat → Nat} : va_up (zF A n) n (some (u 0)) = zF (fun z => if z = n then u else A z) (n + 1) := by
  funext i
  unfold zF va_up
  by_cases h : i = n
  · subst h; simp
  · simp only [h, if_false]
    by_cases h2 : i < n
    · rw [if_pos h2, if_pos (by omega)]
    · rw [if_neg h2, if_neg (by omega)]
theorem cZ_push {cI : ClassId} {A : Nat → Nat → Nat} {B : Nat → rB} {n : Nat} {u : Nat → Nat} {r : rB} : cZ cI A B n ++ cR cI u r = cZ cI (fun z => if z = n then u else A z) (fun z => if z = n then r else B z) (n + 1) := by
  show _ = cZ cI (fun z => if z = n then u else A z) (fun z => if z = n then r else B z) n ++ cR cI (if n = n then u else A n) (if n = n then r else B n)
  rw [if_pos rfl, if_pos rfl, cZ_cong n (fun z hz => ⟨(if_neg (show ¬ z = n by omega)).symm, (if_neg (show ¬ z = n by omega)).symm⟩)]
theorem zF_up2 {A A1 : Nat → Nat → Nat} {n i : Nat} (hi : i = n) (h : ∀ z, z ≠ n → A1 z = A z) : va_up (zF A n) i (some (A1 n 0)) = zF A1 (n + 1) := by
  subst hi
  funext j
  unfold zF va_up
  by_cases hj : j = i
  · subst hj; simp
  · simp only [hj, if_false]
    by_cases h2 : j < i
    · rw [if_pos h2, if_pos (by omega), h j hj]
    · rw [if_neg h2, if_neg (by omega)]
abbrev fR (a : Nat → Nat) (r : rB) : List Value := [.ref (a 1), .ref (a 2), .ref (a 3), .ref (a 4), .ref (a 5), .ref (a 6), .ref (a 7), .ref (a 8), .ref (a 9), .ref (a 10), .ref (a 11), .ref (a 12), .int (r 12 0), .int (r 12 1), .int (r 12 2), .int (r 12 3)]
theorem cZ_at {cI : ClassId} {A : Nat → Nat → Nat} {B : Nat → rB} {w : va_W} {k i n : Nat} (hw : w.length = k) (hi : i < n) : (w ++ cZ cI A B n)[k + 13 * i]? = some (A i 0, .inr (1, fR (A i) (B i))) := by
  rw [List.getElem?_append_right (by omega), hw, show k + 13 * i - k = 13 * i + 0 by omega]
  exact (cZ_get (by decide) n hi).trans rfl
theorem nd_app {m : List Nat} : ∀ {l : List Nat}, va_nd l = true → va_nd m = true → (∀ x ∈ l, x ∉ m) → va_nd (l ++ m) = true
  | [], _, h2, _ => h2
  | a :: l, h1, h2, h => by
    simp only [va_nd, Bool.and_eq_true, decide_eq_true_eq] at h1
    show va_nd (a :: (l ++ m)) = true
    simp only [va_nd, Bool.and_eq_true, decide_eq_true_eq, List.mem_append, not_or]
    exact ⟨⟨h1.1, h a List.mem_cons_self⟩, nd_app h1.2 h2 (fun x hx => h x (List.mem_cons_of_mem _ hx))⟩
theorem nd_range : ∀ (k b : Nat), va_nd (List.range' b k) = true
  | 0, _ => rfl
  | k + 1, b => by
    show va_nd (b :: List.range' (b + 1) k) = true
    simp only [va_nd, Bool.and_eq_true, decide_eq_true_eq]
    exact ⟨fun h => by have := List.mem_range'_1.mp h; omega, nd_range k (b + 1)⟩
theorem nd_keep (i : Nat) : va_nd (List.range' (31 + 13 * i) 13 ++ [1, 2, 3, 4, 5, 6, 7, 8, 9, 10, 11, 12, 13]) = true := nd_app (nd_range _ _) (by decide) (fun x hx h2 => by
  have := List.mem_range'_1.mp hx
  simp only [List.mem_cons, List.not_mem_nil, or_false] at h2
  omega)
theorem nI_inj6 {h : Nat} (h6 : h ≤ 6) (e : nI h = 6) : h = 6 := by
  have h1 := congrArg Int32.toInt e
  rw [nI_toInt (by omega)] at h1
  have h2 : (6 : Int32).toInt = 6 := by decide
  omega
theorem nI_inj0 {h : Nat} (h6 : h < 2 ^ 31) (e : nI h = 0) : h = 0 := by
  have h1 := congrArg Int32.toInt e
  rw [nI_toInt h6] at h1
  have h2 : (0 : Int32).toInt = 0 := by decide
  omega
def kD (A : Nat → Nat → Nat) (old held : Nat) : Option Nat := if held = 0 then none else some (A ((old + (held - 1)) % 6) 0)
theorem svOk_drop {n old held : Nat} (h : svOk n old held) : svOk n old (held - 1) := by
  obtain ⟨h1, h2, h3, h4⟩ := h
  exact ⟨h1, h2, by omega, fun h5 => by have := h4 h5; omega⟩
theorem svOk_at {n old held : Nat} (h : svOk n old held) (h0 : held ≠ 0) : (old + (held - 1)) % 6 < n := by
  obtain ⟨h1, h2, h3, h4⟩ := h
  rcases Nat.lt_or_ge n 6 with h5 | h5
  · have := h4 h5
    rw [this.1, Nat.zero_add, Nat.mod_eq_of_lt (by omega)]; omega
  · have : (old + (held - 1)) % 6 < 6 := Nat.mod_lt _ (by decide)
    omega
theorem map_app2 {is js : List Nat} {w a b : va_W} (h1 : is.map (fun i => w[i]?) = a.map some) (h2 : js.map (fun i => w[i]?) = b.map some) : (is ++ js).map (fun i => w[i]?) = (a ++ b).map some := by
  rw [List.map_append, List.map_append, h1, h2]
set_option maxHeartbeats 4000000 in
set_option maxRecDepth 100000 in
theorem mX2_keep (l : Launch) (D : va_G) (cI cQ cJ : ClassId) (o s0 w0 : Nat) (x a a2 : Nat → Nat) (A : Nat → Nat → Nat) (r q t : rB) (n old held : Nat) (B : Nat → rB) (hok : svOk n old held) (sz : Nat) : Met l yX2_keep wsX2_keep ({ frames := 2, cells := 13, slots := 85, locals := 81 } : Room) (va_Pc [.ref s0, .ref (a 0)] (Prx D (tY cI cQ cJ) sz (WX cI cQ o s0 w0 x a a2 A r q t n (zF A n) (nI old) (nI held) B))) (va_Qv (fun (_ : Nat → Nat → Nat) => True) (fun u t9 => Wd D (WX cI cQ o s0 w0 x a a2 u r q t (kN n old held) (zF u (kN n old held)) (nI (kO old held)) (nI (kH held + 1)) (kB B old held r)) t9 ∧ va_D (va_A (WX cI cQ o s0 w0 x a a2 A r q t n (zF A n) (nI old) (nI held) B) sz) (WX cI cQ o s0 w0 x a a2 u r q t (kN n old held) (zF u (kN n old held)) (nI (kO old held)) (nI (kH held + 1)) (kB B old held r))) (va_A (WX cI cQ o s0 w0 x a a2 A r q t n (zF A n) (nI old) (nI held) B) sz)) 13 85 (va_A (WX cI cQ o s0 w0 x a a2 A r q t n (zF A n) (nI old) (nI held) B) sz) := by
  refine N_of (cc := cX2_keep) (maxL := 4) (ret := none) (Qc := fun A0 => va_Qv (fun (_ : Nat → Nat → Nat) => True) (fun u t9 => Wd D (WX cI cQ o s0 w0 x a a2 u r q t (kN n old held) (zF u (kN n old held)) (nI (kO old held)) (nI (kH held + 1)) (kB B old held r)) t9 ∧ va_D A0 (WX cI cQ o s0 w0 x a a2 u r q t (kN n old held) (zF u (kN n old held)) (nI (kO old held)) (nI (kH held + 1)) (kB B old held r))) A0) (by decide) rfl (Nat.le_of_ble_eq_true rfl) ?_ sz
  intro p e s m below meth c A0 ls hB hnm hE hP hK hD hA0 hl
  obtain ⟨hx, hb, hr, hml, hts, hown, hlocks⟩ := hB
  have hS : va_S A0 s.heap s.heap [] := va_S.rf
  have hl : lv_has ls 4 [(0, .ref s0), (1, .ref (a 0))] := hl
  have hinX2 : ∀ w ∈ u_ws RX2 TX2 3, w ∈ wsX2_keep := by decide +kernel
  have fl15 := hts (.fieldLink RX2 15 "RoofDrains$SavedRoofs" "held" "I") (by decide +kernel)
  have fl19 := hts (.fieldLink RX2 19 "RoofDrains$SavedRoofs" "oldest" "I") (by decide +kernel)
  have fl11 := hts (.fieldLink RX2 11 "RoofDrains$SavedRoofs" "rows" "[LRoofDrains$Roof;") (by decide +kernel)
  have hinX1 : ∀ w ∈ u_ws RX1 TX1 16, w ∈ wsX2_keep := by decide +kernel
  have ho6 := hok.2.1
  have K71 : ∀ (oo hh i n1 : Nat) (A1 : Nat → Nat → Nat) (B1 : Nat → rB), kO old held = oo → kH held = hh → kX old held = i → i < n1 → n1 = kN n old held → (∀ z, z < n1 → z ≠ i → B1 z = B z) → ∀ (H : Heap) (locs : List Loc), va_P D vwCl (WX cI cQ o s0 w0 x a a2 A1 r q t n1 (zF A1 n1) (nI oo) (nI hh) B1) H → va_D A0 (WX cI cQ o s0 w0 x a a2 A1 r q t n1 (zF A1 n1) (nI oo) (nI hh) B1) → va_S A0 s.heap H locs → ∀ (ls : Array Slot), lv_has ls 4 [(3, .ref (A1 i 0)), (2, .int (nI i)), (0, .ref s0), (1, .ref (a 0))] → W p l e ({ frames := 2, cells := 13, slots := 85, locals := 81 } : Room) s m ([.ref s0, .ref (a 0)] : List Value).toArray below meth c H locs 13 85 (MQ below (va_Qv (fun (_ : Nat → Nat → Nat) => True) (fun u t9 => Wd D (WX cI cQ o s0 w0 x a a2 u r q t (kN n old held) (zF u (kN n old held)) (nI (kO old held)) (nI (kH held + 1)) (kB B old held r)) t9 ∧ va_D A0 (WX cI cQ o s0 w0 x a a2 u r q t (kN n old held) (zF u (kN n old held)) (nI (kO old held)) (nI (kH held + 1)) (kB B old held r))) A0) ([.ref s0, .ref (a 0)] : List Value).toArray s 13 85 A0) (F0 m 71 ls []) := by
    intro oo hh i n1 A1 B1 hoo hhh hi hin hn1 hBz H locs hP hD hS ls hl
    refine lv_aload_n hx hb dX2_keep_71 rfl (lv_at hl 0 rfl) ?_
    refine lv_aload_n hx hb dX2_keep_72 rfl (lv_at hl 3 rfl) ?_
    have hC : (List.range' (31 + 13 * i) 13 ++ [1, 2, 3, 4, 5, 6, 7, 8, 9, 10, 11, 12, 13]).map (fun z => (WX cI cQ o s0 w0 x a a2 A1 r q t n1 (zF A1 n1) (nI oo) (nI hh) B1)[z]?) = (cR cI (A1 i) (B1 i) ++ cR cI a r).map some := map_app2 (cZ_map (k := 31) rfl rfl hin) rfl
    have hn9 : putAt (WX cI cQ o s0 w0 x a a2 A1 r q t n1 (zF A1 n1) (nI oo) (nI hh) B1) (List.range' (31 + 13 * i) 13 ++ [1, 2, 3, 4, 5, 6, 7, 8, 9, 10, 11, 12, 13]) (cR cI (A1 i) r ++ cR cI a r) = WX cI cQ o s0 w0 x a a2 A1 r q t n1 (zF A1 n1) (nI oo) (nI hh) (fun z => if z = i then r else B1 z) := by
      rw [putAt_cat _ _ _ _ _ (by rw [List.length_range']; rfl), cZ_put (k := 31) rfl rfl n1 hin]
      rfl
    have hnd : va_nd (List.range' (31 + 13 * i) 13 ++ [1, 2, 3, 4, 5, 6, 7, 8, 9, 10, 11, 12, 13]) = true := nd_keep i
    refine k_callv (wc := cR cI (A1 i) (B1 i) ++ cR cI a r) (w' := cR cI (A1 i) r ++ cR cI a r) (wn := WX cI cQ o s0 w0 x a a2 A1 r q t n1 (zF A1 n1) (nI oo) (nI hh) (fun z => if z = i then r else B1 z)) (va_runV (As := [.ref (a 0)]) (rest := []) ⟨hx, hb, hml, hown, hts⟩ (mX1_copyFrom l D cI cQ cJ (A1 i) (B1 i) a r _) (cwV 1 hts gX2_keep_X1_copyFrom rfl rfl rfl (by decide +kernel) ⟨Nat.le_of_ble_eq_true rfl, Nat.le_of_ble_eq_true rfl⟩) (k_preV (wc := cR cI (A1 i) (B1 i) ++ cR cI a r) hE hK hP hD (List.range' (31 + 13 * i) 13 ++ [1, 2, 3, 4, 5, 6, 7, 8, 9, 10, 11, 12, 13]) hnd hC (ci := 1) (q0 := 31 + 13 * i) rfl ((cZ_at (k := 31) rfl hin).trans rfl) [.ref (a 0)]) rfl rfl hl.1 rfl (lv_room (Nat.le_of_ble_eq_true rfl)) dX2_keep_73 ⟨Nat.le_of_ble_eq_true rfl, Nat.le_of_ble_eq_true rfl⟩) hP hD hS hA0 (List.range' (31 + 13 * i) 13 ++ [1, 2, 3, 4, 5, 6, 7, 8, 9, 10, 11, 12, 13]) hC rfl hn9 (fun H locs hP hD hS => ?_)
    refine lv_aload_n hx hb dX2_keep_76 rfl (lv_at hl 2 rfl) ?_
    refine lv_dup hx hb dX2_keep_77 rfl ?_
    refine va_get (D := D) (ci := 2) (v := .int (nI hh)) (C := RX2) (T := TX2) (N := 3) hx hb hts hinX2 hown hK hP 27 rfl rfl 2 (by decide) fl15 (fun _ h9 => h9) rfl dX2_keep_78 ?_
    refine lv_iconst (v := 1) hx hb dX2_keep_81 (by decide) ?_
    refine lv_iadd hx hb dX2_keep_82 ?_
    refine lv_eqi (y := nI (hh + 1)) (nI_add hh 1) ?_
    refine k_put (D := D) (ci := 2) (v := .int (nI (hh + 1))) (ty := .int) (C := RX2) (T := TX2) (N := 3) hx hb hts hinX2 tyX2 tyX2_ok nmX2 hown hK hP hD hS 27 rfl rfl 2 (by decide) fl15 (fun _ h9 => h9) rfl (by decide +kernel) rfl rfl (Nat.le_of_ble_eq_true rfl) (ws' := (cO o [.ref (a 0), .ref (a2 0), .ref s0, .ref (x 0)]) ++ (cR cI a r) ++ (cR cI a2 q) ++ (cS cQ s0 w0 (zF A1 n1) (nI oo) (nI (hh + 1))) ++ (cT cI x t) ++ (cZ cI A1 (fun z => if z = i then r else B1 z) n1)) rfl dX2_keep_83 (fun H locs hP hD hS => ?_)
    have eB : WX cI cQ o s0 w0 x a a2 A1 r q t n1 (zF A1 n1) (nI oo) (nI (hh + 1)) (fun z => if z = i then r else B1 z) = WX cI cQ o s0 w0 x a a2 A1 r q t (kN n old held) (zF A1 (kN n old held)) (nI (kO old held)) (nI (kH held + 1)) (kB B old held r) := by
      subst hoo; subst hhh; subst hi; subst hn1
      show _ ++ cZ cI A1 _ _ = _ ++ cZ cI A1 _ _
      rw [cZ_cong (kN n old held) (A := A1) (A1 := A1) (B := fun z => if z = kX old held then r else B1 z) (B1 := kB B old held r) (fun z hz => ⟨rfl, ?_⟩)]
      show (if z = kX old held then r else B1 z) = (if z = kX old held then r else B z)
      by_cases hzk : z = kX old held
      · rw [if_pos hzk, if_pos hzk]
      · rw [if_neg hzk, if_neg hzk, hBz z hz hzk]
    obtain ⟨hP, hD⟩ := k_eqw eB hP hD
    exact k_vretN (w' := fun (u : Nat → Nat → Nat) => WX cI cQ o s0 w0 x a a2 u r q t (kN n old held) (zF u (kN n old held)) (nI (kO old held)) (nI (kH held + 1)) (kB B old held r)) A1 hx hb hr hlocks hS hP hD dX2_keep_86
  have K32 : ∀ (oo hh : Nat), kO old held = oo → kH held = hh → oo < 6 → hh < 6 → ∀ (H : Heap) (locs : List Loc), va_P D vwCl (WX cI cQ o s0 w0 x a a2 A r q t n (zF A n) (nI oo) (nI hh) B) H → va_D A0 (WX cI cQ o s0 w0 x a a2 A r q t n (zF A n) (nI oo) (nI hh) B) → va_S A0 s.heap H locs → ∀ (ls : Array Slot), lv_has ls 4 [(0, .ref s0), (1, .ref (a 0))] → W p l e ({ frames := 2, cells := 13, slots := 85, locals := 81 } : Room) s m ([.ref s0, .ref (a 0)] : List Value).toArray below meth c H locs 0 0 (MQ below (va_Qv (fun (_ : Nat → Nat → Nat) => True) (fun u t9 => Wd D (WX cI cQ o s0 w0 x a a2 u r q t (kN n old held) (zF u (kN n old held)) (nI (kO old held)) (nI (kH held + 1)) (kB B old held r)) t9 ∧ va_D A0 (WX cI cQ o s0 w0 x a a2 u r q t (kN n old held) (zF u (kN n old held)) (nI (kO old held)) (nI (kH held + 1)) (kB B old held r))) A0) ([.ref s0, .ref (a 0)] : List Value).toArray s 13 85 A0) (F0 m 32 ls []) := by
    intro oo hh hoo hhh ho6 hh6 H locs hP hD hS ls hl
    obtain ⟨i, hi⟩ : ∃ i, i = (oo + hh) % 6 := ⟨_, rfl⟩
    have hi6 : i < 6 := by omega
    have hki : kX old held = i := by unfold kX; rw [hoo, hhh, hi]
    have hile : i ≤ n := hki ▸ (kX_le hok).1
    refine lv_aload_n hx hb dX2_keep_32 rfl (lv_at hl 0 rfl) ?_
    refine va_get (D := D) (ci := 2) (v := .int (nI oo)) (C := RX2) (T := TX2) (N := 3) hx hb hts hinX2 hown hK hP 27 rfl rfl 1 (by decide) fl19 (fun _ h9 => h9) rfl dX2_keep_33 ?_
    refine lv_aload_n hx hb dX2_keep_36 rfl (lv_at hl 0 rfl) ?_
    refine va_get (D := D) (ci := 2) (v := .int (nI hh)) (C := RX2) (T := TX2) (N := 3) hx hb hts hinX2 hown hK hP 27 rfl rfl 2 (by decide) fl15 (fun _ h9 => h9) rfl dX2_keep_37 ?_
    refine lv_iadd hx hb dX2_keep_40 ?_
    refine lv_eqi (y := nI (oo + hh)) (nI_add oo hh) ?_
    refine lv_bipush (v := 6) hx hb dX2_keep_41 (by decide) ?_
    refine lv_irem hx hb dX2_keep_43 (by decide) ?_
    refine lv_eqi (y := nI ((oo + hh) % 6)) (pk_rem (a := oo + hh) (d := 6) (by omega) (by decide) (by decide)) ?_
    refine lv_eqi (y := nI i) (congrArg nI hi.symm) ?_
    refine lv_istore_n (lv' := [(2, .int (nI i)), (0, .ref s0), (1, .ref (a 0))]) hx hb dX2_keep_44 rfl hl (by decide) rfl (fun ls hl => ?_)
    refine lv_aload_n hx hb dX2_keep_45 rfl (lv_at hl 1 rfl) ?_
    refine va_get (D := D) (ci := 2) (v := .ref w0) (C := RX2) (T := TX2) (N := 3) hx hb hts hinX2 hown hK hP 27 rfl rfl 0 (by decide) fl11 (fun _ h9 => h9) rfl dX2_keep_46 ?_
    refine lv_iload_n hx hb dX2_keep_49 rfl (lv_at hl 0 rfl) ?_
    refine va_aldq hx hb hK hP 28 1 rfl rfl (vp_in_nI (n := i) (by omega) (by omega)) dX2_keep_50 ?_
    by_cases hin : i < n
    · skip
      refine lv_eqv (y := .ref (A i 0)) (by rw [nI_clamp (show i < 2 ^ 31 by omega)]; show va_rf (zF A n i) = _; rw [show zF A n i = some (A i 0) from if_pos hin]; rfl) ?_
      refine lv_astore_n (lv' := [(3, .ref (A i 0)), (2, .int (nI i)), (0, .ref s0), (1, .ref (a 0))]) hx hb dX2_keep_51 rfl hl (by decide) rfl (fun ls hl => ?_)
      refine lv_aload_n hx hb dX2_keep_52 rfl (lv_at hl 0 rfl) ?_
      refine lv_ifnonnull (tgt := 71) hx hb dX2_keep_53 (by decide) ?_
      refine W.widen (k := 13) (n := 85) (Nat.le_of_ble_eq_true rfl) (Nat.le_of_ble_eq_true rfl) ?_
      exact K71 oo hh i n A B hoo hhh hki hin (by unfold kN; rw [hki, if_pos hin]) (fun _ _ _ => rfl) H locs hP hD hS ls hl
    · skip
      have hin2 : i = n := by omega
      refine lv_eqv (y := .null) (by rw [nI_clamp (show i < 2 ^ 31 by omega)]; show va_rf (zF A n i) = _; rw [show zF A n i = none from if_neg hin]; rfl) ?_
      refine lv_astore_nN (lv' := [(3, .null), (2, .int (nI i)), (0, .ref s0), (1, .ref (a 0))]) hx hb dX2_keep_51 rfl hl (by decide) rfl (fun ls hl => ?_)
      refine lv_aload_nN hx hb dX2_keep_52 rfl (lv_at hl 0 rfl) ?_
      refine lv_ifnonnullN hx hb dX2_keep_53 ?_
      refine va_new (D := D) (ci := 1) (fs := [.null, .null, .null, .null, .null, .null, .null, .null, .null, .null, .null, .null, .int 0, .int 0, .int 0, .int 0]) (C := RX1) (T := TX1) (N := 16) hx hb hts hinX1 tyX1 tyX1_ok hown (hts (.classLink RX2 9 RX1) (by decide +kernel)) (hts (.instantiable RX1 16) (by decide +kernel)) (hts (.initialized RX1) (by decide +kernel)) hK hP hD hS hA0 rfl (fun j hj => by rcases (show j = 0 ∨ j = 1 ∨ j = 2 ∨ j = 3 ∨ j = 4 ∨ j = 5 ∨ j = 6 ∨ j = 7 ∨ j = 8 ∨ j = 9 ∨ j = 10 ∨ j = 11 ∨ j = 12 ∨ j = 13 ∨ j = 14 ∨ j = 15 by omega) with rfl | rfl | rfl | rfl | rfl | rfl | rfl | rfl | rfl | rfl | rfl | rfl | rfl | rfl | rfl | rfl <;> rfl) (Nat.le_of_ble_eq_true rfl) (Nat.le_of_ble_eq_true rfl) dX2_keep_56 (fun qn H hP hD hS => ?_)
      refine lv_dup hx hb dX2_keep_59 rfl ?_
      refine k_calln (wr := (cO o [.ref (a 0), .ref (a2 0), .ref s0, .ref (x 0)]) ++ (cR cI a r) ++ (cR cI a2 q) ++ (cS cQ s0 w0 (zF A n) (nI oo) (nI hh)) ++ (cT cI x t) ++ (cZ cI A B n)) (wc := [(qn, .inr (1, [.null, .null, .null, .null, .null, .null, .null, .null, .null, .null, .null, .null, .int 0, .int 0, .int 0, .int 0]))]) (w' := fun u => cR cI (adF qn u) rB0) (va_runI (As := []) (rest := [.ref qn]) ⟨hx, hb, hml, hown, hts⟩ (mX1_init l D cI cQ cJ qn _) (cwI 0 hts gX2_keep_X1_init rfl rfl rfl (hts (.initialized RX1) (by decide +kernel)) (hts (.methodLink RX2 22 yX1_init) (by decide +kernel)) (hts (.instanceMethod yX1_init) (by decide +kernel)) rfl (by decide +kernel) ⟨Nat.le_of_ble_eq_true rfl, Nat.le_of_ble_eq_true rfl⟩) (k_preR (wr := (cO o [.ref (a 0), .ref (a2 0), .ref s0, .ref (x 0)]) ++ (cR cI a r) ++ (cR cI a2 q) ++ (cS cQ s0 w0 (zF A n) (nI oo) (nI hh)) ++ (cT cI x t) ++ (cZ cI A B n)) (wc := [(qn, .inr (1, [.null, .null, .null, .null, .null, .null, .null, .null, .null, .null, .null, .null, .int 0, .int 0, .int 0, .int 0]))]) hE hK hP hD [.ref qn]) rfl rfl hl.1 rfl (lv_room (Nat.le_of_ble_eq_true rfl)) dX2_keep_60 ⟨Nat.le_of_ble_eq_true rfl, Nat.le_of_ble_eq_true rfl⟩) hP hD hS hA0 (fun u H locs hP hD hS => ?_)
      obtain ⟨hP, hD⟩ := k_eqw (w' := ((cO o [.ref (a 0), .ref (a2 0), .ref s0, .ref (x 0)]) ++ (cR cI a r) ++ (cR cI a2 q) ++ (cS cQ s0 w0 (zF A n) (nI oo) (nI hh)) ++ (cT cI x t)) ++ cZ cI (fun z => if z = n then adF qn u else A z) (fun z => if z = n then rB0 else B z) (n + 1)) (by rw [← cZ_push, List.append_assoc]) hP hD
      obtain ⟨A1, hA1⟩ : ∃ A1, A1 = (fun z => if z = n then adF qn u else A z) := ⟨_, rfl⟩
      have hAn : A1 n = adF qn u := by rw [hA1]; exact if_pos rfl
      rw [← hA1] at hP hD
      refine lv_astore_n (lv' := [(3, .ref qn), (2, .int (nI i)), (0, .ref s0), (1, .ref (a 0))]) hx hb dX2_keep_63 rfl hl (by decide) rfl (fun ls hl => ?_)
      refine lv_aload_n hx hb dX2_keep_64 rfl (lv_at hl 2 rfl) ?_
      refine va_get (D := D) (ci := 2) (v := .ref w0) (C := RX2) (T := TX2) (N := 3) hx hb hts hinX2 hown hK hP 27 rfl rfl 0 (by decide) fl11 (fun _ h9 => h9) rfl dX2_keep_65 ?_
      refine lv_iload_n hx hb dX2_keep_68 rfl (lv_at hl 1 rfl) ?_
      refine lv_aload_n hx hb dX2_keep_69 rfl (lv_at hl 0 rfl) ?_
      have hAz : ∀ z, z ≠ n → A1 z = A z := fun z hz => by rw [hA1]; exact if_neg hz
      refine lv_eqv (y := .ref (A1 n 0)) (by rw [hAn]; rfl) ?_
      refine va_astq (v := A1 n 0) (vs := fR (A1 n) ((fun z => if z = n then rB0 else B z) n)) hx hb hK hP hD hS 28 1 (31 + 13 * n) 1 rfl rfl ((cZ_at (k := 31) rfl (show n < n + 1 by omega)).trans rfl) (r := (RX1, TX1, 16)) rfl (vp_in_nI (n := i) (by omega) (by omega)) dX2_keep_70 (fun H locs hP hD hS => ?_)
      obtain ⟨hP, hD⟩ := k_eqw (w' := WX cI cQ o s0 w0 x a a2 A1 r q t (n + 1) (zF A1 (n + 1)) (nI oo) (nI hh) (fun z => if z = n then rB0 else B z)) (by rw [nI_clamp (show i < 2 ^ 31 by omega), zF_up2 hin2 hAz]; rfl) hP hD
      have hl : lv_has ls 4 [(3, .ref (A1 i 0)), (2, .int (nI i)), (0, .ref s0), (1, .ref (a 0))] := by rw [hin2, hAn]; rw [hin2] at hl; exact hl
      exact K71 oo hh i (n + 1) A1 (fun z => if z = n then rB0 else B z) hoo hhh hki (by omega) (by unfold kN; rw [hki, if_neg hin]) (fun z hz hzi => if_neg (by omega)) H locs hP hD hS ls hl
  by_cases h6 : held = 6
  · skip
    subst h6
    refine lv_aload_n hx hb dX2_keep_0 rfl (lv_at hl 0 rfl) ?_
    refine va_get (D := D) (ci := 2) (v := .int (nI 6)) (C := RX2) (T := TX2) (N := 3) hx hb hts hinX2 hown hK hP 27 rfl rfl 2 (by decide) fl15 (fun _ h9 => h9) rfl dX2_keep_1 ?_
    refine lv_bipush (v := 6) hx hb dX2_keep_4 (by decide) ?_
    refine lv_icmp_ne (tgt := 32) hx hb dX2_keep_6 (by decide) (fun h9 => absurd (by decide) h9) (fun _ => ?_)
    refine lv_aload_n hx hb dX2_keep_9 rfl (lv_at hl 0 rfl) ?_
    refine lv_aload_n hx hb dX2_keep_10 rfl (lv_at hl 0 rfl) ?_
    refine va_get (D := D) (ci := 2) (v := .int (nI old)) (C := RX2) (T := TX2) (N := 3) hx hb hts hinX2 hown hK hP 27 rfl rfl 1 (by decide) fl19 (fun _ h9 => h9) rfl dX2_keep_11 ?_
    refine lv_iconst (v := 1) hx hb dX2_keep_14 (by decide) ?_
    refine lv_iadd hx hb dX2_keep_15 ?_
    refine lv_eqi (y := nI (old + 1)) (nI_add old 1) ?_
    refine lv_bipush (v := 6) hx hb dX2_keep_16 (by decide) ?_
    refine lv_irem hx hb dX2_keep_18 (by decide) ?_
    refine lv_eqi (y := nI ((old + 1) % 6)) (pk_rem (a := old + 1) (d := 6) (by omega) (by decide) (by decide)) ?_
    refine k_put (D := D) (ci := 2) (v := .int (nI ((old + 1) % 6))) (ty := .int) (C := RX2) (T := TX2) (N := 3) hx hb hts hinX2 tyX2 tyX2_ok nmX2 hown hK hP hD hS 27 rfl rfl 1 (by decide) fl19 (fun _ h9 => h9) rfl (by decide +kernel) rfl rfl (Nat.le_of_ble_eq_true rfl) (ws' := (cO o [.ref (a 0), .ref (a2 0), .ref s0, .ref (x 0)]) ++ (cR cI a r) ++ (cR cI a2 q) ++ (cS cQ s0 w0 (zF A n) (nI ((old + 1) % 6)) (nI 6)) ++ (cT cI x t) ++ (cZ cI A B n)) rfl dX2_keep_19 (fun H locs hP hD hS => ?_)
    refine lv_aload_n hx hb dX2_keep_22 rfl (lv_at hl 0 rfl) ?_
    refine lv_dup hx hb dX2_keep_23 rfl ?_
    refine va_get (D := D) (ci := 2) (v := .int (nI 6)) (C := RX2) (T := TX2) (N := 3) hx hb hts hinX2 hown hK hP 27 rfl rfl 2 (by decide) fl15 (fun _ h9 => h9) rfl dX2_keep_24 ?_
    refine lv_iconst (v := 1) hx hb dX2_keep_27 (by decide) ?_
    refine lv_isub hx hb dX2_keep_28 ?_
    refine lv_eqi (y := nI 5) (by decide) ?_
    refine k_put (D := D) (ci := 2) (v := .int (nI 5)) (ty := .int) (C := RX2) (T := TX2) (N := 3) hx hb hts hinX2 tyX2 tyX2_ok nmX2 hown hK hP hD hS 27 rfl rfl 2 (by decide) fl15 (fun _ h9 => h9) rfl (by decide +kernel) rfl rfl (Nat.le_of_ble_eq_true rfl) (ws' := (cO o [.ref (a 0), .ref (a2 0), .ref s0, .ref (x 0)]) ++ (cR cI a r) ++ (cR cI a2 q) ++ (cS cQ s0 w0 (zF A n) (nI ((old + 1) % 6)) (nI 5)) ++ (cT cI x t) ++ (cZ cI A B n)) rfl dX2_keep_29 (fun H locs hP hD hS => ?_)
    exact K32 ((old + 1) % 6) 5 (if_pos rfl) (if_pos rfl) (by omega) (by omega) H locs hP hD hS ls hl
  · skip
    have hn6 : ¬ nI held = 6 := fun h9 => h6 (nI_inj6 hok.2.2.1 h9)
    refine lv_aload_n hx hb dX2_keep_0 rfl (lv_at hl 0 rfl) ?_
    refine va_get (D := D) (ci := 2) (v := .int (nI held)) (C := RX2) (T := TX2) (N := 3) hx hb hts hinX2 hown hK hP 27 rfl rfl 2 (by decide) fl15 (fun _ h9 => h9) rfl dX2_keep_1 ?_
    refine lv_bipush (v := 6) hx hb dX2_keep_4 (by decide) ?_
    refine lv_icmp_ne (tgt := 32) hx hb dX2_keep_6 (by decide) (fun _ => ?_) (fun h9 => absurd h9 hn6)
    exact K32 old held (if_neg h6) (if_neg h6) hok.2.1 (by have := hok.2.2.1; omega) _ _ hP hD hS ls hl
set_option maxHeartbeats 4000000 in
set_option maxRecDepth 100000 in
theorem mX2_dropLatest (l : Launch) (D : va_G) (cI cQ cJ : ClassId) (o s0 w0 : Nat) (x a a2 : Nat → Nat) (A : Nat → Nat → Nat) (r q t : rB) (n old held : Nat) (B : Nat → rB) (hok : svOk n old held) (sz : Nat) : Met l yX2_dropLatest wsX2_dropLatest ({ frames := 0, cells := 0, slots := 0, locals := 0 } : Room) (va_Pc [.ref s0] (Prx D (tY cI cQ cJ) sz (WX cI cQ o s0 w0 x a a2 A r q t n (zF A n) (nI old) (nI held) B))) (va_Qq (fun (z : Option Nat) (_ : Unit) => z = kD A old held) (fun _ t9 => Wd D (WX cI cQ o s0 w0 x a a2 A r q t n (zF A n) (nI old) (nI (held - 1)) B) t9) (va_A (WX cI cQ o s0 w0 x a a2 A r q t n (zF A n) (nI old) (nI held) B) sz)) 0 0 (va_A (WX cI cQ o s0 w0 x a a2 A r q t n (zF A n) (nI old) (nI held) B) sz) := by
  refine N_of (cc := cX2_dropLatest) (maxL := 1) (ret := some (.object "RoofDrains$Roof")) (Qc := fun A0 => va_Qq (fun (z : Option Nat) (_ : Unit) => z = kD A old held) (fun _ t9 => Wd D (WX cI cQ o s0 w0 x a a2 A r q t n (zF A n) (nI old) (nI (held - 1)) B) t9) A0) (by decide) rfl (Nat.le_of_ble_eq_true rfl) ?_ sz
  intro p e s m below meth c A0 ls hB hnm hE hP hK hD hA0 hl
  obtain ⟨hx, hb, hr, hml, hts, hown, hlocks⟩ := hB
  have hS : va_S A0 s.heap s.heap [] := va_S.rf
  have hl : lv_has ls 1 [(0, .ref s0)] := hl
  have hinX2 : ∀ w ∈ u_ws RX2 TX2 3, w ∈ wsX2_dropLatest := by decide +kernel
  have fl15 := hts (.fieldLink RX2 15 "RoofDrains$SavedRoofs" "held" "I") (by decide +kernel)
  have fl11 := hts (.fieldLink RX2 11 "RoofDrains$SavedRoofs" "rows" "[LRoofDrains$Roof;") (by decide +kernel)
  have fl19 := hts (.fieldLink RX2 19 "RoofDrains$SavedRoofs" "oldest" "I") (by decide +kernel)
  have h6 := hok.2.2.1
  have ho6 := hok.2.1
  by_cases h0 : held = 0
  · skip
    subst h0
    refine lv_aload_n hx hb dX2_dropLatest_0 rfl (lv_at hl 0 rfl) ?_
    refine va_get (D := D) (ci := 2) (v := .int (nI 0)) (C := RX2) (T := TX2) (N := 3) hx hb hts hinX2 hown hK hP 27 rfl rfl 2 (by decide) fl15 (fun _ h9 => h9) rfl dX2_dropLatest_1 ?_
    refine lv_if_ne (tgt := 9) hx hb dX2_dropLatest_4 (by decide) (fun h9 => absurd (rfl : nI 0 = 0) h9) (fun _ => ?_)
    refine lv_null hx hb dX2_dropLatest_7 ?_
    refine lv_eqv (y := va_rf (kD A old 0)) rfl ?_
    exact W.aret (rt := .object "RoofDrains$Roof") hx hb hr (Or.inl ⟨_, rfl⟩) (va_rf_or _) (fun t9 ht hW => ⟨⟨_, (), rfl, rfl, by show va_P D vwCl _ t9.heap; rw [ht]; exact hP⟩, hS.F ht⟩) hS.2.2 dX2_dropLatest_8 hlocks
  · skip
    refine lv_aload_n hx hb dX2_dropLatest_0 rfl (lv_at hl 0 rfl) ?_
    refine va_get (D := D) (ci := 2) (v := .int (nI held)) (C := RX2) (T := TX2) (N := 3) hx hb hts hinX2 hown hK hP 27 rfl rfl 2 (by decide) fl15 (fun _ h9 => h9) rfl dX2_dropLatest_1 ?_
    refine lv_if_ne (tgt := 9) hx hb dX2_dropLatest_4 (by decide) (fun _ => ?_) (fun h9 => absurd h9 (fun h9 => h0 (nI_inj0 (by omega) h9)))
    refine lv_aload_n hx hb dX2_dropLatest_9 rfl (lv_at hl 0 rfl) ?_
    refine lv_dup hx hb dX2_dropLatest_10 rfl ?_
    refine va_get (D := D) (ci := 2) (v := .int (nI held)) (C := RX2) (T := TX2) (N := 3) hx hb hts hinX2 hown hK hP 27 rfl rfl 2 (by decide) fl15 (fun _ h9 => h9) rfl dX2_dropLatest_11 ?_
    refine lv_iconst (v := 1) hx hb dX2_dropLatest_14 (by decide) ?_
    refine lv_isub hx hb dX2_dropLatest_15 ?_
    refine lv_eqi (y := nI (held - 1)) (pk_sub (a := held) (b := 1) (by omega)) ?_
    refine k_put (D := D) (ci := 2) (v := .int (nI (held - 1))) (ty := .int) (C := RX2) (T := TX2) (N := 3) hx hb hts hinX2 tyX2 tyX2_ok nmX2 hown hK hP hD hS 27 rfl rfl 2 (by decide) fl15 (fun _ h9 => h9) rfl (by decide +kernel) rfl rfl (Nat.le_of_ble_eq_true rfl) (ws' := (cO o [.ref (a 0), .ref (a2 0), .ref s0, .ref (x 0)]) ++ (cR cI a r) ++ (cR cI a2 q) ++ (cS cQ s0 w0 (zF A n) (nI old) (nI (held - 1))) ++ (cT cI x t) ++ (cZ cI A B n)) rfl dX2_dropLatest_16 (fun H locs hP hD hS => ?_)
    refine lv_aload_n hx hb dX2_dropLatest_19 rfl (lv_at hl 0 rfl) ?_
    refine va_get (D := D) (ci := 2) (v := .ref w0) (C := RX2) (T := TX2) (N := 3) hx hb hts hinX2 hown hK hP 27 rfl rfl 0 (by decide) fl11 (fun _ h9 => h9) rfl dX2_dropLatest_20 ?_
    refine lv_aload_n hx hb dX2_dropLatest_23 rfl (lv_at hl 0 rfl) ?_
    refine va_get (D := D) (ci := 2) (v := .int (nI old)) (C := RX2) (T := TX2) (N := 3) hx hb hts hinX2 hown hK hP 27 rfl rfl 1 (by decide) fl19 (fun _ h9 => h9) rfl dX2_dropLatest_24 ?_
    refine lv_aload_n hx hb dX2_dropLatest_27 rfl (lv_at hl 0 rfl) ?_
    refine va_get (D := D) (ci := 2) (v := .int (nI (held - 1))) (C := RX2) (T := TX2) (N := 3) hx hb hts hinX2 hown hK hP 27 rfl rfl 2 (by decide) fl15 (fun _ h9 => h9) rfl dX2_dropLatest_28 ?_
    refine lv_iadd hx hb dX2_dropLatest_31 ?_
    refine lv_eqi (y := nI (old + (held - 1))) (nI_add old (held - 1)) ?_
    refine lv_bipush (v := 6) hx hb dX2_dropLatest_32 (by decide) ?_
    refine lv_irem hx hb dX2_dropLatest_34 (by decide) ?_
    refine lv_eqi (y := nI ((old + (held - 1)) % 6)) (pk_rem (a := old + (held - 1)) (d := 6) (by omega) (by decide) (by decide)) ?_
    refine va_aldq hx hb hK hP 28 1 rfl rfl (vp_in_nI (n := (old + (held - 1)) % 6) (by omega) (by omega)) dX2_dropLatest_35 ?_
    refine lv_eqv (y := va_rf (kD A old held)) (by rw [nI_clamp (show (old + (held - 1)) % 6 < 2 ^ 31 by omega)]; show va_rf (zF A n ((old + (held - 1)) % 6)) = _; rw [show zF A n ((old + (held - 1)) % 6) = some (A ((old + (held - 1)) % 6) 0) from if_pos (svOk_at hok h0), show kD A old held = some (A ((old + (held - 1)) % 6) 0) from if_neg h0]) ?_
    exact W.aret (rt := .object "RoofDrains$Roof") hx hb hr (Or.inl ⟨_, rfl⟩) (va_rf_or _) (fun t9 ht hW => ⟨⟨_, (), rfl, rfl, by show va_P D vwCl _ t9.heap; rw [ht]; exact hP⟩, hS.F ht⟩) hS.2.2 dX2_dropLatest_36 hlocks
set_option maxHeartbeats 4000000 in
set_option maxRecDepth 100000 in
theorem mX2_held (l : Launch) (D : va_G) (cI cQ cJ : ClassId) (s0 w0 : Nat) (f : Nat → Option Nat) (vo vh : Int32) : Mi l D (tY cI cQ cJ) yX2_held wsX2_held ({ frames := 0, cells := 0, slots := 0, locals := 0 } : Room) [.ref s0] (cS cQ s0 w0 f vo vh) (cS cQ s0 w0 f vo vh) vh := by
  refine M_of (cc := cX2_held) (maxL := 1) (ret := some .int) (Qc := fun A => va_Qi (fun (x : Int32) (_ : Unit) => x = vh) (fun _ t => Wd D (cS cQ s0 w0 f vo vh) t) A) (by decide) rfl (Nat.le_of_ble_eq_true rfl) ?_
  intro p e s m below meth c A ls hB hE hP hK hD hA hl
  obtain ⟨hx, hb, hr, hml, hts, hown, hlocks⟩ := hB
  have hS : va_S A s.heap s.heap [] := va_S.rf
  have hl : lv_has ls 1 [(0, .ref s0)] := hl
  refine lv_aload_n hx hb dX2_held_0 rfl (lv_at hl 0 rfl) ?_
  refine va_get (D := D) (ci := 2) (v := .int vh) (C := RX2) (T := TX2) (N := 3) hx hb hts (by decide +kernel) hown hK hP 0 rfl rfl 2 (by decide) (hts (.fieldLink RX2 15 "RoofDrains$SavedRoofs" "held" "I") (by decide +kernel)) (fun _ h9 => h9) rfl dX2_held_1 ?_
  exact k_iret hx hb hr hlocks hS hP dX2_held_4 rfl
end
section
/-! the calls of the face: what they throw, what they answer -/
theorem bad1 : ∀ w ∈ (vx_atS RX3 44 "java/lang/IndexOutOfBoundsException" nmX).filter (fun w => !goodWord w), w ∈ exB "java/lang/IndexOutOfBoundsException" := by decide +kernel
theorem hot1 : ∀ w ∈ Cond.classLink RX3 40 "java/lang/IndexOutOfBoundsException" :: Cond.initialized "java/lang/IndexOutOfBoundsException" :: vx_atS RX3 44 "java/lang/IndexOutOfBoundsException" nmX, vx_ot w = true := by decide +kernel
theorem bad2 : ∀ w ∈ (vx_atS RX3 55 "java/lang/IllegalArgumentException" nmX).filter (fun w => !goodWord w), w ∈ exB "java/lang/IllegalArgumentException" := by decide +kernel
theorem hot2 : ∀ w ∈ Cond.classLink RX3 51 "java/lang/IllegalArgumentException" :: Cond.initialized "java/lang/IllegalArgumentException" :: vx_atS RX3 55 "java/lang/IllegalArgumentException" nmX, vx_ot w = true := by decide +kernel
theorem bad3 : ∀ w ∈ (vx_atS RX3 82 "java/lang/IllegalStateException" nmX).filter (fun w => !goodWord w), w ∈ exB "java/lang/IllegalStateException" := by decide +kernel
theorem hot3 : ∀ w ∈ Cond.classLink RX3 78 "java/lang/IllegalStateException" :: Cond.initialized "java/lang/IllegalStateException" :: vx_atS RX3 82 "java/lang/IllegalStateException" nmX, vx_ot w = true := by decide +kernel
theorem k_preRV {s : State} {H : Heap} {A : Nat → Prop} {D : va_G} {tys : List (ClassId × FieldType)} {wr wc : va_W} (hE : EV s) (hK : va_K D vwCl tys s) (hP : va_P D vwCl (wr ++ wc) H) (hD : va_D A (wr ++ wc)) {b ci q0 : Nat} {q : vw_C} {fs : List Value} (hc : vwCl[ci]? = some q) (he : (wr ++ wc)[q0]? = some (b, .inr (ci, fs))) (As : List Value) : PreV s H q.1 b (va_Pc (.ref b :: As) (Prx D tys H.size wc)) As :=
  ⟨(k_preR hE hK hP hD (.ref b :: As)).1, va_recv hK hP hc he, (k_preR hE hK hP hD (.ref b :: As)).2⟩
def cPla (pp ra rs rg : Int32) : Nat := if zL pp 6 = 0 then 1 else if zL rg 6 = 0 then 1 else if zW ra 0 200 = 0 then 2 else if zW rs 0 9 = 0 then 2 else 0
def cGut (pp rs rb : Int32) : Nat := if zL pp 6 = 0 then 1 else if zW rs 1 500 = 0 then 2 else if zW rb 0 99 = 0 then 2 else 0
def cVal (r : rB) (pp rt : Int32) : Nat := if zL pp 6 = 0 then 1 else if rt = -1 then (if pp = rt then 2 else if vlead r pp 6 rt = 0 then 0 else 3) else if zL rt 6 = 0 then 1 else if pp = rt then 2 else if vlead r pp 6 rt = 0 then 0 else 3
def cCle (pp : Int32) : Nat := if zL pp 6 = 0 then 1 else 0
def cSet (pp rv : Int32) : Nat := if zL pp 3 = 0 then 1 else if zW rv 0 (mosF pp.toNatClampNeg) = 0 then 2 else 0
def cRai (rx rm : Int32) : Nat := if zW rx 0 99 = 0 then 2 else if zW rm 1 60 = 0 then 2 else 0
def cWks (rm : Int32) : Nat := if zW rm 1 52 = 0 then 2 else 0
def cUnd (held : Nat) : Nat := if held = 0 then 3 else 0
def cPof (pp rw : Int32) : Nat := if zL pp 6 = 0 then 1 else if zW rw 0 3 = 0 then 2 else 0
def cGof (pp rw : Int32) : Nat := if zL pp 6 = 0 then 1 else if zW rw 0 8 = 0 then 2 else 0
def cStg (pp : Int32) : Nat := if zL pp 3 = 0 then 1 else 0
set_option maxHeartbeats 4000000 in
set_option maxRecDepth 100000 in
theorem xX3_plane (l : Launch) (hfl : l.stackTraces = false) (D : va_G) (cI cQ cJ : ClassId) (o s0 w0 : Nat) (x a a2 : Nat → Nat) (A : Nat → Nat → Nat) (r q t : rB) (n old held : Nat) (B : Nat → rB) (pp ra rs rg : Int32) (hok : svOk n old held)  : XM l D (tY cI cQ cJ) yX3_plane wsX3_plane ({ frames := 6, cells := 14, slots := 91, locals := 112 } : Room) [.ref o, .int pp, .int ra, .int rs, .int rg] (WX cI cQ o s0 w0 x a a2 A r q t n (zF A n) (nI old) (nI held) B) (cPla pp ra rs rg) (fun z w' => ∃ u : Nat → Nat → Nat, z = r 0 pp.toNatClampNeg ∧ w' = WX cI cQ o s0 w0 x a a2 u (bp (bp (bp r 0 pp.toNatClampNeg ra) 1 pp.toNatClampNeg rs) 2 pp.toNatClampNeg rg) q t (kN n old held) (zF u (kN n old held)) (nI (kO old held)) (nI (kH held + 1)) (kB B old held r)) := by
  refine X_of (cc := cX3_plane) (maxL := 5) (ret := some .int) (by decide) rfl (Nat.le_of_ble_eq_true rfl) ?_
  intro p e s m below meth c A0 ls hB hT hE hX hP hK hD hA0 hl
  obtain ⟨hx, hb, hr, hml, hts, hown, hlocks⟩ := hB
  have hS : va_S A0 s.heap s.heap [] := va_S.rf
  have hA := hA0
  have hl : lv_has ls 5 [(0, .ref o), (1, .int pp), (2, .int ra), (3, .int rs), (4, .int rg)] := hl
  have hinX3 : ∀ w ∈ u_ws RX3 TX3 4, w ∈ wsX3_plane := by decide +kernel
  have fl22 := hts (.fieldLink RX3 22 "RoofDrains" "saved" "LRoofDrains$SavedRoofs;") (by decide +kernel)
  have fl10 := hts (.fieldLink RX3 10 "RoofDrains" "roof" "LRoofDrains$Roof;") (by decide +kernel)
  refine lv_iload_n hx hb dX3_plane_0 rfl (lv_at hl 1 rfl) ?_
  refine k_calli (wc := ([] : va_W)) (w' := ([] : va_W)) (wn := (cO o [.ref (a 0), .ref (a2 0), .ref s0, .ref (x 0)]) ++ (cR cI a r) ++ (cR cI a2 q) ++ (cS cQ s0 w0 (zF A n) (nI old) (nI held)) ++ (cT cI x t) ++ (cZ cI A B n)) (va_runS (As := [.int pp]) (rest := []) ⟨hx, hb, hml, hown, hts⟩ (mX3_isPlane l D cI cQ cJ pp _) (va_cwS 1 hts gX3_plane_X3_isPlane rfl rfl rfl (by decide +kernel) ⟨Nat.le_of_ble_eq_true rfl, Nat.le_of_ble_eq_true rfl⟩) (k_preS (wc := ([] : va_W)) hE hK hP hD [] (by decide) rfl [.int pp]) rfl rfl hl.1 rfl (lv_room (Nat.le_of_ble_eq_true rfl)) dX3_plane_1 ⟨Nat.le_of_ble_eq_true rfl, Nat.le_of_ble_eq_true rfl⟩) hP hD hS hA [] rfl rfl rfl (fun H locs hP hD hS => ?_)
  refine lv_if_eq (tgt := 15) hx hb dX3_plane_4 (by decide) (fun c_1 => ?_) (fun c_1 => ?_)
  · skip
    exact x_throw (E := "java/lang/IndexOutOfBoundsException") (kE := 1) (text := "no such plane or gutter") (ik := 40) (is := 42) (ic := 44) (Ts := wsX3_plane) hfl hx hb hml hts hown hX hS hP hT hlocks rfl (by simp [eIOB, eIAE, eISE]) (by decide +kernel) (by decide +kernel) (fun _ h => List.mem_cons_of_mem _ (List.mem_append_left _ (List.mem_append_right _ h))) bad1 hot1 (by decide +kernel) (by decide +kernel) hl.1 (by simp only [cPla, if_pos c_1, ↓reduceIte]) (by decide) dX3_plane_15 dX3_plane_18 dX3_plane_19 dX3_plane_21 dX3_plane_24 (Nat.le_of_ble_eq_true rfl) (Nat.le_of_ble_eq_true rfl) (Nat.le_of_ble_eq_true rfl) (Nat.le_of_ble_eq_true rfl) (Nat.le_of_ble_eq_true rfl) (Nat.le_of_ble_eq_true rfl)
  · skip
    refine lv_iload hx hb dX3_plane_7 (lv_at hl 4 rfl) ?_
    refine k_calli (wc := ([] : va_W)) (w' := ([] : va_W)) (wn := (cO o [.ref (a 0), .ref (a2 0), .ref s0, .ref (x 0)]) ++ (cR cI a r) ++ (cR cI a2 q) ++ (cS cQ s0 w0 (zF A n) (nI old) (nI held)) ++ (cT cI x t) ++ (cZ cI A B n)) (va_runS (As := [.int rg]) (rest := []) ⟨hx, hb, hml, hown, hts⟩ (mX3_isGutter l D cI cQ cJ rg _) (va_cwS 1 hts gX3_plane_X3_isGutter rfl rfl rfl (by decide +kernel) ⟨Nat.le_of_ble_eq_true rfl, Nat.le_of_ble_eq_true rfl⟩) (k_preS (wc := ([] : va_W)) hE hK hP hD [] (by decide) rfl [.int rg]) rfl rfl hl.1 rfl (lv_room (Nat.le_of_ble_eq_true rfl)) dX3_plane_9 ⟨Nat.le_of_ble_eq_true rfl, Nat.le_of_ble_eq_true rfl⟩) hP hD hS hA [] rfl rfl rfl (fun H locs hP hD hS => ?_)
    refine lv_if_ne (tgt := 25) hx hb dX3_plane_12 (by decide) (fun c_2 => ?_) (fun c_2 => ?_)
    · skip
      refine lv_iload_n hx hb dX3_plane_25 rfl (lv_at hl 2 rfl) ?_
      refine lv_iconst (v := 0) hx hb dX3_plane_26 (by decide) ?_
      refine lv_sipush (v := 200) hx hb dX3_plane_27 (by decide) ?_
      refine k_calli (wc := ([] : va_W)) (w' := ([] : va_W)) (wn := (cO o [.ref (a 0), .ref (a2 0), .ref s0, .ref (x 0)]) ++ (cR cI a r) ++ (cR cI a2 q) ++ (cS cQ s0 w0 (zF A n) (nI old) (nI held)) ++ (cT cI x t) ++ (cZ cI A B n)) (va_runS (As := [.int ra, .int 0, .int 200]) (rest := []) ⟨hx, hb, hml, hown, hts⟩ (mX3_isWithin l D cI cQ cJ ra 0 200 _) (va_cwS 3 hts gX3_plane_X3_isWithin rfl rfl rfl (by decide +kernel) ⟨Nat.le_of_ble_eq_true rfl, Nat.le_of_ble_eq_true rfl⟩) (k_preS (wc := ([] : va_W)) hE hK hP hD [] (by decide) rfl [.int ra, .int 0, .int 200]) rfl rfl hl.1 rfl (lv_room (Nat.le_of_ble_eq_true rfl)) dX3_plane_30 ⟨Nat.le_of_ble_eq_true rfl, Nat.le_of_ble_eq_true rfl⟩) hP hD hS hA [] rfl rfl rfl (fun H locs hP hD hS => ?_)
      refine lv_if_eq (tgt := 46) hx hb dX3_plane_33 (by decide) (fun c_3 => ?_) (fun c_3 => ?_)
      · skip
        exact x_throw (E := "java/lang/IllegalArgumentException") (kE := 2) (text := "area or slope out of range") (ik := 51) (is := 53) (ic := 55) (Ts := wsX3_plane) hfl hx hb hml hts hown hX hS hP hT hlocks rfl (by simp [eIOB, eIAE, eISE]) (by decide +kernel) (by decide +kernel) (fun _ h => List.mem_cons_of_mem _ (List.mem_append_right _ h)) bad2 hot2 (by decide +kernel) (by decide +kernel) hl.1 (by simp only [cPla, if_neg c_1, if_neg c_2, if_pos c_3, ↓reduceIte]) (by decide) dX3_plane_46 dX3_plane_49 dX3_plane_50 dX3_plane_52 dX3_plane_55 (Nat.le_of_ble_eq_true rfl) (Nat.le_of_ble_eq_true rfl) (Nat.le_of_ble_eq_true rfl) (Nat.le_of_ble_eq_true rfl) (Nat.le_of_ble_eq_true rfl) (Nat.le_of_ble_eq_true rfl)
      · skip
        refine lv_iload_n hx hb dX3_plane_36 rfl (lv_at hl 3 rfl) ?_
        refine lv_iconst (v := 0) hx hb dX3_plane_37 (by decide) ?_
        refine lv_bipush (v := 9) hx hb dX3_plane_38 (by decide) ?_
        refine k_calli (wc := ([] : va_W)) (w' := ([] : va_W)) (wn := (cO o [.ref (a 0), .ref (a2 0), .ref s0, .ref (x 0)]) ++ (cR cI a r) ++ (cR cI a2 q) ++ (cS cQ s0 w0 (zF A n) (nI old) (nI held)) ++ (cT cI x t) ++ (cZ cI A B n)) (va_runS (As := [.int rs, .int 0, .int 9]) (rest := []) ⟨hx, hb, hml, hown, hts⟩ (mX3_isWithin l D cI cQ cJ rs 0 9 _) (va_cwS 3 hts gX3_plane_X3_isWithin rfl rfl rfl (by decide +kernel) ⟨Nat.le_of_ble_eq_true rfl, Nat.le_of_ble_eq_true rfl⟩) (k_preS (wc := ([] : va_W)) hE hK hP hD [] (by decide) rfl [.int rs, .int 0, .int 9]) rfl rfl hl.1 rfl (lv_room (Nat.le_of_ble_eq_true rfl)) dX3_plane_40 ⟨Nat.le_of_ble_eq_true rfl, Nat.le_of_ble_eq_true rfl⟩) hP hD hS hA [] rfl rfl rfl (fun H locs hP hD hS => ?_)
        refine lv_if_ne (tgt := 56) hx hb dX3_plane_43 (by decide) (fun c_4 => ?_) (fun c_4 => ?_)
        · skip
          refine lv_aload_n hx hb dX3_plane_56 rfl (lv_at hl 0 rfl) ?_
          refine va_get (D := D) (ci := 3) (v := .ref s0) (C := RX3) (T := TX3) (N := 4) hx hb hts hinX3 hown hK hP 0 rfl rfl 2 (by decide) fl22 (fun _ h9 => h9) rfl dX3_plane_57 ?_
          refine lv_aload_n hx hb dX3_plane_60 rfl (lv_at hl 0 rfl) ?_
          refine va_get (D := D) (ci := 3) (v := .ref (a 0)) (C := RX3) (T := TX3) (N := 4) hx hb hts hinX3 hown hK hP 0 rfl rfl 0 (by decide) fl10 (fun _ h9 => h9) rfl dX3_plane_61 ?_
          refine k_calln (wr := []) (wc := (cO o [.ref (a 0), .ref (a2 0), .ref s0, .ref (x 0)]) ++ (cR cI a r) ++ (cR cI a2 q) ++ (cS cQ s0 w0 (zF A n) (nI old) (nI held)) ++ (cT cI x t) ++ (cZ cI A B n)) (w' := fun u => WX cI cQ o s0 w0 x a a2 u r q t (kN n old held) (zF u (kN n old held)) (nI (kO old held)) (nI (kH held + 1)) (kB B old held r)) (va_runV (As := [.ref (a 0)]) (rest := []) ⟨hx, hb, hml, hown, hts⟩ (mX2_keep l D cI cQ cJ o s0 w0 x a a2 A r q t n old held B hok _) (cwV 1 hts gX3_plane_X2_keep rfl rfl rfl (by decide +kernel) ⟨Nat.le_of_ble_eq_true rfl, Nat.le_of_ble_eq_true rfl⟩) (k_preRV (wr := []) (wc := (cO o [.ref (a 0), .ref (a2 0), .ref s0, .ref (x 0)]) ++ (cR cI a r) ++ (cR cI a2 q) ++ (cS cQ s0 w0 (zF A n) (nI old) (nI held)) ++ (cT cI x t) ++ (cZ cI A B n)) hE hK hP hD (ci := 2) (q0 := 27) rfl rfl [.ref (a 0)]) rfl rfl hl.1 rfl (lv_room (Nat.le_of_ble_eq_true rfl)) dX3_plane_64 ⟨Nat.le_of_ble_eq_true rfl, Nat.le_of_ble_eq_true rfl⟩) hP hD hS hA0 (fun u H locs hP hD hS => ?_)
          have hP : va_P D vwCl ((cO o [.ref (a 0), .ref (a2 0), .ref s0, .ref (x 0)]) ++ (cR cI a r) ++ (cR cI a2 q) ++ (cS cQ s0 w0 (zF u (kN n old held)) (nI (kO old held)) (nI (kH held + 1))) ++ (cT cI x t) ++ (cZ cI u (kB B old held r) (kN n old held))) H := hP
          have hD : va_D A0 ((cO o [.ref (a 0), .ref (a2 0), .ref s0, .ref (x 0)]) ++ (cR cI a r) ++ (cR cI a2 q) ++ (cS cQ s0 w0 (zF u (kN n old held)) (nI (kO old held)) (nI (kH held + 1))) ++ (cT cI x t) ++ (cZ cI u (kB B old held r) (kN n old held))) := hD
          refine lv_aload_n hx hb dX3_plane_67 rfl (lv_at hl 0 rfl) ?_
          refine va_get (D := D) (ci := 3) (v := .ref (a 0)) (C := RX3) (T := TX3) (N := 4) hx hb hts hinX3 hown hK hP 0 rfl rfl 0 (by decide) fl10 (fun _ h9 => h9) rfl dX3_plane_68 ?_
          refine lv_iload_n hx hb dX3_plane_71 rfl (lv_at hl 1 rfl) ?_
          refine lv_iload_n hx hb dX3_plane_72 rfl (lv_at hl 2 rfl) ?_
          refine lv_iload_n hx hb dX3_plane_73 rfl (lv_at hl 3 rfl) ?_
          refine lv_iload hx hb dX3_plane_74 (lv_at hl 4 rfl) ?_
          obtain ⟨r_5, er_5⟩ : ∃ z : rB, z = bp (bp (bp r 0 pp.toNatClampNeg ra) 1 pp.toNatClampNeg rs) 2 pp.toNatClampNeg rg := ⟨_, rfl⟩
          have hm_6 := mX1_changePlane l D cI cQ cJ a r pp pp.toNatClampNeg (zL_in (n := 6) rfl rfl c_1) rfl ra rs rg
          rw [← er_5] at hm_6
          refine k_calli (wc := cR cI a r) (w' := cR cI a r_5) (wn := (cO o [.ref (a 0), .ref (a2 0), .ref s0, .ref (x 0)]) ++ (cR cI a r_5) ++ (cR cI a2 q) ++ (cS cQ s0 w0 (zF u (kN n old held)) (nI (kO old held)) (nI (kH held + 1))) ++ (cT cI x t) ++ (cZ cI u (kB B old held r) (kN n old held))) (va_runV (As := [.int pp, .int ra, .int rs, .int rg]) (rest := []) ⟨hx, hb, hml, hown, hts⟩ (hm_6 _) (cwV 4 hts gX3_plane_X1_changePlane rfl rfl rfl (by decide +kernel) ⟨Nat.le_of_ble_eq_true rfl, Nat.le_of_ble_eq_true rfl⟩) (k_preV (wc := cR cI a r) hE hK hP hD [1, 2, 3, 4, 5, 6, 7, 8, 9, 10, 11, 12, 13] (by decide) rfl (ci := 1) (q0 := 1) rfl rfl [.int pp, .int ra, .int rs, .int rg]) rfl rfl hl.1 rfl (lv_room (Nat.le_of_ble_eq_true rfl)) dX3_plane_76 ⟨Nat.le_of_ble_eq_true rfl, Nat.le_of_ble_eq_true rfl⟩) hP hD hS hA [1, 2, 3, 4, 5, 6, 7, 8, 9, 10, 11, 12, 13] rfl rfl (by rw [show [1, 2, 3, 4, 5, 6, 7, 8, 9, 10, 11, 12, 13] = List.range' 1 13 from rfl, putAt_l _ _ _ _ 31, putAt_l _ _ _ _ 29, putAt_l _ _ _ _ 27, putAt_l _ _ _ _ 14, putAt_0 13 _ _ _ 1] <;> first | rfl | decide) (fun H locs hP hD hS => ?_)
          replace er_5 := er_5.symm; subst er_5
          exact x_iret hx hb hr hlocks hS hP hD dX3_plane_79 (by simp only [cPla, if_neg c_1, if_neg c_2, if_neg c_3, if_neg c_4, ↓reduceIte]) ⟨u, rfl, rfl⟩ (Nat.le_of_ble_eq_true rfl) (Nat.le_of_ble_eq_true rfl)
        · skip
          exact x_throw (E := "java/lang/IllegalArgumentException") (kE := 2) (text := "area or slope out of range") (ik := 51) (is := 53) (ic := 55) (Ts := wsX3_plane) hfl hx hb hml hts hown hX hS hP hT hlocks rfl (by simp [eIOB, eIAE, eISE]) (by decide +kernel) (by decide +kernel) (fun _ h => List.mem_cons_of_mem _ (List.mem_append_right _ h)) bad2 hot2 (by decide +kernel) (by decide +kernel) hl.1 (by simp only [cPla, if_neg c_1, if_neg c_2, if_neg c_3, if_pos c_4, ↓reduceIte]) (by decide) dX3_plane_46 dX3_plane_49 dX3_plane_50 dX3_plane_52 dX3_plane_55 (Nat.le_of_ble_eq_true rfl) (Nat.le_of_ble_eq_true rfl) (Nat.le_of_ble_eq_true rfl) (Nat.le_of_ble_eq_true rfl) (Nat.le_of_ble_eq_true rfl) (Nat.le_of_ble_eq_true rfl)
    · skip
      exact x_throw (E := "java/lang/IndexOutOfBoundsException") (kE := 1) (text := "no such plane or gutter") (ik := 40) (is := 42) (ic := 44) (Ts := wsX3_plane) hfl hx hb hml hts hown hX hS hP hT hlocks rfl (by simp [eIOB, eIAE, eISE]) (by decide +kernel) (by decide +kernel) (fun _ h => List.mem_cons_of_mem _ (List.mem_append_left _ (List.mem_append_right _ h))) bad1 hot1 (by decide +kernel) (by decide +kernel) hl.1 (by simp only [cPla, if_neg c_1, if_pos c_2, ↓reduceIte]) (by decide) dX3_plane_15 dX3_plane_18 dX3_plane_19 dX3_plane_21 dX3_plane_24 (Nat.le_of_ble_eq_true rfl) (Nat.le_of_ble_eq_true rfl) (Nat.le_of_ble_eq_true rfl) (Nat.le_of_ble_eq_true rfl) (Nat.le_of_ble_eq_true rfl) (Nat.le_of_ble_eq_true rfl)
set_option maxHeartbeats 4000000 in
set_option maxRecDepth 100000 in
theorem xX3_gutter (l : Launch) (hfl : l.stackTraces = false) (D : va_G) (cI cQ cJ : ClassId) (o s0 w0 : Nat) (x a a2 : Nat → Nat) (A : Nat → Nat → Nat) (r q t : rB) (n old held : Nat) (B : Nat → rB) (pp rs rb : Int32) (hok : svOk n old held)  : XM l D (tY cI cQ cJ) yX3_gutter wsX3_gutter ({ frames := 6, cells := 14, slots := 91, locals := 112 } : Room) [.ref o, .int pp, .int rs, .int rb] (WX cI cQ o s0 w0 x a a2 A r q t n (zF A n) (nI old) (nI held) B) (cGut pp rs rb) (fun z w' => ∃ u : Nat → Nat → Nat, z = r 4 pp.toNatClampNeg ∧ w' = WX cI cQ o s0 w0 x a a2 u (bp (bp r 4 pp.toNatClampNeg rs) 5 pp.toNatClampNeg rb) q t (kN n old held) (zF u (kN n old held)) (nI (kO old held)) (nI (kH held + 1)) (kB B old held r)) := by
  refine X_of (cc := cX3_gutter) (maxL := 4) (ret := some .int) (by decide) rfl (Nat.le_of_ble_eq_true rfl) ?_
  intro p e s m below meth c A0 ls hB hT hE hX hP hK hD hA0 hl
  obtain ⟨hx, hb, hr, hml, hts, hown, hlocks⟩ := hB
  have hS : va_S A0 s.heap s.heap [] := va_S.rf
  have hA := hA0
  have hl : lv_has ls 4 [(0, .ref o), (1, .int pp), (2, .int rs), (3, .int rb)] := hl
  have hinX3 : ∀ w ∈ u_ws RX3 TX3 4, w ∈ wsX3_gutter := by decide +kernel
  have fl22 := hts (.fieldLink RX3 22 "RoofDrains" "saved" "LRoofDrains$SavedRoofs;") (by decide +kernel)
  have fl10 := hts (.fieldLink RX3 10 "RoofDrains" "roof" "LRoofDrains$Roof;") (by decide +kernel)
  refine lv_iload_n hx hb dX3_gutter_0 rfl (lv_at hl 1 rfl) ?_
  refine k_calli (wc := ([] : va_W)) (w' := ([] : va_W)) (wn := (cO o [.ref (a 0), .ref (a2 0), .ref s0, .ref (x 0)]) ++ (cR cI a r) ++ (cR cI a2 q) ++ (cS cQ s0 w0 (zF A n) (nI old) (nI held)) ++ (cT cI x t) ++ (cZ cI A B n)) (va_runS (As := [.int pp]) (rest := []) ⟨hx, hb, hml, hown, hts⟩ (mX3_isGutter l D cI cQ cJ pp _) (va_cwS 1 hts gX3_gutter_X3_isGutter rfl rfl rfl (by decide +kernel) ⟨Nat.le_of_ble_eq_true rfl, Nat.le_of_ble_eq_true rfl⟩) (k_preS (wc := ([] : va_W)) hE hK hP hD [] (by decide) rfl [.int pp]) rfl rfl hl.1 rfl (lv_room (Nat.le_of_ble_eq_true rfl)) dX3_gutter_1 ⟨Nat.le_of_ble_eq_true rfl, Nat.le_of_ble_eq_true rfl⟩) hP hD hS hA [] rfl rfl rfl (fun H locs hP hD hS => ?_)
  refine lv_if_ne (tgt := 17) hx hb dX3_gutter_4 (by decide) (fun c_1 => ?_) (fun c_1 => ?_)
  · skip
    refine lv_iload_n hx hb dX3_gutter_17 rfl (lv_at hl 2 rfl) ?_
    refine lv_iconst (v := 1) hx hb dX3_gutter_18 (by decide) ?_
    refine lv_sipush (v := 500) hx hb dX3_gutter_19 (by decide) ?_
    refine k_calli (wc := ([] : va_W)) (w' := ([] : va_W)) (wn := (cO o [.ref (a 0), .ref (a2 0), .ref s0, .ref (x 0)]) ++ (cR cI a r) ++ (cR cI a2 q) ++ (cS cQ s0 w0 (zF A n) (nI old) (nI held)) ++ (cT cI x t) ++ (cZ cI A B n)) (va_runS (As := [.int rs, .int 1, .int 500]) (rest := []) ⟨hx, hb, hml, hown, hts⟩ (mX3_isWithin l D cI cQ cJ rs 1 500 _) (va_cwS 3 hts gX3_gutter_X3_isWithin rfl rfl rfl (by decide +kernel) ⟨Nat.le_of_ble_eq_true rfl, Nat.le_of_ble_eq_true rfl⟩) (k_preS (wc := ([] : va_W)) hE hK hP hD [] (by decide) rfl [.int rs, .int 1, .int 500]) rfl rfl hl.1 rfl (lv_room (Nat.le_of_ble_eq_true rfl)) dX3_gutter_22 ⟨Nat.le_of_ble_eq_true rfl, Nat.le_of_ble_eq_true rfl⟩) hP hD hS hA [] rfl rfl rfl (fun H locs hP hD hS => ?_)
    refine lv_if_eq (tgt := 38) hx hb dX3_gutter_25 (by decide) (fun c_2 => ?_) (fun c_2 => ?_)
    · skip
      exact x_throw (E := "java/lang/IllegalArgumentException") (kE := 2) (text := "size or bore out of range") (ik := 51) (is := 66) (ic := 55) (Ts := wsX3_gutter) hfl hx hb hml hts hown hX hS hP hT hlocks rfl (by simp [eIOB, eIAE, eISE]) (by decide +kernel) (by decide +kernel) (fun _ h => List.mem_cons_of_mem _ (List.mem_append_right _ h)) bad2 hot2 (by decide +kernel) (by decide +kernel) hl.1 (by simp only [cGut, if_neg c_1, if_pos c_2, ↓reduceIte]) (by decide) dX3_gutter_38 dX3_gutter_41 dX3_gutter_42 dX3_gutter_44 dX3_gutter_47 (Nat.le_of_ble_eq_true rfl) (Nat.le_of_ble_eq_true rfl) (Nat.le_of_ble_eq_true rfl) (Nat.le_of_ble_eq_true rfl) (Nat.le_of_ble_eq_true rfl) (Nat.le_of_ble_eq_true rfl)
    · skip
      refine lv_iload_n hx hb dX3_gutter_28 rfl (lv_at hl 3 rfl) ?_
      refine lv_iconst (v := 0) hx hb dX3_gutter_29 (by decide) ?_
      refine lv_bipush (v := 99) hx hb dX3_gutter_30 (by decide) ?_
      refine k_calli (wc := ([] : va_W)) (w' := ([] : va_W)) (wn := (cO o [.ref (a 0), .ref (a2 0), .ref s0, .ref (x 0)]) ++ (cR cI a r) ++ (cR cI a2 q) ++ (cS cQ s0 w0 (zF A n) (nI old) (nI held)) ++ (cT cI x t) ++ (cZ cI A B n)) (va_runS (As := [.int rb, .int 0, .int 99]) (rest := []) ⟨hx, hb, hml, hown, hts⟩ (mX3_isWithin l D cI cQ cJ rb 0 99 _) (va_cwS 3 hts gX3_gutter_X3_isWithin rfl rfl rfl (by decide +kernel) ⟨Nat.le_of_ble_eq_true rfl, Nat.le_of_ble_eq_true rfl⟩) (k_preS (wc := ([] : va_W)) hE hK hP hD [] (by decide) rfl [.int rb, .int 0, .int 99]) rfl rfl hl.1 rfl (lv_room (Nat.le_of_ble_eq_true rfl)) dX3_gutter_32 ⟨Nat.le_of_ble_eq_true rfl, Nat.le_of_ble_eq_true rfl⟩) hP hD hS hA [] rfl rfl rfl (fun H locs hP hD hS => ?_)
      refine lv_if_ne (tgt := 48) hx hb dX3_gutter_35 (by decide) (fun c_3 => ?_) (fun c_3 => ?_)
      · skip
        refine lv_aload_n hx hb dX3_gutter_48 rfl (lv_at hl 0 rfl) ?_
        refine va_get (D := D) (ci := 3) (v := .ref s0) (C := RX3) (T := TX3) (N := 4) hx hb hts hinX3 hown hK hP 0 rfl rfl 2 (by decide) fl22 (fun _ h9 => h9) rfl dX3_gutter_49 ?_
        refine lv_aload_n hx hb dX3_gutter_52 rfl (lv_at hl 0 rfl) ?_
        refine va_get (D := D) (ci := 3) (v := .ref (a 0)) (C := RX3) (T := TX3) (N := 4) hx hb hts hinX3 hown hK hP 0 rfl rfl 0 (by decide) fl10 (fun _ h9 => h9) rfl dX3_gutter_53 ?_
        refine k_calln (wr := []) (wc := (cO o [.ref (a 0), .ref (a2 0), .ref s0, .ref (x 0)]) ++ (cR cI a r) ++ (cR cI a2 q) ++ (cS cQ s0 w0 (zF A n) (nI old) (nI held)) ++ (cT cI x t) ++ (cZ cI A B n)) (w' := fun u => WX cI cQ o s0 w0 x a a2 u r q t (kN n old held) (zF u (kN n old held)) (nI (kO old held)) (nI (kH held + 1)) (kB B old held r)) (va_runV (As := [.ref (a 0)]) (rest := []) ⟨hx, hb, hml, hown, hts⟩ (mX2_keep l D cI cQ cJ o s0 w0 x a a2 A r q t n old held B hok _) (cwV 1 hts gX3_gutter_X2_keep rfl rfl rfl (by decide +kernel) ⟨Nat.le_of_ble_eq_true rfl, Nat.le_of_ble_eq_true rfl⟩) (k_preRV (wr := []) (wc := (cO o [.ref (a 0), .ref (a2 0), .ref s0, .ref (x 0)]) ++ (cR cI a r) ++ (cR cI a2 q) ++ (cS cQ s0 w0 (zF A n) (nI old) (nI held)) ++ (cT cI x t) ++ (cZ cI A B n)) hE hK hP hD (ci := 2) (q0 := 27) rfl rfl [.ref (a 0)]) rfl rfl hl.1 rfl (lv_room (Nat.le_of_ble_eq_true rfl)) dX3_gutter_56 ⟨Nat.le_of_ble_eq_true rfl, Nat.le_of_ble_eq_true rfl⟩) hP hD hS hA0 (fun u H locs hP hD hS => ?_)
        have hP : va_P D vwCl ((cO o [.ref (a 0), .ref (a2 0), .ref s0, .ref (x 0)]) ++ (cR cI a r) ++ (cR cI a2 q) ++ (cS cQ s0 w0 (zF u (kN n old held)) (nI (kO old held)) (nI (kH held + 1))) ++ (cT cI x t) ++ (cZ cI u (kB B old held r) (kN n old held))) H := hP
        have hD : va_D A0 ((cO o [.ref (a 0), .ref (a2 0), .ref s0, .ref (x 0)]) ++ (cR cI a r) ++ (cR cI a2 q) ++ (cS cQ s0 w0 (zF u (kN n old held)) (nI (kO old held)) (nI (kH held + 1))) ++ (cT cI x t) ++ (cZ cI u (kB B old held r) (kN n old held))) := hD
        refine lv_aload_n hx hb dX3_gutter_59 rfl (lv_at hl 0 rfl) ?_
        refine va_get (D := D) (ci := 3) (v := .ref (a 0)) (C := RX3) (T := TX3) (N := 4) hx hb hts hinX3 hown hK hP 0 rfl rfl 0 (by decide) fl10 (fun _ h9 => h9) rfl dX3_gutter_60 ?_
        refine lv_iload_n hx hb dX3_gutter_63 rfl (lv_at hl 1 rfl) ?_
        refine lv_iload_n hx hb dX3_gutter_64 rfl (lv_at hl 2 rfl) ?_
        refine lv_iload_n hx hb dX3_gutter_65 rfl (lv_at hl 3 rfl) ?_
        obtain ⟨r_4, er_4⟩ : ∃ z : rB, z = bp (bp r 4 pp.toNatClampNeg rs) 5 pp.toNatClampNeg rb := ⟨_, rfl⟩
        have hm_5 := mX1_changeGutter l D cI cQ cJ a r pp pp.toNatClampNeg (zL_in (n := 6) rfl rfl c_1) rfl rs rb
        rw [← er_4] at hm_5
        refine k_calli (wc := cR cI a r) (w' := cR cI a r_4) (wn := (cO o [.ref (a 0), .ref (a2 0), .ref s0, .ref (x 0)]) ++ (cR cI a r_4) ++ (cR cI a2 q) ++ (cS cQ s0 w0 (zF u (kN n old held)) (nI (kO old held)) (nI (kH held + 1))) ++ (cT cI x t) ++ (cZ cI u (kB B old held r) (kN n old held))) (va_runV (As := [.int pp, .int rs, .int rb]) (rest := []) ⟨hx, hb, hml, hown, hts⟩ (hm_5 _) (cwV 3 hts gX3_gutter_X1_changeGutter rfl rfl rfl (by decide +kernel) ⟨Nat.le_of_ble_eq_true rfl, Nat.le_of_ble_eq_true rfl⟩) (k_preV (wc := cR cI a r) hE hK hP hD [1, 2, 3, 4, 5, 6, 7, 8, 9, 10, 11, 12, 13] (by decide) rfl (ci := 1) (q0 := 1) rfl rfl [.int pp, .int rs, .int rb]) rfl rfl hl.1 rfl (lv_room (Nat.le_of_ble_eq_true rfl)) dX3_gutter_66 ⟨Nat.le_of_ble_eq_true rfl, Nat.le_of_ble_eq_true rfl⟩) hP hD hS hA [1, 2, 3, 4, 5, 6, 7, 8, 9, 10, 11, 12, 13] rfl rfl (by rw [show [1, 2, 3, 4, 5, 6, 7, 8, 9, 10, 11, 12, 13] = List.range' 1 13 from rfl, putAt_l _ _ _ _ 31, putAt_l _ _ _ _ 29, putAt_l _ _ _ _ 27, putAt_l _ _ _ _ 14, putAt_0 13 _ _ _ 1] <;> first | rfl | decide) (fun H locs hP hD hS => ?_)
        replace er_4 := er_4.symm; subst er_4
        exact x_iret hx hb hr hlocks hS hP hD dX3_gutter_69 (by simp only [cGut, if_neg c_1, if_neg c_2, if_neg c_3, ↓reduceIte]) ⟨u, rfl, rfl⟩ (Nat.le_of_ble_eq_true rfl) (Nat.le_of_ble_eq_true rfl)
      · skip
        exact x_throw (E := "java/lang/IllegalArgumentException") (kE := 2) (text := "size or bore out of range") (ik := 51) (is := 66) (ic := 55) (Ts := wsX3_gutter) hfl hx hb hml hts hown hX hS hP hT hlocks rfl (by simp [eIOB, eIAE, eISE]) (by decide +kernel) (by decide +kernel) (fun _ h => List.mem_cons_of_mem _ (List.mem_append_right _ h)) bad2 hot2 (by decide +kernel) (by decide +kernel) hl.1 (by simp only [cGut, if_neg c_1, if_neg c_2, if_pos c_3, ↓reduceIte]) (by decide) dX3_gutter_38 dX3_gutter_41 dX3_gutter_42 dX3_gutter_44 dX3_gutter_47 (Nat.le_of_ble_eq_true rfl) (Nat.le_of_ble_eq_true rfl) (Nat.le_of_ble_eq_true rfl) (Nat.le_of_ble_eq_true rfl) (Nat.le_of_ble_eq_true rfl) (Nat.le_of_ble_eq_true rfl)
  · skip
    exact x_throw (E := "java/lang/IndexOutOfBoundsException") (kE := 1) (text := "no such gutter") (ik := 40) (is := 64) (ic := 44) (Ts := wsX3_gutter) hfl hx hb hml hts hown hX hS hP hT hlocks rfl (by simp [eIOB, eIAE, eISE]) (by decide +kernel) (by decide +kernel) (fun _ h => List.mem_cons_of_mem _ (List.mem_append_left _ (List.mem_append_right _ h))) bad1 hot1 (by decide +kernel) (by decide +kernel) hl.1 (by simp only [cGut, if_pos c_1, ↓reduceIte]) (by decide) dX3_gutter_7 dX3_gutter_10 dX3_gutter_11 dX3_gutter_13 dX3_gutter_16 (Nat.le_of_ble_eq_true rfl) (Nat.le_of_ble_eq_true rfl) (Nat.le_of_ble_eq_true rfl) (Nat.le_of_ble_eq_true rfl) (Nat.le_of_ble_eq_true rfl) (Nat.le_of_ble_eq_true rfl)
set_option maxHeartbeats 4000000 in
set_option maxRecDepth 100000 in
theorem xX3_valley (l : Launch) (hfl : l.stackTraces = false) (D : va_G) (cI cQ cJ : ClassId) (o s0 w0 : Nat) (x a a2 : Nat → Nat) (A : Nat → Nat → Nat) (r q t : rB) (n old held : Nat) (B : Nat → rB) (pp rt : Int32) (hok : svOk n old held)  : XM l D (tY cI cQ cJ) yX3_valley wsX3_valley ({ frames := 6, cells := 14, slots := 91, locals := 112 } : Room) [.ref o, .int pp, .int rt] (WX cI cQ o s0 w0 x a a2 A r q t n (zF A n) (nI old) (nI held) B) (cVal r pp rt) (fun z w' => ∃ u : Nat → Nat → Nat, z = r 7 pp.toNatClampNeg ∧ w' = WX cI cQ o s0 w0 x a a2 u (bp r 7 pp.toNatClampNeg rt) q t (kN n old held) (zF u (kN n old held)) (nI (kO old held)) (nI (kH held + 1)) (kB B old held r)) := by
  refine X_of (cc := cX3_valley) (maxL := 3) (ret := some .int) (by decide) rfl (Nat.le_of_ble_eq_true rfl) ?_
  intro p e s m below meth c A0 ls hB hT hE hX hP hK hD hA0 hl
  obtain ⟨hx, hb, hr, hml, hts, hown, hlocks⟩ := hB
  have hS : va_S A0 s.heap s.heap [] := va_S.rf
  have hA := hA0
  have hl : lv_has ls 3 [(0, .ref o), (1, .int pp), (2, .int rt)] := hl
  have hinX3 : ∀ w ∈ u_ws RX3 TX3 4, w ∈ wsX3_valley := by decide +kernel
  have fl10 := hts (.fieldLink RX3 10 "RoofDrains" "roof" "LRoofDrains$Roof;") (by decide +kernel)
  have fl22 := hts (.fieldLink RX3 22 "RoofDrains" "saved" "LRoofDrains$SavedRoofs;") (by decide +kernel)
  refine lv_iload_n hx hb dX3_valley_0 rfl (lv_at hl 1 rfl) ?_
  refine k_calli (wc := ([] : va_W)) (w' := ([] : va_W)) (wn := (cO o [.ref (a 0), .ref (a2 0), .ref s0, .ref (x 0)]) ++ (cR cI a r) ++ (cR cI a2 q) ++ (cS cQ s0 w0 (zF A n) (nI old) (nI held)) ++ (cT cI x t) ++ (cZ cI A B n)) (va_runS (As := [.int pp]) (rest := []) ⟨hx, hb, hml, hown, hts⟩ (mX3_isGutter l D cI cQ cJ pp _) (va_cwS 1 hts gX3_valley_X3_isGutter rfl rfl rfl (by decide +kernel) ⟨Nat.le_of_ble_eq_true rfl, Nat.le_of_ble_eq_true rfl⟩) (k_preS (wc := ([] : va_W)) hE hK hP hD [] (by decide) rfl [.int pp]) rfl rfl hl.1 rfl (lv_room (Nat.le_of_ble_eq_true rfl)) dX3_valley_1 ⟨Nat.le_of_ble_eq_true rfl, Nat.le_of_ble_eq_true rfl⟩) hP hD hS hA [] rfl rfl rfl (fun H locs hP hD hS => ?_)
  refine lv_if_eq (tgt := 19) hx hb dX3_valley_4 (by decide) (fun c_1 => ?_) (fun c_1 => ?_)
  · skip
    exact x_throw (E := "java/lang/IndexOutOfBoundsException") (kE := 1) (text := "no such gutter") (ik := 40) (is := 64) (ic := 44) (Ts := wsX3_valley) hfl hx hb hml hts hown hX hS hP hT hlocks rfl (by simp [eIOB, eIAE, eISE]) (by decide +kernel) (by decide +kernel) (fun _ h => List.mem_cons_of_mem _ (List.mem_append_left _ (List.mem_append_left _ (List.mem_append_right _ h)))) bad1 hot1 (by decide +kernel) (by decide +kernel) hl.1 (by simp only [cVal, if_pos c_1, ↓reduceIte]) (by decide) dX3_valley_19 dX3_valley_22 dX3_valley_23 dX3_valley_25 dX3_valley_28 (Nat.le_of_ble_eq_true rfl) (Nat.le_of_ble_eq_true rfl) (Nat.le_of_ble_eq_true rfl) (Nat.le_of_ble_eq_true rfl) (Nat.le_of_ble_eq_true rfl) (Nat.le_of_ble_eq_true rfl)
  · skip
    refine lv_iload_n hx hb dX3_valley_7 rfl (lv_at hl 2 rfl) ?_
    refine lv_iconst (v := (-1)) hx hb dX3_valley_8 (by decide) ?_
    refine lv_icmp_eq (tgt := 29) hx hb dX3_valley_9 (by decide) (fun c_2 => ?_) (fun c_2 => ?_)
    · skip
      refine lv_iload_n hx hb dX3_valley_29 rfl (lv_at hl 1 rfl) ?_
      refine lv_iload_n hx hb dX3_valley_30 rfl (lv_at hl 2 rfl) ?_
      refine lv_icmp_ne (tgt := 44) hx hb dX3_valley_31 (by decide) (fun c_3 => ?_) (fun c_3 => ?_)
      · skip
        refine lv_aload_n hx hb dX3_valley_44 rfl (lv_at hl 0 rfl) ?_
        refine va_get (D := D) (ci := 3) (v := .ref (a 0)) (C := RX3) (T := TX3) (N := 4) hx hb hts hinX3 hown hK hP 0 rfl rfl 0 (by decide) fl10 (fun _ h9 => h9) rfl dX3_valley_45 ?_
        refine lv_iload_n hx hb dX3_valley_48 rfl (lv_at hl 2 rfl) ?_
        refine lv_iload_n hx hb dX3_valley_49 rfl (lv_at hl 1 rfl) ?_
        refine k_calli (wc := cR cI a r) (w' := cR cI a r) (wn := (cO o [.ref (a 0), .ref (a2 0), .ref s0, .ref (x 0)]) ++ (cR cI a r) ++ (cR cI a2 q) ++ (cS cQ s0 w0 (zF A n) (nI old) (nI held)) ++ (cT cI x t) ++ (cZ cI A B n)) (va_runV (As := [.int rt, .int pp]) (rest := []) ⟨hx, hb, hml, hown, hts⟩ (mX1_valleysLead l D cI cQ cJ a r rt pp _) (cwV 2 hts gX3_valley_X1_valleysLead rfl rfl rfl (by decide +kernel) ⟨Nat.le_of_ble_eq_true rfl, Nat.le_of_ble_eq_true rfl⟩) (k_preV (wc := cR cI a r) hE hK hP hD [1, 2, 3, 4, 5, 6, 7, 8, 9, 10, 11, 12, 13] (by decide) rfl (ci := 1) (q0 := 1) rfl rfl [.int rt, .int pp]) rfl rfl hl.1 rfl (lv_room (Nat.le_of_ble_eq_true rfl)) dX3_valley_50 ⟨Nat.le_of_ble_eq_true rfl, Nat.le_of_ble_eq_true rfl⟩) hP hD hS hA [1, 2, 3, 4, 5, 6, 7, 8, 9, 10, 11, 12, 13] rfl rfl (by rw [show [1, 2, 3, 4, 5, 6, 7, 8, 9, 10, 11, 12, 13] = List.range' 1 13 from rfl, putAt_l _ _ _ _ 31, putAt_l _ _ _ _ 29, putAt_l _ _ _ _ 27, putAt_l _ _ _ _ 14, putAt_0 13 _ _ _ 1] <;> first | rfl | decide) (fun H locs hP hD hS => ?_)
        refine lv_if_eq (tgt := 66) hx hb dX3_valley_53 (by decide) (fun c_4 => ?_) (fun c_4 => ?_)
        · skip
          refine lv_aload_n hx hb dX3_valley_66 rfl (lv_at hl 0 rfl) ?_
          refine va_get (D := D) (ci := 3) (v := .ref s0) (C := RX3) (T := TX3) (N := 4) hx hb hts hinX3 hown hK hP 0 rfl rfl 2 (by decide) fl22 (fun _ h9 => h9) rfl dX3_valley_67 ?_
          refine lv_aload_n hx hb dX3_valley_70 rfl (lv_at hl 0 rfl) ?_
          refine va_get (D := D) (ci := 3) (v := .ref (a 0)) (C := RX3) (T := TX3) (N := 4) hx hb hts hinX3 hown hK hP 0 rfl rfl 0 (by decide) fl10 (fun _ h9 => h9) rfl dX3_valley_71 ?_
          refine k_calln (wr := []) (wc := (cO o [.ref (a 0), .ref (a2 0), .ref s0, .ref (x 0)]) ++ (cR cI a r) ++ (cR cI a2 q) ++ (cS cQ s0 w0 (zF A n) (nI old) (nI held)) ++ (cT cI x t) ++ (cZ cI A B n)) (w' := fun u => WX cI cQ o s0 w0 x a a2 u r q t (kN n old held) (zF u (kN n old held)) (nI (kO old held)) (nI (kH held + 1)) (kB B old held r)) (va_runV (As := [.ref (a 0)]) (rest := []) ⟨hx, hb, hml, hown, hts⟩ (mX2_keep l D cI cQ cJ o s0 w0 x a a2 A r q t n old held B hok _) (cwV 1 hts gX3_valley_X2_keep rfl rfl rfl (by decide +kernel) ⟨Nat.le_of_ble_eq_true rfl, Nat.le_of_ble_eq_true rfl⟩) (k_preRV (wr := []) (wc := (cO o [.ref (a 0), .ref (a2 0), .ref s0, .ref (x 0)]) ++ (cR cI a r) ++ (cR cI a2 q) ++ (cS cQ s0 w0 (zF A n) (nI old) (nI held)) ++ (cT cI x t) ++ (cZ cI A B n)) hE hK hP hD (ci := 2) (q0 := 27) rfl rfl [.ref (a 0)]) rfl rfl hl.1 rfl (lv_room (Nat.le_of_ble_eq_true rfl)) dX3_valley_74 ⟨Nat.le_of_ble_eq_true rfl, Nat.le_of_ble_eq_true rfl⟩) hP hD hS hA0 (fun u H locs hP hD hS => ?_)
          have hP : va_P D vwCl ((cO o [.ref (a 0), .ref (a2 0), .ref s0, .ref (x 0)]) ++ (cR cI a r) ++ (cR cI a2 q) ++ (cS cQ s0 w0 (zF u (kN n old held)) (nI (kO old held)) (nI (kH held + 1))) ++ (cT cI x t) ++ (cZ cI u (kB B old held r) (kN n old held))) H := hP
          have hD : va_D A0 ((cO o [.ref (a 0), .ref (a2 0), .ref s0, .ref (x 0)]) ++ (cR cI a r) ++ (cR cI a2 q) ++ (cS cQ s0 w0 (zF u (kN n old held)) (nI (kO old held)) (nI (kH held + 1))) ++ (cT cI x t) ++ (cZ cI u (kB B old held r) (kN n old held))) := hD
          refine lv_aload_n hx hb dX3_valley_77 rfl (lv_at hl 0 rfl) ?_
          refine va_get (D := D) (ci := 3) (v := .ref (a 0)) (C := RX3) (T := TX3) (N := 4) hx hb hts hinX3 hown hK hP 0 rfl rfl 0 (by decide) fl10 (fun _ h9 => h9) rfl dX3_valley_78 ?_
          refine lv_iload_n hx hb dX3_valley_81 rfl (lv_at hl 1 rfl) ?_
          refine lv_iload_n hx hb dX3_valley_82 rfl (lv_at hl 2 rfl) ?_
          obtain ⟨r_5, er_5⟩ : ∃ z : rB, z = bp r 7 pp.toNatClampNeg rt := ⟨_, rfl⟩
          have hm_6 := mX1_changeValley l D cI cQ cJ a r pp pp.toNatClampNeg (zL_in (n := 6) rfl rfl c_1) rfl rt
          rw [← er_5] at hm_6
          refine k_calli (wc := cR cI a r) (w' := cR cI a r_5) (wn := (cO o [.ref (a 0), .ref (a2 0), .ref s0, .ref (x 0)]) ++ (cR cI a r_5) ++ (cR cI a2 q) ++ (cS cQ s0 w0 (zF u (kN n old held)) (nI (kO old held)) (nI (kH held + 1))) ++ (cT cI x t) ++ (cZ cI u (kB B old held r) (kN n old held))) (va_runV (As := [.int pp, .int rt]) (rest := []) ⟨hx, hb, hml, hown, hts⟩ (hm_6 _) (cwV 2 hts gX3_valley_X1_changeValley rfl rfl rfl (by decide +kernel) ⟨Nat.le_of_ble_eq_true rfl, Nat.le_of_ble_eq_true rfl⟩) (k_preV (wc := cR cI a r) hE hK hP hD [1, 2, 3, 4, 5, 6, 7, 8, 9, 10, 11, 12, 13] (by decide) rfl (ci := 1) (q0 := 1) rfl rfl [.int pp, .int rt]) rfl rfl hl.1 rfl (lv_room (Nat.le_of_ble_eq_true rfl)) dX3_valley_83 ⟨Nat.le_of_ble_eq_true rfl, Nat.le_of_ble_eq_true rfl⟩) hP hD hS hA [1, 2, 3, 4, 5, 6, 7, 8, 9, 10, 11, 12, 13] rfl rfl (by rw [show [1, 2, 3, 4, 5, 6, 7, 8, 9, 10, 11, 12, 13] = List.range' 1 13 from rfl, putAt_l _ _ _ _ 31, putAt_l _ _ _ _ 29, putAt_l _ _ _ _ 27, putAt_l _ _ _ _ 14, putAt_0 13 _ _ _ 1] <;> first | rfl | decide) (fun H locs hP hD hS => ?_)
          replace er_5 := er_5.symm; subst er_5
          exact x_iret hx hb hr hlocks hS hP hD dX3_valley_86 (by simp only [cVal, if_neg c_1, if_pos c_2, if_neg c_3, if_pos c_4, ↓reduceIte]) ⟨u, rfl, rfl⟩ (Nat.le_of_ble_eq_true rfl) (Nat.le_of_ble_eq_true rfl)
        · skip
          exact x_throw (E := "java/lang/IllegalStateException") (kE := 3) (text := "water would come back") (ik := 78) (is := 80) (ic := 82) (Ts := wsX3_valley) hfl hx hb hml hts hown hX hS hP hT hlocks rfl (by simp [eIOB, eIAE, eISE]) (by decide +kernel) (by decide +kernel) (fun _ h => List.mem_cons_of_mem _ (List.mem_append_right _ h)) bad3 hot3 (by decide +kernel) (by decide +kernel) hl.1 (by simp only [cVal, if_neg c_1, if_pos c_2, if_neg c_3, if_neg c_4, ↓reduceIte]) (by decide) dX3_valley_56 dX3_valley_59 dX3_valley_60 dX3_valley_62 dX3_valley_65 (Nat.le_of_ble_eq_true rfl) (Nat.le_of_ble_eq_true rfl) (Nat.le_of_ble_eq_true rfl) (Nat.le_of_ble_eq_true rfl) (Nat.le_of_ble_eq_true rfl) (Nat.le_of_ble_eq_true rfl)
      · skip
        exact x_throw (E := "java/lang/IllegalArgumentException") (kE := 2) (text := "both gutters are the same") (ik := 51) (is := 72) (ic := 55) (Ts := wsX3_valley) hfl hx hb hml hts hown hX hS hP hT hlocks rfl (by simp [eIOB, eIAE, eISE]) (by decide +kernel) (by decide +kernel) (fun _ h => List.mem_cons_of_mem _ (List.mem_append_left _ (List.mem_append_right _ h))) bad2 hot2 (by decide +kernel) (by decide +kernel) hl.1 (by simp only [cVal, if_neg c_1, if_pos c_2, if_pos c_3, ↓reduceIte]) (by decide) dX3_valley_34 dX3_valley_37 dX3_valley_38 dX3_valley_40 dX3_valley_43 (Nat.le_of_ble_eq_true rfl) (Nat.le_of_ble_eq_true rfl) (Nat.le_of_ble_eq_true rfl) (Nat.le_of_ble_eq_true rfl) (Nat.le_of_ble_eq_true rfl) (Nat.le_of_ble_eq_true rfl)
    · skip
      refine lv_iload_n hx hb dX3_valley_12 rfl (lv_at hl 2 rfl) ?_
      refine k_calli (wc := ([] : va_W)) (w' := ([] : va_W)) (wn := (cO o [.ref (a 0), .ref (a2 0), .ref s0, .ref (x 0)]) ++ (cR cI a r) ++ (cR cI a2 q) ++ (cS cQ s0 w0 (zF A n) (nI old) (nI held)) ++ (cT cI x t) ++ (cZ cI A B n)) (va_runS (As := [.int rt]) (rest := []) ⟨hx, hb, hml, hown, hts⟩ (mX3_isGutter l D cI cQ cJ rt _) (va_cwS 1 hts gX3_valley_X3_isGutter rfl rfl rfl (by decide +kernel) ⟨Nat.le_of_ble_eq_true rfl, Nat.le_of_ble_eq_true rfl⟩) (k_preS (wc := ([] : va_W)) hE hK hP hD [] (by decide) rfl [.int rt]) rfl rfl hl.1 rfl (lv_room (Nat.le_of_ble_eq_true rfl)) dX3_valley_13 ⟨Nat.le_of_ble_eq_true rfl, Nat.le_of_ble_eq_true rfl⟩) hP hD hS hA [] rfl rfl rfl (fun H locs hP hD hS => ?_)
      refine lv_if_ne (tgt := 29) hx hb dX3_valley_16 (by decide) (fun c_7 => ?_) (fun c_7 => ?_)
      · skip
        refine lv_iload_n hx hb dX3_valley_29 rfl (lv_at hl 1 rfl) ?_
        refine lv_iload_n hx hb dX3_valley_30 rfl (lv_at hl 2 rfl) ?_
        refine lv_icmp_ne (tgt := 44) hx hb dX3_valley_31 (by decide) (fun c_8 => ?_) (fun c_8 => ?_)
        · skip
          refine lv_aload_n hx hb dX3_valley_44 rfl (lv_at hl 0 rfl) ?_
          refine va_get (D := D) (ci := 3) (v := .ref (a 0)) (C := RX3) (T := TX3) (N := 4) hx hb hts hinX3 hown hK hP 0 rfl rfl 0 (by decide) fl10 (fun _ h9 => h9) rfl dX3_valley_45 ?_
          refine lv_iload_n hx hb dX3_valley_48 rfl (lv_at hl 2 rfl) ?_
          refine lv_iload_n hx hb dX3_valley_49 rfl (lv_at hl 1 rfl) ?_
          refine k_calli (wc := cR cI a r) (w' := cR cI a r) (wn := (cO o [.ref (a 0), .ref (a2 0), .ref s0, .ref (x 0)]) ++ (cR cI a r) ++ (cR cI a2 q) ++ (cS cQ s0 w0 (zF A n) (nI old) (nI held)) ++ (cT cI x t) ++ (cZ cI A B n)) (va_runV (As := [.int rt, .int pp]) (rest := []) ⟨hx, hb, hml, hown, hts⟩ (mX1_valleysLead l D cI cQ cJ a r rt pp _) (cwV 2 hts gX3_valley_X1_valleysLead rfl rfl rfl (by decide +kernel) ⟨Nat.le_of_ble_eq_true rfl, Nat.le_of_ble_eq_true rfl⟩) (k_preV (wc := cR cI a r) hE hK hP hD [1, 2, 3, 4, 5, 6, 7, 8, 9, 10, 11, 12, 13] (by decide) rfl (ci := 1) (q0 := 1) rfl rfl [.int rt, .int pp]) rfl rfl hl.1 rfl (lv_room (Nat.le_of_ble_eq_true rfl)) dX3_valley_50 ⟨Nat.le_of_ble_eq_true rfl, Nat.le_of_ble_eq_true rfl⟩) hP hD hS hA [1, 2, 3, 4, 5, 6, 7, 8, 9, 10, 11, 12, 13] rfl rfl (by rw [show [1, 2, 3, 4, 5, 6, 7, 8, 9, 10, 11, 12, 13] = List.range' 1 13 from rfl, putAt_l _ _ _ _ 31, putAt_l _ _ _ _ 29, putAt_l _ _ _ _ 27, putAt_l _ _ _ _ 14, putAt_0 13 _ _ _ 1] <;> first | rfl | decide) (fun H locs hP hD hS => ?_)
          refine lv_if_eq (tgt := 66) hx hb dX3_valley_53 (by decide) (fun c_9 => ?_) (fun c_9 => ?_)
          · skip
            refine lv_aload_n hx hb dX3_valley_66 rfl (lv_at hl 0 rfl) ?_
            refine va_get (D := D) (ci := 3) (v := .ref s0) (C := RX3) (T := TX3) (N := 4) hx hb hts hinX3 hown hK hP 0 rfl rfl 2 (by decide) fl22 (fun _ h9 => h9) rfl dX3_valley_67 ?_
            refine lv_aload_n hx hb dX3_valley_70 rfl (lv_at hl 0 rfl) ?_
            refine va_get (D := D) (ci := 3) (v := .ref (a 0)) (C := RX3) (T := TX3) (N := 4) hx hb hts hinX3 hown hK hP 0 rfl rfl 0 (by decide) fl10 (fun _ h9 => h9) rfl dX3_valley_71 ?_
            refine k_calln (wr := []) (wc := (cO o [.ref (a 0), .ref (a2 0), .ref s0, .ref (x 0)]) ++ (cR cI a r) ++ (cR cI a2 q) ++ (cS cQ s0 w0 (zF A n) (nI old) (nI held)) ++ (cT cI x t) ++ (cZ cI A B n)) (w' := fun u => WX cI cQ o s0 w0 x a a2 u r q t (kN n old held) (zF u (kN n old held)) (nI (kO old held)) (nI (kH held + 1)) (kB B old held r)) (va_runV (As := [.ref (a 0)]) (rest := []) ⟨hx, hb, hml, hown, hts⟩ (mX2_keep l D cI cQ cJ o s0 w0 x a a2 A r q t n old held B hok _) (cwV 1 hts gX3_valley_X2_keep rfl rfl rfl (by decide +kernel) ⟨Nat.le_of_ble_eq_true rfl, Nat.le_of_ble_eq_true rfl⟩) (k_preRV (wr := []) (wc := (cO o [.ref (a 0), .ref (a2 0), .ref s0, .ref (x 0)]) ++ (cR cI a r) ++ (cR cI a2 q) ++ (cS cQ s0 w0 (zF A n) (nI old) (nI held)) ++ (cT cI x t) ++ (cZ cI A B n)) hE hK hP hD (ci := 2) (q0 := 27) rfl rfl [.ref (a 0)]) rfl rfl hl.1 rfl (lv_room (Nat.le_of_ble_eq_true rfl)) dX3_valley_74 ⟨Nat.le_of_ble_eq_true rfl, Nat.le_of_ble_eq_true rfl⟩) hP hD hS hA0 (fun u H locs hP hD hS => ?_)
            have hP : va_P D vwCl ((cO o [.ref (a 0), .ref (a2 0), .ref s0, .ref (x 0)]) ++ (cR cI a r) ++ (cR cI a2 q) ++ (cS cQ s0 w0 (zF u (kN n old held)) (nI (kO old held)) (nI (kH held + 1))) ++ (cT cI x t) ++ (cZ cI u (kB B old held r) (kN n old held))) H := hP
            have hD : va_D A0 ((cO o [.ref (a 0), .ref (a2 0), .ref s0, .ref (x 0)]) ++ (cR cI a r) ++ (cR cI a2 q) ++ (cS cQ s0 w0 (zF u (kN n old held)) (nI (kO old held)) (nI (kH held + 1))) ++ (cT cI x t) ++ (cZ cI u (kB B old held r) (kN n old held))) := hD
            refine lv_aload_n hx hb dX3_valley_77 rfl (lv_at hl 0 rfl) ?_
            refine va_get (D := D) (ci := 3) (v := .ref (a 0)) (C := RX3) (T := TX3) (N := 4) hx hb hts hinX3 hown hK hP 0 rfl rfl 0 (by decide) fl10 (fun _ h9 => h9) rfl dX3_valley_78 ?_
            refine lv_iload_n hx hb dX3_valley_81 rfl (lv_at hl 1 rfl) ?_
            refine lv_iload_n hx hb dX3_valley_82 rfl (lv_at hl 2 rfl) ?_
            obtain ⟨r_10, er_10⟩ : ∃ z : rB, z = bp r 7 pp.toNatClampNeg rt := ⟨_, rfl⟩
            have hm_11 := mX1_changeValley l D cI cQ cJ a r pp pp.toNatClampNeg (zL_in (n := 6) rfl rfl c_1) rfl rt
            rw [← er_10] at hm_11
            refine k_calli (wc := cR cI a r) (w' := cR cI a r_10) (wn := (cO o [.ref (a 0), .ref (a2 0), .ref s0, .ref (x 0)]) ++ (cR cI a r_10) ++ (cR cI a2 q) ++ (cS cQ s0 w0 (zF u (kN n old held)) (nI (kO old held)) (nI (kH held + 1))) ++ (cT cI x t) ++ (cZ cI u (kB B old held r) (kN n old held))) (va_runV (As := [.int pp, .int rt]) (rest := []) ⟨hx, hb, hml, hown, hts⟩ (hm_11 _) (cwV 2 hts gX3_valley_X1_changeValley rfl rfl rfl (by decide +kernel) ⟨Nat.le_of_ble_eq_true rfl, Nat.le_of_ble_eq_true rfl⟩) (k_preV (wc := cR cI a r) hE hK hP hD [1, 2, 3, 4, 5, 6, 7, 8, 9, 10, 11, 12, 13] (by decide) rfl (ci := 1) (q0 := 1) rfl rfl [.int pp, .int rt]) rfl rfl hl.1 rfl (lv_room (Nat.le_of_ble_eq_true rfl)) dX3_valley_83 ⟨Nat.le_of_ble_eq_true rfl, Nat.le_of_ble_eq_true rfl⟩) hP hD hS hA [1, 2, 3, 4, 5, 6, 7, 8, 9, 10, 11, 12, 13] rfl rfl (by rw [show [1, 2, 3, 4, 5, 6, 7, 8, 9, 10, 11, 12, 13] = List.range' 1 13 from rfl, putAt_l _ _ _ _ 31, putAt_l _ _ _ _ 29, putAt_l _ _ _ _ 27, putAt_l _ _ _ _ 14, putAt_0 13 _ _ _ 1] <;> first | rfl | decide) (fun H locs hP hD hS => ?_)
            replace er_10 := er_10.symm; subst er_10
            exact x_iret hx hb hr hlocks hS hP hD dX3_valley_86 (by simp only [cVal, if_neg c_1, if_neg c_2, if_neg c_7, if_neg c_8, if_pos c_9, ↓reduceIte]) ⟨u, rfl, rfl⟩ (Nat.le_of_ble_eq_true rfl) (Nat.le_of_ble_eq_true rfl)
          · skip
            exact x_throw (E := "java/lang/IllegalStateException") (kE := 3) (text := "water would come back") (ik := 78) (is := 80) (ic := 82) (Ts := wsX3_valley) hfl hx hb hml hts hown hX hS hP hT hlocks rfl (by simp [eIOB, eIAE, eISE]) (by decide +kernel) (by decide +kernel) (fun _ h => List.mem_cons_of_mem _ (List.mem_append_right _ h)) bad3 hot3 (by decide +kernel) (by decide +kernel) hl.1 (by simp only [cVal, if_neg c_1, if_neg c_2, if_neg c_7, if_neg c_8, if_neg c_9, ↓reduceIte]) (by decide) dX3_valley_56 dX3_valley_59 dX3_valley_60 dX3_valley_62 dX3_valley_65 (Nat.le_of_ble_eq_true rfl) (Nat.le_of_ble_eq_true rfl) (Nat.le_of_ble_eq_true rfl) (Nat.le_of_ble_eq_true rfl) (Nat.le_of_ble_eq_true rfl) (Nat.le_of_ble_eq_true rfl)
        · skip
          exact x_throw (E := "java/lang/IllegalArgumentException") (kE := 2) (text := "both gutters are the same") (ik := 51) (is := 72) (ic := 55) (Ts := wsX3_valley) hfl hx hb hml hts hown hX hS hP hT hlocks rfl (by simp [eIOB, eIAE, eISE]) (by decide +kernel) (by decide +kernel) (fun _ h => List.mem_cons_of_mem _ (List.mem_append_left _ (List.mem_append_right _ h))) bad2 hot2 (by decide +kernel) (by decide +kernel) hl.1 (by simp only [cVal, if_neg c_1, if_neg c_2, if_neg c_7, if_pos c_8, ↓reduceIte]) (by decide) dX3_valley_34 dX3_valley_37 dX3_valley_38 dX3_valley_40 dX3_valley_43 (Nat.le_of_ble_eq_true rfl) (Nat.le_of_ble_eq_true rfl) (Nat.le_of_ble_eq_true rfl) (Nat.le_of_ble_eq_true rfl) (Nat.le_of_ble_eq_true rfl) (Nat.le_of_ble_eq_true rfl)
      · skip
        exact x_throw (E := "java/lang/IndexOutOfBoundsException") (kE := 1) (text := "no such gutter") (ik := 40) (is := 64) (ic := 44) (Ts := wsX3_valley) hfl hx hb hml hts hown hX hS hP hT hlocks rfl (by simp [eIOB, eIAE, eISE]) (by decide +kernel) (by decide +kernel) (fun _ h => List.mem_cons_of_mem _ (List.mem_append_left _ (List.mem_append_left _ (List.mem_append_right _ h)))) bad1 hot1 (by decide +kernel) (by decide +kernel) hl.1 (by simp only [cVal, if_neg c_1, if_neg c_2, if_pos c_7, ↓reduceIte]) (by decide) dX3_valley_19 dX3_valley_22 dX3_valley_23 dX3_valley_25 dX3_valley_28 (Nat.le_of_ble_eq_true rfl) (Nat.le_of_ble_eq_true rfl) (Nat.le_of_ble_eq_true rfl) (Nat.le_of_ble_eq_true rfl) (Nat.le_of_ble_eq_true rfl) (Nat.le_of_ble_eq_true rfl)
set_option maxHeartbeats 4000000 in
set_option maxRecDepth 100000 in
theorem xX3_clean (l : Launch) (hfl : l.stackTraces = false) (D : va_G) (cI cQ cJ : ClassId) (o s0 w0 : Nat) (x a a2 : Nat → Nat) (A : Nat → Nat → Nat) (r q t : rB) (n old held : Nat) (B : Nat → rB) (pp : Int32) (hok : svOk n old held)  : XM l D (tY cI cQ cJ) yX3_clean wsX3_clean ({ frames := 6, cells := 14, slots := 91, locals := 112 } : Room) [.ref o, .int pp] (WX cI cQ o s0 w0 x a a2 A r q t n (zF A n) (nI old) (nI held) B) (cCle pp) (fun z w' => ∃ u : Nat → Nat → Nat, z = r 6 pp.toNatClampNeg ∧ w' = WX cI cQ o s0 w0 x a a2 u (bp r 6 pp.toNatClampNeg 0) q t (kN n old held) (zF u (kN n old held)) (nI (kO old held)) (nI (kH held + 1)) (kB B old held r)) := by
  refine X_of (cc := cX3_clean) (maxL := 2) (ret := some .int) (by decide) rfl (Nat.le_of_ble_eq_true rfl) ?_
  intro p e s m below meth c A0 ls hB hT hE hX hP hK hD hA0 hl
  obtain ⟨hx, hb, hr, hml, hts, hown, hlocks⟩ := hB
  have hS : va_S A0 s.heap s.heap [] := va_S.rf
  have hA := hA0
  have hl : lv_has ls 2 [(0, .ref o), (1, .int pp)] := hl
  have hinX3 : ∀ w ∈ u_ws RX3 TX3 4, w ∈ wsX3_clean := by decide +kernel
  have fl22 := hts (.fieldLink RX3 22 "RoofDrains" "saved" "LRoofDrains$SavedRoofs;") (by decide +kernel)
  have fl10 := hts (.fieldLink RX3 10 "RoofDrains" "roof" "LRoofDrains$Roof;") (by decide +kernel)
  refine lv_iload_n hx hb dX3_clean_0 rfl (lv_at hl 1 rfl) ?_
  refine k_calli (wc := ([] : va_W)) (w' := ([] : va_W)) (wn := (cO o [.ref (a 0), .ref (a2 0), .ref s0, .ref (x 0)]) ++ (cR cI a r) ++ (cR cI a2 q) ++ (cS cQ s0 w0 (zF A n) (nI old) (nI held)) ++ (cT cI x t) ++ (cZ cI A B n)) (va_runS (As := [.int pp]) (rest := []) ⟨hx, hb, hml, hown, hts⟩ (mX3_isGutter l D cI cQ cJ pp _) (va_cwS 1 hts gX3_clean_X3_isGutter rfl rfl rfl (by decide +kernel) ⟨Nat.le_of_ble_eq_true rfl, Nat.le_of_ble_eq_true rfl⟩) (k_preS (wc := ([] : va_W)) hE hK hP hD [] (by decide) rfl [.int pp]) rfl rfl hl.1 rfl (lv_room (Nat.le_of_ble_eq_true rfl)) dX3_clean_1 ⟨Nat.le_of_ble_eq_true rfl, Nat.le_of_ble_eq_true rfl⟩) hP hD hS hA [] rfl rfl rfl (fun H locs hP hD hS => ?_)
  refine lv_if_ne (tgt := 17) hx hb dX3_clean_4 (by decide) (fun c_1 => ?_) (fun c_1 => ?_)
  · skip
    refine lv_aload_n hx hb dX3_clean_17 rfl (lv_at hl 0 rfl) ?_
    refine va_get (D := D) (ci := 3) (v := .ref s0) (C := RX3) (T := TX3) (N := 4) hx hb hts hinX3 hown hK hP 0 rfl rfl 2 (by decide) fl22 (fun _ h9 => h9) rfl dX3_clean_18 ?_
    refine lv_aload_n hx hb dX3_clean_21 rfl (lv_at hl 0 rfl) ?_
    refine va_get (D := D) (ci := 3) (v := .ref (a 0)) (C := RX3) (T := TX3) (N := 4) hx hb hts hinX3 hown hK hP 0 rfl rfl 0 (by decide) fl10 (fun _ h9 => h9) rfl dX3_clean_22 ?_
    refine k_calln (wr := []) (wc := (cO o [.ref (a 0), .ref (a2 0), .ref s0, .ref (x 0)]) ++ (cR cI a r) ++ (cR cI a2 q) ++ (cS cQ s0 w0 (zF A n) (nI old) (nI held)) ++ (cT cI x t) ++ (cZ cI A B n)) (w' := fun u => WX cI cQ o s0 w0 x a a2 u r q t (kN n old held) (zF u (kN n old held)) (nI (kO old held)) (nI (kH held + 1)) (kB B old held r)) (va_runV (As := [.ref (a 0)]) (rest := []) ⟨hx, hb, hml, hown, hts⟩ (mX2_keep l D cI cQ cJ o s0 w0 x a a2 A r q t n old held B hok _) (cwV 1 hts gX3_clean_X2_keep rfl rfl rfl (by decide +kernel) ⟨Nat.le_of_ble_eq_true rfl, Nat.le_of_ble_eq_true rfl⟩) (k_preRV (wr := []) (wc := (cO o [.ref (a 0), .ref (a2 0), .ref s0, .ref (x 0)]) ++ (cR cI a r) ++ (cR cI a2 q) ++ (cS cQ s0 w0 (zF A n) (nI old) (nI held)) ++ (cT cI x t) ++ (cZ cI A B n)) hE hK hP hD (ci := 2) (q0 := 27) rfl rfl [.ref (a 0)]) rfl rfl hl.1 rfl (lv_room (Nat.le_of_ble_eq_true rfl)) dX3_clean_25 ⟨Nat.le_of_ble_eq_true rfl, Nat.le_of_ble_eq_true rfl⟩) hP hD hS hA0 (fun u H locs hP hD hS => ?_)
    have hP : va_P D vwCl ((cO o [.ref (a 0), .ref (a2 0), .ref s0, .ref (x 0)]) ++ (cR cI a r) ++ (cR cI a2 q) ++ (cS cQ s0 w0 (zF u (kN n old held)) (nI (kO old held)) (nI (kH held + 1))) ++ (cT cI x t) ++ (cZ cI u (kB B old held r) (kN n old held))) H := hP
    have hD : va_D A0 ((cO o [.ref (a 0), .ref (a2 0), .ref s0, .ref (x 0)]) ++ (cR cI a r) ++ (cR cI a2 q) ++ (cS cQ s0 w0 (zF u (kN n old held)) (nI (kO old held)) (nI (kH held + 1))) ++ (cT cI x t) ++ (cZ cI u (kB B old held r) (kN n old held))) := hD
    refine lv_aload_n hx hb dX3_clean_28 rfl (lv_at hl 0 rfl) ?_
    refine va_get (D := D) (ci := 3) (v := .ref (a 0)) (C := RX3) (T := TX3) (N := 4) hx hb hts hinX3 hown hK hP 0 rfl rfl 0 (by decide) fl10 (fun _ h9 => h9) rfl dX3_clean_29 ?_
    refine lv_iload_n hx hb dX3_clean_32 rfl (lv_at hl 1 rfl) ?_
    obtain ⟨r_2, er_2⟩ : ∃ z : rB, z = bp r 6 pp.toNatClampNeg 0 := ⟨_, rfl⟩
    have hm_3 := mX1_takeLeaves l D cI cQ cJ a r pp pp.toNatClampNeg (zL_in (n := 6) rfl rfl c_1) rfl
    rw [← er_2] at hm_3
    refine k_calli (wc := cR cI a r) (w' := cR cI a r_2) (wn := (cO o [.ref (a 0), .ref (a2 0), .ref s0, .ref (x 0)]) ++ (cR cI a r_2) ++ (cR cI a2 q) ++ (cS cQ s0 w0 (zF u (kN n old held)) (nI (kO old held)) (nI (kH held + 1))) ++ (cT cI x t) ++ (cZ cI u (kB B old held r) (kN n old held))) (va_runV (As := [.int pp]) (rest := []) ⟨hx, hb, hml, hown, hts⟩ (hm_3 _) (cwV 1 hts gX3_clean_X1_takeLeaves rfl rfl rfl (by decide +kernel) ⟨Nat.le_of_ble_eq_true rfl, Nat.le_of_ble_eq_true rfl⟩) (k_preV (wc := cR cI a r) hE hK hP hD [1, 2, 3, 4, 5, 6, 7, 8, 9, 10, 11, 12, 13] (by decide) rfl (ci := 1) (q0 := 1) rfl rfl [.int pp]) rfl rfl hl.1 rfl (lv_room (Nat.le_of_ble_eq_true rfl)) dX3_clean_33 ⟨Nat.le_of_ble_eq_true rfl, Nat.le_of_ble_eq_true rfl⟩) hP hD hS hA [1, 2, 3, 4, 5, 6, 7, 8, 9, 10, 11, 12, 13] rfl rfl (by rw [show [1, 2, 3, 4, 5, 6, 7, 8, 9, 10, 11, 12, 13] = List.range' 1 13 from rfl, putAt_l _ _ _ _ 31, putAt_l _ _ _ _ 29, putAt_l _ _ _ _ 27, putAt_l _ _ _ _ 14, putAt_0 13 _ _ _ 1] <;> first | rfl | decide) (fun H locs hP hD hS => ?_)
    replace er_2 := er_2.symm; subst er_2
    exact x_iret hx hb hr hlocks hS hP hD dX3_clean_36 (by simp only [cCle, if_neg c_1, ↓reduceIte]) ⟨u, rfl, rfl⟩ (Nat.le_of_ble_eq_true rfl) (Nat.le_of_ble_eq_true rfl)
  · skip
    exact x_throw (E := "java/lang/IndexOutOfBoundsException") (kE := 1) (text := "no such gutter") (ik := 40) (is := 64) (ic := 44) (Ts := wsX3_clean) hfl hx hb hml hts hown hX hS hP hT hlocks rfl (by simp [eIOB, eIAE, eISE]) (by decide +kernel) (by decide +kernel) (fun _ h => List.mem_cons_of_mem _ (List.mem_append_right _ h)) bad1 hot1 (by decide +kernel) (by decide +kernel) hl.1 (by simp only [cCle, if_pos c_1, ↓reduceIte]) (by decide) dX3_clean_7 dX3_clean_10 dX3_clean_11 dX3_clean_13 dX3_clean_16 (Nat.le_of_ble_eq_true rfl) (Nat.le_of_ble_eq_true rfl) (Nat.le_of_ble_eq_true rfl) (Nat.le_of_ble_eq_true rfl) (Nat.le_of_ble_eq_true rfl) (Nat.le_of_ble_eq_true rfl)
set_option maxHeartbeats 4000000 in
set_option maxRecDepth 100000 in
theorem xX3_set (l : Launch) (hfl : l.stackTraces = false) (D : va_G) (cI cQ cJ : ClassId) (o s0 w0 : Nat) (x a a2 : Nat → Nat) (A : Nat → Nat → Nat) (r q t : rB) (n old held : Nat) (B : Nat → rB) (pp rv : Int32) (hok : svOk n old held)  : XM l D (tY cI cQ cJ) yX3_set wsX3_set ({ frames := 6, cells := 14, slots := 91, locals := 112 } : Room) [.ref o, .int pp, .int rv] (WX cI cQ o s0 w0 x a a2 A r q t n (zF A n) (nI old) (nI held) B) (cSet pp rv) (fun z w' => ∃ u : Nat → Nat → Nat, z = r 11 pp.toNatClampNeg ∧ w' = WX cI cQ o s0 w0 x a a2 u (bp r 11 pp.toNatClampNeg rv) q t (kN n old held) (zF u (kN n old held)) (nI (kO old held)) (nI (kH held + 1)) (kB B old held r)) := by
  refine X_of (cc := cX3_set) (maxL := 3) (ret := some .int) (by decide) rfl (Nat.le_of_ble_eq_true rfl) ?_
  intro p e s m below meth c A0 ls hB hT hE hX hP hK hD hA0 hl
  obtain ⟨hx, hb, hr, hml, hts, hown, hlocks⟩ := hB
  have hS : va_S A0 s.heap s.heap [] := va_S.rf
  have hA := hA0
  have hl : lv_has ls 3 [(0, .ref o), (1, .int pp), (2, .int rv)] := hl
  obtain ⟨bS, hZs, hXs, hbl, hbA⟩ := hX.2.2.2.2.2.2.2
  have hinX3 : ∀ w ∈ u_ws RX3 TX3 4, w ∈ wsX3_set := by decide +kernel
  have fl22 := hts (.fieldLink RX3 22 "RoofDrains" "saved" "LRoofDrains$SavedRoofs;") (by decide +kernel)
  have fl10 := hts (.fieldLink RX3 10 "RoofDrains" "roof" "LRoofDrains$Roof;") (by decide +kernel)
  refine lv_iload_n hx hb dX3_set_0 rfl (lv_at hl 1 rfl) ?_
  refine k_calli (wc := ([] : va_W)) (w' := ([] : va_W)) (wn := (cO o [.ref (a 0), .ref (a2 0), .ref s0, .ref (x 0)]) ++ (cR cI a r) ++ (cR cI a2 q) ++ (cS cQ s0 w0 (zF A n) (nI old) (nI held)) ++ (cT cI x t) ++ (cZ cI A B n)) (va_runS (As := [.int pp]) (rest := []) ⟨hx, hb, hml, hown, hts⟩ (mX3_isSetting l D cI cQ cJ pp _) (va_cwS 1 hts gX3_set_X3_isSetting rfl rfl rfl (by decide +kernel) ⟨Nat.le_of_ble_eq_true rfl, Nat.le_of_ble_eq_true rfl⟩) (k_preS (wc := ([] : va_W)) hE hK hP hD [] (by decide) rfl [.int pp]) rfl rfl hl.1 rfl (lv_room (Nat.le_of_ble_eq_true rfl)) dX3_set_1 ⟨Nat.le_of_ble_eq_true rfl, Nat.le_of_ble_eq_true rfl⟩) hP hD hS hA [] rfl rfl rfl (fun H locs hP hD hS => ?_)
  refine lv_if_ne (tgt := 17) hx hb dX3_set_4 (by decide) (fun c_1 => ?_) (fun c_1 => ?_)
  · skip
    refine lv_iload_n hx hb dX3_set_17 rfl (lv_at hl 2 rfl) ?_
    refine lv_iconst (v := 0) hx hb dX3_set_18 (by decide) ?_
    refine va_gets hx hb hZs hS hown (hts (.fieldLink RX3 96 "RoofDrains" "MOST_OF_SETTING" "[I") (by decide +kernel)) (fun _ h9 => h9) dX3_set_19 ?_
    refine lv_iload_n hx hb dX3_set_22 rfl (lv_at hl 1 rfl) ?_
    refine va_sld hx hb hXs hbl hbA hS (zL_in (n := 3) rfl rfl c_1) dX3_set_23 ?_
    refine k_calli (wc := ([] : va_W)) (w' := ([] : va_W)) (wn := (cO o [.ref (a 0), .ref (a2 0), .ref s0, .ref (x 0)]) ++ (cR cI a r) ++ (cR cI a2 q) ++ (cS cQ s0 w0 (zF A n) (nI old) (nI held)) ++ (cT cI x t) ++ (cZ cI A B n)) (va_runS (As := [.int rv, .int 0, .int (mosF pp.toNatClampNeg)]) (rest := []) ⟨hx, hb, hml, hown, hts⟩ (mX3_isWithin l D cI cQ cJ rv 0 (mosF pp.toNatClampNeg) _) (va_cwS 3 hts gX3_set_X3_isWithin rfl rfl rfl (by decide +kernel) ⟨Nat.le_of_ble_eq_true rfl, Nat.le_of_ble_eq_true rfl⟩) (k_preS (wc := ([] : va_W)) hE hK hP hD [] (by decide) rfl [.int rv, .int 0, .int (mosF pp.toNatClampNeg)]) rfl rfl hl.1 rfl (lv_room (Nat.le_of_ble_eq_true rfl)) dX3_set_24 ⟨Nat.le_of_ble_eq_true rfl, Nat.le_of_ble_eq_true rfl⟩) hP hD hS hA [] rfl rfl rfl (fun H locs hP hD hS => ?_)
    refine lv_if_ne (tgt := 40) hx hb dX3_set_27 (by decide) (fun c_2 => ?_) (fun c_2 => ?_)
    · skip
      refine lv_aload_n hx hb dX3_set_40 rfl (lv_at hl 0 rfl) ?_
      refine va_get (D := D) (ci := 3) (v := .ref s0) (C := RX3) (T := TX3) (N := 4) hx hb hts hinX3 hown hK hP 0 rfl rfl 2 (by decide) fl22 (fun _ h9 => h9) rfl dX3_set_41 ?_
      refine lv_aload_n hx hb dX3_set_44 rfl (lv_at hl 0 rfl) ?_
      refine va_get (D := D) (ci := 3) (v := .ref (a 0)) (C := RX3) (T := TX3) (N := 4) hx hb hts hinX3 hown hK hP 0 rfl rfl 0 (by decide) fl10 (fun _ h9 => h9) rfl dX3_set_45 ?_
      refine k_calln (wr := []) (wc := (cO o [.ref (a 0), .ref (a2 0), .ref s0, .ref (x 0)]) ++ (cR cI a r) ++ (cR cI a2 q) ++ (cS cQ s0 w0 (zF A n) (nI old) (nI held)) ++ (cT cI x t) ++ (cZ cI A B n)) (w' := fun u => WX cI cQ o s0 w0 x a a2 u r q t (kN n old held) (zF u (kN n old held)) (nI (kO old held)) (nI (kH held + 1)) (kB B old held r)) (va_runV (As := [.ref (a 0)]) (rest := []) ⟨hx, hb, hml, hown, hts⟩ (mX2_keep l D cI cQ cJ o s0 w0 x a a2 A r q t n old held B hok _) (cwV 1 hts gX3_set_X2_keep rfl rfl rfl (by decide +kernel) ⟨Nat.le_of_ble_eq_true rfl, Nat.le_of_ble_eq_true rfl⟩) (k_preRV (wr := []) (wc := (cO o [.ref (a 0), .ref (a2 0), .ref s0, .ref (x 0)]) ++ (cR cI a r) ++ (cR cI a2 q) ++ (cS cQ s0 w0 (zF A n) (nI old) (nI held)) ++ (cT cI x t) ++ (cZ cI A B n)) hE hK hP hD (ci := 2) (q0 := 27) rfl rfl [.ref (a 0)]) rfl rfl hl.1 rfl (lv_room (Nat.le_of_ble_eq_true rfl)) dX3_set_48 ⟨Nat.le_of_ble_eq_true rfl, Nat.le_of_ble_eq_true rfl⟩) hP hD hS hA0 (fun u H locs hP hD hS => ?_)
      have hP : va_P D vwCl ((cO o [.ref (a 0), .ref (a2 0), .ref s0, .ref (x 0)]) ++ (cR cI a r) ++ (cR cI a2 q) ++ (cS cQ s0 w0 (zF u (kN n old held)) (nI (kO old held)) (nI (kH held + 1))) ++ (cT cI x t) ++ (cZ cI u (kB B old held r) (kN n old held))) H := hP
      have hD : va_D A0 ((cO o [.ref (a 0), .ref (a2 0), .ref s0, .ref (x 0)]) ++ (cR cI a r) ++ (cR cI a2 q) ++ (cS cQ s0 w0 (zF u (kN n old held)) (nI (kO old held)) (nI (kH held + 1))) ++ (cT cI x t) ++ (cZ cI u (kB B old held r) (kN n old held))) := hD
      refine lv_aload_n hx hb dX3_set_51 rfl (lv_at hl 0 rfl) ?_
      refine va_get (D := D) (ci := 3) (v := .ref (a 0)) (C := RX3) (T := TX3) (N := 4) hx hb hts hinX3 hown hK hP 0 rfl rfl 0 (by decide) fl10 (fun _ h9 => h9) rfl dX3_set_52 ?_
      refine lv_iload_n hx hb dX3_set_55 rfl (lv_at hl 1 rfl) ?_
      refine lv_iload_n hx hb dX3_set_56 rfl (lv_at hl 2 rfl) ?_
      obtain ⟨r_3, er_3⟩ : ∃ z : rB, z = bp r 11 pp.toNatClampNeg rv := ⟨_, rfl⟩
      have hm_4 := mX1_changeSetting l D cI cQ cJ a r pp pp.toNatClampNeg (zL_in (n := 3) rfl rfl c_1) rfl rv
      rw [← er_3] at hm_4
      refine k_calli (wc := cR cI a r) (w' := cR cI a r_3) (wn := (cO o [.ref (a 0), .ref (a2 0), .ref s0, .ref (x 0)]) ++ (cR cI a r_3) ++ (cR cI a2 q) ++ (cS cQ s0 w0 (zF u (kN n old held)) (nI (kO old held)) (nI (kH held + 1))) ++ (cT cI x t) ++ (cZ cI u (kB B old held r) (kN n old held))) (va_runV (As := [.int pp, .int rv]) (rest := []) ⟨hx, hb, hml, hown, hts⟩ (hm_4 _) (cwV 2 hts gX3_set_X1_changeSetting rfl rfl rfl (by decide +kernel) ⟨Nat.le_of_ble_eq_true rfl, Nat.le_of_ble_eq_true rfl⟩) (k_preV (wc := cR cI a r) hE hK hP hD [1, 2, 3, 4, 5, 6, 7, 8, 9, 10, 11, 12, 13] (by decide) rfl (ci := 1) (q0 := 1) rfl rfl [.int pp, .int rv]) rfl rfl hl.1 rfl (lv_room (Nat.le_of_ble_eq_true rfl)) dX3_set_57 ⟨Nat.le_of_ble_eq_true rfl, Nat.le_of_ble_eq_true rfl⟩) hP hD hS hA [1, 2, 3, 4, 5, 6, 7, 8, 9, 10, 11, 12, 13] rfl rfl (by rw [show [1, 2, 3, 4, 5, 6, 7, 8, 9, 10, 11, 12, 13] = List.range' 1 13 from rfl, putAt_l _ _ _ _ 31, putAt_l _ _ _ _ 29, putAt_l _ _ _ _ 27, putAt_l _ _ _ _ 14, putAt_0 13 _ _ _ 1] <;> first | rfl | decide) (fun H locs hP hD hS => ?_)
      replace er_3 := er_3.symm; subst er_3
      exact x_iret hx hb hr hlocks hS hP hD dX3_set_60 (by simp only [cSet, if_neg c_1, if_neg c_2, ↓reduceIte]) ⟨u, rfl, rfl⟩ (Nat.le_of_ble_eq_true rfl) (Nat.le_of_ble_eq_true rfl)
    · skip
      exact x_throw (E := "java/lang/IllegalArgumentException") (kE := 2) (text := "value out of range") (ik := 51) (is := 100) (ic := 55) (Ts := wsX3_set) hfl hx hb hml hts hown hX hS hP hT hlocks rfl (by simp [eIOB, eIAE, eISE]) (by decide +kernel) (by decide +kernel) (fun _ h => List.mem_cons_of_mem _ (List.mem_append_right _ h)) bad2 hot2 (by decide +kernel) (by decide +kernel) hl.1 (by simp only [cSet, if_neg c_1, if_pos c_2, ↓reduceIte]) (by decide) dX3_set_30 dX3_set_33 dX3_set_34 dX3_set_36 dX3_set_39 (Nat.le_of_ble_eq_true rfl) (Nat.le_of_ble_eq_true rfl) (Nat.le_of_ble_eq_true rfl) (Nat.le_of_ble_eq_true rfl) (Nat.le_of_ble_eq_true rfl) (Nat.le_of_ble_eq_true rfl)
  · skip
    exact x_throw (E := "java/lang/IndexOutOfBoundsException") (kE := 1) (text := "no such setting") (ik := 40) (is := 94) (ic := 44) (Ts := wsX3_set) hfl hx hb hml hts hown hX hS hP hT hlocks rfl (by simp [eIOB, eIAE, eISE]) (by decide +kernel) (by decide +kernel) (fun _ h => List.mem_cons_of_mem _ (List.mem_append_left _ (List.mem_append_right _ h))) bad1 hot1 (by decide +kernel) (by decide +kernel) hl.1 (by simp only [cSet, if_pos c_1, ↓reduceIte]) (by decide) dX3_set_7 dX3_set_10 dX3_set_11 dX3_set_13 dX3_set_16 (Nat.le_of_ble_eq_true rfl) (Nat.le_of_ble_eq_true rfl) (Nat.le_of_ble_eq_true rfl) (Nat.le_of_ble_eq_true rfl) (Nat.le_of_ble_eq_true rfl) (Nat.le_of_ble_eq_true rfl)
set_option maxHeartbeats 4000000 in
set_option maxRecDepth 100000 in
theorem xX3_rain (l : Launch) (hfl : l.stackTraces = false) (D : va_G) (cI cQ cJ : ClassId) (o s0 w0 : Nat) (x a a2 : Nat → Nat) (A : Nat → Nat → Nat) (r q t : rB) (n old held : Nat) (B : Nat → rB) (rx rm : Int32) (hok : svOk n old held)  : XM l D (tY cI cQ cJ) yX3_rain wsX3_rain ({ frames := 6, cells := 14, slots := 91, locals := 112 } : Room) [.ref o, .int rx, .int rm] (WX cI cQ o s0 w0 x a a2 A r q t n (zF A n) (nI old) (nI held) B) (cRai rx rm) (fun z w' => ∃ u : Nat → Nat → Nat, z = smI (minutesC rm.toNatClampNeg r rx 9) 6 0 0 - smI (r 9) 6 0 0 ∧ w' = WX cI cQ o s0 w0 x a a2 u (minutesC rm.toNatClampNeg r rx) q t (kN n old held) (zF u (kN n old held)) (nI (kO old held)) (nI (kH held + 1)) (kB B old held r)) := by
  refine X_of (cc := cX3_rain) (maxL := 4) (ret := some .int) (by decide) rfl (Nat.le_of_ble_eq_true rfl) ?_
  intro p e s m below meth c A0 ls hB hT hE hX hP hK hD hA0 hl
  obtain ⟨hx, hb, hr, hml, hts, hown, hlocks⟩ := hB
  have hS : va_S A0 s.heap s.heap [] := va_S.rf
  have hA := hA0
  have hl : lv_has ls 4 [(0, .ref o), (1, .int rx), (2, .int rm)] := hl
  have hinX3 : ∀ w ∈ u_ws RX3 TX3 4, w ∈ wsX3_rain := by decide +kernel
  have fl22 := hts (.fieldLink RX3 22 "RoofDrains" "saved" "LRoofDrains$SavedRoofs;") (by decide +kernel)
  have fl10 := hts (.fieldLink RX3 10 "RoofDrains" "roof" "LRoofDrains$Roof;") (by decide +kernel)
  refine lv_iload_n hx hb dX3_rain_0 rfl (lv_at hl 1 rfl) ?_
  refine lv_iconst (v := 0) hx hb dX3_rain_1 (by decide) ?_
  refine lv_bipush (v := 99) hx hb dX3_rain_2 (by decide) ?_
  refine k_calli (wc := ([] : va_W)) (w' := ([] : va_W)) (wn := (cO o [.ref (a 0), .ref (a2 0), .ref s0, .ref (x 0)]) ++ (cR cI a r) ++ (cR cI a2 q) ++ (cS cQ s0 w0 (zF A n) (nI old) (nI held)) ++ (cT cI x t) ++ (cZ cI A B n)) (va_runS (As := [.int rx, .int 0, .int 99]) (rest := []) ⟨hx, hb, hml, hown, hts⟩ (mX3_isWithin l D cI cQ cJ rx 0 99 _) (va_cwS 3 hts gX3_rain_X3_isWithin rfl rfl rfl (by decide +kernel) ⟨Nat.le_of_ble_eq_true rfl, Nat.le_of_ble_eq_true rfl⟩) (k_preS (wc := ([] : va_W)) hE hK hP hD [] (by decide) rfl [.int rx, .int 0, .int 99]) rfl rfl hl.1 rfl (lv_room (Nat.le_of_ble_eq_true rfl)) dX3_rain_4 ⟨Nat.le_of_ble_eq_true rfl, Nat.le_of_ble_eq_true rfl⟩) hP hD hS hA [] rfl rfl rfl (fun H locs hP hD hS => ?_)
  refine lv_if_eq (tgt := 20) hx hb dX3_rain_7 (by decide) (fun c_1 => ?_) (fun c_1 => ?_)
  · skip
    exact x_throw (E := "java/lang/IllegalArgumentException") (kE := 2) (text := "rain or minutes out of range") (ik := 51) (is := 105) (ic := 55) (Ts := wsX3_rain) hfl hx hb hml hts hown hX hS hP hT hlocks rfl (by simp [eIOB, eIAE, eISE]) (by decide +kernel) (by decide +kernel) (fun _ h => List.mem_cons_of_mem _ (List.mem_append_right _ h)) bad2 hot2 (by decide +kernel) (by decide +kernel) hl.1 (by simp only [cRai, if_pos c_1, ↓reduceIte]) (by decide) dX3_rain_20 dX3_rain_23 dX3_rain_24 dX3_rain_26 dX3_rain_29 (Nat.le_of_ble_eq_true rfl) (Nat.le_of_ble_eq_true rfl) (Nat.le_of_ble_eq_true rfl) (Nat.le_of_ble_eq_true rfl) (Nat.le_of_ble_eq_true rfl) (Nat.le_of_ble_eq_true rfl)
  · skip
    refine lv_iload_n hx hb dX3_rain_10 rfl (lv_at hl 2 rfl) ?_
    refine lv_iconst (v := 1) hx hb dX3_rain_11 (by decide) ?_
    refine lv_bipush (v := 60) hx hb dX3_rain_12 (by decide) ?_
    refine k_calli (wc := ([] : va_W)) (w' := ([] : va_W)) (wn := (cO o [.ref (a 0), .ref (a2 0), .ref s0, .ref (x 0)]) ++ (cR cI a r) ++ (cR cI a2 q) ++ (cS cQ s0 w0 (zF A n) (nI old) (nI held)) ++ (cT cI x t) ++ (cZ cI A B n)) (va_runS (As := [.int rm, .int 1, .int 60]) (rest := []) ⟨hx, hb, hml, hown, hts⟩ (mX3_isWithin l D cI cQ cJ rm 1 60 _) (va_cwS 3 hts gX3_rain_X3_isWithin rfl rfl rfl (by decide +kernel) ⟨Nat.le_of_ble_eq_true rfl, Nat.le_of_ble_eq_true rfl⟩) (k_preS (wc := ([] : va_W)) hE hK hP hD [] (by decide) rfl [.int rm, .int 1, .int 60]) rfl rfl hl.1 rfl (lv_room (Nat.le_of_ble_eq_true rfl)) dX3_rain_14 ⟨Nat.le_of_ble_eq_true rfl, Nat.le_of_ble_eq_true rfl⟩) hP hD hS hA [] rfl rfl rfl (fun H locs hP hD hS => ?_)
    refine lv_if_ne (tgt := 30) hx hb dX3_rain_17 (by decide) (fun c_2 => ?_) (fun c_2 => ?_)
    · skip
      refine lv_aload_n hx hb dX3_rain_30 rfl (lv_at hl 0 rfl) ?_
      refine va_get (D := D) (ci := 3) (v := .ref s0) (C := RX3) (T := TX3) (N := 4) hx hb hts hinX3 hown hK hP 0 rfl rfl 2 (by decide) fl22 (fun _ h9 => h9) rfl dX3_rain_31 ?_
      refine lv_aload_n hx hb dX3_rain_34 rfl (lv_at hl 0 rfl) ?_
      refine va_get (D := D) (ci := 3) (v := .ref (a 0)) (C := RX3) (T := TX3) (N := 4) hx hb hts hinX3 hown hK hP 0 rfl rfl 0 (by decide) fl10 (fun _ h9 => h9) rfl dX3_rain_35 ?_
      refine k_calln (wr := []) (wc := (cO o [.ref (a 0), .ref (a2 0), .ref s0, .ref (x 0)]) ++ (cR cI a r) ++ (cR cI a2 q) ++ (cS cQ s0 w0 (zF A n) (nI old) (nI held)) ++ (cT cI x t) ++ (cZ cI A B n)) (w' := fun u => WX cI cQ o s0 w0 x a a2 u r q t (kN n old held) (zF u (kN n old held)) (nI (kO old held)) (nI (kH held + 1)) (kB B old held r)) (va_runV (As := [.ref (a 0)]) (rest := []) ⟨hx, hb, hml, hown, hts⟩ (mX2_keep l D cI cQ cJ o s0 w0 x a a2 A r q t n old held B hok _) (cwV 1 hts gX3_rain_X2_keep rfl rfl rfl (by decide +kernel) ⟨Nat.le_of_ble_eq_true rfl, Nat.le_of_ble_eq_true rfl⟩) (k_preRV (wr := []) (wc := (cO o [.ref (a 0), .ref (a2 0), .ref s0, .ref (x 0)]) ++ (cR cI a r) ++ (cR cI a2 q) ++ (cS cQ s0 w0 (zF A n) (nI old) (nI held)) ++ (cT cI x t) ++ (cZ cI A B n)) hE hK hP hD (ci := 2) (q0 := 27) rfl rfl [.ref (a 0)]) rfl rfl hl.1 rfl (lv_room (Nat.le_of_ble_eq_true rfl)) dX3_rain_38 ⟨Nat.le_of_ble_eq_true rfl, Nat.le_of_ble_eq_true rfl⟩) hP hD hS hA0 (fun u H locs hP hD hS => ?_)
      have hP : va_P D vwCl ((cO o [.ref (a 0), .ref (a2 0), .ref s0, .ref (x 0)]) ++ (cR cI a r) ++ (cR cI a2 q) ++ (cS cQ s0 w0 (zF u (kN n old held)) (nI (kO old held)) (nI (kH held + 1))) ++ (cT cI x t) ++ (cZ cI u (kB B old held r) (kN n old held))) H := hP
      have hD : va_D A0 ((cO o [.ref (a 0), .ref (a2 0), .ref s0, .ref (x 0)]) ++ (cR cI a r) ++ (cR cI a2 q) ++ (cS cQ s0 w0 (zF u (kN n old held)) (nI (kO old held)) (nI (kH held + 1))) ++ (cT cI x t) ++ (cZ cI u (kB B old held r) (kN n old held))) := hD
      refine lv_aload_n hx hb dX3_rain_41 rfl (lv_at hl 0 rfl) ?_
      refine va_get (D := D) (ci := 3) (v := .ref (a 0)) (C := RX3) (T := TX3) (N := 4) hx hb hts hinX3 hown hK hP 0 rfl rfl 0 (by decide) fl10 (fun _ h9 => h9) rfl dX3_rain_42 ?_
      refine k_calli (wc := cR cI a r) (w' := cR cI a r) (wn := (cO o [.ref (a 0), .ref (a2 0), .ref s0, .ref (x 0)]) ++ (cR cI a r) ++ (cR cI a2 q) ++ (cS cQ s0 w0 (zF u (kN n old held)) (nI (kO old held)) (nI (kH held + 1))) ++ (cT cI x t) ++ (cZ cI u (kB B old held r) (kN n old held))) (va_runV (As := []) (rest := []) ⟨hx, hb, hml, hown, hts⟩ (mX1_spiltLitres l D cI cQ cJ a r _) (cwV 0 hts gX3_rain_X1_spiltLitres rfl rfl rfl (by decide +kernel) ⟨Nat.le_of_ble_eq_true rfl, Nat.le_of_ble_eq_true rfl⟩) (k_preV (wc := cR cI a r) hE hK hP hD [1, 2, 3, 4, 5, 6, 7, 8, 9, 10, 11, 12, 13] (by decide) rfl (ci := 1) (q0 := 1) rfl rfl []) rfl rfl hl.1 rfl (lv_room (Nat.le_of_ble_eq_true rfl)) dX3_rain_45 ⟨Nat.le_of_ble_eq_true rfl, Nat.le_of_ble_eq_true rfl⟩) hP hD hS hA [1, 2, 3, 4, 5, 6, 7, 8, 9, 10, 11, 12, 13] rfl rfl (by rw [show [1, 2, 3, 4, 5, 6, 7, 8, 9, 10, 11, 12, 13] = List.range' 1 13 from rfl, putAt_l _ _ _ _ 31, putAt_l _ _ _ _ 29, putAt_l _ _ _ _ 27, putAt_l _ _ _ _ 14, putAt_0 13 _ _ _ 1] <;> first | rfl | decide) (fun H locs hP hD hS => ?_)
      refine lv_topi (fun v3_3 ev3_3 => ?_)
      refine lv_istore_n (lv' := [(3, .int v3_3), (0, .ref o), (1, .int rx), (2, .int rm)]) hx hb dX3_rain_48 rfl hl (by decide) rfl (fun ls hl => ?_)
      refine lv_aload_n hx hb dX3_rain_49 rfl (lv_at hl 1 rfl) ?_
      refine va_get (D := D) (ci := 3) (v := .ref (a 0)) (C := RX3) (T := TX3) (N := 4) hx hb hts hinX3 hown hK hP 0 rfl rfl 0 (by decide) fl10 (fun _ h9 => h9) rfl dX3_rain_50 ?_
      refine lv_iload_n hx hb dX3_rain_53 rfl (lv_at hl 2 rfl) ?_
      refine lv_iload_n hx hb dX3_rain_54 rfl (lv_at hl 3 rfl) ?_
      obtain ⟨r_4, er_4⟩ : ∃ z : rB, z = minutesC rm.toNatClampNeg r rx := ⟨_, rfl⟩
      have hm_5 := mX1_passMinutes l D cI cQ cJ a r rx rm rm.toNatClampNeg rfl
      rw [← er_4] at hm_5
      refine k_callv (wc := cR cI a r) (w' := cR cI a r_4) (wn := (cO o [.ref (a 0), .ref (a2 0), .ref s0, .ref (x 0)]) ++ (cR cI a r_4) ++ (cR cI a2 q) ++ (cS cQ s0 w0 (zF u (kN n old held)) (nI (kO old held)) (nI (kH held + 1))) ++ (cT cI x t) ++ (cZ cI u (kB B old held r) (kN n old held))) (va_runV (As := [.int rx, .int rm]) (rest := []) ⟨hx, hb, hml, hown, hts⟩ (hm_5 _) (cwV 2 hts gX3_rain_X1_passMinutes rfl rfl rfl (by decide +kernel) ⟨Nat.le_of_ble_eq_true rfl, Nat.le_of_ble_eq_true rfl⟩) (k_preV (wc := cR cI a r) hE hK hP hD [1, 2, 3, 4, 5, 6, 7, 8, 9, 10, 11, 12, 13] (by decide) rfl (ci := 1) (q0 := 1) rfl rfl [.int rx, .int rm]) rfl rfl hl.1 rfl (lv_room (Nat.le_of_ble_eq_true rfl)) dX3_rain_55 ⟨Nat.le_of_ble_eq_true rfl, Nat.le_of_ble_eq_true rfl⟩) hP hD hS hA [1, 2, 3, 4, 5, 6, 7, 8, 9, 10, 11, 12, 13] rfl rfl (by rw [show [1, 2, 3, 4, 5, 6, 7, 8, 9, 10, 11, 12, 13] = List.range' 1 13 from rfl, putAt_l _ _ _ _ 31, putAt_l _ _ _ _ 29, putAt_l _ _ _ _ 27, putAt_l _ _ _ _ 14, putAt_0 13 _ _ _ 1] <;> first | rfl | decide) (fun H locs hP hD hS => ?_)
      refine lv_aload_n hx hb dX3_rain_58 rfl (lv_at hl 1 rfl) ?_
      refine va_get (D := D) (ci := 3) (v := .ref (a 0)) (C := RX3) (T := TX3) (N := 4) hx hb hts hinX3 hown hK hP 0 rfl rfl 0 (by decide) fl10 (fun _ h9 => h9) rfl dX3_rain_59 ?_
      refine k_calli (wc := cR cI a r_4) (w' := cR cI a r_4) (wn := (cO o [.ref (a 0), .ref (a2 0), .ref s0, .ref (x 0)]) ++ (cR cI a r_4) ++ (cR cI a2 q) ++ (cS cQ s0 w0 (zF u (kN n old held)) (nI (kO old held)) (nI (kH held + 1))) ++ (cT cI x t) ++ (cZ cI u (kB B old held r) (kN n old held))) (va_runV (As := []) (rest := []) ⟨hx, hb, hml, hown, hts⟩ (mX1_spiltLitres l D cI cQ cJ a r_4 _) (cwV 0 hts gX3_rain_X1_spiltLitres rfl rfl rfl (by decide +kernel) ⟨Nat.le_of_ble_eq_true rfl, Nat.le_of_ble_eq_true rfl⟩) (k_preV (wc := cR cI a r_4) hE hK hP hD [1, 2, 3, 4, 5, 6, 7, 8, 9, 10, 11, 12, 13] (by decide) rfl (ci := 1) (q0 := 1) rfl rfl []) rfl rfl hl.1 rfl (lv_room (Nat.le_of_ble_eq_true rfl)) dX3_rain_62 ⟨Nat.le_of_ble_eq_true rfl, Nat.le_of_ble_eq_true rfl⟩) hP hD hS hA [1, 2, 3, 4, 5, 6, 7, 8, 9, 10, 11, 12, 13] rfl rfl (by rw [show [1, 2, 3, 4, 5, 6, 7, 8, 9, 10, 11, 12, 13] = List.range' 1 13 from rfl, putAt_l _ _ _ _ 31, putAt_l _ _ _ _ 29, putAt_l _ _ _ _ 27, putAt_l _ _ _ _ 14, putAt_0 13 _ _ _ 1] <;> first | rfl | decide) (fun H locs hP hD hS => ?_)
      refine lv_iload_n hx hb dX3_rain_65 rfl (lv_at hl 0 rfl) ?_
      refine lv_isub hx hb dX3_rain_66 ?_
      replace er_4 := er_4.symm; subst er_4
      replace ev3_3 := ev3_3.symm; subst ev3_3
      exact x_iret hx hb hr hlocks hS hP hD dX3_rain_67 (by simp only [cRai, if_neg c_1, if_neg c_2, ↓reduceIte]) ⟨u, rfl, rfl⟩ (Nat.le_of_ble_eq_true rfl) (Nat.le_of_ble_eq_true rfl)
    · skip
      exact x_throw (E := "java/lang/IllegalArgumentException") (kE := 2) (text := "rain or minutes out of range") (ik := 51) (is := 105) (ic := 55) (Ts := wsX3_rain) hfl hx hb hml hts hown hX hS hP hT hlocks rfl (by simp [eIOB, eIAE, eISE]) (by decide +kernel) (by decide +kernel) (fun _ h => List.mem_cons_of_mem _ (List.mem_append_right _ h)) bad2 hot2 (by decide +kernel) (by decide +kernel) hl.1 (by simp only [cRai, if_neg c_1, if_pos c_2, ↓reduceIte]) (by decide) dX3_rain_20 dX3_rain_23 dX3_rain_24 dX3_rain_26 dX3_rain_29 (Nat.le_of_ble_eq_true rfl) (Nat.le_of_ble_eq_true rfl) (Nat.le_of_ble_eq_true rfl) (Nat.le_of_ble_eq_true rfl) (Nat.le_of_ble_eq_true rfl) (Nat.le_of_ble_eq_true rfl)
set_option maxHeartbeats 4000000 in
set_option maxRecDepth 100000 in
theorem xX3_weeks (l : Launch) (hfl : l.stackTraces = false) (D : va_G) (cI cQ cJ : ClassId) (o s0 w0 : Nat) (x a a2 : Nat → Nat) (A : Nat → Nat → Nat) (r q t : rB) (n old held : Nat) (B : Nat → rB) (rm : Int32) (hok : svOk n old held)  : XM l D (tY cI cQ cJ) yX3_weeks wsX3_weeks ({ frames := 6, cells := 14, slots := 91, locals := 112 } : Room) [.ref o, .int rm] (WX cI cQ o s0 w0 x a a2 A r q t n (zF A n) (nI old) (nI held) B) (cWks rm) (fun z w' => ∃ u : Nat → Nat → Nat, z = smI (wksC rm.toNatClampNeg r 6) 6 0 0 ∧ w' = WX cI cQ o s0 w0 x a a2 u (wksC rm.toNatClampNeg r) q t (kN n old held) (zF u (kN n old held)) (nI (kO old held)) (nI (kH held + 1)) (kB B old held r)) := by
  refine X_of (cc := cX3_weeks) (maxL := 3) (ret := some .int) (by decide) rfl (Nat.le_of_ble_eq_true rfl) ?_
  intro p e s m below meth c A0 ls hB hT hE hX hP hK hD hA0 hl
  obtain ⟨hx, hb, hr, hml, hts, hown, hlocks⟩ := hB
  have hS : va_S A0 s.heap s.heap [] := va_S.rf
  have hA := hA0
  have hl : lv_has ls 3 [(0, .ref o), (1, .int rm)] := hl
  obtain ⟨k, hk⟩ : ∃ k, rm.toNatClampNeg = k := ⟨_, rfl⟩
  have hinX3 : ∀ w ∈ u_ws RX3 TX3 4, w ∈ wsX3_weeks := by decide +kernel
  have fl22 := hts (.fieldLink RX3 22 "RoofDrains" "saved" "LRoofDrains$SavedRoofs;") (by decide +kernel)
  have fl10 := hts (.fieldLink RX3 10 "RoofDrains" "roof" "LRoofDrains$Roof;") (by decide +kernel)
  refine lv_iload_n hx hb dX3_weeks_0 rfl (lv_at hl 1 rfl) ?_
  refine lv_iconst (v := 1) hx hb dX3_weeks_1 (by decide) ?_
  refine lv_bipush (v := 52) hx hb dX3_weeks_2 (by decide) ?_
  refine k_calli (wc := ([] : va_W)) (w' := ([] : va_W)) (wn := (cO o [.ref (a 0), .ref (a2 0), .ref s0, .ref (x 0)]) ++ (cR cI a r) ++ (cR cI a2 q) ++ (cS cQ s0 w0 (zF A n) (nI old) (nI held)) ++ (cT cI x t) ++ (cZ cI A B n)) (va_runS (As := [.int rm, .int 1, .int 52]) (rest := []) ⟨hx, hb, hml, hown, hts⟩ (mX3_isWithin l D cI cQ cJ rm 1 52 _) (va_cwS 3 hts gX3_weeks_X3_isWithin rfl rfl rfl (by decide +kernel) ⟨Nat.le_of_ble_eq_true rfl, Nat.le_of_ble_eq_true rfl⟩) (k_preS (wc := ([] : va_W)) hE hK hP hD [] (by decide) rfl [.int rm, .int 1, .int 52]) rfl rfl hl.1 rfl (lv_room (Nat.le_of_ble_eq_true rfl)) dX3_weeks_4 ⟨Nat.le_of_ble_eq_true rfl, Nat.le_of_ble_eq_true rfl⟩) hP hD hS hA [] rfl rfl rfl (fun H locs hP hD hS => ?_)
  refine lv_if_ne (tgt := 20) hx hb dX3_weeks_7 (by decide) (fun c_1 => ?_) (fun c_1 => ?_)
  · skip
    refine lv_aload_n hx hb dX3_weeks_20 rfl (lv_at hl 0 rfl) ?_
    refine va_get (D := D) (ci := 3) (v := .ref s0) (C := RX3) (T := TX3) (N := 4) hx hb hts hinX3 hown hK hP 0 rfl rfl 2 (by decide) fl22 (fun _ h9 => h9) rfl dX3_weeks_21 ?_
    refine lv_aload_n hx hb dX3_weeks_24 rfl (lv_at hl 0 rfl) ?_
    refine va_get (D := D) (ci := 3) (v := .ref (a 0)) (C := RX3) (T := TX3) (N := 4) hx hb hts hinX3 hown hK hP 0 rfl rfl 0 (by decide) fl10 (fun _ h9 => h9) rfl dX3_weeks_25 ?_
    refine k_calln (wr := []) (wc := (cO o [.ref (a 0), .ref (a2 0), .ref s0, .ref (x 0)]) ++ (cR cI a r) ++ (cR cI a2 q) ++ (cS cQ s0 w0 (zF A n) (nI old) (nI held)) ++ (cT cI x t) ++ (cZ cI A B n)) (w' := fun u => WX cI cQ o s0 w0 x a a2 u r q t (kN n old held) (zF u (kN n old held)) (nI (kO old held)) (nI (kH held + 1)) (kB B old held r)) (va_runV (As := [.ref (a 0)]) (rest := []) ⟨hx, hb, hml, hown, hts⟩ (mX2_keep l D cI cQ cJ o s0 w0 x a a2 A r q t n old held B hok _) (cwV 1 hts gX3_weeks_X2_keep rfl rfl rfl (by decide +kernel) ⟨Nat.le_of_ble_eq_true rfl, Nat.le_of_ble_eq_true rfl⟩) (k_preRV (wr := []) (wc := (cO o [.ref (a 0), .ref (a2 0), .ref s0, .ref (x 0)]) ++ (cR cI a r) ++ (cR cI a2 q) ++ (cS cQ s0 w0 (zF A n) (nI old) (nI held)) ++ (cT cI x t) ++ (cZ cI A B n)) hE hK hP hD (ci := 2) (q0 := 27) rfl rfl [.ref (a 0)]) rfl rfl hl.1 rfl (lv_room (Nat.le_of_ble_eq_true rfl)) dX3_weeks_28 ⟨Nat.le_of_ble_eq_true rfl, Nat.le_of_ble_eq_true rfl⟩) hP hD hS hA0 (fun u H locs hP hD hS => ?_)
    have hP : va_P D vwCl ((cO o [.ref (a 0), .ref (a2 0), .ref s0, .ref (x 0)]) ++ (cR cI a r) ++ (cR cI a2 q) ++ (cS cQ s0 w0 (zF u (kN n old held)) (nI (kO old held)) (nI (kH held + 1))) ++ (cT cI x t) ++ (cZ cI u (kB B old held r) (kN n old held))) H := hP
    have hD : va_D A0 ((cO o [.ref (a 0), .ref (a2 0), .ref s0, .ref (x 0)]) ++ (cR cI a r) ++ (cR cI a2 q) ++ (cS cQ s0 w0 (zF u (kN n old held)) (nI (kO old held)) (nI (kH held + 1))) ++ (cT cI x t) ++ (cZ cI u (kB B old held r) (kN n old held))) := hD
    refine lv_iconst (v := 0) hx hb dX3_weeks_31 (by decide) ?_
    refine lv_istore_n (lv' := [(2, .int 0), (0, .ref o), (1, .int rm)]) hx hb dX3_weeks_32 rfl hl (by decide) rfl (fun ls hl => ?_)
    have Lp33 : ∀ (n9 i : Nat) (r1 : rB), i + n9 = k → i ≤ k → wksC n9 r1 = wksC k r → ∀ (H : Heap) (locs : List Loc), va_P D vwCl ((cO o [.ref (a 0), .ref (a2 0), .ref s0, .ref (x 0)]) ++ (cR cI a r1) ++ (cR cI a2 q) ++ (cS cQ s0 w0 (zF u (kN n old held)) (nI (kO old held)) (nI (kH held + 1))) ++ (cT cI x t) ++ (cZ cI u (kB B old held r) (kN n old held))) H → va_D A0 ((cO o [.ref (a 0), .ref (a2 0), .ref s0, .ref (x 0)]) ++ (cR cI a r1) ++ (cR cI a2 q) ++ (cS cQ s0 w0 (zF u (kN n old held)) (nI (kO old held)) (nI (kH held + 1))) ++ (cT cI x t) ++ (cZ cI u (kB B old held r) (kN n old held))) → va_S A0 s.heap H locs → ∀ (ls : Array Slot), lv_has ls 3 [(2, .int (nI i)), (0, .ref o), (1, .int rm)] → W p l e ({ frames := 6, cells := 14, slots := 91, locals := 112 } : Room) s m ([.ref o, .int rm] : List Value).toArray below meth c H locs (0 + 13) (0 + 85) (vx_MQ below (XQ D (cWks rm) (fun z w' => ∃ u : Nat → Nat → Nat, z = smI (wksC rm.toNatClampNeg r 6) 6 0 0 ∧ w' = WX cI cQ o s0 w0 x a a2 u (wksC rm.toNatClampNeg r) q t (kN n old held) (zF u (kN n old held)) (nI (kO old held)) (nI (kH held + 1)) (kB B old held r)) A0) (XX D (cWks rm) (WX cI cQ o s0 w0 x a a2 A r q t n (zF A n) (nI old) (nI held) B) A0) ([.ref o, .int rm] : List Value).toArray s 14 91 A0) (F0 m 33 ls []) := by
      intro n9
      induction n9 with
      | zero =>
        intro i r1 hin h8 hres H locs hP hD hS ls hl
        have h9r1 : r1 = wksC k r := hres
        refine lv_iload_n hx hb dX3_weeks_33 rfl (lv_at hl 0 rfl) ?_
        refine lv_iload_n hx hb dX3_weeks_34 rfl (lv_at hl 2 rfl) ?_
        refine lv_icmp_ge (tgt := 51) hx hb dX3_weeks_35 (by decide) (fun _ => ?_) (fun h9 => absurd (cl_le (i := i) (by omega)) h9)
        refine lv_aload_n hx hb dX3_weeks_51 rfl (lv_at hl 1 rfl) ?_
        refine va_get (D := D) (ci := 3) (v := .ref (a 0)) (C := RX3) (T := TX3) (N := 4) hx hb hts hinX3 hown hK hP 0 rfl rfl 0 (by decide) fl10 (fun _ h9 => h9) rfl dX3_weeks_52 ?_
        refine k_calli (wc := cR cI a r1) (w' := cR cI a r1) (wn := (cO o [.ref (a 0), .ref (a2 0), .ref s0, .ref (x 0)]) ++ (cR cI a r1) ++ (cR cI a2 q) ++ (cS cQ s0 w0 (zF u (kN n old held)) (nI (kO old held)) (nI (kH held + 1))) ++ (cT cI x t) ++ (cZ cI u (kB B old held r) (kN n old held))) (va_runV (As := []) (rest := []) ⟨hx, hb, hml, hown, hts⟩ (mX1_leavesTogether l D cI cQ cJ a r1 _) (cwV 0 hts gX3_weeks_X1_leavesTogether rfl rfl rfl (by decide +kernel) ⟨Nat.le_of_ble_eq_true rfl, Nat.le_of_ble_eq_true rfl⟩) (k_preV (wc := cR cI a r1) hE hK hP hD [1, 2, 3, 4, 5, 6, 7, 8, 9, 10, 11, 12, 13] (by decide) rfl (ci := 1) (q0 := 1) rfl rfl []) rfl rfl hl.1 rfl (lv_room (Nat.le_of_ble_eq_true rfl)) dX3_weeks_55 ⟨Nat.le_of_ble_eq_true rfl, Nat.le_of_ble_eq_true rfl⟩) hP hD hS hA [1, 2, 3, 4, 5, 6, 7, 8, 9, 10, 11, 12, 13] rfl rfl (by rw [show [1, 2, 3, 4, 5, 6, 7, 8, 9, 10, 11, 12, 13] = List.range' 1 13 from rfl, putAt_l _ _ _ _ 31, putAt_l _ _ _ _ 29, putAt_l _ _ _ _ 27, putAt_l _ _ _ _ 14, putAt_0 13 _ _ _ 1] <;> first | rfl | decide) (fun H locs hP hD hS => ?_)
        replace h9r1 := h9r1.symm; subst h9r1
        exact x_iret hx hb hr hlocks hS hP hD dX3_weeks_58 (by simp only [cWks, if_neg c_1, ↓reduceIte]) (by subst hk; exact ⟨u, rfl, rfl⟩) (Nat.le_of_ble_eq_true rfl) (Nat.le_of_ble_eq_true rfl)
      | succ n9 ih =>
        intro i r1 hin h8 hres H locs hP hD hS ls hl
        refine lv_iload_n hx hb dX3_weeks_33 rfl (lv_at hl 0 rfl) ?_
        refine lv_iload_n hx hb dX3_weeks_34 rfl (lv_at hl 2 rfl) ?_
        refine lv_icmp_ge (tgt := 51) hx hb dX3_weeks_35 (by decide) (fun h9 => absurd h9 (cl_nle (i := i) (by omega))) (fun _ => ?_)
        refine lv_aload_n hx hb dX3_weeks_38 rfl (lv_at hl 1 rfl) ?_
        refine va_get (D := D) (ci := 3) (v := .ref (a 0)) (C := RX3) (T := TX3) (N := 4) hx hb hts hinX3 hown hK hP 0 rfl rfl 0 (by decide) fl10 (fun _ h9 => h9) rfl dX3_weeks_39 ?_
        obtain ⟨r_2, er_2⟩ : ∃ z : rB, z = weekC r1 := ⟨_, rfl⟩
        have hm_3 := mX1_passWeek l D cI cQ cJ a r1
        rw [← er_2] at hm_3
        refine k_callv (wc := cR cI a r1) (w' := cR cI a r_2) (wn := (cO o [.ref (a 0), .ref (a2 0), .ref s0, .ref (x 0)]) ++ (cR cI a r_2) ++ (cR cI a2 q) ++ (cS cQ s0 w0 (zF u (kN n old held)) (nI (kO old held)) (nI (kH held + 1))) ++ (cT cI x t) ++ (cZ cI u (kB B old held r) (kN n old held))) (va_runV (As := []) (rest := []) ⟨hx, hb, hml, hown, hts⟩ (hm_3 _) (cwV 0 hts gX3_weeks_X1_passWeek rfl rfl rfl (by decide +kernel) ⟨Nat.le_of_ble_eq_true rfl, Nat.le_of_ble_eq_true rfl⟩) (k_preV (wc := cR cI a r1) hE hK hP hD [1, 2, 3, 4, 5, 6, 7, 8, 9, 10, 11, 12, 13] (by decide) rfl (ci := 1) (q0 := 1) rfl rfl []) rfl rfl hl.1 rfl (lv_room (Nat.le_of_ble_eq_true rfl)) dX3_weeks_42 ⟨Nat.le_of_ble_eq_true rfl, Nat.le_of_ble_eq_true rfl⟩) hP hD hS hA [1, 2, 3, 4, 5, 6, 7, 8, 9, 10, 11, 12, 13] rfl rfl (by rw [show [1, 2, 3, 4, 5, 6, 7, 8, 9, 10, 11, 12, 13] = List.range' 1 13 from rfl, putAt_l _ _ _ _ 31, putAt_l _ _ _ _ 29, putAt_l _ _ _ _ 27, putAt_l _ _ _ _ 14, putAt_0 13 _ _ _ 1] <;> first | rfl | decide) (fun H locs hP hD hS => ?_)
        refine lv_iinc (v := nI (i + 1)) (lv' := [(2, .int (nI (i + 1))), (0, .ref o), (1, .int rm)]) hx hb dX3_weeks_45 hl (k := 0) rfl (nI_1 i) (by decide) rfl (fun ls hl => ?_)
        refine lv_goto (tgt := 33) hx hb dX3_weeks_48 (by decide) ?_
        exact ih (i + 1) r_2 (by omega) (by omega) (by replace er_2 := er_2.symm; subst er_2; exact hres) H locs hP hD hS ls (lv_sub hl [0, 1, 2] rfl)
    exact Lp33 k 0 r (by omega) (by omega) rfl _ _ hP hD hS ls (lv_sub hl [0, 1, 2] rfl)
  · skip
    exact x_throw (E := "java/lang/IllegalArgumentException") (kE := 2) (text := "weeks out of range") (ik := 51) (is := 115) (ic := 55) (Ts := wsX3_weeks) hfl hx hb hml hts hown hX hS hP hT hlocks rfl (by simp [eIOB, eIAE, eISE]) (by decide +kernel) (by decide +kernel) (fun _ h => List.mem_cons_of_mem _ (List.mem_append_right _ h)) bad2 hot2 (by decide +kernel) (by decide +kernel) hl.1 (by simp only [cWks, if_pos c_1, ↓reduceIte]) (by decide) dX3_weeks_10 dX3_weeks_13 dX3_weeks_14 dX3_weeks_16 dX3_weeks_19 (Nat.le_of_ble_eq_true rfl) (Nat.le_of_ble_eq_true rfl) (Nat.le_of_ble_eq_true rfl) (Nat.le_of_ble_eq_true rfl) (Nat.le_of_ble_eq_true rfl) (Nat.le_of_ble_eq_true rfl)
set_option maxHeartbeats 4000000 in
set_option maxRecDepth 100000 in
theorem xX3_planeOf (l : Launch) (hfl : l.stackTraces = false) (D : va_G) (cI cQ cJ : ClassId) (o s0 w0 : Nat) (x a a2 : Nat → Nat) (A : Nat → Nat → Nat) (r q t : rB) (n old held : Nat) (B : Nat → rB) (pp rw : Int32)  : XM l D (tY cI cQ cJ) yX3_planeOf wsX3_planeOf ({ frames := 6, cells := 1, slots := 6, locals := 90 } : Room) [.ref o, .int pp, .int rw] (WX cI cQ o s0 w0 x a a2 A r q t n (zF A n) (nI old) (nI held) B) (cPof pp rw) (fun z w' => z = pnC r pp.toNatClampNeg rw.toNatClampNeg ∧ w' = WX cI cQ o s0 w0 x a a2 A r q t n (zF A n) (nI old) (nI held) B) := by
  refine X_of (cc := cX3_planeOf) (maxL := 3) (ret := some .int) (by decide) rfl (Nat.le_of_ble_eq_true rfl) ?_
  intro p e s m below meth c A0 ls hB hT hE hX hP hK hD hA0 hl
  obtain ⟨hx, hb, hr, hml, hts, hown, hlocks⟩ := hB
  have hS : va_S A0 s.heap s.heap [] := va_S.rf
  have hA := hA0
  have hl : lv_has ls 3 [(0, .ref o), (1, .int pp), (2, .int rw)] := hl
  have hinX3 : ∀ w ∈ u_ws RX3 TX3 4, w ∈ wsX3_planeOf := by decide +kernel
  have fl10 := hts (.fieldLink RX3 10 "RoofDrains" "roof" "LRoofDrains$Roof;") (by decide +kernel)
  refine lv_iload_n hx hb dX3_planeOf_0 rfl (lv_at hl 1 rfl) ?_
  refine k_calli (wc := ([] : va_W)) (w' := ([] : va_W)) (wn := (cO o [.ref (a 0), .ref (a2 0), .ref s0, .ref (x 0)]) ++ (cR cI a r) ++ (cR cI a2 q) ++ (cS cQ s0 w0 (zF A n) (nI old) (nI held)) ++ (cT cI x t) ++ (cZ cI A B n)) (va_runS (As := [.int pp]) (rest := []) ⟨hx, hb, hml, hown, hts⟩ (mX3_isPlane l D cI cQ cJ pp _) (va_cwS 1 hts gX3_planeOf_X3_isPlane rfl rfl rfl (by decide +kernel) ⟨Nat.le_of_ble_eq_true rfl, Nat.le_of_ble_eq_true rfl⟩) (k_preS (wc := ([] : va_W)) hE hK hP hD [] (by decide) rfl [.int pp]) rfl rfl hl.1 rfl (lv_room (Nat.le_of_ble_eq_true rfl)) dX3_planeOf_1 ⟨Nat.le_of_ble_eq_true rfl, Nat.le_of_ble_eq_true rfl⟩) hP hD hS hA [] rfl rfl rfl (fun H locs hP hD hS => ?_)
  refine lv_if_ne (tgt := 17) hx hb dX3_planeOf_4 (by decide) (fun c_1 => ?_) (fun c_1 => ?_)
  · skip
    refine lv_iload_n hx hb dX3_planeOf_17 rfl (lv_at hl 2 rfl) ?_
    refine lv_iconst (v := 0) hx hb dX3_planeOf_18 (by decide) ?_
    refine lv_iconst (v := 3) hx hb dX3_planeOf_19 (by decide) ?_
    refine k_calli (wc := ([] : va_W)) (w' := ([] : va_W)) (wn := (cO o [.ref (a 0), .ref (a2 0), .ref s0, .ref (x 0)]) ++ (cR cI a r) ++ (cR cI a2 q) ++ (cS cQ s0 w0 (zF A n) (nI old) (nI held)) ++ (cT cI x t) ++ (cZ cI A B n)) (va_runS (As := [.int rw, .int 0, .int 3]) (rest := []) ⟨hx, hb, hml, hown, hts⟩ (mX3_isWithin l D cI cQ cJ rw 0 3 _) (va_cwS 3 hts gX3_planeOf_X3_isWithin rfl rfl rfl (by decide +kernel) ⟨Nat.le_of_ble_eq_true rfl, Nat.le_of_ble_eq_true rfl⟩) (k_preS (wc := ([] : va_W)) hE hK hP hD [] (by decide) rfl [.int rw, .int 0, .int 3]) rfl rfl hl.1 rfl (lv_room (Nat.le_of_ble_eq_true rfl)) dX3_planeOf_20 ⟨Nat.le_of_ble_eq_true rfl, Nat.le_of_ble_eq_true rfl⟩) hP hD hS hA [] rfl rfl rfl (fun H locs hP hD hS => ?_)
    refine lv_if_ne (tgt := 36) hx hb dX3_planeOf_23 (by decide) (fun c_2 => ?_) (fun c_2 => ?_)
    · skip
      obtain ⟨w9, hw9, hwe⟩ := zW_ex (N := 3) (n := 4) (by decide) (by decide) c_2
      refine lv_aload_n hx hb dX3_planeOf_36 rfl (lv_at hl 0 rfl) ?_
      refine va_get (D := D) (ci := 3) (v := .ref (a 0)) (C := RX3) (T := TX3) (N := 4) hx hb hts hinX3 hown hK hP 0 rfl rfl 0 (by decide) fl10 (fun _ h9 => h9) rfl dX3_planeOf_37 ?_
      refine lv_iload_n hx hb dX3_planeOf_40 rfl (lv_at hl 1 rfl) ?_
      refine lv_iload_n hx hb dX3_planeOf_41 rfl (lv_at hl 2 rfl) ?_
      refine lv_eqi (y := nI w9) hwe ?_
      refine k_calli (wc := cR cI a r) (w' := cR cI a r) (wn := (cO o [.ref (a 0), .ref (a2 0), .ref s0, .ref (x 0)]) ++ (cR cI a r) ++ (cR cI a2 q) ++ (cS cQ s0 w0 (zF A n) (nI old) (nI held)) ++ (cT cI x t) ++ (cZ cI A B n)) (va_runV (As := [.int pp, .int (nI w9)]) (rest := []) ⟨hx, hb, hml, hown, hts⟩ (mX1_planeNumber l D cI cQ cJ a r pp pp.toNatClampNeg w9 (zL_in (n := 6) rfl rfl c_1) rfl (by omega) _) (cwV 2 hts gX3_planeOf_X1_planeNumber rfl rfl rfl (by decide +kernel) ⟨Nat.le_of_ble_eq_true rfl, Nat.le_of_ble_eq_true rfl⟩) (k_preV (wc := cR cI a r) hE hK hP hD [1, 2, 3, 4, 5, 6, 7, 8, 9, 10, 11, 12, 13] (by decide) rfl (ci := 1) (q0 := 1) rfl rfl [.int pp, .int (nI w9)]) rfl rfl hl.1 rfl (lv_room (Nat.le_of_ble_eq_true rfl)) dX3_planeOf_42 ⟨Nat.le_of_ble_eq_true rfl, Nat.le_of_ble_eq_true rfl⟩) hP hD hS hA [1, 2, 3, 4, 5, 6, 7, 8, 9, 10, 11, 12, 13] rfl rfl (by rw [show [1, 2, 3, 4, 5, 6, 7, 8, 9, 10, 11, 12, 13] = List.range' 1 13 from rfl, putAt_l _ _ _ _ 31, putAt_l _ _ _ _ 29, putAt_l _ _ _ _ 27, putAt_l _ _ _ _ 14, putAt_0 13 _ _ _ 1] <;> first | rfl | decide) (fun H locs hP hD hS => ?_)
      exact x_iret hx hb hr hlocks hS hP hD dX3_planeOf_45 (by simp only [cPof, if_neg c_1, if_neg c_2, ↓reduceIte]) ⟨by rw [hwe, nI_clamp (show w9 < 2 ^ 31 by omega)], rfl⟩ (Nat.le_of_ble_eq_true rfl) (Nat.le_of_ble_eq_true rfl)
    · skip
      exact x_throw (E := "java/lang/IllegalArgumentException") (kE := 2) (text := "what is not 0 to 3") (ik := 51) (is := 166) (ic := 55) (Ts := wsX3_planeOf) hfl hx hb hml hts hown hX hS hP hT hlocks rfl (by simp [eIOB, eIAE, eISE]) (by decide +kernel) (by decide +kernel) (fun _ h => List.mem_cons_of_mem _ (List.mem_append_right _ h)) bad2 hot2 (by decide +kernel) (by decide +kernel) hl.1 (by simp only [cPof, if_neg c_1, if_pos c_2, ↓reduceIte]) (by decide) dX3_planeOf_26 dX3_planeOf_29 dX3_planeOf_30 dX3_planeOf_32 dX3_planeOf_35 (Nat.le_of_ble_eq_true rfl) (Nat.le_of_ble_eq_true rfl) (Nat.le_of_ble_eq_true rfl) (Nat.le_of_ble_eq_true rfl) (Nat.le_of_ble_eq_true rfl) (Nat.le_of_ble_eq_true rfl)
  · skip
    exact x_throw (E := "java/lang/IndexOutOfBoundsException") (kE := 1) (text := "no such plane") (ik := 40) (is := 164) (ic := 44) (Ts := wsX3_planeOf) hfl hx hb hml hts hown hX hS hP hT hlocks rfl (by simp [eIOB, eIAE, eISE]) (by decide +kernel) (by decide +kernel) (fun _ h => List.mem_cons_of_mem _ (List.mem_append_left _ (List.mem_append_right _ h))) bad1 hot1 (by decide +kernel) (by decide +kernel) hl.1 (by simp only [cPof, if_pos c_1, ↓reduceIte]) (by decide) dX3_planeOf_7 dX3_planeOf_10 dX3_planeOf_11 dX3_planeOf_13 dX3_planeOf_16 (Nat.le_of_ble_eq_true rfl) (Nat.le_of_ble_eq_true rfl) (Nat.le_of_ble_eq_true rfl) (Nat.le_of_ble_eq_true rfl) (Nat.le_of_ble_eq_true rfl) (Nat.le_of_ble_eq_true rfl)
set_option maxHeartbeats 4000000 in
set_option maxRecDepth 100000 in
theorem xX3_gutterOf (l : Launch) (hfl : l.stackTraces = false) (D : va_G) (cI cQ cJ : ClassId) (o s0 w0 : Nat) (x a a2 : Nat → Nat) (A : Nat → Nat → Nat) (r q t : rB) (n old held : Nat) (B : Nat → rB) (pp rw : Int32)  : XM l D (tY cI cQ cJ) yX3_gutterOf wsX3_gutterOf ({ frames := 6, cells := 1, slots := 6, locals := 90 } : Room) [.ref o, .int pp, .int rw] (WX cI cQ o s0 w0 x a a2 A r q t n (zF A n) (nI old) (nI held) B) (cGof pp rw) (fun z w' => z = gnC r pp.toNatClampNeg rw.toNatClampNeg ∧ w' = WX cI cQ o s0 w0 x a a2 A r q t n (zF A n) (nI old) (nI held) B) := by
  refine X_of (cc := cX3_gutterOf) (maxL := 3) (ret := some .int) (by decide) rfl (Nat.le_of_ble_eq_true rfl) ?_
  intro p e s m below meth c A0 ls hB hT hE hX hP hK hD hA0 hl
  obtain ⟨hx, hb, hr, hml, hts, hown, hlocks⟩ := hB
  have hS : va_S A0 s.heap s.heap [] := va_S.rf
  have hA := hA0
  have hl : lv_has ls 3 [(0, .ref o), (1, .int pp), (2, .int rw)] := hl
  have hinX3 : ∀ w ∈ u_ws RX3 TX3 4, w ∈ wsX3_gutterOf := by decide +kernel
  have fl10 := hts (.fieldLink RX3 10 "RoofDrains" "roof" "LRoofDrains$Roof;") (by decide +kernel)
  refine lv_iload_n hx hb dX3_gutterOf_0 rfl (lv_at hl 1 rfl) ?_
  refine k_calli (wc := ([] : va_W)) (w' := ([] : va_W)) (wn := (cO o [.ref (a 0), .ref (a2 0), .ref s0, .ref (x 0)]) ++ (cR cI a r) ++ (cR cI a2 q) ++ (cS cQ s0 w0 (zF A n) (nI old) (nI held)) ++ (cT cI x t) ++ (cZ cI A B n)) (va_runS (As := [.int pp]) (rest := []) ⟨hx, hb, hml, hown, hts⟩ (mX3_isGutter l D cI cQ cJ pp _) (va_cwS 1 hts gX3_gutterOf_X3_isGutter rfl rfl rfl (by decide +kernel) ⟨Nat.le_of_ble_eq_true rfl, Nat.le_of_ble_eq_true rfl⟩) (k_preS (wc := ([] : va_W)) hE hK hP hD [] (by decide) rfl [.int pp]) rfl rfl hl.1 rfl (lv_room (Nat.le_of_ble_eq_true rfl)) dX3_gutterOf_1 ⟨Nat.le_of_ble_eq_true rfl, Nat.le_of_ble_eq_true rfl⟩) hP hD hS hA [] rfl rfl rfl (fun H locs hP hD hS => ?_)
  refine lv_if_ne (tgt := 17) hx hb dX3_gutterOf_4 (by decide) (fun c_1 => ?_) (fun c_1 => ?_)
  · skip
    refine lv_iload_n hx hb dX3_gutterOf_17 rfl (lv_at hl 2 rfl) ?_
    refine lv_iconst (v := 0) hx hb dX3_gutterOf_18 (by decide) ?_
    refine lv_bipush (v := 8) hx hb dX3_gutterOf_19 (by decide) ?_
    refine k_calli (wc := ([] : va_W)) (w' := ([] : va_W)) (wn := (cO o [.ref (a 0), .ref (a2 0), .ref s0, .ref (x 0)]) ++ (cR cI a r) ++ (cR cI a2 q) ++ (cS cQ s0 w0 (zF A n) (nI old) (nI held)) ++ (cT cI x t) ++ (cZ cI A B n)) (va_runS (As := [.int rw, .int 0, .int 8]) (rest := []) ⟨hx, hb, hml, hown, hts⟩ (mX3_isWithin l D cI cQ cJ rw 0 8 _) (va_cwS 3 hts gX3_gutterOf_X3_isWithin rfl rfl rfl (by decide +kernel) ⟨Nat.le_of_ble_eq_true rfl, Nat.le_of_ble_eq_true rfl⟩) (k_preS (wc := ([] : va_W)) hE hK hP hD [] (by decide) rfl [.int rw, .int 0, .int 8]) rfl rfl hl.1 rfl (lv_room (Nat.le_of_ble_eq_true rfl)) dX3_gutterOf_21 ⟨Nat.le_of_ble_eq_true rfl, Nat.le_of_ble_eq_true rfl⟩) hP hD hS hA [] rfl rfl rfl (fun H locs hP hD hS => ?_)
    refine lv_if_ne (tgt := 37) hx hb dX3_gutterOf_24 (by decide) (fun c_2 => ?_) (fun c_2 => ?_)
    · skip
      obtain ⟨w9, hw9, hwe⟩ := zW_ex (N := 8) (n := 9) (by decide) (by decide) c_2
      refine lv_aload_n hx hb dX3_gutterOf_37 rfl (lv_at hl 0 rfl) ?_
      refine va_get (D := D) (ci := 3) (v := .ref (a 0)) (C := RX3) (T := TX3) (N := 4) hx hb hts hinX3 hown hK hP 0 rfl rfl 0 (by decide) fl10 (fun _ h9 => h9) rfl dX3_gutterOf_38 ?_
      refine lv_iload_n hx hb dX3_gutterOf_41 rfl (lv_at hl 1 rfl) ?_
      refine lv_iload_n hx hb dX3_gutterOf_42 rfl (lv_at hl 2 rfl) ?_
      refine lv_eqi (y := nI w9) hwe ?_
      refine k_calli (wc := cR cI a r) (w' := cR cI a r) (wn := (cO o [.ref (a 0), .ref (a2 0), .ref s0, .ref (x 0)]) ++ (cR cI a r) ++ (cR cI a2 q) ++ (cS cQ s0 w0 (zF A n) (nI old) (nI held)) ++ (cT cI x t) ++ (cZ cI A B n)) (va_runV (As := [.int pp, .int (nI w9)]) (rest := []) ⟨hx, hb, hml, hown, hts⟩ (mX1_gutterNumber l D cI cQ cJ a r pp pp.toNatClampNeg w9 (zL_in (n := 6) rfl rfl c_1) rfl (by omega) _) (cwV 2 hts gX3_gutterOf_X1_gutterNumber rfl rfl rfl (by decide +kernel) ⟨Nat.le_of_ble_eq_true rfl, Nat.le_of_ble_eq_true rfl⟩) (k_preV (wc := cR cI a r) hE hK hP hD [1, 2, 3, 4, 5, 6, 7, 8, 9, 10, 11, 12, 13] (by decide) rfl (ci := 1) (q0 := 1) rfl rfl [.int pp, .int (nI w9)]) rfl rfl hl.1 rfl (lv_room (Nat.le_of_ble_eq_true rfl)) dX3_gutterOf_43 ⟨Nat.le_of_ble_eq_true rfl, Nat.le_of_ble_eq_true rfl⟩) hP hD hS hA [1, 2, 3, 4, 5, 6, 7, 8, 9, 10, 11, 12, 13] rfl rfl (by rw [show [1, 2, 3, 4, 5, 6, 7, 8, 9, 10, 11, 12, 13] = List.range' 1 13 from rfl, putAt_l _ _ _ _ 31, putAt_l _ _ _ _ 29, putAt_l _ _ _ _ 27, putAt_l _ _ _ _ 14, putAt_0 13 _ _ _ 1] <;> first | rfl | decide) (fun H locs hP hD hS => ?_)
      exact x_iret hx hb hr hlocks hS hP hD dX3_gutterOf_46 (by simp only [cGof, if_neg c_1, if_neg c_2, ↓reduceIte]) ⟨by rw [hwe, nI_clamp (show w9 < 2 ^ 31 by omega)], rfl⟩ (Nat.le_of_ble_eq_true rfl) (Nat.le_of_ble_eq_true rfl)
    · skip
      exact x_throw (E := "java/lang/IllegalArgumentException") (kE := 2) (text := "what is not 0 to 8") (ik := 51) (is := 171) (ic := 55) (Ts := wsX3_gutterOf) hfl hx hb hml hts hown hX hS hP hT hlocks rfl (by simp [eIOB, eIAE, eISE]) (by decide +kernel) (by decide +kernel) (fun _ h => List.mem_cons_of_mem _ (List.mem_append_right _ h)) bad2 hot2 (by decide +kernel) (by decide +kernel) hl.1 (by simp only [cGof, if_neg c_1, if_pos c_2, ↓reduceIte]) (by decide) dX3_gutterOf_27 dX3_gutterOf_30 dX3_gutterOf_31 dX3_gutterOf_33 dX3_gutterOf_36 (Nat.le_of_ble_eq_true rfl) (Nat.le_of_ble_eq_true rfl) (Nat.le_of_ble_eq_true rfl) (Nat.le_of_ble_eq_true rfl) (Nat.le_of_ble_eq_true rfl) (Nat.le_of_ble_eq_true rfl)
  · skip
    exact x_throw (E := "java/lang/IndexOutOfBoundsException") (kE := 1) (text := "no such gutter") (ik := 40) (is := 64) (ic := 44) (Ts := wsX3_gutterOf) hfl hx hb hml hts hown hX hS hP hT hlocks rfl (by simp [eIOB, eIAE, eISE]) (by decide +kernel) (by decide +kernel) (fun _ h => List.mem_cons_of_mem _ (List.mem_append_left _ (List.mem_append_right _ h))) bad1 hot1 (by decide +kernel) (by decide +kernel) hl.1 (by simp only [cGof, if_pos c_1, ↓reduceIte]) (by decide) dX3_gutterOf_7 dX3_gutterOf_10 dX3_gutterOf_11 dX3_gutterOf_13 dX3_gutterOf_16 (Nat.le_of_ble_eq_true rfl) (Nat.le_of_ble_eq_true rfl) (Nat.le_of_ble_eq_true rfl) (Nat.le_of_ble_eq_true rfl) (Nat.le_of_ble_eq_true rfl) (Nat.le_of_ble_eq_true rfl)
set_option maxHeartbeats 4000000 in
set_option maxRecDepth 100000 in
theorem xX3_setting (l : Launch) (hfl : l.stackTraces = false) (D : va_G) (cI cQ cJ : ClassId) (o s0 w0 : Nat) (x a a2 : Nat → Nat) (A : Nat → Nat → Nat) (r q t : rB) (n old held : Nat) (B : Nat → rB) (pp : Int32)  : XM l D (tY cI cQ cJ) yX3_setting wsX3_setting ({ frames := 6, cells := 1, slots := 6, locals := 90 } : Room) [.ref o, .int pp] (WX cI cQ o s0 w0 x a a2 A r q t n (zF A n) (nI old) (nI held) B) (cStg pp) (fun z w' => z = r 11 pp.toNatClampNeg ∧ w' = WX cI cQ o s0 w0 x a a2 A r q t n (zF A n) (nI old) (nI held) B) := by
  refine X_of (cc := cX3_setting) (maxL := 2) (ret := some .int) (by decide) rfl (Nat.le_of_ble_eq_true rfl) ?_
  intro p e s m below meth c A0 ls hB hT hE hX hP hK hD hA0 hl
  obtain ⟨hx, hb, hr, hml, hts, hown, hlocks⟩ := hB
  have hS : va_S A0 s.heap s.heap [] := va_S.rf
  have hA := hA0
  have hl : lv_has ls 2 [(0, .ref o), (1, .int pp)] := hl
  have hinX3 : ∀ w ∈ u_ws RX3 TX3 4, w ∈ wsX3_setting := by decide +kernel
  have fl10 := hts (.fieldLink RX3 10 "RoofDrains" "roof" "LRoofDrains$Roof;") (by decide +kernel)
  refine lv_iload_n hx hb dX3_setting_0 rfl (lv_at hl 1 rfl) ?_
  refine k_calli (wc := ([] : va_W)) (w' := ([] : va_W)) (wn := (cO o [.ref (a 0), .ref (a2 0), .ref s0, .ref (x 0)]) ++ (cR cI a r) ++ (cR cI a2 q) ++ (cS cQ s0 w0 (zF A n) (nI old) (nI held)) ++ (cT cI x t) ++ (cZ cI A B n)) (va_runS (As := [.int pp]) (rest := []) ⟨hx, hb, hml, hown, hts⟩ (mX3_isSetting l D cI cQ cJ pp _) (va_cwS 1 hts gX3_setting_X3_isSetting rfl rfl rfl (by decide +kernel) ⟨Nat.le_of_ble_eq_true rfl, Nat.le_of_ble_eq_true rfl⟩) (k_preS (wc := ([] : va_W)) hE hK hP hD [] (by decide) rfl [.int pp]) rfl rfl hl.1 rfl (lv_room (Nat.le_of_ble_eq_true rfl)) dX3_setting_1 ⟨Nat.le_of_ble_eq_true rfl, Nat.le_of_ble_eq_true rfl⟩) hP hD hS hA [] rfl rfl rfl (fun H locs hP hD hS => ?_)
  refine lv_if_ne (tgt := 17) hx hb dX3_setting_4 (by decide) (fun c_1 => ?_) (fun c_1 => ?_)
  · skip
    refine lv_aload_n hx hb dX3_setting_17 rfl (lv_at hl 0 rfl) ?_
    refine va_get (D := D) (ci := 3) (v := .ref (a 0)) (C := RX3) (T := TX3) (N := 4) hx hb hts hinX3 hown hK hP 0 rfl rfl 0 (by decide) fl10 (fun _ h9 => h9) rfl dX3_setting_18 ?_
    refine lv_iload_n hx hb dX3_setting_21 rfl (lv_at hl 1 rfl) ?_
    refine k_calli (wc := cR cI a r) (w' := cR cI a r) (wn := (cO o [.ref (a 0), .ref (a2 0), .ref s0, .ref (x 0)]) ++ (cR cI a r) ++ (cR cI a2 q) ++ (cS cQ s0 w0 (zF A n) (nI old) (nI held)) ++ (cT cI x t) ++ (cZ cI A B n)) (va_runV (As := [.int pp]) (rest := []) ⟨hx, hb, hml, hown, hts⟩ (mX1_settingValue l D cI cQ cJ a r pp pp.toNatClampNeg (zL_in (n := 3) rfl rfl c_1) rfl _) (cwV 1 hts gX3_setting_X1_settingValue rfl rfl rfl (by decide +kernel) ⟨Nat.le_of_ble_eq_true rfl, Nat.le_of_ble_eq_true rfl⟩) (k_preV (wc := cR cI a r) hE hK hP hD [1, 2, 3, 4, 5, 6, 7, 8, 9, 10, 11, 12, 13] (by decide) rfl (ci := 1) (q0 := 1) rfl rfl [.int pp]) rfl rfl hl.1 rfl (lv_room (Nat.le_of_ble_eq_true rfl)) dX3_setting_22 ⟨Nat.le_of_ble_eq_true rfl, Nat.le_of_ble_eq_true rfl⟩) hP hD hS hA [1, 2, 3, 4, 5, 6, 7, 8, 9, 10, 11, 12, 13] rfl rfl (by rw [show [1, 2, 3, 4, 5, 6, 7, 8, 9, 10, 11, 12, 13] = List.range' 1 13 from rfl, putAt_l _ _ _ _ 31, putAt_l _ _ _ _ 29, putAt_l _ _ _ _ 27, putAt_l _ _ _ _ 14, putAt_0 13 _ _ _ 1] <;> first | rfl | decide) (fun H locs hP hD hS => ?_)
    exact x_iret hx hb hr hlocks hS hP hD dX3_setting_25 (by simp only [cStg, if_neg c_1, ↓reduceIte]) ⟨rfl, rfl⟩ (Nat.le_of_ble_eq_true rfl) (Nat.le_of_ble_eq_true rfl)
  · skip
    exact x_throw (E := "java/lang/IndexOutOfBoundsException") (kE := 1) (text := "no such setting") (ik := 40) (is := 94) (ic := 44) (Ts := wsX3_setting) hfl hx hb hml hts hown hX hS hP hT hlocks rfl (by simp [eIOB, eIAE, eISE]) (by decide +kernel) (by decide +kernel) (fun _ h => List.mem_cons_of_mem _ (List.mem_append_right _ h)) bad1 hot1 (by decide +kernel) (by decide +kernel) hl.1 (by simp only [cStg, if_pos c_1, ↓reduceIte]) (by decide) dX3_setting_7 dX3_setting_10 dX3_setting_11 dX3_setting_13 dX3_setting_16 (Nat.le_of_ble_eq_true rfl) (Nat.le_of_ble_eq_true rfl) (Nat.le_of_ble_eq_true rfl) (Nat.le_of_ble_eq_true rfl) (Nat.le_of_ble_eq_true rfl) (Nat.le_of_ble_eq_true rfl)
end
section
/-! the rest of the face's calls -/
theorem nd_undo (i : Nat) : va_nd ([1, 2, 3, 4, 5, 6, 7, 8, 9, 10, 11, 12, 13] ++ List.range' (31 + 13 * i) 13) = true := nd_app (by decide) (nd_range _ _) (fun x hx h2 => by
  have := List.mem_range'_1.mp h2
  simp only [List.mem_cons, List.not_mem_nil, or_false] at hx
  omega)
set_option maxHeartbeats 4000000 in
set_option maxRecDepth 100000 in
theorem xX3_undo (l : Launch) (hfl : l.stackTraces = false) (D : va_G) (cI cQ cJ : ClassId) (o s0 w0 : Nat) (x a a2 : Nat → Nat) (A : Nat → Nat → Nat) (r q t : rB) (n old held : Nat) (B : Nat → rB)  (hok : svOk n old held) : XM l D (tY cI cQ cJ) yX3_undo wsX3_undo ({ frames := 6, cells := 1, slots := 6, locals := 90 } : Room) [.ref o] (WX cI cQ o s0 w0 x a a2 A r q t n (zF A n) (nI old) (nI held) B) (cUnd held) (fun z w' => z = nI (held - 1) ∧ w' = WX cI cQ o s0 w0 x a a2 A (B ((old + (held - 1)) % 6)) q t n (zF A n) (nI old) (nI (held - 1)) B) := by
  refine X_of (cc := cX3_undo) (maxL := 2) (ret := some .int) (by decide) rfl (Nat.le_of_ble_eq_true rfl) ?_
  intro p e s m below meth c A0 ls hB hT hE hX hP hK hD hA0 hl
  obtain ⟨hx, hb, hr, hml, hts, hown, hlocks⟩ := hB
  have hS : va_S A0 s.heap s.heap [] := va_S.rf
  have hA := hA0
  have hl : lv_has ls 2 [(0, .ref o)] := hl
  have hinX3 : ∀ w ∈ u_ws RX3 TX3 4, w ∈ wsX3_undo := by decide +kernel
  have fl22 := hts (.fieldLink RX3 22 "RoofDrains" "saved" "LRoofDrains$SavedRoofs;") (by decide +kernel)
  have fl10 := hts (.fieldLink RX3 10 "RoofDrains" "roof" "LRoofDrains$Roof;") (by decide +kernel)
  refine lv_aload_n hx hb dX3_undo_0 rfl (lv_at hl 0 rfl) ?_
  refine va_get (D := D) (ci := 3) (v := .ref s0) (C := RX3) (T := TX3) (N := 4) hx hb hts hinX3 hown hK hP 0 rfl rfl 2 (by decide) fl22 (fun _ h9 => h9) rfl dX3_undo_1 ?_
  refine va_callq (va_runV (As := []) (rest := []) ⟨hx, hb, hml, hown, hts⟩ (mX2_dropLatest l D cI cQ cJ o s0 w0 x a a2 A r q t n old held B hok _) (cwV 0 hts gX3_undo_X2_dropLatest rfl rfl rfl (by decide +kernel) ⟨Nat.le_of_ble_eq_true rfl, Nat.le_of_ble_eq_true rfl⟩) (k_preRV (wr := []) (wc := (cO o [.ref (a 0), .ref (a2 0), .ref s0, .ref (x 0)]) ++ (cR cI a r) ++ (cR cI a2 q) ++ (cS cQ s0 w0 (zF A n) (nI old) (nI held)) ++ (cT cI x t) ++ (cZ cI A B n)) hE hK hP hD (ci := 2) (q0 := 27) rfl rfl []) rfl rfl hl.1 rfl (lv_room (Nat.le_of_ble_eq_true rfl)) dX3_undo_4 ⟨Nat.le_of_ble_eq_true rfl, Nat.le_of_ble_eq_true rfl⟩) hS (fun q9 _ h9 => k_freeR (wr := []) hD hS hA0 q9 h9) (fun q9 h9 => k_freeR (wr := []) hD hS hA0 q9 h9) (fun rq u9 t9 H locs ht hvm hw hB9 hz hk9 hS => ?_)
  subst hw
  have hP : va_P D vwCl (WX cI cQ o s0 w0 x a a2 A r q t n (zF A n) (nI old) (nI (held - 1)) B) H := by have h9 : va_P D vwCl (WX cI cQ o s0 w0 x a a2 A r q t n (zF A n) (nI old) (nI (held - 1)) B) t9.heap := hB9; rw [ht] at h9; exact h9
  have hD : va_D A0 (WX cI cQ o s0 w0 x a a2 A r q t n (zF A n) (nI old) (nI (held - 1)) B) := va_D_fst hD rfl
  by_cases h0 : held = 0
  · skip
    refine lv_eqv (y := .null) (by rw [show kD A old held = none from if_pos h0]; rfl) ?_
    obtain ⟨hP, hD⟩ := k_eqw (w' := WX cI cQ o s0 w0 x a a2 A r q t n (zF A n) (nI old) (nI held) B) (by rw [show held - 1 = held by omega]) hP hD
    refine lv_astore_nN (lv' := [(1, .null), (0, .ref o)]) hx hb dX3_undo_7 rfl hl (by decide) rfl (fun ls hl => ?_)
    refine lv_aload_nN hx hb dX3_undo_8 rfl (lv_at hl 0 rfl) ?_
    refine lv_ifnonnullN hx hb dX3_undo_9 ?_
    exact x_throw (E := "java/lang/IllegalStateException") (kE := 3) (text := "no saved state") (ik := 78) (is := 156) (ic := 82) (Ts := wsX3_undo) hfl hx hb hml hts hown hX hS hP hT hlocks rfl (by simp [eIOB, eIAE, eISE]) (by decide +kernel) (by decide +kernel) (fun _ h => List.mem_cons_of_mem _ (List.mem_append_right _ h)) bad3 hot3 (by decide +kernel) (by decide +kernel) hl.1 (by simp only [cUnd, if_pos h0, ↓reduceIte]) (by decide) dX3_undo_12 dX3_undo_15 dX3_undo_16 dX3_undo_18 dX3_undo_21 (Nat.le_of_ble_eq_true rfl) (Nat.le_of_ble_eq_true rfl) (Nat.le_of_ble_eq_true rfl) (Nat.le_of_ble_eq_true rfl) (Nat.le_of_ble_eq_true rfl) (Nat.le_of_ble_eq_true rfl)
  · skip
    obtain ⟨i, hi⟩ : ∃ i, i = (old + (held - 1)) % 6 := ⟨_, rfl⟩
    have hin : i < n := hi ▸ svOk_at hok h0
    refine lv_eqv (y := .ref (A i 0)) (by rw [show kD A old held = some (A i 0) from (if_neg h0).trans (by rw [hi])]; rfl) ?_
    refine lv_astore_n (lv' := [(1, .ref (A i 0)), (0, .ref o)]) hx hb dX3_undo_7 rfl hl (by decide) rfl (fun ls hl => ?_)
    refine lv_aload_n hx hb dX3_undo_8 rfl (lv_at hl 0 rfl) ?_
    refine lv_ifnonnull (tgt := 22) hx hb dX3_undo_9 (by decide) ?_
    refine lv_aload_n hx hb dX3_undo_22 rfl (lv_at hl 1 rfl) ?_
    refine va_get (D := D) (ci := 3) (v := .ref (a 0)) (C := RX3) (T := TX3) (N := 4) hx hb hts hinX3 hown hK hP 0 rfl rfl 0 (by decide) fl10 (fun _ h9 => h9) rfl dX3_undo_23 ?_
    refine lv_aload_n hx hb dX3_undo_26 rfl (lv_at hl 0 rfl) ?_
    have hC : ([1, 2, 3, 4, 5, 6, 7, 8, 9, 10, 11, 12, 13] ++ List.range' (31 + 13 * i) 13).map (fun z => (WX cI cQ o s0 w0 x a a2 A r q t n (zF A n) (nI old) (nI (held - 1)) B)[z]?) = (cR cI a r ++ cR cI (A i) (B i)).map some := map_app2 rfl (cZ_map (k := 31) rfl rfl hin)
    have hn9 : putAt (WX cI cQ o s0 w0 x a a2 A r q t n (zF A n) (nI old) (nI (held - 1)) B) ([1, 2, 3, 4, 5, 6, 7, 8, 9, 10, 11, 12, 13] ++ List.range' (31 + 13 * i) 13) (cR cI a (B i) ++ cR cI (A i) (B i)) = WX cI cQ o s0 w0 x a a2 A (B i) q t n (zF A n) (nI old) (nI (held - 1)) B := by
      rw [putAt_cat _ _ _ _ _ rfl]
      refine (cZ_put (w := (cO o [.ref (a 0), .ref (a2 0), .ref s0, .ref (x 0)]) ++ (cR cI a (B i)) ++ (cR cI a2 q) ++ (cS cQ s0 w0 (zF A n) (nI old) (nI (held - 1))) ++ (cT cI x t)) (k := 31) (r := B i) rfl rfl n hin).trans ?_
      rw [cZ_cong n (A := A) (A1 := A) (B := fun z => if z = i then B i else B z) (B1 := B) (fun z hz => ⟨rfl, by by_cases h9 : z = i <;> simp [h9]⟩)]
    refine k_callv (wc := cR cI a r ++ cR cI (A i) (B i)) (w' := cR cI a (B i) ++ cR cI (A i) (B i)) (wn := WX cI cQ o s0 w0 x a a2 A (B i) q t n (zF A n) (nI old) (nI (held - 1)) B) (va_runV (As := [.ref (A i 0)]) (rest := []) ⟨hx, hb, hml, hown, hts⟩ (mX1_copyFrom l D cI cQ cJ a r (A i) (B i) _) (cwV 1 hts gX3_undo_X1_copyFrom rfl rfl rfl (by decide +kernel) ⟨Nat.le_of_ble_eq_true rfl, Nat.le_of_ble_eq_true rfl⟩) (k_preV (wc := cR cI a r ++ cR cI (A i) (B i)) hE hK hP hD ([1, 2, 3, 4, 5, 6, 7, 8, 9, 10, 11, 12, 13] ++ List.range' (31 + 13 * i) 13) (nd_undo i) hC (ci := 1) (q0 := 1) rfl rfl [.ref (A i 0)]) rfl rfl hl.1 rfl (lv_room (Nat.le_of_ble_eq_true rfl)) dX3_undo_27 ⟨Nat.le_of_ble_eq_true rfl, Nat.le_of_ble_eq_true rfl⟩) hP hD hS hA0 ([1, 2, 3, 4, 5, 6, 7, 8, 9, 10, 11, 12, 13] ++ List.range' (31 + 13 * i) 13) hC rfl hn9 (fun H locs hP hD hS => ?_)
    refine lv_aload_n hx hb dX3_undo_30 rfl (lv_at hl 1 rfl) ?_
    refine va_get (D := D) (ci := 3) (v := .ref s0) (C := RX3) (T := TX3) (N := 4) hx hb hts hinX3 hown hK hP 0 rfl rfl 2 (by decide) fl22 (fun _ h9 => h9) rfl dX3_undo_31 ?_
    refine k_calli (wc := cS cQ s0 w0 (zF A n) (nI old) (nI (held - 1))) (w' := cS cQ s0 w0 (zF A n) (nI old) (nI (held - 1))) (wn := (cO o [.ref (a 0), .ref (a2 0), .ref s0, .ref (x 0)]) ++ (cR cI a (B i)) ++ (cR cI a2 q) ++ (cS cQ s0 w0 (zF A n) (nI old) (nI (held - 1))) ++ (cT cI x t) ++ (cZ cI A B n)) (va_runV (As := []) (rest := []) ⟨hx, hb, hml, hown, hts⟩ (mX2_held l D cI cQ cJ s0 w0 (zF A n) (nI old) (nI (held - 1)) _) (cwV 0 hts gX3_undo_X2_held rfl rfl rfl (by decide +kernel) ⟨Nat.le_of_ble_eq_true rfl, Nat.le_of_ble_eq_true rfl⟩) (k_preV (wc := cS cQ s0 w0 (zF A n) (nI old) (nI (held - 1))) hE hK hP hD [27, 28] (by decide) rfl (ci := 2) (q0 := 27) rfl rfl []) rfl rfl hl.1 rfl (lv_room (Nat.le_of_ble_eq_true rfl)) dX3_undo_34 ⟨Nat.le_of_ble_eq_true rfl, Nat.le_of_ble_eq_true rfl⟩) hP hD hS hA [27, 28] rfl rfl (putAt_same _ _ _ rfl) (fun H locs hP hD hS => ?_)
    exact x_iret hx hb hr hlocks hS hP hD dX3_undo_37 (by simp only [cUnd, if_neg h0, ↓reduceIte]) ⟨rfl, by rw [← hi]⟩ (Nat.le_of_ble_eq_true rfl) (Nat.le_of_ble_eq_true rfl)
end
section
set_option maxHeartbeats 4000000 in
set_option maxRecDepth 100000 in
theorem mX3_count (l : Launch) (D : va_G) (cI cQ cJ : ClassId) (o s0 x0 : Nat) (a a2 : Nat → Nat) (r : rB) (w0 : Nat) (f : Nat → Option Nat) (vo vh : Int32) (w : Nat) (hw : w < 9) : Mi l D (tY cI cQ cJ) yX3_count wsX3_count ({ frames := 2, cells := 0, slots := 0, locals := 45 } : Room) [.ref o, .int (nI w)] ((cO o [.ref (a 0), .ref (a2 0), .ref s0, .ref x0]) ++ (cR cI a r) ++ (cS cQ s0 w0 f vo vh)) ((cO o [.ref (a 0), .ref (a2 0), .ref s0, .ref x0]) ++ (cR cI a r) ++ (cS cQ s0 w0 f vo vh)) (cnC r vh w) := by
  refine M_of (cc := cX3_count) (maxL := 2) (ret := some .int) (Qc := fun A => va_Qi (fun (x : Int32) (_ : Unit) => x = cnC r vh w) (fun _ t => Wd D ((cO o [.ref (a 0), .ref (a2 0), .ref s0, .ref x0]) ++ (cR cI a r) ++ (cS cQ s0 w0 f vo vh)) t) A) (by decide) rfl (Nat.le_of_ble_eq_true rfl) ?_
  intro p e s m below meth c A ls hB hE hP hK hD hA hl
  obtain ⟨hx, hb, hr, hml, hts, hown, hlocks⟩ := hB
  have hS : va_S A s.heap s.heap [] := va_S.rf
  have hl : lv_has ls 2 [(0, .ref o), (1, .int (nI w))] := hl
  have hinX3 : ∀ w ∈ u_ws RX3 TX3 4, w ∈ wsX3_count := by decide +kernel
  have fl10 := hts (.fieldLink RX3 10 "RoofDrains" "roof" "LRoofDrains$Roof;") (by decide +kernel)
  have fl22 := hts (.fieldLink RX3 22 "RoofDrains" "saved" "LRoofDrains$SavedRoofs;") (by decide +kernel)
  refine lv_iload_n hx hb dX3_count_0 rfl (lv_at hl 1 rfl) ?_
  have hsw : w = 0 ∨ w = 1 ∨ w = 2 ∨ w = 3 ∨ w = 4 ∨ w = 5 ∨ w = 6 ∨ w = 7 ∨ w = 8 := by omega
  rcases hsw with rfl | rfl | rfl | rfl | rfl | rfl | rfl | rfl | rfl
  · skip
    refine lv_tableIn (off := 51) (tgt := 52) hx hb dX3_count_1 (by decide +kernel) (by decide +kernel) (by decide +kernel) (by decide) ?_
    refine lv_aload_n hx hb dX3_count_52 rfl (lv_at hl 0 rfl) ?_
    refine va_get (D := D) (ci := 3) (v := .ref (a 0)) (C := RX3) (T := TX3) (N := 4) hx hb hts hinX3 hown hK hP 0 rfl rfl 0 (by decide) fl10 (fun _ h9 => h9) rfl dX3_count_53 ?_
    refine k_calli (wc := cR cI a r) (w' := cR cI a r) (wn := (cO o [.ref (a 0), .ref (a2 0), .ref s0, .ref x0]) ++ (cR cI a r) ++ (cS cQ s0 w0 f vo vh)) (va_runV (As := []) (rest := []) ⟨hx, hb, hml, hown, hts⟩ (mX1_minutesGone l D cI cQ cJ a r _) (cwV 0 hts gX3_count_X1_minutesGone rfl rfl rfl (by decide +kernel) ⟨Nat.le_of_ble_eq_true rfl, Nat.le_of_ble_eq_true rfl⟩) (k_preV (wc := cR cI a r) hE hK hP hD [1, 2, 3, 4, 5, 6, 7, 8, 9, 10, 11, 12, 13] (by decide) rfl (ci := 1) (q0 := 1) rfl rfl []) rfl rfl hl.1 rfl (lv_room (Nat.le_of_ble_eq_true rfl)) dX3_count_56 ⟨Nat.zero_le _, Nat.zero_le _⟩) hP hD hS hA [1, 2, 3, 4, 5, 6, 7, 8, 9, 10, 11, 12, 13] rfl rfl (by rw [show [1, 2, 3, 4, 5, 6, 7, 8, 9, 10, 11, 12, 13] = List.range' 1 13 from rfl, putAt_l _ _ _ _ 14, putAt_0 13 _ _ _ 1] <;> first | rfl | decide) (fun H locs hP hD hS => ?_)
    exact k_iret hx hb hr hlocks hS hP dX3_count_59 (by (first | with_reducible rfl | simp only [cnC, ↓reduceIte]))
  · skip
    refine lv_tableIn (off := 59) (tgt := 60) hx hb dX3_count_1 (by decide +kernel) (by decide +kernel) (by decide +kernel) (by decide) ?_
    refine lv_aload_n hx hb dX3_count_60 rfl (lv_at hl 0 rfl) ?_
    refine va_get (D := D) (ci := 3) (v := .ref (a 0)) (C := RX3) (T := TX3) (N := 4) hx hb hts hinX3 hown hK hP 0 rfl rfl 0 (by decide) fl10 (fun _ h9 => h9) rfl dX3_count_61 ?_
    refine k_calli (wc := cR cI a r) (w' := cR cI a r) (wn := (cO o [.ref (a 0), .ref (a2 0), .ref s0, .ref x0]) ++ (cR cI a r) ++ (cS cQ s0 w0 f vo vh)) (va_runV (As := []) (rest := []) ⟨hx, hb, hml, hown, hts⟩ (mX1_weeksPassed l D cI cQ cJ a r _) (cwV 0 hts gX3_count_X1_weeksPassed rfl rfl rfl (by decide +kernel) ⟨Nat.le_of_ble_eq_true rfl, Nat.le_of_ble_eq_true rfl⟩) (k_preV (wc := cR cI a r) hE hK hP hD [1, 2, 3, 4, 5, 6, 7, 8, 9, 10, 11, 12, 13] (by decide) rfl (ci := 1) (q0 := 1) rfl rfl []) rfl rfl hl.1 rfl (lv_room (Nat.le_of_ble_eq_true rfl)) dX3_count_64 ⟨Nat.zero_le _, Nat.zero_le _⟩) hP hD hS hA [1, 2, 3, 4, 5, 6, 7, 8, 9, 10, 11, 12, 13] rfl rfl (by rw [show [1, 2, 3, 4, 5, 6, 7, 8, 9, 10, 11, 12, 13] = List.range' 1 13 from rfl, putAt_l _ _ _ _ 14, putAt_0 13 _ _ _ 1] <;> first | rfl | decide) (fun H locs hP hD hS => ?_)
    exact k_iret hx hb hr hlocks hS hP dX3_count_67 (by (first | with_reducible rfl | simp only [cnC, ↓reduceIte]))
  · skip
    refine lv_tableIn (off := 67) (tgt := 68) hx hb dX3_count_1 (by decide +kernel) (by decide +kernel) (by decide +kernel) (by decide) ?_
    refine lv_aload_n hx hb dX3_count_68 rfl (lv_at hl 0 rfl) ?_
    refine va_get (D := D) (ci := 3) (v := .ref (a 0)) (C := RX3) (T := TX3) (N := 4) hx hb hts hinX3 hown hK hP 0 rfl rfl 0 (by decide) fl10 (fun _ h9 => h9) rfl dX3_count_69 ?_
    refine k_calli (wc := cR cI a r) (w' := cR cI a r) (wn := (cO o [.ref (a 0), .ref (a2 0), .ref s0, .ref x0]) ++ (cR cI a r) ++ (cS cQ s0 w0 f vo vh)) (va_runV (As := []) (rest := []) ⟨hx, hb, hml, hown, hts⟩ (mX1_rainedLitres l D cI cQ cJ a r _) (cwV 0 hts gX3_count_X1_rainedLitres rfl rfl rfl (by decide +kernel) ⟨Nat.le_of_ble_eq_true rfl, Nat.le_of_ble_eq_true rfl⟩) (k_preV (wc := cR cI a r) hE hK hP hD [1, 2, 3, 4, 5, 6, 7, 8, 9, 10, 11, 12, 13] (by decide) rfl (ci := 1) (q0 := 1) rfl rfl []) rfl rfl hl.1 rfl (lv_room (Nat.le_of_ble_eq_true rfl)) dX3_count_72 ⟨Nat.zero_le _, Nat.zero_le _⟩) hP hD hS hA [1, 2, 3, 4, 5, 6, 7, 8, 9, 10, 11, 12, 13] rfl rfl (by rw [show [1, 2, 3, 4, 5, 6, 7, 8, 9, 10, 11, 12, 13] = List.range' 1 13 from rfl, putAt_l _ _ _ _ 14, putAt_0 13 _ _ _ 1] <;> first | rfl | decide) (fun H locs hP hD hS => ?_)
    exact k_iret hx hb hr hlocks hS hP dX3_count_75 (by (first | with_reducible rfl | simp only [cnC, ↓reduceIte]))
  · skip
    refine lv_tableIn (off := 75) (tgt := 76) hx hb dX3_count_1 (by decide +kernel) (by decide +kernel) (by decide +kernel) (by decide) ?_
    refine lv_aload_n hx hb dX3_count_76 rfl (lv_at hl 0 rfl) ?_
    refine va_get (D := D) (ci := 3) (v := .ref (a 0)) (C := RX3) (T := TX3) (N := 4) hx hb hts hinX3 hown hK hP 0 rfl rfl 0 (by decide) fl10 (fun _ h9 => h9) rfl dX3_count_77 ?_
    refine k_calli (wc := cR cI a r) (w' := cR cI a r) (wn := (cO o [.ref (a 0), .ref (a2 0), .ref s0, .ref x0]) ++ (cR cI a r) ++ (cS cQ s0 w0 f vo vh)) (va_runV (As := []) (rest := []) ⟨hx, hb, hml, hown, hts⟩ (mX1_standingLitres l D cI cQ cJ a r _) (cwV 0 hts gX3_count_X1_standingLitres rfl rfl rfl (by decide +kernel) ⟨Nat.le_of_ble_eq_true rfl, Nat.le_of_ble_eq_true rfl⟩) (k_preV (wc := cR cI a r) hE hK hP hD [1, 2, 3, 4, 5, 6, 7, 8, 9, 10, 11, 12, 13] (by decide) rfl (ci := 1) (q0 := 1) rfl rfl []) rfl rfl hl.1 rfl (lv_room (Nat.le_of_ble_eq_true rfl)) dX3_count_80 ⟨Nat.zero_le _, Nat.zero_le _⟩) hP hD hS hA [1, 2, 3, 4, 5, 6, 7, 8, 9, 10, 11, 12, 13] rfl rfl (by rw [show [1, 2, 3, 4, 5, 6, 7, 8, 9, 10, 11, 12, 13] = List.range' 1 13 from rfl, putAt_l _ _ _ _ 14, putAt_0 13 _ _ _ 1] <;> first | rfl | decide) (fun H locs hP hD hS => ?_)
    exact k_iret hx hb hr hlocks hS hP dX3_count_83 (by (first | with_reducible rfl | simp only [cnC, ↓reduceIte]))
  · skip
    refine lv_tableIn (off := 83) (tgt := 84) hx hb dX3_count_1 (by decide +kernel) (by decide +kernel) (by decide +kernel) (by decide) ?_
    refine lv_aload_n hx hb dX3_count_84 rfl (lv_at hl 0 rfl) ?_
    refine va_get (D := D) (ci := 3) (v := .ref (a 0)) (C := RX3) (T := TX3) (N := 4) hx hb hts hinX3 hown hK hP 0 rfl rfl 0 (by decide) fl10 (fun _ h9 => h9) rfl dX3_count_85 ?_
    refine k_calli (wc := cR cI a r) (w' := cR cI a r) (wn := (cO o [.ref (a 0), .ref (a2 0), .ref s0, .ref x0]) ++ (cR cI a r) ++ (cS cQ s0 w0 f vo vh)) (va_runV (As := []) (rest := []) ⟨hx, hb, hml, hown, hts⟩ (mX1_drainedLitres l D cI cQ cJ a r _) (cwV 0 hts gX3_count_X1_drainedLitres rfl rfl rfl (by decide +kernel) ⟨Nat.le_of_ble_eq_true rfl, Nat.le_of_ble_eq_true rfl⟩) (k_preV (wc := cR cI a r) hE hK hP hD [1, 2, 3, 4, 5, 6, 7, 8, 9, 10, 11, 12, 13] (by decide) rfl (ci := 1) (q0 := 1) rfl rfl []) rfl rfl hl.1 rfl (lv_room (Nat.le_of_ble_eq_true rfl)) dX3_count_88 ⟨Nat.zero_le _, Nat.zero_le _⟩) hP hD hS hA [1, 2, 3, 4, 5, 6, 7, 8, 9, 10, 11, 12, 13] rfl rfl (by rw [show [1, 2, 3, 4, 5, 6, 7, 8, 9, 10, 11, 12, 13] = List.range' 1 13 from rfl, putAt_l _ _ _ _ 14, putAt_0 13 _ _ _ 1] <;> first | rfl | decide) (fun H locs hP hD hS => ?_)
    exact k_iret hx hb hr hlocks hS hP dX3_count_91 (by (first | with_reducible rfl | simp only [cnC, ↓reduceIte]))
  · skip
    refine lv_tableIn (off := 91) (tgt := 92) hx hb dX3_count_1 (by decide +kernel) (by decide +kernel) (by decide +kernel) (by decide) ?_
    refine lv_aload_n hx hb dX3_count_92 rfl (lv_at hl 0 rfl) ?_
    refine va_get (D := D) (ci := 3) (v := .ref (a 0)) (C := RX3) (T := TX3) (N := 4) hx hb hts hinX3 hown hK hP 0 rfl rfl 0 (by decide) fl10 (fun _ h9 => h9) rfl dX3_count_93 ?_
    refine k_calli (wc := cR cI a r) (w' := cR cI a r) (wn := (cO o [.ref (a 0), .ref (a2 0), .ref s0, .ref x0]) ++ (cR cI a r) ++ (cS cQ s0 w0 f vo vh)) (va_runV (As := []) (rest := []) ⟨hx, hb, hml, hown, hts⟩ (mX1_spiltLitres l D cI cQ cJ a r _) (cwV 0 hts gX3_count_X1_spiltLitres rfl rfl rfl (by decide +kernel) ⟨Nat.le_of_ble_eq_true rfl, Nat.le_of_ble_eq_true rfl⟩) (k_preV (wc := cR cI a r) hE hK hP hD [1, 2, 3, 4, 5, 6, 7, 8, 9, 10, 11, 12, 13] (by decide) rfl (ci := 1) (q0 := 1) rfl rfl []) rfl rfl hl.1 rfl (lv_room (Nat.le_of_ble_eq_true rfl)) dX3_count_96 ⟨Nat.zero_le _, Nat.zero_le _⟩) hP hD hS hA [1, 2, 3, 4, 5, 6, 7, 8, 9, 10, 11, 12, 13] rfl rfl (by rw [show [1, 2, 3, 4, 5, 6, 7, 8, 9, 10, 11, 12, 13] = List.range' 1 13 from rfl, putAt_l _ _ _ _ 14, putAt_0 13 _ _ _ 1] <;> first | rfl | decide) (fun H locs hP hD hS => ?_)
    exact k_iret hx hb hr hlocks hS hP dX3_count_99 (by (first | with_reducible rfl | simp only [cnC, ↓reduceIte]))
  · skip
    refine lv_tableIn (off := 99) (tgt := 100) hx hb dX3_count_1 (by decide +kernel) (by decide +kernel) (by decide +kernel) (by decide) ?_
    refine lv_aload_n hx hb dX3_count_100 rfl (lv_at hl 0 rfl) ?_
    refine va_get (D := D) (ci := 3) (v := .ref (a 0)) (C := RX3) (T := TX3) (N := 4) hx hb hts hinX3 hown hK hP 0 rfl rfl 0 (by decide) fl10 (fun _ h9 => h9) rfl dX3_count_101 ?_
    refine k_calli (wc := cR cI a r) (w' := cR cI a r) (wn := (cO o [.ref (a 0), .ref (a2 0), .ref s0, .ref x0]) ++ (cR cI a r) ++ (cS cQ s0 w0 f vo vh)) (va_runV (As := []) (rest := []) ⟨hx, hb, hml, hown, hts⟩ (mX1_backedUpMinutes l D cI cQ cJ a r _) (cwV 0 hts gX3_count_X1_backedUpMinutes rfl rfl rfl (by decide +kernel) ⟨Nat.le_of_ble_eq_true rfl, Nat.le_of_ble_eq_true rfl⟩) (k_preV (wc := cR cI a r) hE hK hP hD [1, 2, 3, 4, 5, 6, 7, 8, 9, 10, 11, 12, 13] (by decide) rfl (ci := 1) (q0 := 1) rfl rfl []) rfl rfl hl.1 rfl (lv_room (Nat.le_of_ble_eq_true rfl)) dX3_count_104 ⟨Nat.zero_le _, Nat.zero_le _⟩) hP hD hS hA [1, 2, 3, 4, 5, 6, 7, 8, 9, 10, 11, 12, 13] rfl rfl (by rw [show [1, 2, 3, 4, 5, 6, 7, 8, 9, 10, 11, 12, 13] = List.range' 1 13 from rfl, putAt_l _ _ _ _ 14, putAt_0 13 _ _ _ 1] <;> first | rfl | decide) (fun H locs hP hD hS => ?_)
    exact k_iret hx hb hr hlocks hS hP dX3_count_107 (by (first | with_reducible rfl | simp only [cnC, ↓reduceIte]))
  · skip
    refine lv_tableIn (off := 107) (tgt := 108) hx hb dX3_count_1 (by decide +kernel) (by decide +kernel) (by decide +kernel) (by decide) ?_
    refine lv_aload_n hx hb dX3_count_108 rfl (lv_at hl 0 rfl) ?_
    refine va_get (D := D) (ci := 3) (v := .ref (a 0)) (C := RX3) (T := TX3) (N := 4) hx hb hts hinX3 hown hK hP 0 rfl rfl 0 (by decide) fl10 (fun _ h9 => h9) rfl dX3_count_109 ?_
    refine k_calli (wc := cR cI a r) (w' := cR cI a r) (wn := (cO o [.ref (a 0), .ref (a2 0), .ref s0, .ref x0]) ++ (cR cI a r) ++ (cS cQ s0 w0 f vo vh)) (va_runV (As := []) (rest := []) ⟨hx, hb, hml, hown, hts⟩ (mX1_leavesTogether l D cI cQ cJ a r _) (cwV 0 hts gX3_count_X1_leavesTogether rfl rfl rfl (by decide +kernel) ⟨Nat.le_of_ble_eq_true rfl, Nat.le_of_ble_eq_true rfl⟩) (k_preV (wc := cR cI a r) hE hK hP hD [1, 2, 3, 4, 5, 6, 7, 8, 9, 10, 11, 12, 13] (by decide) rfl (ci := 1) (q0 := 1) rfl rfl []) rfl rfl hl.1 rfl (lv_room (Nat.le_of_ble_eq_true rfl)) dX3_count_112 ⟨Nat.zero_le _, Nat.zero_le _⟩) hP hD hS hA [1, 2, 3, 4, 5, 6, 7, 8, 9, 10, 11, 12, 13] rfl rfl (by rw [show [1, 2, 3, 4, 5, 6, 7, 8, 9, 10, 11, 12, 13] = List.range' 1 13 from rfl, putAt_l _ _ _ _ 14, putAt_0 13 _ _ _ 1] <;> first | rfl | decide) (fun H locs hP hD hS => ?_)
    exact k_iret hx hb hr hlocks hS hP dX3_count_115 (by (first | with_reducible rfl | simp only [cnC, ↓reduceIte]))
  · skip
    refine lv_tableIn (off := 115) (tgt := 116) hx hb dX3_count_1 (by decide +kernel) (by decide +kernel) (by decide +kernel) (by decide) ?_
    refine lv_aload_n hx hb dX3_count_116 rfl (lv_at hl 0 rfl) ?_
    refine va_get (D := D) (ci := 3) (v := .ref s0) (C := RX3) (T := TX3) (N := 4) hx hb hts hinX3 hown hK hP 0 rfl rfl 2 (by decide) fl22 (fun _ h9 => h9) rfl dX3_count_117 ?_
    refine k_calli (wc := cS cQ s0 w0 f vo vh) (w' := cS cQ s0 w0 f vo vh) (wn := (cO o [.ref (a 0), .ref (a2 0), .ref s0, .ref x0]) ++ (cR cI a r) ++ (cS cQ s0 w0 f vo vh)) (va_runV (As := []) (rest := []) ⟨hx, hb, hml, hown, hts⟩ (mX2_held l D cI cQ cJ s0 w0 f vo vh _) (cwV 0 hts gX3_count_X2_held rfl rfl rfl (by decide +kernel) ⟨Nat.le_of_ble_eq_true rfl, Nat.le_of_ble_eq_true rfl⟩) (k_preV (wc := cS cQ s0 w0 f vo vh) hE hK hP hD [14, 15] (by decide) rfl (ci := 2) (q0 := 14) rfl rfl []) rfl rfl hl.1 rfl (lv_room (Nat.le_of_ble_eq_true rfl)) dX3_count_120 ⟨Nat.zero_le _, Nat.zero_le _⟩) hP hD hS hA [14, 15] rfl rfl rfl (fun H locs hP hD hS => ?_)
    exact k_iret hx hb hr hlocks hS hP dX3_count_123 (by (first | with_reducible rfl | simp only [cnC, ↓reduceIte]))
end
section
/-! the roof: numbers in their ranges, water kept, no ring of valleys -/
theorem bpr {r : rB} {k i a : Nat} {x : Int32} (h : a ≠ k) : bp r k i x a = r a := if_neg h
theorem bpk {r : rB} {k i : Nat} {x : Int32} : bp r k i x k = upd (r k) i x := if_pos rfl
theorem nI_nm1 {i : Nat} (h : i < 2 ^ 31) : ¬ nI i = -1 := by
  intro h2
  have h3 := nI_toInt h
  rw [h2] at h3
  have h5 : (-1 : Int32).toInt = -1 := by decide
  omega

theorem zW_b {q : Int32} {a b : Nat} (ha : a < 2 ^ 31) (hb : b < 2 ^ 31) (h : ¬ zW q (nI a) (nI b) = 0) : ∃ j, a ≤ j ∧ j ≤ b ∧ q = nI j := by
  unfold zW at h
  by_cases h1 : q < nI a
  · rw [if_pos h1] at h; exact absurd rfl h
  · rw [if_neg h1] at h
    by_cases h2 : nI b < q
    · rw [if_pos h2] at h; exact absurd rfl h
    · rw [Int32.lt_iff_toInt_lt, nI_toInt ha] at h1
      rw [Int32.lt_iff_toInt_lt, nI_toInt hb] at h2
      refine ⟨q.toInt.toNat, by omega, by omega, ?_⟩
      apply Int32.toInt_inj.mp
      rw [nI_toInt (by omega)]
      omega
theorem upd_ne {f : Nat → Int32} {k j : Nat} {x : Int32} (h : j ≠ k) : upd f k x j = f j := if_neg h
theorem upd_eq {f : Nat → Int32} {k : Nat} {x : Int32} : upd f k x k = x := if_pos rfl
theorem upd_upd {f : Nat → Int32} {k : Nat} {x y : Int32} : upd (upd f k x) k y = upd f k y := by
  funext j
  by_cases h : j = k
  · subst h; rw [upd_eq, upd_eq]
  · rw [upd_ne h, upd_ne h, upd_ne h]
theorem bp_bp {r : rB} {k i : Nat} {x y : Int32} : bp (bp r k i x) k i y = bp r k i y := by
  funext a
  by_cases h : a = k
  · subst h; rw [bpk, bpk, bpk, upd_upd]
  · rw [bpr h, bpr h, bpr h]
theorem smI6 (f : Nat → Int32) : smI f 6 0 0 = 0 + f 0 + f 1 + f 2 + f 3 + f 4 + f 5 := rfl
/-- the numbers that are set are in their ranges -/
def Cf (r : rB) : Prop := (∀ i, i < 6 → (∃ n, n ≤ 200 ∧ r 0 i = nI n) ∧ (∃ n, n ≤ 9 ∧ r 1 i = nI n) ∧ (∃ n, n < 6 ∧ r 2 i = nI n) ∧ (∃ n, 1 ≤ n ∧ n ≤ 500 ∧ r 4 i = nI n) ∧ (∃ n, n ≤ 99 ∧ r 5 i = nI n) ∧ (∃ n, n ≤ 100 ∧ r 6 i = nI n) ∧ (r 7 i = -1 ∨ ∃ n, n < 6 ∧ r 7 i = nI n)) ∧ (∃ n, n ≤ 600 ∧ r 11 0 = nI n) ∧ (∃ n, n ≤ 50 ∧ r 11 1 = nI n) ∧ (∃ n, n ≤ 99 ∧ r 11 2 = nI n)
/-- the rows that a minute writes -/
def wr5 (k : Nat) : Prop := k ≠ 3 ∧ k ≠ 8 ∧ k ≠ 9 ∧ k ≠ 10 ∧ k ≠ 12
theorem wet_ne {r : rB} {i k : Nat} {x : Int32} (h : wr5 k) : wet r i x k = r k := by
  obtain ⟨h1, h2, h3, h4, h5⟩ := h
  unfold wet
  split
  · rw [bpr h1, bpr h1, bpr h5]
  · rw [bpr h2, bpr h1, bpr h1, bpr h5]
theorem drStep_ne {r : rB} {i k : Nat} {x : Int32} (h : wr5 k) : drStep r x i k = r k := by
  obtain ⟨h1, h2, h3, h4, h5⟩ := h
  unfold drStep
  rw [bpr h4, bpr h2]
theorem ovf_ne {r : rB} {i k : Nat} (h : wr5 k) : ovf r i k = r k := by
  obtain ⟨h1, h2, h3, h4, h5⟩ := h
  unfold ovf
  split
  · split
    · rw [bpr h3, bpr h2]
    · rw [bpr h2, bpr h2]
  · rfl
theorem wetAll_ne {k : Nat} (h : wr5 k) : ∀ (n i : Nat) (r : rB) (x : Int32), wetAll n i r x k = r k
  | 0, _, _, _ => rfl
  | n + 1, i, r, x => (wetAll_ne h n (i + 1) _ x).trans (wet_ne h)
theorem drL_ne {k : Nat} (h : wr5 k) : ∀ (n i : Nat) (r : rB) (l b : Int32), (drL n i r l b).1 k = r k
  | 0, _, _, _, _ => rfl
  | n + 1, i, r, l, b => (drL_ne h n (i + 1) _ _ _).trans (drStep_ne h)
theorem emptyD_ne {k : Nat} {r : rB} (h : wr5 k) : emptyD r k = r k := by
  unfold emptyD
  split
  · exact drL_ne h 6 0 r _ _
  · rw [bpr h.2.2.2.2]; exact drL_ne h 6 0 r _ _
theorem ovfAll_ne {k : Nat} (h : wr5 k) : ∀ (n i : Nat) (r : rB), ovfAll n i r k = r k
  | 0, _, _ => rfl
  | n + 1, i, r => (ovfAll_ne h n (i + 1) _).trans (ovf_ne h)
theorem minuteC_ne {k : Nat} {r : rB} {x : Int32} (h : wr5 k) : minuteC r x k = r k := by
  unfold minuteC
  rw [bpr h.2.2.2.2, ovfAll_ne h, emptyD_ne h, wetAll_ne h]
theorem minutesC_ne {k : Nat} (h : wr5 k) : ∀ (n : Nat) (r : rB) (x : Int32), minutesC n r x k = r k
  | 0, _, _ => rfl
  | n + 1, r, x => (minutesC_ne h n _ x).trans (minuteC_ne h)
theorem Cf_of {r q : rB} (h : ∀ k, wr5 k → q k = r k) (hc : Cf r) : Cf q := by
  have e0 := h 0 ⟨by decide, by decide, by decide, by decide, by decide⟩
  have e1 := h 1 ⟨by decide, by decide, by decide, by decide, by decide⟩
  have e2 := h 2 ⟨by decide, by decide, by decide, by decide, by decide⟩
  have e4 := h 4 ⟨by decide, by decide, by decide, by decide, by decide⟩
  have e5 := h 5 ⟨by decide, by decide, by decide, by decide, by decide⟩
  have e6 := h 6 ⟨by decide, by decide, by decide, by decide, by decide⟩
  have e7 := h 7 ⟨by decide, by decide, by decide, by decide, by decide⟩
  have e11 := h 11 ⟨by decide, by decide, by decide, by decide, by decide⟩
  unfold Cf
  rw [e0, e1, e2, e4, e5, e6, e7, e11]
  exact hc
theorem Cf_wet {r : rB} {i : Nat} {x : Int32} (h : Cf r) : Cf (wet r i x) := Cf_of (fun _ hk => wet_ne hk) h
theorem Cf_dr {r : rB} {i : Nat} {x : Int32} (h : Cf r) : Cf (drStep r x i) := Cf_of (fun _ hk => drStep_ne hk) h
theorem Cf_ovf {r : rB} {i : Nat} (h : Cf r) : Cf (ovf r i) := Cf_of (fun _ hk => ovf_ne hk) h
theorem Cf_min {r : rB} {x : Int32} (h : Cf r) : Cf (minuteC r x) := Cf_of (fun _ hk => minuteC_ne hk) h
theorem Cf_mins {r : rB} {x : Int32} {n : Nat} (h : Cf r) : Cf (minutesC n r x) := Cf_of (fun _ hk => minutesC_ne hk n r x) h
theorem zL_nI {j : Nat} (h : j < 6) : ¬ zL (nI j) 6 = 0 := zL_ok (n := 6) rfl (by decide) h
theorem zL_m1 : zL (-1) 6 = 0 := by decide
theorem nI_eq0 {n : Nat} (h : n < 2 ^ 31) : (nI n = 0) = (n = 0) := by
  apply propext
  constructor
  · exact nI_inj0 h
  · intro e; subst e; rfl
theorem nI_le0 {n : Nat} (h : n < 2 ^ 31) : (nI n ≤ 0) = (n = 0) := by
  apply propext
  rw [Int32.le_iff_toInt_le, nI_toInt h]
  have : (0 : Int32).toInt = 0 := by decide
  omega
theorem i_add {a b : Int32} (h1 : -2147483648 ≤ a.toInt + b.toInt) (h2 : a.toInt + b.toInt < 2147483648) : (a + b).toInt = a.toInt + b.toInt := by
  rw [Int32.toInt_add]
  exact Int.bmod_eq_of_le (by omega) (by omega)
theorem i_sub {a b : Int32} (h1 : -2147483648 ≤ a.toInt - b.toInt) (h2 : a.toInt - b.toInt < 2147483648) : (a - b).toInt = a.toInt - b.toInt := by
  rw [Int32.toInt_sub]
  exact Int.bmod_eq_of_le (by omega) (by omega)
theorem nn_of {x : Int32} (h : 0 ≤ x.toInt) : ∃ n : Nat, n < 2 ^ 31 ∧ x = nI n ∧ x.toInt = (n : Int) := by
  have h2 := x.toInt_lt
  refine ⟨x.toInt.toNat, by omega, ?_, by omega⟩
  apply Int32.toInt_inj.mp
  rw [nI_toInt (by omega)]
  omega
def Nn (f : Nat → Int32) : Prop := ∀ i, i < 6 → 0 ≤ (f i).toInt
def S6 (f : Nat → Int32) : Int := (f 0).toInt + (f 1).toInt + (f 2).toInt + (f 3).toInt + (f 4).toInt + (f 5).toInt
theorem S6_upd {f : Nat → Int32} {i : Nat} {v : Int32} (hi : i < 6) : S6 (upd f i v) = S6 f + v.toInt - (f i).toInt := by
  have h : i = 0 ∨ i = 1 ∨ i = 2 ∨ i = 3 ∨ i = 4 ∨ i = 5 := by omega
  unfold S6
  rcases h with rfl | rfl | rfl | rfl | rfl | rfl <;> simp [upd] <;> omega
theorem Nn_upd {f : Nat → Int32} {i : Nat} {v : Int32} (h : Nn f) (hv : 0 ≤ v.toInt) : Nn (upd f i v) := by
  intro k hk
  by_cases e : k = i
  · subst e; rw [upd_eq]; exact hv
  · rw [upd_ne e]; exact h k hk
theorem S6_ge {f : Nat → Int32} (h : Nn f) {i : Nat} (hi : i < 6) : (f i).toInt ≤ S6 f ∧ 0 ≤ S6 f := by
  have a0 := h 0 (by omega)
  have a1 := h 1 (by omega)
  have a2 := h 2 (by omega)
  have a3 := h 3 (by omega)
  have a4 := h 4 (by omega)
  have a5 := h 5 (by omega)
  have hh : i = 0 ∨ i = 1 ∨ i = 2 ∨ i = 3 ∨ i = 4 ∨ i = 5 := by omega
  unfold S6
  rcases hh with rfl | rfl | rfl | rfl | rfl | rfl <;> omega
def Gw (K : Int) (r : rB) : Prop := Nn (r 3) ∧ Nn (r 8) ∧ Nn (r 9) ∧ Nn (r 10) ∧ S6 (r 3) + S6 (r 8) + S6 (r 9) + S6 (r 10) = (r 12 2).toInt ∧ (r 12 2).toInt ≤ K ∧ ∀ i, i < 6 → (r 3 i).toInt ≤ 6000
theorem Gw.mono {K J : Int} {r : rB} (h : Gw K r) (hk : K ≤ J) : Gw J r := ⟨h.1, h.2.1, h.2.2.1, h.2.2.2.1, h.2.2.2.2.1, by have := h.2.2.2.2.2.1; omega, h.2.2.2.2.2.2⟩
/-- each is no more than all -/
theorem Gw.le {K : Int} {r : rB} (h : Gw K r) {i : Nat} (hi : i < 6) : (r 3 i).toInt ≤ K ∧ (r 8 i).toInt ≤ K ∧ (r 9 i).toInt ≤ K ∧ (r 10 i).toInt ≤ K ∧ S6 (r 9) ≤ K ∧ S6 (r 10) ≤ (r 12 2).toInt ∧ S6 (r 3) + S6 (r 8) ≤ K := by
  obtain ⟨h1, h2, h3, h4, h5, h6, -⟩ := h
  have a := S6_ge h1 hi
  have b := S6_ge h2 hi
  have c := S6_ge h3 hi
  have d := S6_ge h4 hi
  omega
/-- the spilt only grows -/
def Mo (r q : rB) : Prop := ∀ k, k < 6 → (r 9 k).toInt ≤ (q 9 k).toInt
theorem Mo.rf {r : rB} : Mo r r := fun _ _ => Int.le_refl _
theorem Mo.tr {r q t : rB} (h : Mo r q) (h2 : Mo q t) : Mo r t := fun k hk => Int.le_trans (h k hk) (h2 k hk)
theorem Mo_of {r q : rB} (h : q 9 = r 9) : Mo r q := fun k _ => by rw [h]; exact Int.le_refl _
theorem Gw_wet {K : Int} {r : rB} {i : Nat} {x : Int32} (hc : Cf r) (h : Gw K r) (hK : K ≤ 2000000000) (hi : i < 6) (hx : ∃ n, n ≤ 99 ∧ x = nI n) : Gw (K + 1980) (wet r i x) ∧ wet r i x 9 = r 9 := by
  obtain ⟨xn, hxn, rfl⟩ := hx
  obtain ⟨⟨an, han, ea⟩, ⟨sn, hsn, es⟩, ⟨j, hj, ej⟩, -⟩ := hc.1 i hi
  obtain ⟨h3, h8, h9, h10, hT, hR, hP⟩ := h
  obtain ⟨pn, hpn, ep, ep2⟩ := nn_of (h3 i hi)
  have hp6 := hP i hi
  have hR0 : 0 ≤ (r 12 2).toInt := by
    have a := (S6_ge h3 hi).2
    have b := (S6_ge h8 hi).2
    have c := (S6_ge h9 hi).2
    have d := (S6_ge h10 hi).2
    omega
  have hax : an * xn ≤ 200 * 99 := Nat.mul_le_mul han hxn
  have el : r 0 i * nI xn / 10 = nI (an * xn / 10) := by
    rw [ea, pk_mul]
    exact pk_div (a := an * xn) (d := 10) (by omega) (by decide) (by decide)
  generalize hln : an * xn / 10 = ln at el
  have hl : ln ≤ 1980 := by omega
  have ew : r 3 i + nI ln = nI (pn + ln) := by rw [ep, nI_add]
  have hq1 : (pn + ln) * 5 ≤ (pn + ln) * (5 + sn) := Nat.mul_le_mul_left _ (by omega)
  have hq2 : (pn + ln) * (5 + sn) ≤ (pn + ln) * 14 := Nat.mul_le_mul_left _ (by omega)
  have ef : nI (pn + ln) * (5 + r 1 i) / 14 = nI ((pn + ln) * (5 + sn) / 14) := by
    have e5 : (5 : Int32) + nI sn = nI (5 + sn) := nI_add 5 sn
    rw [es, e5, pk_mul]
    exact pk_div (a := (pn + ln) * (5 + sn)) (d := 14) (by omega) (by decide) (by decide)
  generalize hqn : (pn + ln) * (5 + sn) = qn at *
  obtain ⟨gn, hg1, hg2, eg⟩ : ∃ gn, gn ≤ pn + ln ∧ qn / 14 ≤ gn ∧ (if nI (qn / 14) = 0 then (if nI (pn + ln) ≤ 0 then nI (qn / 14) else 1) else nI (qn / 14)) = nI gn := by
    by_cases c1 : qn / 14 = 0
    · rw [if_pos (show nI (qn / 14) = 0 by rw [nI_eq0 (show qn / 14 < 2 ^ 31 by omega)]; exact c1)]
      by_cases c2 : pn + ln = 0
      · exact ⟨qn / 14, by omega, by omega, if_pos (by rw [nI_le0 (show pn + ln < 2 ^ 31 by omega)]; exact c2)⟩
      · exact ⟨1, by omega, by omega, if_neg (by rw [nI_le0 (show pn + ln < 2 ^ 31 by omega)]; exact c2)⟩
    · rw [if_neg (show ¬ nI (qn / 14) = 0 by rw [nI_eq0 (show qn / 14 < 2 ^ 31 by omega)]; exact c1)]
      exact ⟨qn / 14, by omega, by omega, rfl⟩
  have e8 := h8 j hj
  have hle := (S6_ge h8 hj).1
  have hl2 : (nI ln).toInt = (ln : Int) := nI_toInt (by omega)
  have hg3 : (nI gn).toInt = (gn : Int) := nI_toInt (by omega)
  have s3 := (S6_ge h3 hi).2
  have s8 := (S6_ge h8 hi).2
  have s9 := (S6_ge h9 hi).2
  have s10 := (S6_ge h10 hi).2
  have eT : (r 12 2 + nI ln).toInt = (r 12 2).toInt + ln := by rw [i_add (by omega) (by omega), hl2]
  have eW : (nI (pn + ln) - nI gn).toInt = (pn : Int) + ln - gn := by rw [pk_sub (by omega), nI_toInt (by omega)]; omega
  have e8g : (r 8 j + nI gn).toInt = (r 8 j).toInt + gn := by rw [i_add (by omega) (by omega), hg3]
  have hw : wet r i (nI xn) = bp (bp (bp r 12 2 (r 12 2 + nI ln)) 3 i (nI (pn + ln) - nI gn)) 8 j (r 8 j + nI gn) := by
    unfold wet
    dsimp only
    rw [el, ew, ef, eg, ej, if_neg (zL_nI hj), nI_clamp (show j < 2 ^ 31 by omega), bp_bp]
  rw [hw]
  refine ⟨⟨?_, ?_, ?_, ?_, ?_, ?_, ?_⟩, ?_⟩
  · rw [bpr (by decide), bpk, bpr (by decide)]; exact Nn_upd h3 (by omega)
  · rw [bpk, bpr (by decide), bpr (by decide)]; exact Nn_upd h8 (by omega)
  · rw [bpr (by decide), bpr (by decide), bpr (by decide)]; exact h9
  · rw [bpr (by decide), bpr (by decide), bpr (by decide)]; exact h10
  · rw [show bp (bp (bp r 12 2 (r 12 2 + nI ln)) 3 i (nI (pn + ln) - nI gn)) 8 j (r 8 j + nI gn) 3 = upd (r 3) i (nI (pn + ln) - nI gn) by rw [bpr (by decide), bpk, bpr (by decide)],
      show bp (bp (bp r 12 2 (r 12 2 + nI ln)) 3 i (nI (pn + ln) - nI gn)) 8 j (r 8 j + nI gn) 8 = upd (r 8) j (r 8 j + nI gn) by rw [bpk, bpr (by decide), bpr (by decide)],
      show bp (bp (bp r 12 2 (r 12 2 + nI ln)) 3 i (nI (pn + ln) - nI gn)) 8 j (r 8 j + nI gn) 9 = r 9 by rw [bpr (by decide), bpr (by decide), bpr (by decide)],
      show bp (bp (bp r 12 2 (r 12 2 + nI ln)) 3 i (nI (pn + ln) - nI gn)) 8 j (r 8 j + nI gn) 10 = r 10 by rw [bpr (by decide), bpr (by decide), bpr (by decide)],
      show bp (bp (bp r 12 2 (r 12 2 + nI ln)) 3 i (nI (pn + ln) - nI gn)) 8 j (r 8 j + nI gn) 12 2 = r 12 2 + nI ln by rw [bpr (by decide), bpr (by decide), bp_eq],
      S6_upd hi, S6_upd hj]
    omega
  · rw [bpr (by decide), bpr (by decide), bp_eq]; omega
  · intro k hk
    rw [bpr (by decide), bpk, bpr (by decide)]
    by_cases e : k = i
    · subst e; rw [upd_eq]; omega
    · rw [upd_ne e]; exact hP k hk
  · rw [bpr (by decide), bpr (by decide), bpr (by decide)]
theorem Gw_wetAll {x : Int32} (hx : ∃ n, n ≤ 99 ∧ x = nI n) : ∀ (n i : Nat) (K : Int) (r : rB), i + n ≤ 6 → K + n * 1980 ≤ 2000000000 → Cf r → Gw K r → Gw (K + n * 1980) (wetAll n i r x) ∧ wetAll n i r x 9 = r 9
  | 0, _, K, r, _, _, _, h => ⟨h.mono (by omega), rfl⟩
  | n + 1, i, K, r, hi, hK, hc, h => by
    have k1 := Gw_wet (i := i) hc h (by omega) (by omega) hx
    have k2 := Gw_wetAll hx n (i + 1) (K + 1980) (wet r i x) (by omega) (by omega) (Cf_wet hc) k1.1
    exact ⟨k2.1.mono (by omega), k2.2.trans k1.2⟩
theorem mn_nI {a b : Nat} (ha : a < 2 ^ 31) (hb : b < 2 ^ 31) : mn (nI a) (nI b) = nI (min a b) := by
  unfold mn
  by_cases h : nI b < nI a
  · rw [if_pos h]
    rw [nI_ltI hb ha] at h
    rw [Nat.min_eq_right (by omega)]
  · rw [if_neg h]
    rw [nI_ltI hb ha] at h
    rw [Nat.min_eq_left (by omega)]
theorem nar_ex {r : rB} {i bn : Nat} {v : Int32} (hc : Cf r) (hi : i < 6) (hv : v = nI bn) (hb : bn ≤ 500) : ∃ n, n ≤ 500 ∧ v * (100 - r 6 i) / 100 = nI n := by
  obtain ⟨ln, hl, el⟩ := (hc.1 i hi).2.2.2.2.2.1
  have e1 : (100 : Int32) - nI ln = nI (100 - ln) := pk_sub (a := 100) (b := ln) hl
  have h2 : bn * (100 - ln) ≤ 500 * 100 := Nat.mul_le_mul hb (by omega)
  refine ⟨bn * (100 - ln) / 100, by omega, ?_⟩
  rw [hv, el, e1, pk_mul]
  exact pk_div (a := bn * (100 - ln)) (d := 100) (by omega) (by decide) (by decide)
theorem pipe_ex {r : rB} {i : Nat} (hc : Cf r) (hi : i < 6) : ∃ n, n ≤ 500 ∧ pipeT r i = nI n := by
  obtain ⟨bn, hb, eb⟩ := (hc.1 i hi).2.2.2.2.1
  obtain ⟨n, hn, en⟩ := nar_ex hc hi eb (by omega)
  unfold pipeT
  dsimp only
  rw [en]
  split
  · split
    · exact ⟨n, hn, rfl⟩
    · exact ⟨1, by omega, rfl⟩
  · exact ⟨n, hn, rfl⟩
theorem room_ex {r : rB} {i : Nat} (hc : Cf r) (hi : i < 6) : ∃ n, n ≤ 500 ∧ roomT r i = nI n := by
  obtain ⟨bn, h1, hb, eb⟩ := (hc.1 i hi).2.2.2.1
  exact nar_ex hc hi eb hb
/-- water moved between two cells -/
theorem Gw_dr {K : Int} {r : rB} {i ln : Nat} (hc : Cf r) (h : Gw K r) (hK : K ≤ 2000000000) (hi : i < 6) (hl : ln < 2 ^ 31) : (∃ m, m < 2 ^ 31 ∧ nI ln - drS r i (nI ln) = nI m) ∧ Gw K (drStep r (nI ln) i) := by
  obtain ⟨pn, hpn, ep⟩ := pipe_ex hc hi
  obtain ⟨h3, h8, h9, h10, hT, hR, hP⟩ := h
  obtain ⟨wn, hwn, ew, ew2⟩ := nn_of (h8 i hi)
  have ed : drS r i (nI ln) = nI (min (min pn wn) ln) := by
    unfold drS drW
    rw [ep, ew, mn_nI (by omega) hwn, mn_nI (by omega) hl]
  have hf1 : min (min pn wn) ln ≤ wn := by omega
  have hf2 : min (min pn wn) ln ≤ ln := by omega
  generalize min (min pn wn) ln = fn at *
  have hf3 : (nI fn).toInt = (fn : Int) := nI_toInt (by omega)
  have s3 := (S6_ge h3 hi).2
  have s8 := S6_ge h8 hi
  have s9 := (S6_ge h9 hi).2
  have s10 := S6_ge h10 hi
  have hd0 := h10 i hi
  have e1 : (r 8 i - nI fn).toInt = (r 8 i).toInt - fn := by rw [i_sub (by omega) (by omega), hf3]
  have e2 : (r 10 i + nI fn).toInt = (r 10 i).toInt + fn := by rw [i_add (by omega) (by omega), hf3]
  refine ⟨⟨ln - fn, by omega, by rw [ed, pk_sub hf2]⟩, ?_⟩
  unfold drStep
  rw [ed]
  refine ⟨?_, ?_, ?_, ?_, ?_, ?_, ?_⟩
  · rw [bpr (by decide), bpr (by decide)]; exact h3
  · rw [bpr (by decide), bpk]; exact Nn_upd h8 (by omega)
  · rw [bpr (by decide), bpr (by decide)]; exact h9
  · rw [bpk, bpr (by decide)]; exact Nn_upd h10 (by omega)
  · rw [show bp (bp r 8 i (r 8 i - nI fn)) 10 i (r 10 i + nI fn) 3 = r 3 by rw [bpr (by decide), bpr (by decide)],
      show bp (bp r 8 i (r 8 i - nI fn)) 10 i (r 10 i + nI fn) 8 = upd (r 8) i (r 8 i - nI fn) by rw [bpr (by decide), bpk],
      show bp (bp r 8 i (r 8 i - nI fn)) 10 i (r 10 i + nI fn) 9 = r 9 by rw [bpr (by decide), bpr (by decide)],
      show bp (bp r 8 i (r 8 i - nI fn)) 10 i (r 10 i + nI fn) 10 = upd (r 10) i (r 10 i + nI fn) by rw [bpk, bpr (by decide)],
      show bp (bp r 8 i (r 8 i - nI fn)) 10 i (r 10 i + nI fn) 12 = r 12 by rw [bpr (by decide), bpr (by decide)], S6_upd hi, S6_upd hi]
    omega
  · rw [bpr (by decide), bpr (by decide)]; exact hR
  · intro k hk; rw [bpr (by decide), bpr (by decide)]; exact hP k hk
theorem dr_9 {r : rB} {i : Nat} {x : Int32} : drStep r x i 9 = r 9 := by
  unfold drStep; rw [bpr (by decide), bpr (by decide)]
theorem Gw_drL : ∀ (n i : Nat) (K : Int) (r : rB) (ln : Nat) (b : Int32), i + n ≤ 6 → K ≤ 2000000000 → ln < 2 ^ 31 → Cf r → Gw K r → Gw K (drL n i r (nI ln) b).1 ∧ (drL n i r (nI ln) b).1 9 = r 9
  | 0, _, _, _, _, _, _, _, _, _, h => ⟨h, rfl⟩
  | n + 1, i, K, r, ln, b, hi, hK, hl, hc, h => by
    obtain ⟨⟨m, hm, em⟩, k1⟩ := Gw_dr (i := i) hc h hK (by omega) hl
    unfold drL
    rw [em]
    have k2 := Gw_drL n (i + 1) K (drStep r (nI ln) i) m (if b = 0 then (if drW r i ≤ drS r i (nI ln) then 0 else 1) else 1) (by omega) hK hm (Cf_dr hc) k1
    exact ⟨k2.1, k2.2.trans dr_9⟩
theorem Gw_12 {K : Int} {r : rB} {k : Nat} {v : Int32} (h : Gw K r) (hk : k ≠ 2) : Gw K (bp r 12 k v) := by
  unfold Gw
  rw [bpr (by decide), bpr (by decide), bpr (by decide), bpr (by decide), bp_ne (by omega)]
  exact h
theorem Gw_empty {K : Int} {r : rB} (hc : Cf r) (h : Gw K r) (hK : K ≤ 2000000000) : Gw K (emptyD r) ∧ emptyD r 9 = r 9 := by
  obtain ⟨dn, hd, ed⟩ := hc.2.1
  have k := Gw_drL 6 0 K r dn 0 (by omega) hK (by omega) hc h
  unfold emptyD
  rw [ed]
  split
  · exact k
  · exact ⟨Gw_12 k.1 (by decide), (bpr (by decide)).trans k.2⟩
theorem Gw_ovf {K : Int} {r : rB} {i : Nat} (hc : Cf r) (h : Gw K r) (hK : K ≤ 2000000000) (hi : i < 6) : Gw K (ovf r i) ∧ Mo r (ovf r i) := by
  obtain ⟨rn, hrn, er⟩ := room_ex hc hi
  have hv := (hc.1 i hi).2.2.2.2.2.2
  obtain ⟨h3, h8, h9, h10, hT, hR, hP⟩ := h
  have h8i := h8 i hi
  have hr2 : (nI rn).toInt = (rn : Int) := nI_toInt (by omega)
  have s3 := (S6_ge h3 hi).2
  have s8 := S6_ge h8 hi
  have s9 := S6_ge h9 hi
  have s10 := (S6_ge h10 hi).2
  have h9i := h9 i hi
  have et : (r 8 i - nI rn).toInt = (r 8 i).toInt - rn := by rw [i_sub (by omega) (by omega), hr2]
  unfold ovf
  dsimp only
  rw [er]
  by_cases ht : 0 < r 8 i - nI rn
  · rw [if_pos ht]
    rw [Int32.lt_iff_toInt_lt, show (0 : Int32).toInt = 0 by decide] at ht
    generalize hte : r 8 i - nI rn = tt at *
    have e1 : (r 8 i - tt).toInt = (r 8 i).toInt - tt.toInt := i_sub (by omega) (by omega)
    rcases hv with hv | ⟨j, hj, hv⟩
    · rw [hv, if_pos zL_m1]
      have e2 : (r 9 i + tt).toInt = (r 9 i).toInt + tt.toInt := i_add (by omega) (by omega)
      refine ⟨⟨?_, ?_, ?_, ?_, ?_, ?_, ?_⟩, ?_⟩
      · rw [bpr (by decide), bpr (by decide)]; exact h3
      · rw [bpr (by decide), bpk]; exact Nn_upd h8 (by omega)
      · rw [bpk, bpr (by decide)]; exact Nn_upd h9 (by omega)
      · rw [bpr (by decide), bpr (by decide)]; exact h10
      · rw [show bp (bp r 8 i (r 8 i - tt)) 9 i (r 9 i + tt) 3 = r 3 by rw [bpr (by decide), bpr (by decide)],
          show bp (bp r 8 i (r 8 i - tt)) 9 i (r 9 i + tt) 8 = upd (r 8) i (r 8 i - tt) by rw [bpr (by decide), bpk],
          show bp (bp r 8 i (r 8 i - tt)) 9 i (r 9 i + tt) 9 = upd (r 9) i (r 9 i + tt) by rw [bpk, bpr (by decide)],
          show bp (bp r 8 i (r 8 i - tt)) 9 i (r 9 i + tt) 10 = r 10 by rw [bpr (by decide), bpr (by decide)],
          show bp (bp r 8 i (r 8 i - tt)) 9 i (r 9 i + tt) 12 = r 12 by rw [bpr (by decide), bpr (by decide)], S6_upd hi, S6_upd hi]
        omega
      · rw [bpr (by decide), bpr (by decide)]; exact hR
      · intro k hk; rw [bpr (by decide), bpr (by decide)]; exact hP k hk
      · intro k hk
        rw [bpk, bpr (by decide)]
        by_cases e : k = i
        · subst e; rw [upd_eq]; omega
        · rw [upd_ne e]; exact Int.le_refl _
    · rw [hv, if_neg (zL_nI hj), nI_clamp (show j < 2 ^ 31 by omega)]
      have hN : Nn (upd (r 8) i (r 8 i - tt)) := Nn_upd h8 (by omega)
      have hS : S6 (upd (r 8) i (r 8 i - tt)) = S6 (r 8) + (r 8 i - tt).toInt - (r 8 i).toInt := S6_upd hi
      have s8j := S6_ge hN hj
      have n8j := hN j hj
      have e2 : (upd (r 8) i (r 8 i - tt) j + tt).toInt = (upd (r 8) i (r 8 i - tt) j).toInt + tt.toInt := i_add (by omega) (by omega)
      have e3 : bp (bp r 8 i (r 8 i - tt)) 8 j (bp r 8 i (r 8 i - tt) 8 j + tt) 8 = upd (upd (r 8) i (r 8 i - tt)) j (upd (r 8) i (r 8 i - tt) j + tt) := by rw [bpk, bpk]
      refine ⟨⟨?_, ?_, ?_, ?_, ?_, ?_, ?_⟩, ?_⟩
      · rw [bpr (by decide), bpr (by decide)]; exact h3
      · rw [e3]; exact Nn_upd hN (by omega)
      · rw [bpr (by decide), bpr (by decide)]; exact h9
      · rw [bpr (by decide), bpr (by decide)]; exact h10
      · rw [e3, show bp (bp r 8 i (r 8 i - tt)) 8 j (bp r 8 i (r 8 i - tt) 8 j + tt) 3 = r 3 by rw [bpr (by decide), bpr (by decide)],
          show bp (bp r 8 i (r 8 i - tt)) 8 j (bp r 8 i (r 8 i - tt) 8 j + tt) 9 = r 9 by rw [bpr (by decide), bpr (by decide)],
          show bp (bp r 8 i (r 8 i - tt)) 8 j (bp r 8 i (r 8 i - tt) 8 j + tt) 10 = r 10 by rw [bpr (by decide), bpr (by decide)],
          show bp (bp r 8 i (r 8 i - tt)) 8 j (bp r 8 i (r 8 i - tt) 8 j + tt) 12 = r 12 by rw [bpr (by decide), bpr (by decide)], S6_upd hj, hS]
        omega
      · rw [bpr (by decide), bpr (by decide)]; exact hR
      · intro k hk; rw [bpr (by decide), bpr (by decide)]; exact hP k hk
      · exact Mo_of (by rw [bpr (by decide), bpr (by decide)])
  · rw [if_neg ht]
    exact ⟨⟨h3, h8, h9, h10, hT, hR, hP⟩, Mo.rf⟩
theorem Gw_ovfAll : ∀ (n i : Nat) (K : Int) (r : rB), i + n ≤ 6 → K ≤ 2000000000 → Cf r → Gw K r → Gw K (ovfAll n i r) ∧ Mo r (ovfAll n i r)
  | 0, _, _, _, _, _, _, h => ⟨h, Mo.rf⟩
  | n + 1, i, K, r, hi, hK, hc, h => by
    have k1 := Gw_ovf (i := i) hc h hK (by omega)
    have k2 := Gw_ovfAll n (i + 1) K (ovf r i) (by omega) hK (Cf_ovf hc) k1.1
    exact ⟨k2.1, k1.2.tr k2.2⟩
theorem Gw_min {K : Int} {r : rB} {x : Int32} (hx : ∃ n, n ≤ 99 ∧ x = nI n) (hc : Cf r) (h : Gw K r) (hK : K + 11880 ≤ 2000000000) : Gw (K + 11880) (minuteC r x) ∧ Mo r (minuteC r x) := by
  have k1 := Gw_wetAll hx 6 0 K r (by omega) (by omega) hc h
  have c1 : Cf (wetAll 6 0 r x) := Cf_of (fun _ hk => wetAll_ne hk 6 0 r x) hc
  have g1 : Gw (K + 11880) (wetAll 6 0 r x) := k1.1.mono (by omega)
  have k2 := Gw_empty c1 g1 hK
  have c2 : Cf (emptyD (wetAll 6 0 r x)) := Cf_of (fun _ hk => emptyD_ne hk) c1
  have k3 := Gw_ovfAll 6 0 (K + 11880) _ (by omega) hK c2 k2.1
  unfold minuteC
  refine ⟨Gw_12 k3.1 (by decide), ?_⟩
  intro k hk
  rw [bpr (by decide)]
  have := k3.2 k hk
  rw [k2.2, k1.2] at this
  exact this
theorem Gw_mins {x : Int32} (hx : ∃ n, n ≤ 99 ∧ x = nI n) : ∀ (n : Nat) (K : Int) (r : rB), Cf r → Gw K r → K + n * 11880 ≤ 2000000000 → Gw (K + n * 11880) (minutesC n r x) ∧ Mo r (minutesC n r x)
  | 0, K, r, _, h, _ => ⟨h.mono (by omega), Mo.rf⟩
  | n + 1, K, r, hc, h, hK => by
    have k1 := Gw_min hx hc h (by omega)
    have k2 := Gw_mins hx n (K + 11880) (minuteC r x) (Cf_min hc) k1.1 (by omega)
    exact ⟨k2.1.mono (by omega), k1.2.tr k2.2⟩
theorem smI_S6 {f : Nat → Int32} (h : Nn f) (hb : S6 f ≤ 2000000000) : (smI f 6 0 0).toInt = S6 f := by
  have a0 := h 0 (by omega)
  have a1 := h 1 (by omega)
  have a2 := h 2 (by omega)
  have a3 := h 3 (by omega)
  have a4 := h 4 (by omega)
  have a5 := h 5 (by omega)
  unfold S6 at hb ⊢
  have z : (0 : Int32).toInt = 0 := by decide
  rw [smI6]
  have e0 : (0 + f 0).toInt = (f 0).toInt := by rw [i_add (by omega) (by omega)]; omega
  have e1 : (0 + f 0 + f 1).toInt = (f 0).toInt + (f 1).toInt := by rw [i_add (by omega) (by omega), e0]
  have e2 : (0 + f 0 + f 1 + f 2).toInt = (f 0).toInt + (f 1).toInt + (f 2).toInt := by rw [i_add (by omega) (by omega), e1]
  have e3 : (0 + f 0 + f 1 + f 2 + f 3).toInt = (f 0).toInt + (f 1).toInt + (f 2).toInt + (f 3).toInt := by rw [i_add (by omega) (by omega), e2]
  have e4 : (0 + f 0 + f 1 + f 2 + f 3 + f 4).toInt = (f 0).toInt + (f 1).toInt + (f 2).toInt + (f 3).toInt + (f 4).toInt := by rw [i_add (by omega) (by omega), e3]
  rw [i_add (by omega) (by omega), e4]
theorem stand_S6 {K : Int} {r : rB} (h : Gw K r) (hK : K ≤ 2000000000) : (standC r).toInt = S6 (r 3) + S6 (r 8) := by
  have hl := h.le (i := 0) (by omega)
  have s3 := (S6_ge h.1 (i := 0) (by omega)).2
  have s8 := (S6_ge h.2.1 (i := 0) (by omega)).2
  unfold standC
  rw [i_add (by rw [smI_S6 h.1 (by omega), smI_S6 h.2.1 (by omega)]; omega) (by rw [smI_S6 h.1 (by omega), smI_S6 h.2.1 (by omega)]; omega), smI_S6 h.1 (by omega), smI_S6 h.2.1 (by omega)]

theorem php : ∀ (n : Nat) (c : Nat → Nat), (∀ k, k ≤ n → c k < n) → ∃ i j, i < j ∧ j ≤ n ∧ c i = c j
  | 0, c, h => absurd (h 0 (Nat.le_refl 0)) (by omega)
  | n + 1, c, h => by
    by_cases h1 : ∃ i, i ≤ n ∧ c i = c (n + 1)
    · obtain ⟨i, hi, e⟩ := h1
      exact ⟨i, n + 1, by omega, by omega, e⟩
    · have hne : ∀ i, i ≤ n → c i ≠ c (n + 1) := fun i hi e => h1 ⟨i, hi, e⟩
      have hv := h (n + 1) (by omega)
      obtain ⟨i, j, hij, hj, e⟩ := php n (fun k => if c k = n then c (n + 1) else c k) (fun k hk => by
        have h2 := h k (by omega)
        have h3 := hne k hk
        show (if c k = n then c (n + 1) else c k) < n
        split <;> omega)
      refine ⟨i, j, hij, by omega, ?_⟩
      have hi1 := hne i (by omega)
      have hj1 := hne j hj
      have e' : (if c i = n then c (n + 1) else c i) = (if c j = n then c (n + 1) else c j) := e
      by_cases a : c i = n
      · by_cases b : c j = n
        · omega
        · rw [if_pos a, if_neg b] at e'; omega
      · by_cases b : c j = n
        · rw [if_neg a, if_pos b] at e'; omega
        · rw [if_neg a, if_neg b] at e'; exact e'
/-- the valleys from a end within n steps -/
def vE (r : rB) : Nat → Int32 → Prop
  | 0, a => a = -1
  | n + 1, a => a = -1 ∨ vE r n (r 7 a.toNatClampNeg)
def Vy (r : rB) : Prop := ∀ i, i < 6 → vE r 6 (nI i)
def vg (a : Int32) : Prop := a = -1 ∨ ∃ i, i < 6 ∧ a = nI i
theorem Cf.v {r : rB} (h : Cf r) {i : Nat} (hi : i < 6) : vg (r 7 i) := (h.1 i hi).2.2.2.2.2.2
theorem vE_mono {r : rB} : ∀ (n k : Nat) (a : Int32), vE r n a → vE r (n + k) a
  | 0, 0, _, h => h
  | 0, k + 1, _, h => by rw [Nat.zero_add]; exact Or.inl h
  | n + 1, k, a, h => by
    rw [show n + 1 + k = (n + k) + 1 by omega]
    rcases h with h | h
    · exact Or.inl h
    · exact Or.inr (vE_mono n k _ h)
theorem vE_m1 {r : rB} : ∀ n, vE r n (-1)
  | 0 => rfl
  | _ + 1 => Or.inl rfl
def vC (r : rB) (a : Int32) : Nat → Int32
  | 0 => a
  | k + 1 => r 7 (vC r a k).toNatClampNeg
theorem vC_s {r : rB} {a : Int32} : ∀ k, vC r (r 7 a.toNatClampNeg) k = vC r a (k + 1)
  | 0 => rfl
  | k + 1 => by
    show r 7 (vC r (r 7 a.toNatClampNeg) k).toNatClampNeg = r 7 (vC r a (k + 1)).toNatClampNeg
    rw [vC_s k]
theorem vE_C {r : rB} : ∀ (n : Nat) (a : Int32), vE r n a → ∃ k, k ≤ n ∧ vC r a k = -1
  | 0, a, h => ⟨0, Nat.le_refl 0, h⟩
  | n + 1, a, h => by
    rcases h with h | h
    · exact ⟨0, Nat.zero_le _, h⟩
    · obtain ⟨k, hk, e⟩ := vE_C n _ h
      exact ⟨k + 1, by omega, by rw [← vC_s]; exact e⟩
theorem vC_E {r : rB} : ∀ (n : Nat) (a : Int32), (∃ k, k ≤ n ∧ vC r a k = -1) → vE r n a
  | 0, a, h => by
    obtain ⟨k, hk, e⟩ := h
    obtain rfl : k = 0 := by omega
    exact e
  | n + 1, a, h => by
    obtain ⟨k, hk, e⟩ := h
    cases k with
    | zero => exact Or.inl e
    | succ k => exact Or.inr (vC_E n _ ⟨k, by omega, by rw [vC_s]; exact e⟩)
/-- what ends at all ends within six steps -/
theorem vE_6 {r : rB} (hc : Cf r) {N : Nat} {a : Int32} (ha : vg a) (h : vE r N a) : vE r 6 a := by
  by_cases h6 : ∃ k, k ≤ 6 ∧ vC r a k = -1
  · exact vC_E 6 a h6
  · exfalso
    obtain ⟨K, -, hK⟩ := vE_C N a h
    have hne : ∀ k, k ≤ 6 → vC r a k ≠ -1 := fun k hk e => h6 ⟨k, hk, e⟩
    have hvg : ∀ k, k ≤ 6 → vg (vC r a k) := by
      intro k
      induction k with
      | zero => intro _; exact ha
      | succ k ih =>
        intro hk
        rcases ih (by omega) with e | ⟨i, hi, e⟩
        · exact absurd e (hne k (by omega))
        · show vg (r 7 (vC r a k).toNatClampNeg)
          rw [e, nI_clamp (show i < 2 ^ 31 by omega)]
          exact hc.v hi
    have hex : ∀ k, k ≤ 6 → (vC r a k).toNatClampNeg < 6 := by
      intro k hk
      rcases hvg k hk with e | ⟨i, hi, e⟩
      · exact absurd e (hne k hk)
      · rw [e, nI_clamp (show i < 2 ^ 31 by omega)]; exact hi
    obtain ⟨i, j, hij, hj, e⟩ := php 6 (fun k => (vC r a k).toNatClampNeg) hex
    have e : (vC r a i).toNatClampNeg = (vC r a j).toNatClampNeg := e
    have heq : ∀ d, vC r a (i + 1 + d) = vC r a (j + 1 + d) := by
      intro d
      induction d with
      | zero => show r 7 (vC r a i).toNatClampNeg = r 7 (vC r a j).toNatClampNeg; rw [e]
      | succ d ih => show r 7 (vC r a (i + 1 + d)).toNatClampNeg = r 7 (vC r a (j + 1 + d)).toNatClampNeg; rw [ih]
    have hall : ∀ k, vC r a k ≠ -1 := by
      intro k
      induction k using Nat.strongRecOn with
      | _ k ih =>
        by_cases hk : k ≤ 6
        · exact hne k hk
        · have := heq (k - (j + 1))
          rw [show j + 1 + (k - (j + 1)) = k by omega] at this
          rw [← this]
          exact ih _ (by omega)
    exact hall K hK
/-- a valley that leads nowhere back -/
theorem vE_no {r : rB} {g : Nat} {tt : Int32} (hg : g < 6) (hc : Cf r) : ∀ (n : Nat) (a : Int32), vg a → vE r n a → vlead r (nI g) n a = 0 → vE (bp r 7 g tt) n a
  | 0, a, _, h, _ => h
  | n + 1, a, ha, h, hv => by
    rcases ha with e | ⟨i, hi, e⟩
    · exact Or.inl e
    · have h1 : ¬ a = -1 := by rw [e]; exact nI_nm1 (by omega)
      rcases h with h | h
      · exact absurd h h1
      · have hz : ¬ zL a 6 = 0 := by rw [e]; exact zL_nI hi
        unfold vlead at hv
        rw [if_neg hz] at hv
        by_cases hag : a = nI g
        · rw [if_pos hag] at hv; exact absurd hv (by decide)
        · rw [if_neg hag] at hv
          have hig : i ≠ g := fun q => hag (by rw [e, q])
          refine Or.inr ?_
          rw [e, nI_clamp (show i < 2 ^ 31 by omega)] at h hv ⊢
          rw [bp_ne hig]
          exact vE_no hg hc n _ (hc.v hi) h hv
theorem vE_to {r : rB} {g M : Nat} {tt : Int32} (hc : Cf r) (ht : vE (bp r 7 g tt) M tt) : ∀ (n : Nat) (a : Int32), vg a → vE r n a → vE (bp r 7 g tt) (n + M) a
  | 0, a, _, h => by
    rw [show a = -1 from h]; exact vE_m1 _
  | n + 1, a, ha, h => by
    rw [show n + 1 + M = (n + M) + 1 by omega]
    rcases ha with e | ⟨i, hi, e⟩
    · exact Or.inl e
    · rcases h with h | h
      · exact Or.inl h
      · refine Or.inr ?_
        rw [e, nI_clamp (show i < 2 ^ 31 by omega)] at h ⊢
        by_cases hig : i = g
        · subst hig; rw [bp_eq, Nat.add_comm]; exact vE_mono M n _ ht
        · rw [bp_ne hig]; exact vE_to hc ht n _ (hc.v hi) h
theorem Cf_7 {r : rB} {g : Nat} {tt : Int32} (hc : Cf r) (ht : vg tt) : Cf (bp r 7 g tt) := by
  refine ⟨fun i hi => ?_, ?_⟩
  · have h := hc.1 i hi
    rw [bpr (show 0 ≠ 7 by decide), bpr (show 1 ≠ 7 by decide), bpr (show 2 ≠ 7 by decide), bpr (show 4 ≠ 7 by decide), bpr (show 5 ≠ 7 by decide), bpr (show 6 ≠ 7 by decide)]
    refine ⟨h.1, h.2.1, h.2.2.1, h.2.2.2.1, h.2.2.2.2.1, h.2.2.2.2.2.1, ?_⟩
    rw [bpk]
    by_cases e : i = g
    · subst e; rw [upd_eq]; exact ht
    · rw [upd_ne e]; exact h.2.2.2.2.2.2
  · rw [bpr (show 11 ≠ 7 by decide)]; exact hc.2
theorem Vy_set {r : rB} {g : Nat} {tt : Int32} (hg : g < 6) (hc : Cf r) (hv : Vy r) (ht : tt = -1 ∨ ∃ k, k < 6 ∧ tt = nI k ∧ vlead r (nI g) 6 tt = 0) : Vy (bp r 7 g tt) := by
  have hvg : vg tt := by
    rcases ht with e | ⟨k, hk, e, -⟩
    · exact Or.inl e
    · exact Or.inr ⟨k, hk, e⟩
  have h6 : vE (bp r 7 g tt) 6 tt := by
    rcases ht with e | ⟨k, hk, e, h⟩
    · rw [e]; exact vE_m1 6
    · exact vE_no hg hc 6 tt hvg (by rw [e]; exact hv k hk) h
  intro i hi
  exact vE_6 (Cf_7 hc hvg) (N := 6 + 6) (Or.inr ⟨i, hi, rfl⟩) (vE_to hc h6 6 _ (Or.inr ⟨i, hi, rfl⟩) (hv i hi))
def Gd (K : Int) (r : rB) : Prop := Cf r ∧ Gw K r ∧ Vy r
theorem Gd.mono {K J : Int} {r : rB} (h : Gd K r) (hk : K ≤ J) : Gd J r := ⟨h.1, h.2.1.mono hk, h.2.2⟩
theorem zL6 (q : Int32) : zL q 6 = zW q 0 5 := by
  unfold zL zW
  by_cases h : q < 0
  · rw [if_pos h, if_pos h]
  · rw [if_neg h, if_neg h]
    have e : (6 ≤ q) ↔ (5 < q) := by
      rw [Int32.le_iff_toInt_le, Int32.lt_iff_toInt_lt, show (6 : Int32).toInt = 6 by decide, show (5 : Int32).toInt = 5 by decide]; omega
    by_cases h2 : 5 < q
    · rw [if_pos h2, if_pos (e.mpr h2)]
    · rw [if_neg h2, if_neg (fun h9 => h2 (e.mp h9))]
theorem zL3 (q : Int32) : zL q 3 = zW q 0 2 := by
  unfold zL zW
  by_cases h : q < 0
  · rw [if_pos h, if_pos h]
  · rw [if_neg h, if_neg h]
    have e : (3 ≤ q) ↔ (2 < q) := by
      rw [Int32.le_iff_toInt_le, Int32.lt_iff_toInt_lt, show (3 : Int32).toInt = 3 by decide, show (2 : Int32).toInt = 2 by decide]; omega
    by_cases h2 : 2 < q
    · rw [if_pos h2, if_pos (e.mpr h2)]
    · rw [if_neg h2, if_neg (fun h9 => h2 (e.mp h9))]
theorem zW_nI {q : Int32} {a b : Nat} (ha : a < 2 ^ 31) (hb : b < 2 ^ 31) (h : ¬ zW q (nI a) (nI b) = 0) : ∃ i, a ≤ i ∧ i ≤ b ∧ q = nI i := zW_b ha hb h
theorem Gw_ne {K : Int} {r : rB} {k i : Nat} {v : Int32} (h : Gw K r) (hk : wr5 k) : Gw K (bp r k i v) := by
  obtain ⟨h1, h2, h3, h4, h5⟩ := hk
  unfold Gw
  rw [bpr (Ne.symm h1), bpr (Ne.symm h2), bpr (Ne.symm h3), bpr (Ne.symm h4), bpr (Ne.symm h5)]
  exact h
theorem vE_cong {r q : rB} (h : q 7 = r 7) : ∀ (n : Nat) (a : Int32), vE r n a → vE q n a
  | 0, _, e => e
  | n + 1, a, e => by
    rcases e with e | e
    · exact Or.inl e
    · exact Or.inr (by rw [h]; exact vE_cong h n _ e)
theorem Vy_of {r q : rB} (h : q 7 = r 7) (hv : Vy r) : Vy q := fun i hi => vE_cong h 6 _ (hv i hi)
/-- one row's entry of a good roof -/
theorem Cf_set {r : rB} {k g : Nat} {v : Int32} (hc : Cf r) (hv : (k = 0 ∧ ∃ n, n ≤ 200 ∧ v = nI n) ∨ (k = 1 ∧ ∃ n, n ≤ 9 ∧ v = nI n) ∨ (k = 2 ∧ ∃ n, n < 6 ∧ v = nI n) ∨ (k = 4 ∧ ∃ n, 1 ≤ n ∧ n ≤ 500 ∧ v = nI n) ∨ (k = 5 ∧ ∃ n, n ≤ 99 ∧ v = nI n) ∨ (k = 6 ∧ ∃ n, n ≤ 100 ∧ v = nI n)) : Cf (bp r k g v) := by
  have key : ∀ (a i : Nat) (Q : Int32 → Prop), Q (r a i) → (a = k → Q v) → Q (bp r k g v a i) := by
    intro a i Q h1 h2
    by_cases e : a = k
    · subst e
      rw [bpk]
      by_cases e2 : i = g
      · subst e2; rw [upd_eq]; exact h2 rfl
      · rw [upd_ne e2]; exact h1
    · rw [bpr e]; exact h1
  refine ⟨fun i hi => ?_, ?_⟩
  · obtain ⟨q0, q1, q2, q4, q5, q6, q7⟩ := hc.1 i hi
    refine ⟨key 0 i (fun x => ∃ n, n ≤ 200 ∧ x = nI n) q0 (fun e => ?_), key 1 i (fun x => ∃ n, n ≤ 9 ∧ x = nI n) q1 (fun e => ?_), key 2 i (fun x => ∃ n, n < 6 ∧ x = nI n) q2 (fun e => ?_), key 4 i (fun x => ∃ n, 1 ≤ n ∧ n ≤ 500 ∧ x = nI n) q4 (fun e => ?_), key 5 i (fun x => ∃ n, n ≤ 99 ∧ x = nI n) q5 (fun e => ?_), key 6 i (fun x => ∃ n, n ≤ 100 ∧ x = nI n) q6 (fun e => ?_), key 7 i (fun x => x = -1 ∨ ∃ n, n < 6 ∧ x = nI n) q7 (fun e => ?_)⟩ <;> subst e <;> rcases hv with ⟨e, h⟩ | ⟨e, h⟩ | ⟨e, h⟩ | ⟨e, h⟩ | ⟨e, h⟩ | ⟨e, h⟩ <;> first | exact h | (exact absurd e (by decide))
  · have h11 : bp r k g v 11 = r 11 := bpr (by rcases hv with ⟨e, _⟩ | ⟨e, _⟩ | ⟨e, _⟩ | ⟨e, _⟩ | ⟨e, _⟩ | ⟨e, _⟩ <;> omega)
    rw [h11]; exact hc.2
theorem Gd_set {K : Int} {r : rB} {k g : Nat} {v : Int32} (h : Gd K r) (hv : (k = 0 ∧ ∃ n, n ≤ 200 ∧ v = nI n) ∨ (k = 1 ∧ ∃ n, n ≤ 9 ∧ v = nI n) ∨ (k = 2 ∧ ∃ n, n < 6 ∧ v = nI n) ∨ (k = 4 ∧ ∃ n, 1 ≤ n ∧ n ≤ 500 ∧ v = nI n) ∨ (k = 5 ∧ ∃ n, n ≤ 99 ∧ v = nI n) ∨ (k = 6 ∧ ∃ n, n ≤ 100 ∧ v = nI n)) : Gd K (bp r k g v) :=
  ⟨Cf_set h.1 hv, Gw_ne h.2.1 ⟨by omega, by omega, by omega, by omega, by omega⟩, Vy_of (bpr (by omega)) h.2.2⟩
theorem Gd_12 {K : Int} {r : rB} {k : Nat} {v : Int32} (h : Gd K r) (hk : k ≠ 2) : Gd K (bp r 12 k v) := by
  refine ⟨?_, Gw_12 h.2.1 hk, Vy_of (bpr (by decide)) h.2.2⟩
  unfold Cf
  rw [bpr (show 0 ≠ 12 by decide), bpr (show 1 ≠ 12 by decide), bpr (show 2 ≠ 12 by decide), bpr (show 4 ≠ 12 by decide), bpr (show 5 ≠ 12 by decide), bpr (show 6 ≠ 12 by decide), bpr (show 7 ≠ 12 by decide), bpr (show 11 ≠ 12 by decide)]
  exact h.1
theorem Gd_weekL {K : Int} : ∀ (n i : Nat) (r : rB), i + n ≤ 6 → Gd K r → Gd K (weekL n i r)
  | 0, _, _, _, h => h
  | n + 1, i, r, hi, h => by
    refine Gd_weekL n (i + 1) _ (by omega) (Gd_set h (Or.inr (Or.inr (Or.inr (Or.inr (Or.inr ⟨rfl, ?_⟩))))))
    obtain ⟨a, ha, ea⟩ := (h.1.1 i (by omega)).2.2.2.2.2.1
    obtain ⟨b, hb, eb⟩ := h.1.2.2.1
    rw [ea, eb, nI_add]
    exact ⟨min 100 (a + b), by omega, mn_nI (a := 100) (by decide) (by omega)⟩
theorem Gd_week {K : Int} {r : rB} (h : Gd K r) : Gd K (weekC r) := Gd_12 (Gd_weekL 6 0 r (by omega) h) (by decide)
theorem Gd_wks {K : Int} : ∀ (n : Nat) (r : rB), Gd K r → Gd K (wksC n r)
  | 0, _, h => h
  | n + 1, _, h => Gd_wks n _ (Gd_week h)
theorem Gd_mins {K : Int} {r : rB} {x : Int32} {n : Nat} (hx : ∃ n, n ≤ 99 ∧ x = nI n) (h : Gd K r) (hK : K + n * 11880 ≤ 2000000000) : Gd (K + n * 11880) (minutesC n r x) :=
  ⟨Cf_mins h.1, (Gw_mins hx n K r h.1 h.2.1 hK).1, Vy_of (minutesC_ne ⟨by decide, by decide, by decide, by decide, by decide⟩ n r x) h.2.2⟩
end
