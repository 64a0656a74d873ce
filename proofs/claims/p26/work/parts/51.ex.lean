/-! what a call that may throw needs of the machine, and how it ends -/
def eIOB : String := "java/lang/IndexOutOfBoundsException"
def eIAE : String := "java/lang/IllegalArgumentException"
def eISE : String := "java/lang/IllegalStateException"
def exN (k : Nat) : String := match k with
  | 1 => "java/lang/IndexOutOfBoundsException"
  | 2 => "java/lang/IllegalArgumentException"
  | _ => "java/lang/IllegalStateException"
def nmX : List String := ["java/lang/RuntimeException", "java/lang/Exception"]
def strsX : List (Nat × String) := [(42, "no such plane or gutter"), (53, "area or slope out of range"), (64, "no such gutter"), (66, "size or bore out of range"), (72, "both gutters are the same"), (80, "water would come back"), (94, "no such setting"), (100, "value out of range"), (105, "rain or minutes out of range"), (115, "weeks out of range"), (156, "no saved state"), (164, "no such plane"), (166, "what is not 0 to 3"), (171, "what is not 0 to 8")]
def mosF (i : Nat) : Int32 := match i with
  | 0 => 600
  | 1 => 50
  | _ => 99
def exB (E : String) : List Cond := [.castable E E, .declares (Bundle.initS "java/lang/RuntimeException"), .declares (Bundle.initS "java/lang/Exception"), .declares (Bundle.initS Bundle.tN)]
def EX (A : Nat → Prop) (U : State) : Prop :=
  vx_Zq Bundle.tN "UNASSIGNED_STACK" Bundle.steD A U U.heap ∧ vx_Zq Bundle.tN "SUPPRESSED_SENTINEL" Bundle.listD A U U.heap ∧
  (∀ q ∈ strsX, ∃ sa, vk_R RX3 q.1 q.2 sa U) ∧
  (∀ n ∈ ["java/lang/RuntimeException", "java/lang/Exception", Bundle.tN], va_Nw (.declares (Bundle.initS n)) U) ∧
  (∀ E ∈ [eIOB, eIAE, eISE], va_Nw (.castable E E) U) ∧
  True ∧
  va_AO RX1 U ∧
  ∃ b : Nat, va_Z RX3 "MOST_OF_SETTING" "[I" (.ref b) A U U.heap ∧ va_X b 3 mosF U U.heap ∧ b < U.heap.size ∧ ¬ A b
theorem EX.go {A B : Nat → Prop} {s U : State} {H : Heap} {locs : List Loc} (h : EX A s) (hS : va_S A s.heap H locs) (hU : U.heap = H) (hW : s.WarmedH U.vm) (hAB : ∀ q, B q → A q) : EX B U := by
  obtain ⟨h1, h2, h3, h4, h5, h6, h7, b, h8, h9, h10, h11⟩ := h
  have hk : ∀ a : Nat, a < s.heap.size → ¬ A a → U.heap[a]? = s.heap[a]? := by rw [hU]; exact hS.2.1
  refine ⟨vx_Zq.moved hW.alike ((h1.kept hk).narrow hAB), vx_Zq.moved hW.alike ((h2.kept hk).narrow hAB), fun q hq => ?_, fun n hn => va_Nw.warmD hW (h4 n hn), fun E hE => va_Nw.warmC hW (h5 E hE), trivial, va_AO.moved hW.alike h7, b, va_Z.moved hW.alike ((h8.kept hk).narrow hAB), va_X.moved hW.alike (h9.kept (hk b h10 h11)), ?_, fun h => h11 (hAB b h)⟩
  · obtain ⟨sa, h⟩ := h3 q hq
    exact ⟨sa, vk_R.warm hW h⟩
  · rw [hU]; exact Nat.lt_of_lt_of_le h10 hS.1
def Pry (D : va_G) (ty : List (ClassId × FieldType)) (sz : Nat) (w : va_W) (U : State) : Prop := U.heap.size = sz ∧ EV U ∧ EX (va_A w sz) U ∧ va_P D vwCl w U.heap ∧ va_K D vwCl ty U ∧ va_D (fun _ => True) w
theorem Pry.blind {D : va_G} {ty : List (ClassId × FieldType)} {sz : Nat} {w : va_W} {av : List Value} : FrameBlind (va_Pc av (Pry D ty sz w)) := fun a U g mk q => by
  obtain ⟨q0, q1, q2, q6, q3, q4, q5⟩ := q
  exact ⟨q0, q1, EV.same (s := U) (U := U.calling g mk a) rfl q2, q6.go (U := U.calling g mk a) va_S.rf rfl (State.WarmedH.refl U) (fun _ h => h), q3, va_K.moved (u := U) (U := U.calling g mk a) (Vm.Alike.refl U.vm) q4, q5⟩
theorem Pry.x {D : va_G} {ty : List (ClassId × FieldType)} {sz : Nat} {w : va_W} {U : State} (h : Pry D ty sz w U) : Prx D ty sz w U := ⟨h.1, h.2.1, h.2.2.2.1, h.2.2.2.2.1, h.2.2.2.2.2⟩
theorem k_preY {s : State} {H : Heap} {A : Nat → Prop} {D : va_G} {tys : List (ClassId × FieldType)} {wr wc : va_W} {locs : List Loc} (hE : EV s) (hX : EX A s) (hK : va_K D vwCl tys s) (hP : va_P D vwCl (wr ++ wc) H) (hD : va_D A (wr ++ wc)) (hS : va_S A s.heap H locs) (hA : ∀ q, s.heap.size ≤ q → A q) (av : List Value) : PreS s H (va_Pc av (Pry D tys H.size wc)) av :=
  ⟨Pry.blind, fun U hU hW => ⟨rfl, by rw [hU], hE.warm hW, hX.go hS hU hW (k_freeR hD hS hA), by rw [hU]; exact va_P_r hP, va_K.moved hW.alike hK, (va_D_r hD).weaken (fun _ _ _ _ => trivial)⟩⟩
/-- what a body has at its entry, of a contract without throws (a constructor's name too) -/
theorem Y_of {l : Launch} {D : va_G} {ty : List (ClassId × FieldType)} {y : MethodName} {ws ws' : List Cond} {rm : Room} {av : List Value} {w : va_W} {cc : ByteArray} {maxL : Nat} {ret : Option FieldType} {Qc : (Nat → Prop) → Array Value → State → Outcome → State → Prop} {mc ms : Nat}
    (hy : plainName y.cls = true) (hw : ws = Cond.code y cc maxL ret :: ws') (hn : (lg_sl av).length ≤ maxL)
    (body : ∀ (p : Program) (e : Env) (s : State) (m : MethodId) (below : List Frame) (meth : Method) (c : Code) (A : Nat → Prop) (ls : Array Slot), BF p s m av.toArray meth c cc maxL ret ws y.cls → meth.name = y.name → EV s → EX A s → va_P D vwCl w s.heap → va_K D vwCl ty s → va_D A w → (∀ q, s.heap.size ≤ q → A q) → lv_has ls maxL (lv_args 0 av) →
      W p l e rm s m av.toArray below meth c s.heap [] 0 0 (MQ below (Qc A) av.toArray s mc ms A) (F0 m 0 ls [])) (sz : Nat) : Met l y ws rm (va_Pc av (Pry D ty sz w)) (Qc (va_A w sz)) mc ms (va_A w sz) := by
  refine Met.ofW (cc := cc) (maxL := maxL) (ret := ret) hy hw ?_
  intro p e s m args below meth c s₁ B hml hv
  obtain ⟨rfl, hsz, hE, hX, hP, hK, hD0⟩ := hv
  subst hsz
  have hl := lv_entry av (n := maxL) hn
  rw [lg_entry_eq]
  exact body p e s m below meth c _ _ ⟨B.exec, B.bytes, B.returns, hml, atoms_spec (ws := ws) B.pre, findClass_of_methodNamed B.named, B.notSynchronized⟩ (name_of_methodNamed B.named B.method).1 hE hX hP hK hD0.self (fun q h => Or.inr h) hl
theorem N_of {l : Launch} {D : va_G} {ty : List (ClassId × FieldType)} {y : MethodName} {ws ws' : List Cond} {rm : Room} {av : List Value} {w : va_W} {cc : ByteArray} {maxL : Nat} {ret : Option FieldType} {Qc : (Nat → Prop) → Array Value → State → Outcome → State → Prop} {mc ms : Nat}
    (hy : plainName y.cls = true) (hw : ws = Cond.code y cc maxL ret :: ws') (hn : (lg_sl av).length ≤ maxL)
    (body : ∀ (p : Program) (e : Env) (s : State) (m : MethodId) (below : List Frame) (meth : Method) (c : Code) (A : Nat → Prop) (ls : Array Slot), BF p s m av.toArray meth c cc maxL ret ws y.cls → meth.name = y.name → EV s → va_P D vwCl w s.heap → va_K D vwCl ty s → va_D A w → (∀ q, s.heap.size ≤ q → A q) → lv_has ls maxL (lv_args 0 av) →
      W p l e rm s m av.toArray below meth c s.heap [] 0 0 (MQ below (Qc A) av.toArray s mc ms A) (F0 m 0 ls [])) (sz : Nat) : Met l y ws rm (va_Pc av (Prx D ty sz w)) (Qc (va_A w sz)) mc ms (va_A w sz) := by
  refine Met.ofW (cc := cc) (maxL := maxL) (ret := ret) hy hw ?_
  intro p e s m args below meth c s₁ B hml hv
  obtain ⟨rfl, hsz, hE, hP, hK, hD0⟩ := hv
  subst hsz
  have hl := lv_entry av (n := maxL) hn
  rw [lg_entry_eq]
  exact body p e s m below meth c _ _ ⟨B.exec, B.bytes, B.returns, hml, atoms_spec (ws := ws) B.pre, findClass_of_methodNamed B.named, B.notSynchronized⟩ (name_of_methodNamed B.named B.method).1 hE hP hK hD0.self (fun q h => Or.inr h) hl
/-- a call's contract: its code of a throw, 0 for none; else its answer and world -/
def XQ (D : va_G) (k : Nat) (post : Int32 → va_W → Prop) (A : Nat → Prop) : Array Value → State → Outcome → State → Prop := va_Qi (fun (x : Int32) (u : va_W) => k = 0 ∧ post x u) (fun u t => Wd D u t ∧ va_D A u) A
def XX (D : va_G) (k : Nat) (w : va_W) (A : Nat → Prop) : String → State → State → Prop := vx_X (fun (_ : Unit) => True) (fun E _ t => (k ≠ 0 ∧ E = exN k) ∧ Wd D w t) A
def XM (l : Launch) (D : va_G) (ty : List (ClassId × FieldType)) (y : MethodName) (ws : List Cond) (rm : Room) (av : List Value) (w : va_W) (k : Nat) (post : Int32 → va_W → Prop) : Prop := ∀ sz : Nat, vx_Met l y ws rm (va_Pc av (Pry D ty sz w)) (XQ D k post (va_A w sz)) (XX D k w (va_A w sz)) rm.cells rm.slots (va_A w sz)
theorem X_of {l : Launch} {D : va_G} {ty : List (ClassId × FieldType)} {y : MethodName} {ws ws' : List Cond} {rm : Room} {av : List Value} {w : va_W} {k : Nat} {post : Int32 → va_W → Prop} {cc : ByteArray} {maxL : Nat} {ret : Option FieldType}
    (hy : plainName y.cls = true) (hw : ws = Cond.code y cc maxL ret :: ws') (hn : (lg_sl av).length ≤ maxL)
    (body : ∀ (p : Program) (e : Env) (s : State) (m : MethodId) (below : List Frame) (meth : Method) (c : Code) (A : Nat → Prop) (ls : Array Slot), BF p s m av.toArray meth c cc maxL ret ws y.cls → (∀ x ∈ c.exceptionTable.toList, False) → EV s → EX A s → va_P D vwCl w s.heap → va_K D vwCl ty s → va_D A w → (∀ q, s.heap.size ≤ q → A q) → lv_has ls maxL (lv_args 0 av) →
      W p l e rm s m av.toArray below meth c s.heap [] 0 0 (vx_MQ below (XQ D k post A) (XX D k w A) av.toArray s rm.cells rm.slots A) (F0 m 0 ls [])) : XM l D ty y ws rm av w k post := by
  intro sz
  refine vx_ofW (cc := cc) (maxL := maxL) (ret := ret) hy hw ?_
  intro p e s m args below meth c s₁ B hml ht hv
  obtain ⟨rfl, hsz, hE, hX, hP, hK, hD0⟩ := hv
  subst hsz
  have hl := lv_entry av (n := maxL) hn
  rw [lg_entry_eq]
  exact body p e s m below meth c _ _ ⟨B.exec, B.bytes, B.returns, hml, atoms_spec (ws := ws) B.pre, findClass_of_methodNamed B.named, B.notSynchronized⟩ ht hE hX hP hK hD0.self (fun q h => Or.inr h) hl
section KX
variable {p : Program} {l : Launch} {e : Env} {R : Room} {s : State} {m : MethodId} {args : Array Value} {below : List Frame} {meth : Method} {c : Code} {H : Heap} {locs : List Loc} {cells slots : Nat} {Q : State → Prop}
variable {cc : ByteArray} {pc : Nat} {ls : Array Slot} {rest st0 : List Value} {D : va_G} {A : Nat → Prop} {tys : List (ClassId × FieldType)} {H0 : Heap} {a : Array Value} {mc ms : Nat}
theorem x_throw {nL : Nat} {Ts : List Cond} {w : va_W} {post : Int32 → va_W → Prop} {k kE : Nat} {E text : String} {ik is ic : Nat} (hl : l.stackTraces = false) (hx : p.tables.exec = Jvm.exec) (hb : c.code = cc) (hml : c.maxLocals = nL) (hts : ∀ w ∈ Ts, w.before args s = true) (hown : s.vm.findClass RX3 = some m.cls) (hX : EX A s) (hS : va_S A s.heap H locs) (hP : va_P D vwCl w H) (hT : ∀ x ∈ c.exceptionTable.toList, False) (hlocks : meth.locks = false)
    (hE : exN kE = E) (hEm : E ∈ [eIOB, eIAE, eISE]) (hk : Cond.classLink RX3 ik E ∈ Ts) (hini : Cond.initialized E ∈ Ts) (hgd : ∀ w ∈ (vx_atS RX3 ic E nmX).filter goodWord, w ∈ Ts) (hbad : ∀ w ∈ (vx_atS RX3 ic E nmX).filter (fun w => !goodWord w), w ∈ exB E) (hot : ∀ w ∈ Cond.classLink RX3 ik E :: Cond.initialized E :: vx_atS RX3 ic E nmX, vx_ot w = true) (hfit : Bundle.fit E = true) (hstr : (is, text) ∈ strsX)
    (hsize : ls.size = nL) (hkE : k = kE) (hk0 : kE ≠ 0)
    (d0 : decode cc pc = .ok (.new ik, 3)) (d3 : decode cc (pc + 3) = .ok (.dup, 1)) (d4 : decode cc (pc + 4) = .ok (.ldc is, 2)) (d6 : decode cc (pc + 6) = .ok (.invokespecial ic, 3)) (d9 : decode cc (pc + 9) = .ok (.athrow, 1))
    (hRf : 5 < R.frames) (hRl : (rest.map fun v => v.category).sum + 82 ≤ R.locals) (hRc : cells + 1 ≤ R.cells) (hRs : slots + 6 ≤ R.slots) (hc : cells + 1 ≤ mc) (hs : slots + 6 ≤ ms) :
    W p l e R s m args below meth c H locs cells slots (vx_MQ below (XQ D k post A) (XX D k w A) args s mc ms A) (F0 m pc ls rest) := by
  subst hkE
  obtain ⟨sa, hsa⟩ := hX.2.2.1 (is, text) hstr
  have hd := hX.2.2.2.1
  refine vx_throwS (names := nmX) (sa := sa) (text := text) (cls := E) hx hb hl hown hfit (by decide +kernel) (hts _ hk) (hts _ hini) hsa (vx_hat (fun w hw => hts w (hgd w hw)) hbad ?_) hot hX.1 hX.2.1 hS (hsize.trans hml.symm) d0 d3 d4 d6 d9 (fun x hx => absurd (hT x hx) id) hRf hRl hRc hRs hlocks (fun t hal hz hq => ⟨(), trivial, ⟨⟨hk0, hE.symm⟩, ?_⟩, ?_⟩) hS.2.2 hc hs
  · exact vx_c (va_Nw.use rfl (hX.2.2.2.2.1 E hEm)) (vx_c (va_Nw.use rfl (hd _ (by simp))) (vx_c (va_Nw.use rfl (hd _ (by simp))) (vx_c (va_Nw.use rfl (hd _ (by simp))) vx_n)))
  · exact hP.kept (fun j q hj => hq q.1 (hP j q hj).lt)
  · exact ⟨Nat.le_trans hS.1 hz, fun q h1 h2 => (hq q (Nat.lt_of_lt_of_le h1 hS.1)).trans (hS.2.1 q h1 h2)⟩
theorem x_iret {k : Nat} {w u : va_W} {v : Int32} {post : Int32 → va_W → Prop} (hx : p.tables.exec = Jvm.exec) (hb : c.code = cc) (hr : meth.sig.returnType = some .int) (hlocks : meth.locks = false) (hS : va_S A s.heap H locs) (hP : va_P D vwCl u H) (hD : va_D A u) (hdg : decode cc pc = .ok (.ireturn, 1)) (hk : k = 0) (hpost : post v u) (hc : cells ≤ mc) (hs : slots ≤ ms) :
    W p l e R s m args below meth c H locs cells slots (vx_MQ below (XQ D k post A) (XX D k w A) args s mc ms A) (F0 m pc ls [.int v]) :=
  W.widen hc hs (vx_ret (W.iret hx hb hr (fun t ht hW => ⟨⟨v, u, rfl, ⟨hk, hpost⟩, by show va_P D vwCl u t.heap; rw [ht]; exact hP, hD⟩, hS.F ht⟩) hS.2.2 hdg hlocks))
end KX
theorem MF_room {l : Launch} {y : MethodName} {ws : List Cond} {rm rm' : Room} {P : Array Value → State → Prop} {K : Program → Env → List Frame → State → Array Value → Prop} {Q : Array Value → State → Outcome → State → Prop} (h : MetFree l y (headSpec ws rm) P K Q) (hR : rm.frames ≤ rm'.frames ∧ rm.cells ≤ rm'.cells ∧ rm.slots ≤ rm'.slots ∧ rm.locals ≤ rm'.locals) : MetFree l y (headSpec ws rm') P K Q := by
  intro p e ha hc hk s m args below hfr happ hP hK
  refine h p e ha hc hk s m args below hfr ?_ hP hK
  rw [Spec.appliesLoose_iff hfr] at happ ⊢
  obtain ⟨a1, a2, a3, a4, a5, a6, a7, a8⟩ := happ
  refine ⟨a1, a2, a3, a4, a5, a6, ?_, a8⟩
  have e1 : (headSpec ws rm).room = rm := rfl
  have e2 : (headSpec ws rm').room = rm' := rfl
  rw [e2] at a7
  rw [e1]
  obtain ⟨h1, h2, h3, h4⟩ := hR
  simp only [State.hasRoom, Bool.and_eq_true, decide_eq_true_eq] at a7 ⊢
  obtain ⟨⟨⟨⟨b1, b2, b3, b4, b5, b6⟩, b7⟩, b8⟩, b9⟩ := a7
  exact ⟨⟨⟨⟨by omega, by omega, by omega, by omega, by omega, b6⟩, by omega⟩, by omega⟩, b9⟩
theorem FE_mono {s t : State} {o : Outcome} {L : List Loc} {k n k' n' : Nat} (h : FrameEnd s o t L k n) (hk : k ≤ k') (hn : n ≤ n') : FrameEnd s o t L k' n' := by
  obtain ⟨h1, h2, h3⟩ := h
  exact ⟨h1, h2, h3.mono hk hn⟩
/-- a plain contract of few cells is one of the whole object -/
theorem XM_up {l : Launch} {D : va_G} {ty : List (ClassId × FieldType)} {y : MethodName} {ws : List Cond} {rm rm' : Room} {av : List Value} {w wc w' wn : va_W} {r : Int32} {k : Nat} {post : Int32 → va_W → Prop} (hM : Mi l D ty y ws rm av wc w' r) (hR : rm.frames ≤ rm'.frames ∧ rm.cells ≤ rm'.cells ∧ rm.slots ≤ rm'.slots ∧ rm.locals ≤ rm'.locals) (isC : List Nat) (hnd : va_nd isC = true) (hC : isC.map (fun i => w[i]?) = wc.map some) (ha : w'.map Prod.fst = wc.map Prod.fst) (hn : putAt w isC w' = wn) (hk : k = 0) (hpost : post r wn) : XM l D ty y ws rm' av w k post := by
  intro sz
  have hC2 : isC.filterMap (fun i => w[i]?) = wc := by
    have : ∀ (is : List Nat) (g : va_W), is.map (fun i => w[i]?) = g.map some → is.filterMap (fun i => w[i]?) = g := by
      intro is
      induction is with
      | nil => intro g hg; cases g with
        | nil => rfl
        | cons x y => simp at hg
      | cons i is ih =>
        intro g hg
        cases g with
        | nil => simp at hg
        | cons x y =>
          simp only [List.map_cons, List.cons.injEq] at hg
          rw [List.filterMap_cons, hg.1, ih y hg.2]
    exact this isC wc hC
  have hsub : ∀ q, va_A wc sz q → va_A w sz q := by
    intro q h
    rcases h with ⟨j, e, h⟩ | h
    · have h1 : (isC.map (fun i => w[i]?))[j]? = some (some (q, e)) := by rw [hC, List.getElem?_map, h]; rfl
      rw [List.getElem?_map] at h1
      cases hi : isC[j]? with
      | none => rw [hi] at h1; cases h1
      | some i =>
        rw [hi] at h1
        exact Or.inl ⟨i, e, Option.some.inj h1⟩
    · exact Or.inr h
  refine MF_room (rm := rm) ?_ hR
  refine Jvm.Free.MetFree.mono (hM sz) (fun av' U h => ?_) (fun _ _ _ _ _ h => h) (fun av' st o t h hq => ?_)
  · exact ⟨h.1, h.2.1, h.2.2.1, h.2.2.2.2.1.sub isC hC2, h.2.2.2.2.2.1, h.2.2.2.2.2.2.sub isC hnd hC⟩
  · obtain ⟨⟨⟨x, u, h1, h2, h3⟩, hF⟩, L, hfe, hL⟩ := hq
    obtain ⟨h0, hsz, hE, hX, hP, hK, hD⟩ := h
    subst h2
    subst hsz
    have h3 : va_P D vwCl w' t.heap := h3
    obtain ⟨g1, g2⟩ := k_back hP (hD.self) isC hC ha hn hF.2 h3
    exact Or.inl ⟨⟨⟨x, wn, h1, ⟨hk, hpost⟩, g1, g2⟩, hF.1, fun q b1 b2 => hF.2 q b1 (fun b3 => b2 (hsub q b3))⟩, L, FE_mono hfe (Nat.zero_le _) (Nat.zero_le _), fun q hq => hsub _ (hL q hq)⟩
