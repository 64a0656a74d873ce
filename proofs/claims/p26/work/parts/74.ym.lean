/-! a call that doesn't throw, over the whole object -/
theorem k_preYV {s : State} {H : Heap} {A : Nat → Prop} {D : va_G} {tys : List (ClassId × FieldType)} {wr wc : va_W} {locs : List Loc} (hE : EV s) (hX : EX A s) (hK : va_K D vwCl tys s) (hP : va_P D vwCl (wr ++ wc) H) (hD : va_D A (wr ++ wc)) (hS : va_S A s.heap H locs) (hA : ∀ q, s.heap.size ≤ q → A q) {b ci q0 : Nat} {q : vw_C} {fs : List Value} (hc : vwCl[ci]? = some q) (he : (wr ++ wc)[q0]? = some (b, .inr (ci, fs))) (As : List Value) : PreV s H q.1 b (va_Pc (.ref b :: As) (Pry D tys H.size wc)) As :=
  ⟨(k_preY hE hX hK hP hD hS hA (.ref b :: As)).1, va_recv hK hP hc he, (k_preY hE hX hK hP hD hS hA (.ref b :: As)).2⟩
def YM (l : Launch) (D : va_G) (ty : List (ClassId × FieldType)) (y : MethodName) (ws : List Cond) (rm : Room) (av : List Value) (w : va_W) (post : Int32 → va_W → Prop) : Prop := ∀ sz : Nat, Met l y ws rm (va_Pc av (Pry D ty sz w)) (va_Qi (fun (x : Int32) (u : va_W) => post x u) (fun u t => Wd D u t ∧ va_D (va_A w sz) u) (va_A w sz)) rm.cells rm.slots (va_A w sz)
theorem YM_of {l : Launch} {D : va_G} {ty : List (ClassId × FieldType)} {y : MethodName} {ws : List Cond} {rm : Room} {av : List Value} {w : va_W} {k : Nat} {post : Int32 → va_W → Prop} (h : XM l D ty y ws rm av w k post) (hk : k = 0) : YM l D ty y ws rm av w post := by
  intro sz
  refine Jvm.Free.MetFree.mono (h sz) (fun _ _ h => h) (fun _ _ _ _ _ h => h) (fun av' st o t _ hq => ?_)
  rcases hq with ⟨⟨⟨x, u, h1, h2, h3⟩, hF⟩, hL⟩ | ⟨q, -, E, ce, L, hX, -⟩
  · exact ⟨⟨⟨x, u, h1, h2.2, h3⟩, hF⟩, hL⟩
  · obtain ⟨-, -, ⟨⟨hk0, -⟩, -⟩, -⟩ := hX
    exact absurd hk hk0
section KY
variable {p : Program} {l : Launch} {e : Env} {R : Room} {s : State} {m : MethodId} {args : Array Value} {below : List Frame} {meth : Method} {c : Code} {H : Heap} {locs : List Loc} {cells slots : Nat} {Q : State → Prop}
variable {cc : ByteArray} {pc : Nat} {ls : Array Slot} {rest st0 : List Value} {D : va_G} {A : Nat → Prop} {wc : va_W} {H0 : Heap} {a : Array Value} {mc ms : Nat} {post : Int32 → va_W → Prop}
theorem k_callY (hr : va_Run p l e R s m args below meth c H locs cells slots mc ms (F0 m pc ls st0) rest (va_Qi (fun (x : Int32) (u : va_W) => post x u) (fun u t => Wd D u t ∧ va_D (va_A wc H.size) u) (va_A wc H.size) a) (va_A wc H.size)) (hP : va_P D vwCl wc H) (hD : va_D A wc) (hS : va_S A H0 H locs) (hA : ∀ q, H0.size ≤ q → A q)
    (kk : ∀ (r : Int32) (u : va_W), post r u → ∀ (H : Heap) (locs : List Loc), va_P D vwCl u H → va_D A u → va_S A H0 H locs → W p l e R s m args below meth c H locs (cells + mc) (slots + ms) Q (F0 m (pc + 3) ls (.int r :: rest))) : W p l e R s m args below meth c H locs cells slots Q (F0 m pc ls st0) := by
  have hF : ∀ q, va_A wc H.size q → A q := k_freeR (wr := []) hD hS hA
  refine va_calli hr hS (fun q _ h => hF q h) hF (fun x u t H1 locs ht hvm hp hB hz1 hk1 hS1 => ?_)
  obtain ⟨hB1, hB2⟩ := hB
  have hB1 : va_P D vwCl u t.heap := hB1
  rw [ht] at hB1
  obtain ⟨h1, h2⟩ := k_join (wr := []) hP hD hk1 hB1 hB2 (fun q h => hA q (Nat.le_trans hS.1 h))
  exact kk x u hp H1 locs h1 h2 hS1
theorem y_iret {u : va_W} {v : Int32} (hx : p.tables.exec = Jvm.exec) (hb : c.code = cc) (hr : meth.sig.returnType = some .int) (hlocks : meth.locks = false) (hS : va_S A s.heap H locs) (hP : va_P D vwCl u H) (hD : va_D A u) (hdg : decode cc pc = .ok (.ireturn, 1)) (hpost : post v u) (hc : cells ≤ mc) (hs : slots ≤ ms) :
    W p l e R s m args below meth c H locs cells slots (MQ below (va_Qi (fun (x : Int32) (u : va_W) => post x u) (fun u t => Wd D u t ∧ va_D A u) A) args s mc ms A) (F0 m pc ls [.int v]) :=
  W.widen hc hs (W.iret hx hb hr (fun t ht hW => ⟨⟨v, u, rfl, hpost, by show va_P D vwCl u t.heap; rw [ht]; exact hP, hD⟩, hS.F ht⟩) hS.2.2 hdg hlocks)
end KY
