/-! the class's own calls: the world of an object, what they need of the machine, how they end -/
def zF (A : Nat → Nat → Nat) (n : Nat) : Nat → Option Nat := fun i => if i < n then some (A i 0) else none
/-- the saved roofs -/
def cZ (cI : ClassId) (A : Nat → Nat → Nat) (B : Nat → rB) : Nat → va_W
  | 0 => []
  | n + 1 => cZ cI A B n ++ cR cI (A n) (B n)
abbrev cS (cQ : ClassId) (s0 w0 : Nat) (f : Nat → Option Nat) (vo vh : Int32) : va_W := [(s0, .inr (2, [.ref w0, .int vo, .int vh])), (w0, .inl (cQ, 6, .inr (.inr (.inr (.inr f)))))]
theorem cZ_len {cI : ClassId} {A : Nat → Nat → Nat} {B : Nat → rB} : ∀ n, (cZ cI A B n).length = 13 * n
  | 0 => rfl
  | n + 1 => by
    show (cZ cI A B n ++ cR cI (A n) (B n)).length = 13 * (n + 1)
    rw [List.length_append, cZ_len n]
    show 13 * n + 13 = 13 * (n + 1)
    omega
theorem cZ_get {cI : ClassId} {A : Nat → Nat → Nat} {B : Nat → rB} {i j : Nat} (hj : j < 13) : ∀ n, i < n → (cZ cI A B n)[13 * i + j]? = (cR cI (A i) (B i))[j]?
  | 0, hi => absurd hi (by omega)
  | n + 1, hi => by
    show (cZ cI A B n ++ cR cI (A n) (B n))[13 * i + j]? = _
    by_cases h : i < n
    · rw [List.getElem?_append_left (by rw [cZ_len]; omega)]
      exact cZ_get hj n h
    · obtain rfl : i = n := by omega
      rw [List.getElem?_append_right (by rw [cZ_len]; omega), cZ_len, show 13 * i + j - 13 * i = j by omega]
theorem cZ_map {cI : ClassId} {A : Nat → Nat → Nat} {B : Nat → rB} {w : va_W} {k i n b : Nat} (hw : w.length = k) (hb : b = k + 13 * i) (hi : i < n) : (List.range' b 13).map (fun z => (w ++ cZ cI A B n)[z]?) = (cR cI (A i) (B i)).map some := by
  subst hb
  refine List.ext_getElem? fun j => ?_
  rw [List.getElem?_map, List.getElem?_map]
  by_cases hj : j < 13
  · rw [List.getElem?_range' hj]
    show some ((w ++ cZ cI A B n)[k + 13 * i + 1 * j]?) = _
    rw [List.getElem?_append_right (by omega), hw, show k + 13 * i + 1 * j - k = 13 * i + j by omega, cZ_get hj n hi]
    have hl : j < (cR cI (A i) (B i)).length := hj
    rw [List.getElem?_eq_getElem hl]
    rfl
  · rw [List.getElem?_eq_none (by rw [List.length_range']; omega), List.getElem?_eq_none (by show 13 ≤ j; omega)]
    rfl
theorem cZ_cong {cI : ClassId} {A A1 : Nat → Nat → Nat} {B B1 : Nat → rB} : ∀ n, (∀ z, z < n → A z = A1 z ∧ B z = B1 z) → cZ cI A B n = cZ cI A1 B1 n
  | 0, _ => rfl
  | n + 1, h => by
    show cZ cI A B n ++ cR cI (A n) (B n) = cZ cI A1 B1 n ++ cR cI (A1 n) (B1 n)
    rw [cZ_cong n (fun z hz => h z (by omega)), (h n (by omega)).1, (h n (by omega)).2]
theorem cZ_put {cI : ClassId} {A : Nat → Nat → Nat} {B : Nat → rB} {w : va_W} {k i b : Nat} {r : rB} (hw : w.length = k) (hb : b = k + 13 * i) : ∀ n, i < n → putAt (w ++ cZ cI A B n) (List.range' b 13) (cR cI (A i) r) = w ++ cZ cI A (fun z => if z = i then r else B z) n
  | 0, hi => absurd hi (by omega)
  | n + 1, hi => by
    show putAt (w ++ (cZ cI A B n ++ cR cI (A n) (B n))) (List.range' b 13) (cR cI (A i) r) = w ++ (cZ cI A (fun z => if z = i then r else B z) n ++ cR cI (A n) (if n = i then r else B n))
    rw [← List.append_assoc, ← List.append_assoc]
    by_cases h : i < n
    · rw [putAt_l _ _ _ _ (k + 13 * n) (by rw [List.length_append, hw, cZ_len]) (fun z hz => by have := List.mem_range'_1.mp hz; omega), cZ_put hw hb n h, if_neg (show ¬ n = i by omega)]
    · obtain rfl : i = n := by omega
      rw [putAt_0 13 _ _ _ _ (by rw [List.length_append, hw, cZ_len, hb]) rfl rfl, if_pos rfl, cZ_cong i (A := A) (B := B) (A1 := A) (B1 := fun z => if z = i then r else B z) (fun z hz => ⟨rfl, (if_neg (show ¬ z = i by omega)).symm⟩)]
/-- the whole object -/
abbrev WX (cI cQ : ClassId) (o s0 w0 : Nat) (x a a2 : Nat → Nat) (A : Nat → Nat → Nat) (r q t : rB) (n : Nat) (f : Nat → Option Nat) (vo vh : Int32) (B : Nat → rB) : va_W :=
  (cO o [.ref (a 0), .ref (a2 0), .ref s0, .ref (x 0)]) ++ (cR cI a r) ++ (cR cI a2 q) ++ (cS cQ s0 w0 f vo vh) ++ (cT cI x t) ++ (cZ cI A B n)
/-- a callee's world, behind others, comes back changed and grown -/
theorem k_join {A0 : Nat → Prop} {D : va_G} {cl : List vw_C} {wr wc w1 : va_W} {H H1 : Heap} (hP : va_P D cl (wr ++ wc) H) (hD : va_D A0 (wr ++ wc)) (hk : ∀ q : Nat, q < H.size → ¬ va_A wc H.size q → H1[q]? = H[q]?) (hP1 : va_P D cl w1 H1) (hD1 : va_D (va_A wc H.size) w1) (hA : ∀ q, H.size ≤ q → A0 q) : va_P D cl (wr ++ w1) H1 ∧ va_D A0 (wr ++ w1) := by
  have hr : ∀ (k : Nat) (q : Nat × va_E), wr[k]? = some q → (wr ++ wc)[k]? = some q := fun k q h => by
    rw [List.getElem?_append_left (List.getElem?_eq_some_iff.mp h).1]; exact h
  have hc : ∀ (k : Nat) (q : Nat × va_E), wc[k]? = some q → (wr ++ wc)[wr.length + k]? = some q := fun k q h => by
    rw [List.getElem?_append_right (by omega), Nat.add_sub_cancel_left]; exact h
  have hno : ∀ (k : Nat) (q : Nat × va_E), wr[k]? = some q → ¬ va_A wc H.size q.1 := by
    intro k q h h2
    have hlt := (hP k q (hr k q h)).lt
    rcases h2 with ⟨j, e, h3⟩ | h3
    · have h4 := hD.1 k (wr.length + j) q (q.1, e) (hr k q h) (hc j _ h3) rfl
      have := (List.getElem?_eq_some_iff.mp h).1
      omega
    · omega
  refine ⟨va_P.app (fun k q h => (hP k q (hr k q h)).kept (hk q.1 (hP k q (hr k q h)).lt (hno k q h))) hP1, ?_, ?_⟩
  · intro i j p q hi hj hpq
    by_cases h1 : i < wr.length
    · rw [List.getElem?_append_left h1] at hi
      by_cases h2 : j < wr.length
      · rw [List.getElem?_append_left h2] at hj
        exact hD.1 i j p q (hr i p hi) (hr j q hj) hpq
      · rw [List.getElem?_append_right (by omega)] at hj
        have h3 := hD1.2 _ q hj
        rw [← hpq] at h3
        exact absurd h3 (hno i p hi)
    · rw [List.getElem?_append_right (by omega)] at hi
      by_cases h2 : j < wr.length
      · rw [List.getElem?_append_left h2] at hj
        have h3 := hD1.2 _ p hi
        rw [hpq] at h3
        exact absurd h3 (hno j q hj)
      · rw [List.getElem?_append_right (by omega)] at hj
        have := hD1.1 _ _ p q hi hj hpq
        omega
  · intro k q hq
    by_cases h1 : k < wr.length
    · rw [List.getElem?_append_left h1] at hq
      exact hD.2 k q (hr k q hq)
    · rw [List.getElem?_append_right (by omega)] at hq
      rcases hD1.2 _ q hq with ⟨j, e, h3⟩ | h3
      · exact hD.2 _ (q.1, e) (hc j _ h3)
      · exact hA _ h3
theorem va_A_r {wr wc : va_W} {sz q : Nat} (h : va_A wc sz q) : va_A (wr ++ wc) sz q := by
  rcases h with ⟨k, e, h⟩ | h
  · exact Or.inl ⟨wr.length + k, e, by rw [List.getElem?_append_right (by omega), Nat.add_sub_cancel_left]; exact h⟩
  · exact Or.inr h
/-- what is free to a callee behind other cells is free here -/
theorem k_freeR {A0 : Nat → Prop} {wr wc : va_W} {H0 H : Heap} {locs : List Loc} (hD : va_D A0 (wr ++ wc)) (hS : va_S A0 H0 H locs) (hA : ∀ q, H0.size ≤ q → A0 q) : ∀ q, va_A wc H.size q → A0 q := by
  intro q h
  rcases h with ⟨k, e, h⟩ | h
  · exact hD.2 (wr.length + k) (q, e) (by rw [List.getElem?_append_right (by omega), Nat.add_sub_cancel_left]; exact h)
  · exact hA q (Nat.le_trans hS.1 h)
theorem va_D_r {A0 : Nat → Prop} {wr wc : va_W} (hD : va_D A0 (wr ++ wc)) : va_D A0 wc := by
  have hc : ∀ (k : Nat) (q : Nat × va_E), wc[k]? = some q → (wr ++ wc)[wr.length + k]? = some q := fun k q h => by
    rw [List.getElem?_append_right (by omega), Nat.add_sub_cancel_left]; exact h
  exact ⟨fun i j p q hi hj hpq => by have := hD.1 _ _ p q (hc i p hi) (hc j q hj) hpq; omega, fun k q h => hD.2 _ q (hc k q h)⟩
theorem va_P_r {D : va_G} {cl : List vw_C} {wr wc : va_W} {H : Heap} (hP : va_P D cl (wr ++ wc) H) : va_P D cl wc H := fun k q h => hP (wr.length + k) q (by
    rw [List.getElem?_append_right (by omega), Nat.add_sub_cancel_left]; exact h)
/-- the class of an array of ints is one -/
theorem va_RA_int {U : State} {c1 c2 : ClassId} (h1 : va_RA U c1 .int) (h2 : va_RA U c2 .int) : c1 = c2 := Option.some.inj (Eq.trans (Eq.symm h1) h2)
theorem va_RA_long {U : State} {c1 c2 : ClassId} (h1 : va_RA U c1 .long) (h2 : va_RA U c2 .long) : c1 = c2 := Option.some.inj (Eq.trans (Eq.symm h1) h2)
theorem va_RA_obj {U : State} {C : String} {c1 c2 : ClassId} (h1 : va_RA U c1 (.object C)) (h2 : va_RA U c2 (.object C)) : c1 = c2 := by
  obtain ⟨_, _, _, _, _, h1⟩ := h1
  obtain ⟨_, _, _, _, _, h2⟩ := h2
  exact Option.some.inj (h1.symm.trans h2)
section KN
variable {p : Program} {l : Launch} {e : Env} {R : Room} {s : State} {m : MethodId} {args : Array Value} {below : List Frame} {meth : Method} {c : Code} {H : Heap} {locs : List Loc} {cells slots : Nat} {Q : State → Prop}
variable {cc : ByteArray} {pc : Nat} {ls : Array Slot} {rest st0 : List Value} {D : va_G} {A : Nat → Prop} {a : Nat} {tys : List (ClassId × FieldType)} {ws : va_W} {H0 : Heap} {cl : List vw_C}
theorem k_newa (hexec : p.tables.exec = Jvm.exec) (hb : c.code = cc) (harr : (Cond.arrayClass .int).before args s = true) (hK : va_K D cl tys s) (hP : va_P D cl ws H) (hD : va_D A ws) (hS : va_S A H0 H locs) (hA : ∀ q, H0.size ≤ q → A q) {cI : ClassId} (t0 : Nat) (ht : tys[t0]? = some (cI, .int))
    {n : Int32} {N : Nat} (hn : ¬ n < 0) (hN : n.toNatClampNeg = N) (hbytes : N * 4 ≤ 536870912) (hcells : cells + 1 ≤ R.cells) (hslots : slots + N ≤ R.slots) (hdg : decode cc pc = .ok (.newarray .int, 2))
    (kk : ∀ (q : Nat) (H1 : Heap), va_P D cl (ws ++ [(q, .inl (cI, N, .inl (fun _ => 0)))]) H1 → va_D A (ws ++ [(q, .inl (cI, N, .inl (fun _ => 0)))]) → va_S A H0 H1 locs →
      W p l e R s m args below meth c H1 locs (cells + 1) (slots + N) Q (F0 m (pc + 2) ls (.ref q :: rest))) : W p l e R s m args below meth c H locs cells slots Q (F0 m pc ls (.int n :: rest)) := by
  refine va_newa (atype := .int) (ty := .int) (a0 := (N, .inl (fun _ => 0))) hexec hb harr rfl hK hP hD hS hA (fun _ => rfl) hn hN hbytes hcells hslots hdg (fun q cA H1 hK1 hP1 hD1 hS1 => ?_)
  have e : cA = cI := va_RA_int (U := s) (hK1.2 tys.length (cA, .int) (by rw [List.getElem?_append_right (Nat.le_refl _), Nat.sub_self]; rfl)).2 (hK.2 t0 _ ht).2
  subst e
  exact kk q H1 hP1 hD1 hS1
theorem k_newq (hexec : p.tables.exec = Jvm.exec) (hb : c.code = cc) {own C : String} {index : Nat} (hown : s.vm.findClass own = some m.cls) (hclink : (Cond.classLink own index C).before args s = true) (hover : va_AO C s) (hK : va_K D cl tys s) (hP : va_P D cl ws H) (hD : va_D A ws) (hS : va_S A H0 H locs) (hA : ∀ q, H0.size ≤ q → A q) {cQ : ClassId} (t0 : Nat) (ht : tys[t0]? = some (cQ, .object C))
    {n : Int32} {N : Nat} (hn : ¬ n < 0) (hN : n.toNatClampNeg = N) (hbytes : N * 4 ≤ 536870912) (hcells : cells + 1 ≤ R.cells) (hslots : slots + N ≤ R.slots) (hdg : decode cc pc = .ok (.anewarray index, 3))
    (kk : ∀ (q : Nat) (H1 : Heap), va_P D cl (ws ++ [(q, .inl (cQ, N, .inr (.inr (.inr (.inr (fun _ => none))))))]) H1 → va_D A (ws ++ [(q, .inl (cQ, N, .inr (.inr (.inr (.inr (fun _ => none))))))]) → va_S A H0 H1 locs →
      W p l e R s m args below meth c H1 locs (cells + 1) (slots + N) Q (F0 m (pc + 3) ls (.ref q :: rest))) : W p l e R s m args below meth c H locs cells slots Q (F0 m pc ls (.int n :: rest)) := by
  refine va_newq hexec hb hown hclink hover hK hP hD hS hA hn hN hbytes hcells hslots hdg (fun q cA H1 hK1 hP1 hD1 hS1 => ?_)
  have e : cA = cQ := va_RA_obj (U := s) (hK1.2 tys.length (cA, .object C) (by rw [List.getElem?_append_right (Nat.le_refl _), Nat.sub_self]; rfl)).2 (hK.2 t0 _ ht).2
  subst e
  exact kk q H1 hP1 hD1 hS1
theorem k_putF (hexec : p.tables.exec = Jvm.exec) (hb : c.code = cc) {own ref C : String} {T : u_T} {N ci index : Nat} {Ts : List Cond} (hts : ∀ w ∈ Ts, w.before args s = true) (hin : ∀ w ∈ u_ws C T N, w ∈ Ts) (ty0 : Nat → FieldType) (hty : ∀ k, k < N → parseFieldDescriptor (T k).2.2.1 = some (ty0 k)) (hnm : ∀ a, a < N → ∀ b, b < N → a ≠ b → (T a).2.1 ≠ (T b).2.1) (hown : s.vm.findClass own = some m.cls) (hK : va_K D cl tys s) (hP : va_P D cl ws H) (hD : va_D A ws) (hS0 : va_S A H0 H locs) (q0 : Nat) {fs : List Value} (he : ws[q0]? = some (a, .inr (ci, fs))) (hc : cl[ci]? = some (C, T, N)) (k : Nat) (hk : k < N) (hlink : (Cond.fieldLink own index ref (T k).2.1 (T k).2.2.1).before args s = true) (hsame : ∀ x, s.fieldFound? (T k).1 (T k).2.1 (T k).2.2.1 = some x → s.fieldFound? ref (T k).2.1 (T k).2.2.1 = some x) (hfin : (T k).2.2.2 = true) (hin2 : meth.name = "<init>") (hdecl : (T k).1 = own) {ty : FieldType} {v : Value} (hd : parseFieldDescriptor (T k).2.2.1 = some ty) (hn : narrow ty v = v) (hfit : fits ty v = true) (hl : k < fs.length) {ws' : va_W} (hw : ws.set q0 (a, .inr (ci, fs.set k v)) = ws')
    (hdg : decode cc pc = .ok (.putfield index, 3)) (kk : ∀ (H : Heap) (locs : List Loc), va_P D cl ws' H → va_D A ws' → va_S A H0 H locs → W p l e R s m args below meth c H locs cells slots Q (F0 m (pc + 3) ls rest)) : W p l e R s m args below meth c H locs cells slots Q (F0 m pc ls (v :: .ref a :: rest)) := by
  subst hw
  exact va_putF hexec hb hts hin ty0 hty hnm hown hK hP hD hS0 q0 he hc k hk hlink hsame hfin hin2 hdecl hd hn hfit hl hdg kk
theorem lv_eqv {x y : Value} (h : x = y) (k : W p l e R s m args below meth c H locs cells slots Q (F0 m pc ls (y :: rest))) : W p l e R s m args below meth c H locs cells slots Q (F0 m pc ls (x :: rest)) := by subst h; exact k
theorem k_eqw {w w' : va_W} (h : w = w') (hP : va_P D cl w H) (hD : va_D A w) : va_P D cl w' H ∧ va_D A w' := by subst h; exact ⟨hP, hD⟩
end KN
/-- a contract of a constructor: from its bare cell to a world that grew -/
def Mn (l : Launch) (D : va_G) (ty : List (ClassId × FieldType)) (y : MethodName) (ws : List Cond) (rm : Room) (av : List Value) (w : va_W) (S : Type) (w' : S → va_W) (mc ms : Nat) : Prop := ∀ sz : Nat, Met l y ws rm (va_Pc av (Prx D ty sz w)) (va_Qv (fun (_ : S) => True) (fun u t => Wd D (w' u) t ∧ va_D (va_A w sz) (w' u)) (va_A w sz)) mc ms (va_A w sz)
section KE
variable {p : Program} {l : Launch} {e : Env} {R : Room} {s : State} {m : MethodId} {args : Array Value} {below : List Frame} {meth : Method} {c : Code} {H : Heap} {locs : List Loc} {cells slots : Nat} {Q : State → Prop}
variable {cc : ByteArray} {pc : Nat} {ls : Array Slot} {rest st0 : List Value} {D : va_G} {A : Nat → Prop} {tys : List (ClassId × FieldType)} {wr wc : va_W} {H0 : Heap} {a : Array Value} {mc ms : Nat}
theorem k_vretN {S : Type} {w' : S → va_W} (u : S) (hx : p.tables.exec = Jvm.exec) (hb : c.code = cc) (hr : meth.sig.returnType = none) (hlocks : meth.locks = false) (hS : va_S A s.heap H locs) (hP : va_P D vwCl (w' u) H) (hD : va_D A (w' u)) (hdg : decode cc pc = .ok (.return_, 1)) :
    W p l e R s m args below meth c H locs cells slots (MQ below (va_Qv (fun (_ : S) => True) (fun u t => Wd D (w' u) t ∧ va_D A (w' u)) A) args s cells slots A) (F0 m pc ls []) :=
  W.vret hx hb hr (fun t ht hW => ⟨⟨u, rfl, trivial, by show va_P D vwCl (w' u) t.heap; rw [ht]; exact hP, hD⟩, hS.F ht⟩) hS.2.2 hdg hlocks
/-- a constructor's call: its cell is the last -/
theorem k_calln {S : Type} {w' : S → va_W} (hr : va_Run p l e R s m args below meth c H locs cells slots mc ms (F0 m pc ls st0) rest (va_Qv (fun (_ : S) => True) (fun u t => Wd D (w' u) t ∧ va_D (va_A wc H.size) (w' u)) (va_A wc H.size) a) (va_A wc H.size)) (hP : va_P D vwCl (wr ++ wc) H) (hD : va_D A (wr ++ wc)) (hS : va_S A H0 H locs) (hA : ∀ q, H0.size ≤ q → A q)
    (kk : ∀ (u : S) (H : Heap) (locs : List Loc), va_P D vwCl (wr ++ w' u) H → va_D A (wr ++ w' u) → va_S A H0 H locs → W p l e R s m args below meth c H locs (cells + mc) (slots + ms) Q (F0 m (pc + 3) ls rest)) : W p l e R s m args below meth c H locs cells slots Q (F0 m pc ls st0) := by
  have hF : ∀ q, va_A wc H.size q → A q := k_freeR hD hS hA
  refine va_callv hr hS (fun q _ h => hF q h) hF (fun u t H1 locs ht hvm hw hB hz1 hk1 hS1 => ?_)
  obtain ⟨hB1, hB2⟩ := hB
  have hB1 : va_P D vwCl (w' u) t.heap := hB1
  rw [ht] at hB1
  obtain ⟨h1, h2⟩ := k_join hP hD hk1 hB1 hB2 (fun q h => hA q (Nat.le_trans hS.1 h))
  exact kk u H1 locs h1 h2 hS1
theorem k_preR (hE : EV s) (hK : va_K D vwCl tys s) (hP : va_P D vwCl (wr ++ wc) H) (hD : va_D A (wr ++ wc)) (av : List Value) : PreS s H (va_Pc av (Prx D tys H.size wc)) av :=
  ⟨Prx.blind, fun U hU hW => ⟨rfl, by rw [hU], hE.warm hW, by rw [hU]; exact va_P_r hP, va_K.moved hW.alike hK, (va_D_r hD).weaken (fun _ _ _ _ => trivial)⟩⟩
end KE
