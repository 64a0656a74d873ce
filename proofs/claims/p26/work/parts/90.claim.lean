/-! floating point: over the whole library -/
theorem fq_val {a : UInt64} {E T : Nat} (h1 : 1 ≤ E) (h2 : E ≤ 2046) (hT : T < 2 ^ 52) (h : a.toNat = E * 2 ^ 52 + T) : FP.Core.val64 a = .fin false (2 ^ 52 + T) ((E : Int) - 1075) := by
  have ha : a.toNat = FP.Core.assemble FP.Core.b64 false E T := by
    unfold FP.Core.assemble
    rw [FP.Core.tails_b64, h]
    simp
  have he : FP.Core.b64.exps = 2048 := by decide
  unfold FP.Core.val64
  rw [ha, FP.Core.decode_assemble _ _ _ _ (by rw [he]; omega) (by rw [FP.Core.tails_b64]; exact hT), if_neg (by rw [he]; omega), if_neg (by omega), FP.Core.tails_b64, FP.Core.qmin_b64]
  congr 1
  omega
theorem fq_fin {a : UInt64} {s : Bool} {c : Nat} {q : Int} (h : FP.Core.val64 a = .fin s c q) : FP.Core.val64 a ≠ .nan := by rw [h]; exact fun h => by cases h
theorem fq_one : FP.Core.val64 FP.dconst1 = .fin false (2 ^ 52) (-52) := (fq_val (E := 1023) (T := 0) (by omega) (by omega) (by omega) (by decide)).trans (by rfl)
theorem fq_zmag {i : Int} {a : UInt64} (h : FP.Core.DInt i a) (hi : 0 < i) : ∃ c q, FP.Core.val64 a = .fin false c q ∧ (FP.Core.zmag FP.Core.b64 (.fin false c q) : Int) = i * (FP.Core.one64 : Int) := by
  have h1 := FP.Core.DInt_zval h
  have p := FP.Core.one64_pos
  have hpos : 0 < i * (FP.Core.one64 : Int) := Int.mul_pos hi (by omega)
  have hW : FP.Core.Whole i (FP.Core.val64 a) := h
  cases hv : FP.Core.val64 a with
  | nan => rw [hv] at hW; exact hW.elim
  | inf s => rw [hv] at hW; exact hW.elim
  | fin s c q =>
    rw [hv] at h1
    have h2 : FP.Core.signed s (FP.Core.zmag FP.Core.b64 (.fin s c q)) = i * (FP.Core.one64 : Int) := h1
    cases s with
    | false => exact ⟨c, q, rfl, h2⟩
    | true =>
      exfalso
      have h3 : -((FP.Core.zmag FP.Core.b64 (.fin true c q) : Nat) : Int) = i * (FP.Core.one64 : Int) := h2
      omega
theorem fq_ratio {d n : Int32} (hd : 0 < d.toInt) (hn : d.toInt ≤ n.toInt) : ∃ X : Nat, 992 * 2 ^ 52 ≤ X ∧ X ≤ 1023 * 2 ^ 52 ∧ (FP.ddiv (FP.i2d d) (FP.i2d n)).toNat = X := by
  obtain ⟨c, q, e1, z1⟩ := fq_zmag (FP.Core.i2d_int d) hd
  obtain ⟨c2, r, e2, z2⟩ := fq_zmag (FP.Core.i2d_int n) (by omega)
  have hn31 := n.toInt_lt
  have f1 : FP.Core.fits FP.Core.b64 (.fin false c q) := by rw [← e1]; exact FP.Core.val64_fits _
  have f2 : FP.Core.fits FP.Core.b64 (.fin false c2 r) := by rw [← e2]; exact FP.Core.val64_fits _
  have p := FP.Core.one64_pos
  have hc2 : 0 < c2 := by
    rcases Nat.eq_zero_or_pos c2 with h0 | h0
    · exfalso
      have h9 : FP.Core.zmag FP.Core.b64 (.fin false c2 r) = 0 := by rw [h0]; exact Nat.zero_mul _
      rw [h9] at z2
      have : 0 < n.toInt * (FP.Core.one64 : Int) := Int.mul_pos (by omega) (by omega)
      omega
    · exact h0
  have hv : FP.Core.val64 (FP.Core.ddiv (FP.Core.i2d d) (FP.Core.i2d n)) = FP.Core.roundRatio FP.Core.b64 false c c2 (q - r) := by
    rw [FP.Core.val64_ddiv, e1, e2]
    show (if c2 = 0 then _ else _) = _
    rw [if_neg (by omega)]
    rfl
  have hq1 := f1.2.1
  have hq2 := f2.2.1
  rw [FP.Core.qmin_b64] at hq1 hq2
  have a1 : FP.Core.inUnits c (q - r) (2 * FP.Core.b64.qmin - r) = FP.Core.zmag FP.Core.b64 (.fin false c q) * FP.Core.one64 := by
    rw [← FP.Core.pow_qmin64]
    show c * _ = c * _ * _
    rw [Nat.mul_assoc, ← Nat.pow_add]
    congr 2
    rw [FP.Core.qmin_b64]
    omega
  have a2 : 2 ^ (FP.Core.b64.qmin - (2 * FP.Core.b64.qmin - r)).toNat * c2 = FP.Core.zmag FP.Core.b64 (.fin false c2 r) := by
    show _ = c2 * _
    rw [Nat.mul_comm]
    congr 2
    rw [FP.Core.qmin_b64]
    omega
  obtain ⟨dn, hdn⟩ := Int.eq_ofNat_of_zero_le (show 0 ≤ d.toInt by omega)
  obtain ⟨nn, hnn⟩ := Int.eq_ofNat_of_zero_le (show 0 ≤ n.toInt by omega)
  have y1 : FP.Core.zmag FP.Core.b64 (.fin false c q) = dn * FP.Core.one64 := by rw [hdn] at z1; exact_mod_cast z1
  have y2 : FP.Core.zmag FP.Core.b64 (.fin false c2 r) = nn * FP.Core.one64 := by rw [hnn] at z2; exact_mod_cast z2
  have hne : FP.Core.val64 (FP.Core.ddiv (FP.Core.i2d d) (FP.Core.i2d n)) ≠ .nan := by rw [hv]; exact FP.Core.roundRatio_ne_nan _ _ _ _ _
  have one_v : FP.Core.zmag FP.Core.b64 (.fin false (2 ^ 52) (-52)) = FP.Core.one64 := by decide +kernel
  have low_v : FP.Core.zmag FP.Core.b64 (.fin false (2 ^ 52) (-83)) * 2 ^ 31 = FP.Core.one64 := by decide +kernel
  have up := FP.Core.zmag_roundRatio_le (f := FP.Core.b64) (s := false) (A := c) (B := c2) (e := q - r) (e0 := 2 * FP.Core.b64.qmin - r) (V := .fin false (2 ^ 52) (-52)) FP.Core.good_b64 hc2 (by rw [← fq_one]; exact FP.Core.val64_fits _) (fun h => by cases h) (by rw [FP.Core.qmin_b64]; omega) (by rw [FP.Core.qmin_b64]; omega) (by
    rw [a1, Nat.mul_assoc, a2, one_v, y1, y2, Nat.mul_comm (FP.Core.one64) (nn * FP.Core.one64)]
    exact Nat.mul_le_mul_right _ (Nat.mul_le_mul_right _ (by omega)))
  have low_f : FP.Core.fits FP.Core.b64 (.fin false (2 ^ 52) (-83)) := by
    refine ⟨by decide, by decide, by decide, Or.inr (by decide)⟩
  have lo := FP.Core.zmag_roundRatio_ge (f := FP.Core.b64) (s := false) (A := c) (B := c2) (e := q - r) (e0 := 2 * FP.Core.b64.qmin - r) (V := .fin false (2 ^ 52) (-83)) FP.Core.good_b64 hc2 low_f (by rw [FP.Core.qmin_b64]; omega) (by rw [FP.Core.qmin_b64]; omega) (by
    rw [a1, Nat.mul_assoc, a2, y1, y2, ← low_v]
    generalize FP.Core.zmag FP.Core.b64 (.fin false (2 ^ 52) (-83)) = z
    have h5 : nn ≤ dn * 2 ^ 31 := by omega
    calc z * (nn * (z * 2 ^ 31)) = nn * (z * (z * 2 ^ 31)) := by ac_rfl
      _ ≤ dn * 2 ^ 31 * (z * (z * 2 ^ 31)) := Nat.mul_le_mul_right _ h5
      _ = dn * (z * 2 ^ 31) * (z * 2 ^ 31) := by ac_rfl)
  rw [← hv, FP.Core.zmag_bits hne] at up lo
  have u1 : FP.Core.zmag FP.Core.b64 (.fin false (2 ^ 52) (-52)) = FP.Core.unitsOf FP.Core.b64 (1023 * 2 ^ 52) := by decide +kernel
  have u2 : FP.Core.zmag FP.Core.b64 (.fin false (2 ^ 52) (-83)) = FP.Core.unitsOf FP.Core.b64 (992 * 2 ^ 52) := by decide +kernel
  rw [u1] at up
  rw [u2] at lo
  have up := FP.Core.unitsOf_le_iff.mp up
  have lo := FP.Core.unitsOf_le_iff.mp lo
  have hs : (FP.Core.ddiv (FP.Core.i2d d) (FP.Core.i2d n)).toNat < 2 ^ 63 := by
    have h6 := FP.Core.sgn_bits hne
    rw [hv, FP.Core.sgn_roundRatio] at h6
    have h7 := of_decide_eq_false h6.symm
    omega
  obtain ⟨X, hX⟩ : ∃ X, X = (FP.Core.ddiv (FP.Core.i2d d) (FP.Core.i2d n)).toNat := ⟨_, rfl⟩
  show ∃ Y : Nat, 992 * 2 ^ 52 ≤ Y ∧ Y ≤ 1023 * 2 ^ 52 ∧ (FP.Core.ddiv (FP.Core.i2d d) (FP.Core.i2d n)).toNat = Y
  rw [← hX] at up lo hs ⊢
  exact ⟨X, by omega, by omega, rfl⟩
theorem n64_of {x : UInt64} (h : FP.Core.dIsNaN x = false) : vf_n64 x := by
  unfold vf_n64
  have h1 : ¬ FP.Core.dIsNaN x = true := by rw [h]; decide
  rw [FP.Core.isNaN_bits] at h1
  rw [UInt64.le_iff_toNat_le, UInt64.toNat_and]
  have h2 : (0x7fffffffffffffff : UInt64).toNat = 2 ^ 63 - 1 := by decide
  have h3 : (0x7ff0000000000000 : UInt64).toNat = 9218868437227405312 := by decide
  rw [h2, h3, Nat.and_two_pow_sub_one_eq_mod]
  omega
theorem fq_key {a : UInt64} (h : a.toNat < 2 ^ 63) : FP.Core.dkey a = (a.toNat : Int) := if_neg (by omega)
theorem fq_zero {n : Int32} (hn : 0 < n.toInt) : FP.ddiv (FP.i2d 0) (FP.i2d n) = 0 := by
  obtain ⟨c2, r, e2, z2⟩ := fq_zmag (FP.Core.i2d_int n) hn
  have e1 : FP.Core.val64 (FP.Core.i2d 0) = .fin false 0 FP.Core.b64.qmin := by rw [FP.Core.val64_i2d]; rfl
  have hc2 : ¬ c2 = 0 := by
    intro h0
    have p := FP.Core.one64_pos
    have h9 : FP.Core.zmag FP.Core.b64 (.fin false c2 r) = 0 := by rw [h0]; exact Nat.zero_mul _
    rw [h9] at z2
    have : 0 < n.toInt * (FP.Core.one64 : Int) := Int.mul_pos hn (by omega)
    omega
  have hv : FP.Core.val64 (FP.Core.ddiv (FP.Core.i2d 0) (FP.Core.i2d n)) = .fin false 0 FP.Core.b64.qmin := by
    rw [FP.Core.val64_ddiv, e1, e2]
    show (if c2 = 0 then _ else _) = _
    rw [if_neg hc2]
    rfl
  exact FP.Core.val64_inj (fq_fin hv) (hv.trans FP.Core.val64_zero.symm)
theorem notNaN_i2d (x : Int32) : FP.Core.dIsNaN (FP.i2d x) = false := by
  cases h : FP.Core.dIsNaN (FP.i2d x) with
  | false => rfl
  | true =>
    have h1 := (FP.Core.isNaN_bits _).mp h
    have h2 := (FP.Core.fin_bits (FP.i2d x)).mp (FP.Core.i2d_fin x)
    omega
theorem notNaN_share (x : Int32) {y : Int32} (h : ¬ y = 0) : FP.Core.dIsNaN (FP.ddiv (FP.i2d x) (FP.i2d y)) = false :=
  FP.Core.ddiv_out (notNaN_i2d x) (FP.Core.i2d_fin y) (fun hz => FP.Core.i2d_ne_zero h ((FP.Core.zero_bits2 _).mp hz))
theorem cmp_self {x : UInt64} (h : FP.Core.dIsNaN x = false) (op : CmpOp) : Op.cmpValue (FP.dcmp x x) op = 0 := by
  have e : FP.dcmp x x = some .eq := FP.Core.dcmp_refl h
  rw [e]; rfl
theorem FPn_1 : FPn := fun x y h => n64_of (notNaN_share x h)
theorem fq_in {x0 : UInt64} {X : Nat} (h1 : 992 * 2 ^ 52 ≤ X) (h2 : X ≤ 1023 * 2 ^ 52) (h : x0.toNat = X) : ¬ Op.cmpValue (FP.dcmp x0 FP.dconst0) .l < 0 ∧ ¬ 0 < Op.cmpValue (FP.dcmp x0 FP.dconst1) .g := by
  have hn : FP.Core.val64 x0 ≠ .nan := fq_fin (fq_val (E := X / 2 ^ 52) (T := X % 2 ^ 52) (by omega) (by omega) (by omega) (by omega))
  have d0 : FP.dconst0.toNat = 0 := by decide
  have d1 : FP.dconst1.toNat = 1023 * 2 ^ 52 := by decide
  have n0 : FP.Core.val64 FP.dconst0 ≠ .nan := fq_fin FP.Core.val64_zero
  have n1 : FP.Core.val64 FP.dconst1 ≠ .nan := fq_fin fq_one
  refine ⟨?_, ?_⟩
  · have e : FP.dcmp x0 FP.dconst0 = some .gt := by
      show FP.Core.dcmp x0 FP.dconst0 = some .gt
      rw [FP.Core.dcmp_key hn n0, fq_key (by omega), fq_key (by omega), d0, h, (FP.Core.compare_gt_iff _ _).mpr (by omega)]
    rw [e]; decide
  · have e : FP.dcmp x0 FP.dconst1 = some (compare (X : Int) ((1023 * 2 ^ 52 : Nat) : Int)) := by
      show FP.Core.dcmp x0 FP.dconst1 = _
      rw [FP.Core.dcmp_key hn n1, fq_key (by omega), fq_key (by omega), d1, h]
    rw [e]
    by_cases h0 : X = 1023 * 2 ^ 52
    · rw [(FP.Core.compare_eq_iff _ _).mpr (by omega)]; decide
    · rw [(FP.Core.compare_lt_iff _ _).mpr (by omega)]; decide
theorem FQ_1 (r : rB) (K : Int) (h : Gw K r) (hK : K ≤ 2000000000) : FQ r := by
  have hl := h.le (i := 0) (by omega)
  obtain ⟨h3, h8, h9, h10, hT, hR, -⟩ := h
  have g3 := (S6_ge h3 (i := 0) (by omega)).2
  have g8 := (S6_ge h8 (i := 0) (by omega)).2
  have g9 := (S6_ge h9 (i := 0) (by omega)).2
  have g10 := (S6_ge h10 (i := 0) (by omega)).2
  have es := smI_S6 h10 (by omega)
  refine ⟨fun h0 => ?_, fun h0 => ?_⟩
  · unfold shC
    rw [if_pos h0]
    exact cmp_self (by decide +kernel) _
  · have e : shC r = FP.ddiv (FP.i2d (smI (r 10) 6 0 0)) (FP.i2d (r 12 2)) := if_neg h0
    rw [e]
    refine ⟨cmp_self (notNaN_share _ h0) _, ?_⟩
    have hn : 0 < (r 12 2).toInt := by
      have : (r 12 2).toInt ≠ 0 := fun e => h0 (Int32.toInt_inj.mp (by rw [e]; decide))
      omega
    by_cases hd : smI (r 10) 6 0 0 = 0
    · rw [hd, fq_zero hn]
      exact ⟨by decide +kernel, by decide +kernel⟩
    · have hd2 : (smI (r 10) 6 0 0).toInt ≠ 0 := fun e => hd (Int32.toInt_inj.mp (by rw [e]; decide))
      obtain ⟨X, e1, e2, e3⟩ := fq_ratio (d := smI (r 10) 6 0 0) (n := r 12 2) (by omega) (by omega)
      exact fq_in e1 e2 e3
/-! THE CLAIM OUT OF ONE WALK OF THE LAW'S BODY. Your part is whole_start (and what it stands on); all else here is the same for every law, but numbers. -/
def R_law : String := "RoofDrainsLaw"
def lw_P (b : Addr) (xs : List Int32) (args : Array Value) (s : State) : Prop := args = #[.ref b] ∧ s.IntsAt b xs ∧ xs.length ≤ 260 ∧ (Jvm.Cond.and given_1 narrow_1).before args s = true
/-- what a walk over the start with the record d0 says of its end, said of the start itself -/
theorem lw_closed {s t : State} {o : Outcome} {d0 : Drawn} {L : List Loc} {k n : Nat} (hd0 : s.drawn.sameBut d0 lw_cs) (hv : ∃ v, o = .returned v) (hW : (s.setDrawn d0).WarmedH t.vm) (hs : (s.setDrawn d0).sameButNew ({ t with vm := s.vm } : State) L k n) : State.butDraws s t lw_cs (fun t1 => Framed s o t1 L k n) := by
  have h2 : t.drawn = d0 := congrArg State.drawn hs.1
  refine ⟨⟨hv, hW, State.sameButNew.setDrawn hs s.drawn⟩, ?_, by decide⟩
  rw [h2]
  exact hd0
def lw_Q (_ : Array Value) (s : State) (o : Outcome) (t : State) : Prop := o = .returned (some (.int 1)) ∧ State.butDraws s t lw_cs (fun t1 => Framed s o t1 [] 625941 7223801)
def lw_Z (below : List Frame) (a : Array Value) (s : State) : State → Prop := fun t => ∃ o, t.status = .running ∧ Ended t below o ∧ lw_Q a s o t
/-- the law's own end, with 1 on the stack, nothing written that was there before, its room as the claim has it; d0: the record of draws at this point (at the entry s.drawn: begin with 'refine W.base ?_' and 'have hd0 := Drawn.sameBut.refl s.drawn lw_cs') -/
theorem lw_ret {p : Program} {l : Launch} {e : Env} {s : State} {m : MethodId} {below : List Frame} {meth : Method} {c : Code} {b : Nat} {d0 : Drawn} (hd0 : s.drawn.sameBut d0 lw_cs) (hx : p.tables.exec = Jvm.exec) (hb : c.code = code) (hr : meth.sig.returnType = ret) (hlocks : meth.locks = false) {pc : Nat} {H : Heap} {ls : Array Slot} (hdg : decode code pc = .ok (.ireturn, 1)) : W p l e room_1 (s.setDrawn d0) m #[Value.ref b] below meth c H [] 625941 7223801 (lw_Z below #[Value.ref b] s) (F0 m pc ls [.int 1]) := by
  intro T hT X
  obtain ⟨fs, hret, hrun, hended, hW, hframe⟩ := X.leave (v := some (.int 1)) (hlocks := hlocks) (fun h => by rw [hr] at h; cases h)
  have hmeth' : T.vm.method? m = some meth := X.method'
  refine ⟨T.setFrames fs, ?_, .returned (some (.int 1)), hrun, hended, rfl, lw_closed hd0 ⟨_, rfl⟩ hW hframe⟩
  jvm_step X.here [X.here.top, hx, hb, hdg, hmeth', hr, ret, narrow_b1]
  (try refine ⟨rfl, ?_⟩); (try refine ⟨rfl, ?_⟩)
  first | (intro acts; rw [hret _ acts rfl rfl rfl]) | rw [hret _ _ rfl rfl rfl]
  exact Steps.refl _
/-- what holds at the law's entry: the machine, the code, the tables' words (any of lw_tbl by 'hts w (by decide +kernel)'), the script of L ints xs at the cell b, what the Statement gives of the start (any of its parts by flat_of_before) -/
def lw_At (p : Program) (s : State) (m : MethodId) (meth : Method) (c : Code) (b L : Nat) (xs : Nat → Int32) : Prop :=
  p.tables.exec = Jvm.exec ∧ c.code = code ∧ meth.sig.returnType = ret ∧ c.maxLocals = 11 ∧ s.vm.findClass R_law = some m.cls ∧ (∀ w ∈ lw_tbl, w.before #[Value.ref b] s = true) ∧ va_X b L xs s s.heap ∧ b < s.heap.size ∧ meth.locks = false ∧ (Jvm.Cond.and given_1 narrow_1).before #[Value.ref b] s = true
/-- YOUR PART: from the entry, for every script of at most 260 ints, the law comes to its end with true ('hflags': the launch's flags, for a law that throws: no stack traces) -/
theorem whole_start {p : Program} {e : Env} {s : State} {m : MethodId} {below : List Frame} {meth : Method} {c : Code} (l : Launch) (hflags : l.flags = flags0) {b L : Nat} {xs : Nat → Int32} (hL : L ≤ 260) (C0 : lw_At p s m meth c b L xs) : W p l e room_1 s m #[Value.ref b] below meth c s.heap [] 0 0 (lw_Z below #[Value.ref b] s) (entryFrame m ([Value.ref b] : List Value).toArray 11) := by
  obtain ⟨hx, hb, hr, hml, hown, hts, hX, hbl, hlocks, hgv⟩ := C0
  have hfl : l.stackTraces = false := by
    unfold Launch.stackTraces
    rw [hflags]
    decide +kernel
  obtain ⟨D, cI, cQ, cJ, C⟩ := la_of hfl hx hb hml hown hts hX hbl hgv hL
  have hl := lv_entry ([.ref b]) (n := 11) (Nat.le_of_ble_eq_true rfl)
  rw [lg_entry_eq]
  generalize (lg_sl ([.ref b]) ++ List.replicate (11 - (lg_sl ([.ref b])).length) Slot.unset).toArray = ls at hl ⊢
  have hl : lv_has ls 11 [(0, .ref b)] := hl
  refine law_open FPn_1 FQ_1 C (fun H locs ls hS => ?_) hl
  refine lv_iconst (v := 1) hx hb dL_law_234 (by decide) ?_
  refine va_forget (fun q hq => hS.2.2 q hq) ?_
  exact lw_ret (Drawn.sameBut.refl s.drawn lw_cs) hx hb hr hlocks dL_law_235
set_option maxHeartbeats 4000000 in
theorem lw_walk (l : Launch) (hflags : l.flags = flags0) (b : Addr) (xs : List Int32) : MetFree l x (headSpec (Jvm.Cond.code x code maxLocals ret :: tables_1) room_1) (lw_P b xs) (fun _ _ _ _ _ => True) lw_Q := by
  refine MetFree.of_bodyS (code := code) (maxLocals := maxLocals) (ret := ret) (by decide) ?_ ?_
  · intro args s m h hn
    obtain ⟨meth, c, h1, h2, h3, h4, h5, h6, -, -⟩ := Cond.code_spec hn (atoms_spec (ws := Jvm.Cond.code x code maxLocals ret :: tables_1) h _ List.mem_cons_self)
    exact ⟨meth, c, h1, h2, h3, h4, h5, h6⟩
  · intro p e s m args below meth c s₁ B hml0 hP _
    obtain ⟨rfl, hx, hbd, hgv⟩ := hP
    obtain ⟨scr, harrAt, hlist, hof, hsmall⟩ := hx
    obtain ⟨hcb, hkn, -, -⟩ := State.arrayAt?_spec harrAt
    have hown : s.vm.findClass R_law = some m.cls := findClass_of_methodNamed B.named
    have hts0 : ∀ c ∈ (Jvm.Cond.code x code maxLocals ret :: tables_1), c.before #[Value.ref b] s = true := atoms_spec (ws := Jvm.Cond.code x code maxLocals ret :: tables_1) B.pre
    have hts : ∀ w ∈ lw_tbl, w.before #[Value.ref b] s = true := k2_hts_sels lw_privs (fun w hw => hts0 w (List.mem_cons_of_mem _ hw)) lw_privs_ok
    have hml : c.maxLocals = 11 := B.maxLocals_eq (hts0 _ List.mem_cons_self)
    have X₀ : Stand p l e room_1 s m #[Value.ref b] below meth c s₁ [] 0 0 := Stand.of_body B
    have hh0 : s₁.heap = s.heap := by rw [B.state]; rfl
    have hsz : scr.slots.size = xs.length := by rw [← Array.length_toList, hlist, List.length_map]
    have hval : ∀ j : Nat, j < xs.length → scr.slots[j]? = some (.int (xs.getD j 0)) := fun j hj => by
      rw [← Array.getElem?_toList, hlist]
      simp [hj]
    have hbl : b < s.heap.size := (Array.getElem?_eq_some_iff.mp hcb).1
    have hX : va_X b xs.length (fun j => xs.getD j 0) s s.heap := ⟨scr, hcb, hof, hkn, hsz, hval⟩
    have K : W p l e room_1 s m #[Value.ref b] below meth c s₁.heap [] 0 0 (lw_Z below #[Value.ref b] s) (entryFrame m ([Value.ref b] : List Value).toArray 11) := by
      rw [hh0]
      exact whole_start l hflags hbd ⟨B.exec, B.bytes, B.returns, hml, hown, hts, hX, hbl, B.notSynchronized, hgv⟩
    obtain ⟨t, a1, o, b1, b2, b3⟩ := K s₁ rfl X₀
    exact ⟨t, o, a1, b1, b2, b3⟩
theorem lw_pre_spec {args : Array Value} {s : State} (h : (Jvm.Cond.and given_1 narrow_1).before args s = true) (hr : rest_1_c.before args s = true) : ∃ (b : Addr) (xs : List Int32), lw_P b xs args s := by
  have hs := flat_of_before _ h
  have hq := flat_of_before _ hr
  have hc : (Cond.count 1).before args s = true := hs _ (by decide +kernel)
  have harr : (Cond.arrayOf (.arg 0) .int).before args s = true := hs _ (by decide +kernel)
  have hle : (Cond.le (.length (.arg 0)) (.int 260)).before args s = true := hs _ (by decide +kernel)
  have hlen : (Cond.isInt (.length (.arg 0))).before args s = true := hq _ (by decide +kernel)
  have hall : (Cond.all (.arg 0) (.isInt (.elem (.arg 0) (.index 0)))).before args s = true := hq _ (by decide +kernel)
  obtain ⟨b, xs, hb, hx⟩ := State.ints_of_pre rfl harr hlen hall
  have hsm : xs.length < 2 ^ 31 := hx.choose_spec.2.2.2
  have hev : (Term.length (.arg 0)).eval args s none [] s = some (.int xs.length.toInt32) := hx.length_eval hb
  have hv := Cond.le_ints hev (show (Term.int 260).eval args s none [] s = some (.int 260) from rfl)
  have hd : xs.length.toInt32 ≤ 260 := by
    simpa [Cond.before, Cond.holds, hv] using hle
  have hN : xs.length ≤ 260 := (Int32.ofNat_le_ofNat hsm (by decide)).mp (show Int32.ofNat xs.length ≤ Int32.ofNat 260 from hd)
  exact ⟨b, xs, Cond.one_arg hc (show args[0]? = some (.ref b) from hb), hx, hN, h⟩
theorem lw_comes (l : Launch) (hflags : l.flags = flags0) : Comes l x (Jvm.Cond.code x code maxLocals ret :: tables_1) room_1 (fun tb e args s => Calls_1 tb e args s ∧ rest_1 tb e args s ∧ Pre_1 tb e args s)
    (fun _ _ args s o t => lw_Q args s o t) := by
  intro p e ha hc hk s m args below hf hfit hheap happ hpre
  obtain ⟨b, xs, hP⟩ := lw_pre_spec hpre.2.2 hpre.2.1
  obtain ⟨k, o, h1, h2, h3, hQ⟩ := lw_walk l hflags b xs p e ha hc hk s m args below hf ((Spec.applies_iff_loose hf).mp happ).1 hP trivial
  exact ⟨k, o, h1, h2, h3, hQ⟩
theorem lw_frame {s t : State} {o : Outcome} {args : Array Value} (h : State.butDraws s t lw_cs (fun t1 => Framed s o t1 [] 625941 7223801)) :
    State.butDraws s t [Jvm.Choice.named "NaN.bits"] (fun t1 => Framed s o t1 (fieldLocs frame_1_writes args s ++ arrayLocs frame_1_arrays args s ++ staticLocs frame_1_statics s) 625941 7223801) := h
theorem lw_limb (L : Cond) (hL : ∀ (args : Array Value) (s t : State), L.after args s (.returned (some (.int 1))) t = true) :
    ArmFor flags0 classFile x code maxLocals ret World_1 tables_1 room_1 Calls_1 rest_1 Pre_1
      (fun tb e a s o t => postC L tb e a s o t ∧ State.butDraws s t [Jvm.Choice.named "NaN.bits"] (fun t1 => Framed s o t1 (fieldLocs frame_1_writes a s ++ arrayLocs frame_1_arrays a s ++ staticLocs frame_1_statics s) 625941 7223801)) := by
  intro l hflags _ _ p e ha hc hk s m args below hf hfit hheap happ hpre
  obtain ⟨k, o, h1, h2, h3, rfl, hF⟩ := lw_comes l hflags p e ha hc hk s m args below hf hfit hheap happ hpre
  exact ⟨k, _, h1, h2, h3, hL args s _, lw_frame hF⟩
theorem i_vc : Claimed_1_1 ∧ Claimed_1_2 := ⟨lw_limb limb_1_1 (fun args s t => by simp [limb_1_1, Cond.after, Cond.holds, Cond.value]), lw_limb limb_1_2 (fun args s t => Cond.after_iff.mpr (by
  first | (rw [show limb_1_2 = Cond.eq .result (.int 1) from rfl, Cond.eq_ints (x := 1) (y := 1) rfl rfl]; simp; done) | (simp [limb_1_2, Cond.value, Term.eval]; done)))⟩
