/-! the law's entry: what the machine gives, and what holds before the first call -/
theorem mos_X {args : Array Value} {s : State} (h1 : (Cond.arrayOf (.static RX3 "MOST_OF_SETTING" "[I") .int).before args s = true) (h2 : (Cond.eq (.length (.static RX3 "MOST_OF_SETTING" "[I")) (.int 3)).before args s = true)
    (e : ∀ j, j < 3 → (Cond.eq (.elem (.static RX3 "MOST_OF_SETTING" "[I") (.int (nI j))) (.int (mosF j))).before args s = true) : ∃ b : Nat, (Term.static RX3 "MOST_OF_SETTING" "[I").eval args s none [] s = some (.ref b) ∧ va_X b 3 mosF s s.heap ∧ b < s.heap.size := by
  have hl := Cond.eq_int h2 (show (Term.int 3).eval args s none [] s = some (.int 3) from rfl)
  obtain ⟨b, cell, ht, harr, hv⟩ := Term.length_spec hl
  obtain ⟨hcell, hkn, -, -⟩ := State.arrayAt?_spec harr
  obtain ⟨v9, hv9⟩ : ∃ v9, (Term.length (.static RX3 "MOST_OF_SETTING" "[I")).eval args s none [] s = some v9 := ⟨_, hl⟩
  have hsz : cell.slots.size < 2 ^ 31 := by
    rw [show (Term.length (.static RX3 "MOST_OF_SETTING" "[I")).eval args s none [] s = ((Term.static RX3 "MOST_OF_SETTING" "[I").eval args s none [] s).bind _ from rfl, ht] at hv9
    simp only [harr, Option.bind_eq_bind, Option.bind_some] at hv9
    by_cases hlt : cell.slots.size < 2147483648
    · exact hlt
    · simp [hlt] at hv9
  have h3 : cell.slots.size = 3 := by
    have h4 : (3 : Int32) = cell.slots.size.toInt32 := by injection hv
    have h5 := congrArg Int32.toInt h4
    have h6 : (cell.slots.size.toInt32).toInt = (cell.slots.size : Int) := nI_toInt hsz
    have h7 : (3 : Int32).toInt = 3 := by decide
    omega
  refine ⟨b, ht, ⟨cell, hcell, (Cond.arrayOf_spec h1 ht hcell).1, hkn, h3, fun j hj => ?_⟩, (Array.getElem?_eq_some_iff.mp hcell).1⟩
  obtain ⟨b2, jj, cell2, ht2, hj2, harr2, hin, hs2⟩ := Term.elem_spec (Cond.eq_int (e j hj) (show (Term.int (mosF j)).eval args s none [] s = some (.int (mosF j)) from rfl))
  have e1 : b = b2 := by
    have := ht.symm.trans ht2
    injection this with h8
    injection h8
  subst e1
  have e2 : cell = cell2 := Option.some.inj (harr.symm.trans harr2)
  subst e2
  have e3 : jj = nI j := by
    have h8 : some (Value.int (nI j)) = some (.int jj) := hj2
    injection h8 with h9
    injection h9 with h10
    exact h10.symm
  rw [e3, nI_clamp (show j < 2 ^ 31 by omega)] at hs2
  exact hs2
theorem str_R {args : Array Value} {s : State} {own tx : String} {k : Nat} (h : (Cond.stringRef own k tx).before args s = true) : ∃ a, vk_R own k tx a s := by
  have hcur : ∃ cur, s.vm.findClass own = some cur := by
    have h1 := h
    simp only [Cond.before, Cond.holds, Cond.value] at h1
    cases hc : s.vm.findClass own with
    | none => simp [hc] at h1
    | some cur => exact ⟨cur, rfl⟩
  obtain ⟨cur, hcur⟩ := hcur
  obtain ⟨_, _, _, a, -, -, -, -, -, h2⟩ := Cond.stringRef_spec hcur h
  exact ⟨a, vk_R.of h h2⟩
set_option maxHeartbeats 4000000 in
set_option maxRecDepth 100000 in
theorem la_of {p : Program} {l : Launch} {s : State} {m : MethodId} {meth : Method} {c : Code} {b N : Nat} {xs : Nat → Int32} (hfl : l.stackTraces = false) (hx : p.tables.exec = Jvm.exec) (hb : c.code = code) (hml : c.maxLocals = 11) (hown : s.vm.findClass RL = some m.cls) (hts : ∀ w ∈ lw_tbl, w.before #[Value.ref b] s = true) (hX : va_X b N xs s s.heap) (hbl : b < s.heap.size) (hgv : (Jvm.Cond.and given_1 narrow_1).before #[Value.ref b] s = true) (hN : N ≤ 260) : ∃ (D : va_G) (cI cQ cJ : ClassId), LA p l s m meth c b N xs D cI cQ cJ := by
  have hs := flat_of_before _ hgv
  have hA : ∀ a : Nat, a < s.heap.size → ¬ AL s a := fun a h => Nat.not_le.mpr h
  have hw : ∀ w ∈ wsL_law, w.before #[Value.ref b] s = true := fun w h => hts w (wsL_law_in w h)
  obtain ⟨c0, i0, k0⟩ := u_known (C := RX0) (T := TX0) (N := 2) (n := 2) hw (by decide +kernel) (hw (.instantiable RX0 2) (by decide +kernel))
  obtain ⟨c1, i1, k1⟩ := u_known (C := RX1) (T := TX1) (N := 16) (n := 16) hw (by decide +kernel) (hw (.instantiable RX1 16) (by decide +kernel))
  obtain ⟨c2, i2, k2⟩ := u_known (C := RX2) (T := TX2) (N := 3) (n := 3) hw (by decide +kernel) (hw (.instantiable RX2 3) (by decide +kernel))
  obtain ⟨c3, i3, k3⟩ := u_known (C := RX3) (T := TX3) (N := 4) (n := 4) hw (by decide +kernel) (hw (.instantiable RX3 4) (by decide +kernel))
  obtain ⟨cI, kI, pI, a1, a2, a3⟩ := Cond.arrayClass_spec (hw (.arrayClass .int) (by decide +kernel))
  have hao := hts (.arrayOver (.object RX1)) (by decide +kernel)
  obtain ⟨pQ, cQ, kQ, q1, q2, q3, q4, q5⟩ := Cond.arrayOver_spec hao
  obtain ⟨mb, m1, m2, m3⟩ := mos_X (hs _ (by decide +kernel)) (hs _ (by decide +kernel)) (fun j hj => by
    rcases (show j = 0 ∨ j = 1 ∨ j = 2 by omega) with rfl | rfl | rfl <;> exact hs _ (by decide +kernel))
  refine ⟨(fun z => match z with | 0 => c0 | 1 => c1 | 2 => c2 | _ => c3, fun z => match z with | 0 => i0 | 1 => i1 | 2 => i2 | _ => i3), cI, cQ, cI, hx, hb, hml, hw, hown, hX, hbl, ⟨?_, trivial⟩, ?_, ⟨?_, ?_⟩, hfl, hN⟩
  · exact va_Nw.of rfl (hts (.methodLinkNest RX1 67 yX3_isGutter RX3) (by decide +kernel))
  · refine ⟨vx_Zqof (hts (.laysStatic Bundle.tN "UNASSIGNED_STACK" Bundle.steD) (by decide +kernel)) (hts (.initialized Bundle.tN) (by decide +kernel)) (hs _ (by decide +kernel)) hA, vx_Zqof (hts (.laysStatic Bundle.tN "SUPPRESSED_SENTINEL" Bundle.listD) (by decide +kernel)) (hts (.initialized Bundle.tN) (by decide +kernel)) (hs _ (by decide +kernel)) hA, fun q hq => ?_, fun n hn => ?_, fun E hE => ?_, trivial, va_AO.of hao, mb, va_Zof (hts (.laysStatic RX3 "MOST_OF_SETTING" "[I") (by decide +kernel)) (hts (.initialized RX3) (by decide +kernel)) m1 hA, m2, m3, hA mb m3⟩
    · exact str_R (hts (.stringRef RX3 q.1 q.2) ((by decide +kernel : ∀ q ∈ strsX, Cond.stringRef RX3 q.1 q.2 ∈ lw_tbl) q hq))
    · exact va_Nw.of rfl (hts (.declares (Bundle.initS n)) ((by decide +kernel : ∀ n ∈ ["java/lang/RuntimeException", "java/lang/Exception", Bundle.tN], Cond.declares (Bundle.initS n) ∈ lw_tbl) n hn))
    · exact va_Nw.of rfl (hts (.castable E E) ((by decide +kernel : ∀ E ∈ [eIOB, eIAE, eISE], Cond.castable E E ∈ lw_tbl) E hE))
  · intro z q hz
    rcases z with _ | _ | _ | _ | z
    · cases hz; exact k0
    · cases hz; exact k1
    · cases hz; exact k2
    · cases hz; exact k3
    · cases hz
  · intro z q hz
    rcases z with _ | _ | z
    · cases hz; exact ⟨fun n f => ⟨fun k h => (by cases h), kI, a2, pI, a3⟩, a1⟩
    · cases hz; exact ⟨fun n f => ⟨fun k h => (by cases h), kQ, q3, pQ, q4⟩, kQ, pQ, q3, q4, q1, q5⟩
    · cases hz
/-- before the first turn -/
theorem jv_0 : Jv (712800 * ((0 : Nat) : Int)) rB0 0 0 0 (fun _ => tB0) := by
  refine ⟨⟨by omega, by omega, by omega, fun _ => ⟨rfl, by omega⟩⟩, ⟨⟨fun i hi => ?_, ⟨100, by decide, by decide⟩, ⟨4, by decide, by decide⟩, ⟨20, by decide, by decide⟩⟩, ?_, fun i hi => ?_⟩, fun i hi => absurd hi (by omega)⟩
  · rcases (show i = 0 ∨ i = 1 ∨ i = 2 ∨ i = 3 ∨ i = 4 ∨ i = 5 by omega) with rfl | rfl | rfl | rfl | rfl | rfl
    all_goals first
      | exact ⟨⟨40, by decide, by decide⟩, ⟨3, by decide, by decide⟩, ⟨0, by decide, by decide⟩, ⟨60, by decide, by decide, by decide⟩, ⟨20, by decide, by decide⟩, ⟨0, by decide, by decide⟩, Or.inl (by decide)⟩
      | exact ⟨⟨40, by decide, by decide⟩, ⟨3, by decide, by decide⟩, ⟨1, by decide, by decide⟩, ⟨60, by decide, by decide, by decide⟩, ⟨20, by decide, by decide⟩, ⟨0, by decide, by decide⟩, Or.inl (by decide)⟩
      | exact ⟨⟨40, by decide, by decide⟩, ⟨3, by decide, by decide⟩, ⟨2, by decide, by decide⟩, ⟨60, by decide, by decide, by decide⟩, ⟨20, by decide, by decide⟩, ⟨0, by decide, by decide⟩, Or.inl (by decide)⟩
      | exact ⟨⟨40, by decide, by decide⟩, ⟨3, by decide, by decide⟩, ⟨3, by decide, by decide⟩, ⟨60, by decide, by decide, by decide⟩, ⟨20, by decide, by decide⟩, ⟨0, by decide, by decide⟩, Or.inl (by decide)⟩
      | exact ⟨⟨40, by decide, by decide⟩, ⟨3, by decide, by decide⟩, ⟨4, by decide, by decide⟩, ⟨60, by decide, by decide, by decide⟩, ⟨20, by decide, by decide⟩, ⟨0, by decide, by decide⟩, Or.inl (by decide)⟩
      | exact ⟨⟨40, by decide, by decide⟩, ⟨3, by decide, by decide⟩, ⟨5, by decide, by decide⟩, ⟨60, by decide, by decide, by decide⟩, ⟨20, by decide, by decide⟩, ⟨0, by decide, by decide⟩, Or.inl (by decide)⟩
  · refine ⟨?_, ?_, ?_, ?_, ?_, ?_, ?_⟩ <;> first | (unfold Nn; decide +kernel) | decide +kernel
  · refine Or.inr (Or.inl ?_)
    rcases (show i = 0 ∨ i = 1 ∨ i = 2 ∨ i = 3 ∨ i = 4 ∨ i = 5 by omega) with rfl | rfl | rfl | rfl | rfl | rfl <;> decide +kernel
