/-! the law, from its entry on -/
set_option maxHeartbeats 4000000 in
set_option maxRecDepth 100000 in
theorem law_open {p : Program} {l : Launch} {e : Env} {s : State} {m : MethodId} {below : List Frame} {meth : Method} {c : Code} {b N : Nat} {xs : Nat → Int32} {D : va_G} {cI cQ cJ : ClassId} {Q : State → Prop} {ls : Array Slot} (hF : FPn) (hQ : ∀ (r : rB) (K : Int), Gw K r → K ≤ 2000000000 → FQ r) (C : LA p l s m meth c b N xs D cI cQ cJ)
    (kend : ∀ (H : Heap) (locs : List Loc) (ls : Array Slot), va_S (AL s) s.heap H locs → W p l e room_1 s m #[Value.ref b] below meth c H locs 625941 7223801 Q (F0 m 234 ls [])) (hl : lv_has ls 11 [(0, .ref b)]) : W p l e room_1 s m #[Value.ref b] below meth c s.heap [] 0 0 Q (F0 m 0 ls []) := by
  have C0 := C
  obtain ⟨hx, hb, hml, hts, hown, hX, hbl, hE, hEX, hK, hfl, hN⟩ := C0
  have hA : ∀ q : Nat, s.heap.size ≤ q → AL s q := fun _ h => h
  have hS : va_S (AL s) s.heap s.heap [] := va_S.rf
  have hP : va_P D vwCl [] s.heap := fun k q h => (by cases h)
  have hD : va_D (AL s) [] := ⟨fun i j p q h => (by cases h), fun k q h => (by cases h)⟩
  refine va_new (D := D) (ci := 3) (fs := [.null, .null, .null, .null]) (C := RX3) (T := TX3) (N := 4) hx hb hts (by decide +kernel) tyX3 tyX3_ok hown (hts (.classLink RL 13 RX3) (by decide +kernel)) (hts (.instantiable RX3 4) (by decide +kernel)) (hts (.initialized RX3) (by decide +kernel)) hK hP hD hS hA rfl (fun j hj => by rcases (show j = 0 ∨ j = 1 ∨ j = 2 ∨ j = 3 by omega) with rfl | rfl | rfl | rfl <;> rfl) (Nat.le_of_ble_eq_true rfl) (Nat.le_of_ble_eq_true rfl) dL_law_0 (fun o H hP hD hS => ?_)
  refine lv_dup hx hb dL_law_3 rfl ?_
  refine k_calln (wr := ([] : va_W)) (wc := [(o, .inr (3, [.null, .null, .null, .null]))]) (w' := fun (u : (Nat → Nat) × (Nat → Nat) × Nat × Nat × (Nat → Nat)) => WX cI cQ o u.2.2.1 u.2.2.2.1 u.2.2.2.2 u.1 u.2.1 (fun _ _ => 0) rB0 rB0 tB0 0 (fun _ => none) 0 0 (fun _ => tB0)) (va_runI (As := []) (rest := [.ref o]) ⟨hx, hb, hml, hown, hts⟩ (mX3_init l D cI cQ cJ o _) (cwI 0 hts gL_law_X3_init rfl rfl rfl (hts (.initialized RX3) (by decide +kernel)) (hts (.methodLink RL 68 yX3_init) (by decide +kernel)) (hts (.instanceMethod yX3_init) (by decide +kernel)) rfl (by decide +kernel) ⟨Nat.le_of_ble_eq_true rfl, Nat.le_of_ble_eq_true rfl⟩) (k_preY (wr := ([] : va_W)) (wc := [(o, .inr (3, [.null, .null, .null, .null]))]) hE hEX hK hP hD hS hA [.ref o]) rfl rfl hl.1 rfl (lv_room (Nat.le_of_ble_eq_true rfl)) dL_law_4 ⟨Nat.le_of_ble_eq_true rfl, Nat.le_of_ble_eq_true rfl⟩) hP hD hS hA (fun u H locs hP hD hS => ?_)
  obtain ⟨a, a2, s0, w0, x⟩ := u
  refine lv_astore_n (lv' := [(1, .ref o), (0, .ref b)]) hx hb dL_law_7 rfl hl (by decide) rfl (fun ls hl => ?_)
  refine lv_iconst (v := 0) hx hb dL_law_8 (by decide) ?_
  refine lv_istore_n (lv' := [(2, .int 0), (1, .ref o), (0, .ref b)]) hx hb dL_law_9 rfl hl (by decide) rfl (fun ls hl => ?_)
  have hz : zF (fun _ _ => 0) 0 = fun _ => none := funext fun i => if_neg (by omega)
  have hP : va_P D vwCl (WX cI cQ o s0 w0 x a a2 (fun _ _ => 0) rB0 rB0 tB0 0 (zF (fun _ _ => 0) 0) (nI 0) (nI 0) (fun _ => tB0)) H := by rw [hz]; exact hP
  have hD : va_D (AL s) (WX cI cQ o s0 w0 x a a2 (fun _ _ => 0) rB0 rB0 tB0 0 (zF (fun _ _ => 0) 0) (nI 0) (nI 0) (fun _ => tB0)) := by rw [hz]; exact hD
  refine W.widen (k := 31 + 31 * 0) (n := 245 + 200 * 0) (Nat.le_of_ble_eq_true rfl) (Nat.le_of_ble_eq_true rfl) ?_
  exact law_loop C hF hQ kend 38 0 rfl (fun _ _ => 0) rB0 rB0 tB0 0 0 0 (fun _ => tB0) H _ ls jv_0 hP hD hS (lv_sub hl [0, 2, 1] rfl)
