/-! the law, from its entry on -/
set_option maxHeartbeats 4000000 in
set_option maxRecDepth 100000 in
theorem law_open {p : Program} {l : Launch} {e : Env} {s : State} {m : MethodId} {below : List Frame} {meth : Method} {c : Code} {b N : Nat} {xs : Nat → Int32} {D : va_G} {cI cQ cJ : ClassId} {Q : State → Prop} {ls : Array Slot} (hF : FPok) (hBS : ∀ (r : rB) (K : Int), Gw K r → K ≤ 2000000000 → BSok (shC r)) (C : LA p l s m meth c b N xs D cI cQ cJ)
    (kend : ∀ (H : Heap) (locs : List Loc) (ls : Array Slot), va_S (AL s) s.heap H locs → W p l e room_1 s m #[Value.ref b] below meth c H locs 617766 7242805 Q (F0 m 1317 ls [])) (hl : lv_has ls 9 [(0, .ref b)]) : W p l e room_1 s m #[Value.ref b] below meth c s.heap [] 0 0 Q (F0 m 0 ls []) := by
  have C0 := C
  obtain ⟨hx, hb, hml, hts, hown, hX, hbl, hE, hEX, hK, hfl, hN⟩ := C0
  have hA : ∀ q : Nat, s.heap.size ≤ q → AL s q := fun _ h => h
  have hS : va_S (AL s) s.heap s.heap [] := va_S.rf
  have hP : va_P D vwCl [] s.heap := fun k q h => (by cases h)
  have hD : va_D (AL s) [] := ⟨fun i j p q h => (by cases h), fun k q h => (by cases h)⟩
  refine va_new (D := D) (ci := 3) (fs := [.null, .null, .null, .null]) (C := RX3) (T := TX3) (N := 4) hx hb hts (by decide +kernel) tyX3 tyX3_ok hown (hts (.classLink RL 8 RX3) (by decide +kernel)) (hts (.instantiable RX3 4) (by decide +kernel)) (hts (.initialized RX3) (by decide +kernel)) hK hP hD hS hA rfl (fun j hj => by rcases (show j = 0 ∨ j = 1 ∨ j = 2 ∨ j = 3 by omega) with rfl | rfl | rfl | rfl <;> rfl) (Nat.le_of_ble_eq_true rfl) (Nat.le_of_ble_eq_true rfl) dL_law_0 (fun o H hP hD hS => ?_)
  refine lv_dup hx hb dL_law_3 rfl ?_
  refine k_calln (wr := ([] : va_W)) (wc := [(o, .inr (3, [.null, .null, .null, .null]))]) (w' := fun (u : (Nat → Nat) × (Nat → Nat) × Nat × Nat × (Nat → Nat)) => WX cI cQ o u.2.2.1 u.2.2.2.1 u.2.2.2.2 u.1 u.2.1 (fun _ _ => 0) rB0 rB0 tB0 0 (fun _ => none) 0 0 (fun _ => tB0)) (va_runI (As := []) (rest := [.ref o]) ⟨hx, hb, hml, hown, hts⟩ (mX3_init l D cI cQ cJ o _) (cwI 0 hts gL_law_X3_init rfl rfl rfl (hts (.initialized RX3) (by decide +kernel)) (hts (.methodLink RL 71 yX3_init) (by decide +kernel)) (hts (.instanceMethod yX3_init) (by decide +kernel)) rfl (by decide +kernel) ⟨Nat.le_of_ble_eq_true rfl, Nat.le_of_ble_eq_true rfl⟩) (k_preY (wr := ([] : va_W)) (wc := [(o, .inr (3, [.null, .null, .null, .null]))]) hE hEX hK hP hD hS hA [.ref o]) rfl rfl hl.1 rfl (lv_room (Nat.le_of_ble_eq_true rfl)) dL_law_4 ⟨Nat.le_of_ble_eq_true rfl, Nat.le_of_ble_eq_true rfl⟩) hP hD hS hA (fun u H locs hP hD hS => ?_)
  obtain ⟨a, a2, s0, w0, x⟩ := u
  obtain ⟨wx, ewx⟩ : ∃ z : va_W, z = WX cI cQ o s0 w0 x a a2 (fun _ _ => 0) rB0 rB0 tB0 0 (fun _ => none) 0 0 (fun _ => tB0) := ⟨_, rfl⟩
  have hP : va_P D vwCl wx H := by rw [ewx]; exact hP
  have hD : va_D (AL s) wx := by rw [ewx]; exact hD
  refine lv_astore_n (lv' := [(1, .ref o), (0, .ref b)]) hx hb dL_law_7 rfl hl (by decide) rfl (fun ls hl => ?_)
  refine va_new (D := D) (ci := 4) (fs := [.int 0, .null, .null, .null, .int 0, .null, .int 0, .int 0, .int 0, .null, .int 0, .long 0]) (C := RX4) (T := TX4) (N := 12) hx hb hts (by decide +kernel) tyX4 tyX4_ok hown (hts (.classLink RL 72 RX4) (by decide +kernel)) (hts (.instantiable RX4 12) (by decide +kernel)) (hts (.initialized RX4) (by decide +kernel)) hK hP hD hS hA rfl (fun j hj => by rcases (show j = 0 ∨ j = 1 ∨ j = 2 ∨ j = 3 ∨ j = 4 ∨ j = 5 ∨ j = 6 ∨ j = 7 ∨ j = 8 ∨ j = 9 ∨ j = 10 ∨ j = 11 by omega) with rfl | rfl | rfl | rfl | rfl | rfl | rfl | rfl | rfl | rfl | rfl | rfl <;> rfl) (Nat.le_of_ble_eq_true rfl) (Nat.le_of_ble_eq_true rfl) dL_law_8 (fun o4 H hP hD hS => ?_)
  refine lv_dup hx hb dL_law_11 rfl ?_
  refine k_calln (wr := wx) (wc := [(o4, .inr (4, [.int 0, .null, .null, .null, .int 0, .null, .int 0, .int 0, .int 0, .null, .int 0, .long 0]))]) (w' := fun u => cM cI (adF o4 u) sB0 0) (va_runI (As := []) (rest := [.ref o4]) ⟨hx, hb, hml, hown, hts⟩ (mX4_init l D cI cQ cJ o4 _) (cwI 0 hts gL_law_X4_init rfl rfl rfl (hts (.initialized RX4) (by decide +kernel)) (hts (.methodLink RL 74 yX4_init) (by decide +kernel)) (hts (.instanceMethod yX4_init) (by decide +kernel)) rfl (by decide +kernel) ⟨Nat.le_of_ble_eq_true rfl, Nat.le_of_ble_eq_true rfl⟩) (k_preR (wr := wx) (wc := [(o4, .inr (4, [.int 0, .null, .null, .null, .int 0, .null, .int 0, .int 0, .int 0, .null, .int 0, .long 0]))]) hE hK hP hD [.ref o4]) rfl rfl hl.1 rfl (lv_room (Nat.le_of_ble_eq_true rfl)) dL_law_12 ⟨Nat.le_of_ble_eq_true rfl, Nat.le_of_ble_eq_true rfl⟩) hP hD hS hA (fun u4 H locs hP hD hS => ?_)
  refine lv_astore_n (lv' := [(2, .ref o4), (1, .ref o), (0, .ref b)]) hx hb dL_law_15 rfl hl (by decide) rfl (fun ls hl => ?_)
  refine lv_iconst (v := 1) hx hb dL_law_16 (by decide) ?_
  refine va_newa (atype := .long) (ty := .long) (a0 := (1, .inr (.inl (fun _ => 0)))) hx hb (hts (.arrayClass .long) (by decide +kernel)) rfl hK hP hD hS hA (fun _ => rfl) (by decide) rfl (Nat.le_of_ble_eq_true rfl) (Nat.le_of_ble_eq_true rfl) (Nat.le_of_ble_eq_true rfl) dL_law_17 (fun qo cA H hK1 hP hD hS => ?_)
  have e9 : cA = cJ := va_RA_long (U := s) (hK1.2 3 (cA, .long) rfl).2 (hK.2 2 _ rfl).2
  subst e9
  refine lv_astore_n (lv' := [(3, .ref qo), (2, .ref o4), (1, .ref o), (0, .ref b)]) hx hb dL_law_19 rfl hl (by decide) rfl (fun ls hl => ?_)
  refine lv_iconst (v := 0) hx hb dL_law_20 (by decide) ?_
  refine lv_istore (lv' := [(4, .int 0), (3, .ref qo), (2, .ref o4), (1, .ref o), (0, .ref b)]) hx hb dL_law_21 hl (by decide) rfl (fun ls hl => ?_)
  subst ewx
  have hP := hP.sub (ws' := WL cI cQ cA (adF o4 u4) qo sB0 0 (fun _ => 0) (WX cI cQ o s0 w0 x a a2 (fun _ _ => 0) rB0 rB0 tB0 0 (fun _ => none) 0 0 (fun _ => tB0))) [31, 32, 33, 34, 35, 36, 37, 0, 1, 2, 3, 4, 5, 6, 7, 8, 9, 10, 11, 12, 13, 14, 15, 16, 17, 18, 19, 20, 21, 22, 23, 24, 25, 26, 27, 28, 29, 30] rfl
  have hD := hD.sub (ws' := WL cI cQ cA (adF o4 u4) qo sB0 0 (fun _ => 0) (WX cI cQ o s0 w0 x a a2 (fun _ _ => 0) rB0 rB0 tB0 0 (fun _ => none) 0 0 (fun _ => tB0))) [31, 32, 33, 34, 35, 36, 37, 0, 1, 2, 3, 4, 5, 6, 7, 8, 9, 10, 11, 12, 13, 14, 15, 16, 17, 18, 19, 20, 21, 22, 23, 24, 25, 26, 27, 28, 29, 30] (by decide) rfl
  have hz : zF (fun _ _ => 0) 0 = fun _ => none := funext fun i => if_neg (by omega)
  refine W.widen (k := 38 + 14 * 0) (n := 982 + 91 * 0) (Nat.le_of_ble_eq_true rfl) (Nat.le_of_ble_eq_true rfl) ?_
  exact law_loop hF hBS C kend 513 0 rfl (Nat.zero_le _) _ H _ ls ⟨fun _ _ => 0, rB0, rB0, tB0, 0, 0, 0, 0, fun _ => tB0, sB0, 0, fun _ => 0, inv_0, by rw [hz]; rfl⟩ hP hD hS (lv_sub hl [4, 3, 2, 1, 0] rfl)
