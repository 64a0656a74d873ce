/-! constructors -/
def adF (o : Nat) (u : Nat → Nat) : Nat → Nat := fun k => match k with
  | 0 => o
  | k + 1 => u k
def tB0 : rB := fun _ _ => 0
def rB0 : rB := fun a => match a with
  | 0 => upd (upd (upd (upd (upd (upd (fun _ => 0) 0 40) 1 40) 2 40) 3 40) 4 40) 5 40
  | 1 => upd (upd (upd (upd (upd (upd (fun _ => 0) 0 3) 1 3) 2 3) 3 3) 4 3) 5 3
  | 2 => upd (upd (upd (upd (upd (upd (fun _ => 0) 0 0) 1 1) 2 2) 3 3) 4 4) 5 5
  | 3 => (fun _ => 0)
  | 4 => upd (upd (upd (upd (upd (upd (fun _ => 0) 0 60) 1 60) 2 60) 3 60) 4 60) 5 60
  | 5 => upd (upd (upd (upd (upd (upd (fun _ => 0) 0 20) 1 20) 2 20) 3 20) 4 20) 5 20
  | 6 => (fun _ => 0)
  | 7 => upd (upd (upd (upd (upd (upd (fun _ => 0) 0 (-1)) 1 (-1)) 2 (-1)) 3 (-1)) 4 (-1)) 5 (-1)
  | 8 => (fun _ => 0)
  | 9 => (fun _ => 0)
  | 10 => (fun _ => 0)
  | 11 => upd (upd (upd (fun _ => 0) 0 100) 1 4) 2 20
  | _ => fun _ => 0
set_option maxHeartbeats 4000000 in
set_option maxRecDepth 100000 in
theorem mX1_init (l : Launch) (D : va_G) (cI cQ cJ : ClassId) (o : Nat) (sz : Nat) : Met l yX1_init wsX1_init ({ frames := 1, cells := 12, slots := 69, locals := 40 } : Room) (va_Pc [.ref o] (Prx D (tY cI cQ cJ) sz [(o, .inr (1, [.null, .null, .null, .null, .null, .null, .null, .null, .null, .null, .null, .null, .int 0, .int 0, .int 0, .int 0]))])) (va_Qv (fun (_ : Nat → Nat) => True) (fun u t => Wd D (cR cI (adF o u) rB0) t ∧ va_D (va_A [(o, .inr (1, [.null, .null, .null, .null, .null, .null, .null, .null, .null, .null, .null, .null, .int 0, .int 0, .int 0, .int 0]))] sz) (cR cI (adF o u) rB0)) (va_A [(o, .inr (1, [.null, .null, .null, .null, .null, .null, .null, .null, .null, .null, .null, .null, .int 0, .int 0, .int 0, .int 0]))] sz)) 12 69 (va_A [(o, .inr (1, [.null, .null, .null, .null, .null, .null, .null, .null, .null, .null, .null, .null, .int 0, .int 0, .int 0, .int 0]))] sz) := by
  refine N_of (cc := cX1_init) (maxL := 2) (ret := none) (Qc := fun A => va_Qv (fun (_ : Nat → Nat) => True) (fun u t => Wd D (cR cI (adF o u) rB0) t ∧ va_D A (cR cI (adF o u) rB0)) A) (by decide) rfl (Nat.le_of_ble_eq_true rfl) ?_ sz
  intro p e s m below meth c A ls hB hnm hE hP hK hD hA hl
  obtain ⟨hx, hb, hr, hml, hts, hown, hlocks⟩ := hB
  have hin : meth.name = "<init>" := hnm
  have hS : va_S A s.heap s.heap [] := va_S.rf
  have hl : lv_has ls 2 [(0, .ref o)] := hl
  have hinX1 : ∀ w ∈ u_ws RX1 TX1 16, w ∈ wsX1_init := by decide +kernel
  have fl9 := hts (.fieldLink RX1 9 "RoofDrains$Roof" "area" "[I") (by decide +kernel)
  have fl15 := hts (.fieldLink RX1 15 "RoofDrains$Roof" "slope" "[I") (by decide +kernel)
  have fl18 := hts (.fieldLink RX1 18 "RoofDrains$Roof" "leadsTo" "[I") (by decide +kernel)
  have fl21 := hts (.fieldLink RX1 21 "RoofDrains$Roof" "onPlane" "[I") (by decide +kernel)
  have fl24 := hts (.fieldLink RX1 24 "RoofDrains$Roof" "size" "[I") (by decide +kernel)
  have fl27 := hts (.fieldLink RX1 27 "RoofDrains$Roof" "bore" "[I") (by decide +kernel)
  have fl30 := hts (.fieldLink RX1 30 "RoofDrains$Roof" "leaves" "[I") (by decide +kernel)
  have fl33 := hts (.fieldLink RX1 33 "RoofDrains$Roof" "valleyTo" "[I") (by decide +kernel)
  have fl36 := hts (.fieldLink RX1 36 "RoofDrains$Roof" "inGutter" "[I") (by decide +kernel)
  have fl39 := hts (.fieldLink RX1 39 "RoofDrains$Roof" "spilt" "[I") (by decide +kernel)
  have fl42 := hts (.fieldLink RX1 42 "RoofDrains$Roof" "drained" "[I") (by decide +kernel)
  have fl45 := hts (.fieldLink RX1 45 "RoofDrains$Roof" "values" "[I") (by decide +kernel)
  refine lv_aload_n hx hb dX1_init_0 rfl (lv_at hl 0 rfl) ?_
  refine W.objInit hx hb hown (hts (.methodLink RX1 3 objectInit) (by decide +kernel)) (hts (.instanceMethod objectInit) (by decide +kernel)) (hts (.code objectInit ⟨#[0xb1]⟩ 1 none) (by decide +kernel)) rfl (by rw [hml]; exact hl.1) rfl dX1_init_1 (Nat.le_of_ble_eq_true rfl) (Nat.le_of_ble_eq_true rfl) ?_
  refine W.eq (g2 := F0 m 4 ls []) rfl ?_
  refine lv_aload_n hx hb dX1_init_4 rfl (lv_at hl 0 rfl) ?_
  refine lv_bipush (v := 6) hx hb dX1_init_5 (by decide) ?_
  refine k_newa (N := 6) hx hb (hts (.arrayClass .int) (by decide +kernel)) hK hP hD hS hA 0 rfl (by decide) (by decide) (Nat.le_of_ble_eq_true rfl) (Nat.le_of_ble_eq_true rfl) (Nat.le_of_ble_eq_true rfl) dX1_init_7 (fun q_7 H hP hD hS => ?_)
  have hP : va_P D vwCl ([(o, .inr (1, [.null, .null, .null, .null, .null, .null, .null, .null, .null, .null, .null, .null, .int 0, .int 0, .int 0, .int 0])), (q_7, .inl (cI, 6, .inl (fun _ => 0)))]) H := hP
  have hD : va_D A ([(o, .inr (1, [.null, .null, .null, .null, .null, .null, .null, .null, .null, .null, .null, .null, .int 0, .int 0, .int 0, .int 0])), (q_7, .inl (cI, 6, .inl (fun _ => 0)))]) := hD
  refine k_putF (D := D) (ci := 1) (v := .ref q_7) (ty := .array .int) (C := RX1) (T := TX1) (N := 16) hx hb hts hinX1 tyX1 tyX1_ok nmX1 hown hK hP hD hS 0 rfl rfl 0 (by decide) fl9 (fun _ h9 => h9) rfl hin rfl (by decide +kernel) rfl rfl (Nat.le_of_ble_eq_true rfl) (ws' := [(o, .inr (1, [.ref q_7, .null, .null, .null, .null, .null, .null, .null, .null, .null, .null, .null, .int 0, .int 0, .int 0, .int 0])), (q_7, .inl (cI, 6, .inl (fun _ => 0)))]) rfl dX1_init_9 (fun H locs hP hD hS => ?_)
  refine lv_aload_n hx hb dX1_init_12 rfl (lv_at hl 0 rfl) ?_
  refine lv_bipush (v := 6) hx hb dX1_init_13 (by decide) ?_
  refine k_newa (N := 6) hx hb (hts (.arrayClass .int) (by decide +kernel)) hK hP hD hS hA 0 rfl (by decide) (by decide) (Nat.le_of_ble_eq_true rfl) (Nat.le_of_ble_eq_true rfl) (Nat.le_of_ble_eq_true rfl) dX1_init_15 (fun q_15 H hP hD hS => ?_)
  have hP : va_P D vwCl ([(o, .inr (1, [.ref q_7, .null, .null, .null, .null, .null, .null, .null, .null, .null, .null, .null, .int 0, .int 0, .int 0, .int 0])), (q_7, .inl (cI, 6, .inl (fun _ => 0))), (q_15, .inl (cI, 6, .inl (fun _ => 0)))]) H := hP
  have hD : va_D A ([(o, .inr (1, [.ref q_7, .null, .null, .null, .null, .null, .null, .null, .null, .null, .null, .null, .int 0, .int 0, .int 0, .int 0])), (q_7, .inl (cI, 6, .inl (fun _ => 0))), (q_15, .inl (cI, 6, .inl (fun _ => 0)))]) := hD
  refine k_putF (D := D) (ci := 1) (v := .ref q_15) (ty := .array .int) (C := RX1) (T := TX1) (N := 16) hx hb hts hinX1 tyX1 tyX1_ok nmX1 hown hK hP hD hS 0 rfl rfl 1 (by decide) fl15 (fun _ h9 => h9) rfl hin rfl (by decide +kernel) rfl rfl (Nat.le_of_ble_eq_true rfl) (ws' := [(o, .inr (1, [.ref q_7, .ref q_15, .null, .null, .null, .null, .null, .null, .null, .null, .null, .null, .int 0, .int 0, .int 0, .int 0])), (q_7, .inl (cI, 6, .inl (fun _ => 0))), (q_15, .inl (cI, 6, .inl (fun _ => 0)))]) rfl dX1_init_17 (fun H locs hP hD hS => ?_)
  refine lv_aload_n hx hb dX1_init_20 rfl (lv_at hl 0 rfl) ?_
  refine lv_bipush (v := 6) hx hb dX1_init_21 (by decide) ?_
  refine k_newa (N := 6) hx hb (hts (.arrayClass .int) (by decide +kernel)) hK hP hD hS hA 0 rfl (by decide) (by decide) (Nat.le_of_ble_eq_true rfl) (Nat.le_of_ble_eq_true rfl) (Nat.le_of_ble_eq_true rfl) dX1_init_23 (fun q_23 H hP hD hS => ?_)
  have hP : va_P D vwCl ([(o, .inr (1, [.ref q_7, .ref q_15, .null, .null, .null, .null, .null, .null, .null, .null, .null, .null, .int 0, .int 0, .int 0, .int 0])), (q_7, .inl (cI, 6, .inl (fun _ => 0))), (q_15, .inl (cI, 6, .inl (fun _ => 0))), (q_23, .inl (cI, 6, .inl (fun _ => 0)))]) H := hP
  have hD : va_D A ([(o, .inr (1, [.ref q_7, .ref q_15, .null, .null, .null, .null, .null, .null, .null, .null, .null, .null, .int 0, .int 0, .int 0, .int 0])), (q_7, .inl (cI, 6, .inl (fun _ => 0))), (q_15, .inl (cI, 6, .inl (fun _ => 0))), (q_23, .inl (cI, 6, .inl (fun _ => 0)))]) := hD
  refine k_putF (D := D) (ci := 1) (v := .ref q_23) (ty := .array .int) (C := RX1) (T := TX1) (N := 16) hx hb hts hinX1 tyX1 tyX1_ok nmX1 hown hK hP hD hS 0 rfl rfl 2 (by decide) fl18 (fun _ h9 => h9) rfl hin rfl (by decide +kernel) rfl rfl (Nat.le_of_ble_eq_true rfl) (ws' := [(o, .inr (1, [.ref q_7, .ref q_15, .ref q_23, .null, .null, .null, .null, .null, .null, .null, .null, .null, .int 0, .int 0, .int 0, .int 0])), (q_7, .inl (cI, 6, .inl (fun _ => 0))), (q_15, .inl (cI, 6, .inl (fun _ => 0))), (q_23, .inl (cI, 6, .inl (fun _ => 0)))]) rfl dX1_init_25 (fun H locs hP hD hS => ?_)
  refine lv_aload_n hx hb dX1_init_28 rfl (lv_at hl 0 rfl) ?_
  refine lv_bipush (v := 6) hx hb dX1_init_29 (by decide) ?_
  refine k_newa (N := 6) hx hb (hts (.arrayClass .int) (by decide +kernel)) hK hP hD hS hA 0 rfl (by decide) (by decide) (Nat.le_of_ble_eq_true rfl) (Nat.le_of_ble_eq_true rfl) (Nat.le_of_ble_eq_true rfl) dX1_init_31 (fun q_31 H hP hD hS => ?_)
  have hP : va_P D vwCl ([(o, .inr (1, [.ref q_7, .ref q_15, .ref q_23, .null, .null, .null, .null, .null, .null, .null, .null, .null, .int 0, .int 0, .int 0, .int 0])), (q_7, .inl (cI, 6, .inl (fun _ => 0))), (q_15, .inl (cI, 6, .inl (fun _ => 0))), (q_23, .inl (cI, 6, .inl (fun _ => 0))), (q_31, .inl (cI, 6, .inl (fun _ => 0)))]) H := hP
  have hD : va_D A ([(o, .inr (1, [.ref q_7, .ref q_15, .ref q_23, .null, .null, .null, .null, .null, .null, .null, .null, .null, .int 0, .int 0, .int 0, .int 0])), (q_7, .inl (cI, 6, .inl (fun _ => 0))), (q_15, .inl (cI, 6, .inl (fun _ => 0))), (q_23, .inl (cI, 6, .inl (fun _ => 0))), (q_31, .inl (cI, 6, .inl (fun _ => 0)))]) := hD
  refine k_putF (D := D) (ci := 1) (v := .ref q_31) (ty := .array .int) (C := RX1) (T := TX1) (N := 16) hx hb hts hinX1 tyX1 tyX1_ok nmX1 hown hK hP hD hS 0 rfl rfl 3 (by decide) fl21 (fun _ h9 => h9) rfl hin rfl (by decide +kernel) rfl rfl (Nat.le_of_ble_eq_true rfl) (ws' := [(o, .inr (1, [.ref q_7, .ref q_15, .ref q_23, .ref q_31, .null, .null, .null, .null, .null, .null, .null, .null, .int 0, .int 0, .int 0, .int 0])), (q_7, .inl (cI, 6, .inl (fun _ => 0))), (q_15, .inl (cI, 6, .inl (fun _ => 0))), (q_23, .inl (cI, 6, .inl (fun _ => 0))), (q_31, .inl (cI, 6, .inl (fun _ => 0)))]) rfl dX1_init_33 (fun H locs hP hD hS => ?_)
  refine lv_iconst (v := 0) hx hb dX1_init_36 (by decide) ?_
  refine lv_istore_n (lv' := [(1, .int 0), (0, .ref o)]) hx hb dX1_init_37 rfl hl (by decide) rfl (fun ls hl => ?_)
  refine lv_iload_n hx hb dX1_init_38 rfl (lv_at hl 0 rfl) ?_
  refine lv_bipush (v := 6) hx hb dX1_init_39 (by decide) ?_
  refine lv_icmp_ge (tgt := 72) hx hb dX1_init_41 (by decide) (fun h9 => absurd h9 (by decide)) (fun _ => ?_)
  refine lv_aload_n hx hb dX1_init_44 rfl (lv_at hl 1 rfl) ?_
  refine va_get (D := D) (ci := 1) (v := .ref q_7) (C := RX1) (T := TX1) (N := 16) hx hb hts hinX1 hown hK hP 0 rfl rfl 0 (by decide) fl9 (fun _ h9 => h9) rfl dX1_init_45 ?_
  refine lv_iload_n hx hb dX1_init_48 rfl (lv_at hl 0 rfl) ?_
  refine lv_bipush (v := 40) hx hb dX1_init_49 (by decide) ?_
  refine k_iast (k := 0) (ws' := [(o, .inr (1, [.ref q_7, .ref q_15, .ref q_23, .ref q_31, .null, .null, .null, .null, .null, .null, .null, .null, .int 0, .int 0, .int 0, .int 0])), (q_7, .inl (cI, 6, .inl (upd (fun _ => 0) 0 40))), (q_15, .inl (cI, 6, .inl (fun _ => 0))), (q_23, .inl (cI, 6, .inl (fun _ => 0))), (q_31, .inl (cI, 6, .inl (fun _ => 0)))]) hx hb hK hP hD hS 1 0 rfl rfl (vp_in_nI (n := 0) (by omega) (by omega)) (nI_clamp (n := 0) (by omega)) rfl dX1_init_51 (fun H locs hP hD hS => ?_)
  refine lv_aload_n hx hb dX1_init_52 rfl (lv_at hl 1 rfl) ?_
  refine va_get (D := D) (ci := 1) (v := .ref q_15) (C := RX1) (T := TX1) (N := 16) hx hb hts hinX1 hown hK hP 0 rfl rfl 1 (by decide) fl15 (fun _ h9 => h9) rfl dX1_init_53 ?_
  refine lv_iload_n hx hb dX1_init_56 rfl (lv_at hl 0 rfl) ?_
  refine lv_iconst (v := 3) hx hb dX1_init_57 (by decide) ?_
  refine k_iast (k := 0) (ws' := [(o, .inr (1, [.ref q_7, .ref q_15, .ref q_23, .ref q_31, .null, .null, .null, .null, .null, .null, .null, .null, .int 0, .int 0, .int 0, .int 0])), (q_7, .inl (cI, 6, .inl (upd (fun _ => 0) 0 40))), (q_15, .inl (cI, 6, .inl (upd (fun _ => 0) 0 3))), (q_23, .inl (cI, 6, .inl (fun _ => 0))), (q_31, .inl (cI, 6, .inl (fun _ => 0)))]) hx hb hK hP hD hS 2 0 rfl rfl (vp_in_nI (n := 0) (by omega) (by omega)) (nI_clamp (n := 0) (by omega)) rfl dX1_init_58 (fun H locs hP hD hS => ?_)
  refine lv_aload_n hx hb dX1_init_59 rfl (lv_at hl 1 rfl) ?_
  refine va_get (D := D) (ci := 1) (v := .ref q_23) (C := RX1) (T := TX1) (N := 16) hx hb hts hinX1 hown hK hP 0 rfl rfl 2 (by decide) fl18 (fun _ h9 => h9) rfl dX1_init_60 ?_
  refine lv_iload_n hx hb dX1_init_63 rfl (lv_at hl 0 rfl) ?_
  refine lv_iload_n hx hb dX1_init_64 rfl (lv_at hl 0 rfl) ?_
  refine k_iast (k := 0) (ws' := [(o, .inr (1, [.ref q_7, .ref q_15, .ref q_23, .ref q_31, .null, .null, .null, .null, .null, .null, .null, .null, .int 0, .int 0, .int 0, .int 0])), (q_7, .inl (cI, 6, .inl (upd (fun _ => 0) 0 40))), (q_15, .inl (cI, 6, .inl (upd (fun _ => 0) 0 3))), (q_23, .inl (cI, 6, .inl (upd (fun _ => 0) 0 0))), (q_31, .inl (cI, 6, .inl (fun _ => 0)))]) hx hb hK hP hD hS 3 0 rfl rfl (vp_in_nI (n := 0) (by omega) (by omega)) (nI_clamp (n := 0) (by omega)) rfl dX1_init_65 (fun H locs hP hD hS => ?_)
  refine lv_iinc (v := 1) (lv' := [(1, .int 1), (0, .ref o)]) hx hb dX1_init_66 hl (k := 0) rfl (by decide) (by decide) rfl (fun ls hl => ?_)
  refine lv_goto (tgt := 38) hx hb dX1_init_69 (by decide) ?_
  refine lv_iload_n hx hb dX1_init_38 rfl (lv_at hl 0 rfl) ?_
  refine lv_bipush (v := 6) hx hb dX1_init_39 (by decide) ?_
  refine lv_icmp_ge (tgt := 72) hx hb dX1_init_41 (by decide) (fun h9 => absurd h9 (by decide)) (fun _ => ?_)
  refine lv_aload_n hx hb dX1_init_44 rfl (lv_at hl 1 rfl) ?_
  refine va_get (D := D) (ci := 1) (v := .ref q_7) (C := RX1) (T := TX1) (N := 16) hx hb hts hinX1 hown hK hP 0 rfl rfl 0 (by decide) fl9 (fun _ h9 => h9) rfl dX1_init_45 ?_
  refine lv_iload_n hx hb dX1_init_48 rfl (lv_at hl 0 rfl) ?_
  refine lv_bipush (v := 40) hx hb dX1_init_49 (by decide) ?_
  refine k_iast (k := 1) (ws' := [(o, .inr (1, [.ref q_7, .ref q_15, .ref q_23, .ref q_31, .null, .null, .null, .null, .null, .null, .null, .null, .int 0, .int 0, .int 0, .int 0])), (q_7, .inl (cI, 6, .inl (upd (upd (fun _ => 0) 0 40) 1 40))), (q_15, .inl (cI, 6, .inl (upd (fun _ => 0) 0 3))), (q_23, .inl (cI, 6, .inl (upd (fun _ => 0) 0 0))), (q_31, .inl (cI, 6, .inl (fun _ => 0)))]) hx hb hK hP hD hS 1 0 rfl rfl (vp_in_nI (n := 1) (by omega) (by omega)) (nI_clamp (n := 1) (by omega)) rfl dX1_init_51 (fun H locs hP hD hS => ?_)
  refine lv_aload_n hx hb dX1_init_52 rfl (lv_at hl 1 rfl) ?_
  refine va_get (D := D) (ci := 1) (v := .ref q_15) (C := RX1) (T := TX1) (N := 16) hx hb hts hinX1 hown hK hP 0 rfl rfl 1 (by decide) fl15 (fun _ h9 => h9) rfl dX1_init_53 ?_
  refine lv_iload_n hx hb dX1_init_56 rfl (lv_at hl 0 rfl) ?_
  refine lv_iconst (v := 3) hx hb dX1_init_57 (by decide) ?_
  refine k_iast (k := 1) (ws' := [(o, .inr (1, [.ref q_7, .ref q_15, .ref q_23, .ref q_31, .null, .null, .null, .null, .null, .null, .null, .null, .int 0, .int 0, .int 0, .int 0])), (q_7, .inl (cI, 6, .inl (upd (upd (fun _ => 0) 0 40) 1 40))), (q_15, .inl (cI, 6, .inl (upd (upd (fun _ => 0) 0 3) 1 3))), (q_23, .inl (cI, 6, .inl (upd (fun _ => 0) 0 0))), (q_31, .inl (cI, 6, .inl (fun _ => 0)))]) hx hb hK hP hD hS 2 0 rfl rfl (vp_in_nI (n := 1) (by omega) (by omega)) (nI_clamp (n := 1) (by omega)) rfl dX1_init_58 (fun H locs hP hD hS => ?_)
  refine lv_aload_n hx hb dX1_init_59 rfl (lv_at hl 1 rfl) ?_
  refine va_get (D := D) (ci := 1) (v := .ref q_23) (C := RX1) (T := TX1) (N := 16) hx hb hts hinX1 hown hK hP 0 rfl rfl 2 (by decide) fl18 (fun _ h9 => h9) rfl dX1_init_60 ?_
  refine lv_iload_n hx hb dX1_init_63 rfl (lv_at hl 0 rfl) ?_
  refine lv_iload_n hx hb dX1_init_64 rfl (lv_at hl 0 rfl) ?_
  refine k_iast (k := 1) (ws' := [(o, .inr (1, [.ref q_7, .ref q_15, .ref q_23, .ref q_31, .null, .null, .null, .null, .null, .null, .null, .null, .int 0, .int 0, .int 0, .int 0])), (q_7, .inl (cI, 6, .inl (upd (upd (fun _ => 0) 0 40) 1 40))), (q_15, .inl (cI, 6, .inl (upd (upd (fun _ => 0) 0 3) 1 3))), (q_23, .inl (cI, 6, .inl (upd (upd (fun _ => 0) 0 0) 1 1))), (q_31, .inl (cI, 6, .inl (fun _ => 0)))]) hx hb hK hP hD hS 3 0 rfl rfl (vp_in_nI (n := 1) (by omega) (by omega)) (nI_clamp (n := 1) (by omega)) rfl dX1_init_65 (fun H locs hP hD hS => ?_)
  refine lv_iinc (v := 2) (lv' := [(1, .int 2), (0, .ref o)]) hx hb dX1_init_66 hl (k := 0) rfl (by decide) (by decide) rfl (fun ls hl => ?_)
  refine lv_goto (tgt := 38) hx hb dX1_init_69 (by decide) ?_
  refine lv_iload_n hx hb dX1_init_38 rfl (lv_at hl 0 rfl) ?_
  refine lv_bipush (v := 6) hx hb dX1_init_39 (by decide) ?_
  refine lv_icmp_ge (tgt := 72) hx hb dX1_init_41 (by decide) (fun h9 => absurd h9 (by decide)) (fun _ => ?_)
  refine lv_aload_n hx hb dX1_init_44 rfl (lv_at hl 1 rfl) ?_
  refine va_get (D := D) (ci := 1) (v := .ref q_7) (C := RX1) (T := TX1) (N := 16) hx hb hts hinX1 hown hK hP 0 rfl rfl 0 (by decide) fl9 (fun _ h9 => h9) rfl dX1_init_45 ?_
  refine lv_iload_n hx hb dX1_init_48 rfl (lv_at hl 0 rfl) ?_
  refine lv_bipush (v := 40) hx hb dX1_init_49 (by decide) ?_
  refine k_iast (k := 2) (ws' := [(o, .inr (1, [.ref q_7, .ref q_15, .ref q_23, .ref q_31, .null, .null, .null, .null, .null, .null, .null, .null, .int 0, .int 0, .int 0, .int 0])), (q_7, .inl (cI, 6, .inl (upd (upd (upd (fun _ => 0) 0 40) 1 40) 2 40))), (q_15, .inl (cI, 6, .inl (upd (upd (fun _ => 0) 0 3) 1 3))), (q_23, .inl (cI, 6, .inl (upd (upd (fun _ => 0) 0 0) 1 1))), (q_31, .inl (cI, 6, .inl (fun _ => 0)))]) hx hb hK hP hD hS 1 0 rfl rfl (vp_in_nI (n := 2) (by omega) (by omega)) (nI_clamp (n := 2) (by omega)) rfl dX1_init_51 (fun H locs hP hD hS => ?_)
  refine lv_aload_n hx hb dX1_init_52 rfl (lv_at hl 1 rfl) ?_
  refine va_get (D := D) (ci := 1) (v := .ref q_15) (C := RX1) (T := TX1) (N := 16) hx hb hts hinX1 hown hK hP 0 rfl rfl 1 (by decide) fl15 (fun _ h9 => h9) rfl dX1_init_53 ?_
  refine lv_iload_n hx hb dX1_init_56 rfl (lv_at hl 0 rfl) ?_
  refine lv_iconst (v := 3) hx hb dX1_init_57 (by decide) ?_
  refine k_iast (k := 2) (ws' := [(o, .inr (1, [.ref q_7, .ref q_15, .ref q_23, .ref q_31, .null, .null, .null, .null, .null, .null, .null, .null, .int 0, .int 0, .int 0, .int 0])), (q_7, .inl (cI, 6, .inl (upd (upd (upd (fun _ => 0) 0 40) 1 40) 2 40))), (q_15, .inl (cI, 6, .inl (upd (upd (upd (fun _ => 0) 0 3) 1 3) 2 3))), (q_23, .inl (cI, 6, .inl (upd (upd (fun _ => 0) 0 0) 1 1))), (q_31, .inl (cI, 6, .inl (fun _ => 0)))]) hx hb hK hP hD hS 2 0 rfl rfl (vp_in_nI (n := 2) (by omega) (by omega)) (nI_clamp (n := 2) (by omega)) rfl dX1_init_58 (fun H locs hP hD hS => ?_)
  refine lv_aload_n hx hb dX1_init_59 rfl (lv_at hl 1 rfl) ?_
  refine va_get (D := D) (ci := 1) (v := .ref q_23) (C := RX1) (T := TX1) (N := 16) hx hb hts hinX1 hown hK hP 0 rfl rfl 2 (by decide) fl18 (fun _ h9 => h9) rfl dX1_init_60 ?_
  refine lv_iload_n hx hb dX1_init_63 rfl (lv_at hl 0 rfl) ?_
  refine lv_iload_n hx hb dX1_init_64 rfl (lv_at hl 0 rfl) ?_
  refine k_iast (k := 2) (ws' := [(o, .inr (1, [.ref q_7, .ref q_15, .ref q_23, .ref q_31, .null, .null, .null, .null, .null, .null, .null, .null, .int 0, .int 0, .int 0, .int 0])), (q_7, .inl (cI, 6, .inl (upd (upd (upd (fun _ => 0) 0 40) 1 40) 2 40))), (q_15, .inl (cI, 6, .inl (upd (upd (upd (fun _ => 0) 0 3) 1 3) 2 3))), (q_23, .inl (cI, 6, .inl (upd (upd (upd (fun _ => 0) 0 0) 1 1) 2 2))), (q_31, .inl (cI, 6, .inl (fun _ => 0)))]) hx hb hK hP hD hS 3 0 rfl rfl (vp_in_nI (n := 2) (by omega) (by omega)) (nI_clamp (n := 2) (by omega)) rfl dX1_init_65 (fun H locs hP hD hS => ?_)
  refine lv_iinc (v := 3) (lv' := [(1, .int 3), (0, .ref o)]) hx hb dX1_init_66 hl (k := 0) rfl (by decide) (by decide) rfl (fun ls hl => ?_)
  refine lv_goto (tgt := 38) hx hb dX1_init_69 (by decide) ?_
  refine lv_iload_n hx hb dX1_init_38 rfl (lv_at hl 0 rfl) ?_
  refine lv_bipush (v := 6) hx hb dX1_init_39 (by decide) ?_
  refine lv_icmp_ge (tgt := 72) hx hb dX1_init_41 (by decide) (fun h9 => absurd h9 (by decide)) (fun _ => ?_)
  refine lv_aload_n hx hb dX1_init_44 rfl (lv_at hl 1 rfl) ?_
  refine va_get (D := D) (ci := 1) (v := .ref q_7) (C := RX1) (T := TX1) (N := 16) hx hb hts hinX1 hown hK hP 0 rfl rfl 0 (by decide) fl9 (fun _ h9 => h9) rfl dX1_init_45 ?_
  refine lv_iload_n hx hb dX1_init_48 rfl (lv_at hl 0 rfl) ?_
  refine lv_bipush (v := 40) hx hb dX1_init_49 (by decide) ?_
  refine k_iast (k := 3) (ws' := [(o, .inr (1, [.ref q_7, .ref q_15, .ref q_23, .ref q_31, .null, .null, .null, .null, .null, .null, .null, .null, .int 0, .int 0, .int 0, .int 0])), (q_7, .inl (cI, 6, .inl (upd (upd (upd (upd (fun _ => 0) 0 40) 1 40) 2 40) 3 40))), (q_15, .inl (cI, 6, .inl (upd (upd (upd (fun _ => 0) 0 3) 1 3) 2 3))), (q_23, .inl (cI, 6, .inl (upd (upd (upd (fun _ => 0) 0 0) 1 1) 2 2))), (q_31, .inl (cI, 6, .inl (fun _ => 0)))]) hx hb hK hP hD hS 1 0 rfl rfl (vp_in_nI (n := 3) (by omega) (by omega)) (nI_clamp (n := 3) (by omega)) rfl dX1_init_51 (fun H locs hP hD hS => ?_)
  refine lv_aload_n hx hb dX1_init_52 rfl (lv_at hl 1 rfl) ?_
  refine va_get (D := D) (ci := 1) (v := .ref q_15) (C := RX1) (T := TX1) (N := 16) hx hb hts hinX1 hown hK hP 0 rfl rfl 1 (by decide) fl15 (fun _ h9 => h9) rfl dX1_init_53 ?_
  refine lv_iload_n hx hb dX1_init_56 rfl (lv_at hl 0 rfl) ?_
  refine lv_iconst (v := 3) hx hb dX1_init_57 (by decide) ?_
  refine k_iast (k := 3) (ws' := [(o, .inr (1, [.ref q_7, .ref q_15, .ref q_23, .ref q_31, .null, .null, .null, .null, .null, .null, .null, .null, .int 0, .int 0, .int 0, .int 0])), (q_7, .inl (cI, 6, .inl (upd (upd (upd (upd (fun _ => 0) 0 40) 1 40) 2 40) 3 40))), (q_15, .inl (cI, 6, .inl (upd (upd (upd (upd (fun _ => 0) 0 3) 1 3) 2 3) 3 3))), (q_23, .inl (cI, 6, .inl (upd (upd (upd (fun _ => 0) 0 0) 1 1) 2 2))), (q_31, .inl (cI, 6, .inl (fun _ => 0)))]) hx hb hK hP hD hS 2 0 rfl rfl (vp_in_nI (n := 3) (by omega) (by omega)) (nI_clamp (n := 3) (by omega)) rfl dX1_init_58 (fun H locs hP hD hS => ?_)
  refine lv_aload_n hx hb dX1_init_59 rfl (lv_at hl 1 rfl) ?_
  refine va_get (D := D) (ci := 1) (v := .ref q_23) (C := RX1) (T := TX1) (N := 16) hx hb hts hinX1 hown hK hP 0 rfl rfl 2 (by decide) fl18 (fun _ h9 => h9) rfl dX1_init_60 ?_
  refine lv_iload_n hx hb dX1_init_63 rfl (lv_at hl 0 rfl) ?_
  refine lv_iload_n hx hb dX1_init_64 rfl (lv_at hl 0 rfl) ?_
  refine k_iast (k := 3) (ws' := [(o, .inr (1, [.ref q_7, .ref q_15, .ref q_23, .ref q_31, .null, .null, .null, .null, .null, .null, .null, .null, .int 0, .int 0, .int 0, .int 0])), (q_7, .inl (cI, 6, .inl (upd (upd (upd (upd (fun _ => 0) 0 40) 1 40) 2 40) 3 40))), (q_15, .inl (cI, 6, .inl (upd (upd (upd (upd (fun _ => 0) 0 3) 1 3) 2 3) 3 3))), (q_23, .inl (cI, 6, .inl (upd (upd (upd (upd (fun _ => 0) 0 0) 1 1) 2 2) 3 3))), (q_31, .inl (cI, 6, .inl (fun _ => 0)))]) hx hb hK hP hD hS 3 0 rfl rfl (vp_in_nI (n := 3) (by omega) (by omega)) (nI_clamp (n := 3) (by omega)) rfl dX1_init_65 (fun H locs hP hD hS => ?_)
  refine lv_iinc (v := 4) (lv' := [(1, .int 4), (0, .ref o)]) hx hb dX1_init_66 hl (k := 0) rfl (by decide) (by decide) rfl (fun ls hl => ?_)
  refine lv_goto (tgt := 38) hx hb dX1_init_69 (by decide) ?_
  refine lv_iload_n hx hb dX1_init_38 rfl (lv_at hl 0 rfl) ?_
  refine lv_bipush (v := 6) hx hb dX1_init_39 (by decide) ?_
  refine lv_icmp_ge (tgt := 72) hx hb dX1_init_41 (by decide) (fun h9 => absurd h9 (by decide)) (fun _ => ?_)
  refine lv_aload_n hx hb dX1_init_44 rfl (lv_at hl 1 rfl) ?_
  refine va_get (D := D) (ci := 1) (v := .ref q_7) (C := RX1) (T := TX1) (N := 16) hx hb hts hinX1 hown hK hP 0 rfl rfl 0 (by decide) fl9 (fun _ h9 => h9) rfl dX1_init_45 ?_
  refine lv_iload_n hx hb dX1_init_48 rfl (lv_at hl 0 rfl) ?_
  refine lv_bipush (v := 40) hx hb dX1_init_49 (by decide) ?_
  refine k_iast (k := 4) (ws' := [(o, .inr (1, [.ref q_7, .ref q_15, .ref q_23, .ref q_31, .null, .null, .null, .null, .null, .null, .null, .null, .int 0, .int 0, .int 0, .int 0])), (q_7, .inl (cI, 6, .inl (upd (upd (upd (upd (upd (fun _ => 0) 0 40) 1 40) 2 40) 3 40) 4 40))), (q_15, .inl (cI, 6, .inl (upd (upd (upd (upd (fun _ => 0) 0 3) 1 3) 2 3) 3 3))), (q_23, .inl (cI, 6, .inl (upd (upd (upd (upd (fun _ => 0) 0 0) 1 1) 2 2) 3 3))), (q_31, .inl (cI, 6, .inl (fun _ => 0)))]) hx hb hK hP hD hS 1 0 rfl rfl (vp_in_nI (n := 4) (by omega) (by omega)) (nI_clamp (n := 4) (by omega)) rfl dX1_init_51 (fun H locs hP hD hS => ?_)
  refine lv_aload_n hx hb dX1_init_52 rfl (lv_at hl 1 rfl) ?_
  refine va_get (D := D) (ci := 1) (v := .ref q_15) (C := RX1) (T := TX1) (N := 16) hx hb hts hinX1 hown hK hP 0 rfl rfl 1 (by decide) fl15 (fun _ h9 => h9) rfl dX1_init_53 ?_
  refine lv_iload_n hx hb dX1_init_56 rfl (lv_at hl 0 rfl) ?_
  refine lv_iconst (v := 3) hx hb dX1_init_57 (by decide) ?_
  refine k_iast (k := 4) (ws' := [(o, .inr (1, [.ref q_7, .ref q_15, .ref q_23, .ref q_31, .null, .null, .null, .null, .null, .null, .null, .null, .int 0, .int 0, .int 0, .int 0])), (q_7, .inl (cI, 6, .inl (upd (upd (upd (upd (upd (fun _ => 0) 0 40) 1 40) 2 40) 3 40) 4 40))), (q_15, .inl (cI, 6, .inl (upd (upd (upd (upd (upd (fun _ => 0) 0 3) 1 3) 2 3) 3 3) 4 3))), (q_23, .inl (cI, 6, .inl (upd (upd (upd (upd (fun _ => 0) 0 0) 1 1) 2 2) 3 3))), (q_31, .inl (cI, 6, .inl (fun _ => 0)))]) hx hb hK hP hD hS 2 0 rfl rfl (vp_in_nI (n := 4) (by omega) (by omega)) (nI_clamp (n := 4) (by omega)) rfl dX1_init_58 (fun H locs hP hD hS => ?_)
  refine lv_aload_n hx hb dX1_init_59 rfl (lv_at hl 1 rfl) ?_
  refine va_get (D := D) (ci := 1) (v := .ref q_23) (C := RX1) (T := TX1) (N := 16) hx hb hts hinX1 hown hK hP 0 rfl rfl 2 (by decide) fl18 (fun _ h9 => h9) rfl dX1_init_60 ?_
  refine lv_iload_n hx hb dX1_init_63 rfl (lv_at hl 0 rfl) ?_
  refine lv_iload_n hx hb dX1_init_64 rfl (lv_at hl 0 rfl) ?_
  refine k_iast (k := 4) (ws' := [(o, .inr (1, [.ref q_7, .ref q_15, .ref q_23, .ref q_31, .null, .null, .null, .null, .null, .null, .null, .null, .int 0, .int 0, .int 0, .int 0])), (q_7, .inl (cI, 6, .inl (upd (upd (upd (upd (upd (fun _ => 0) 0 40) 1 40) 2 40) 3 40) 4 40))), (q_15, .inl (cI, 6, .inl (upd (upd (upd (upd (upd (fun _ => 0) 0 3) 1 3) 2 3) 3 3) 4 3))), (q_23, .inl (cI, 6, .inl (upd (upd (upd (upd (upd (fun _ => 0) 0 0) 1 1) 2 2) 3 3) 4 4))), (q_31, .inl (cI, 6, .inl (fun _ => 0)))]) hx hb hK hP hD hS 3 0 rfl rfl (vp_in_nI (n := 4) (by omega) (by omega)) (nI_clamp (n := 4) (by omega)) rfl dX1_init_65 (fun H locs hP hD hS => ?_)
  refine lv_iinc (v := 5) (lv' := [(1, .int 5), (0, .ref o)]) hx hb dX1_init_66 hl (k := 0) rfl (by decide) (by decide) rfl (fun ls hl => ?_)
  refine lv_goto (tgt := 38) hx hb dX1_init_69 (by decide) ?_
  refine lv_iload_n hx hb dX1_init_38 rfl (lv_at hl 0 rfl) ?_
  refine lv_bipush (v := 6) hx hb dX1_init_39 (by decide) ?_
  refine lv_icmp_ge (tgt := 72) hx hb dX1_init_41 (by decide) (fun h9 => absurd h9 (by decide)) (fun _ => ?_)
  refine lv_aload_n hx hb dX1_init_44 rfl (lv_at hl 1 rfl) ?_
  refine va_get (D := D) (ci := 1) (v := .ref q_7) (C := RX1) (T := TX1) (N := 16) hx hb hts hinX1 hown hK hP 0 rfl rfl 0 (by decide) fl9 (fun _ h9 => h9) rfl dX1_init_45 ?_
  refine lv_iload_n hx hb dX1_init_48 rfl (lv_at hl 0 rfl) ?_
  refine lv_bipush (v := 40) hx hb dX1_init_49 (by decide) ?_
  refine k_iast (k := 5) (ws' := [(o, .inr (1, [.ref q_7, .ref q_15, .ref q_23, .ref q_31, .null, .null, .null, .null, .null, .null, .null, .null, .int 0, .int 0, .int 0, .int 0])), (q_7, .inl (cI, 6, .inl (upd (upd (upd (upd (upd (upd (fun _ => 0) 0 40) 1 40) 2 40) 3 40) 4 40) 5 40))), (q_15, .inl (cI, 6, .inl (upd (upd (upd (upd (upd (fun _ => 0) 0 3) 1 3) 2 3) 3 3) 4 3))), (q_23, .inl (cI, 6, .inl (upd (upd (upd (upd (upd (fun _ => 0) 0 0) 1 1) 2 2) 3 3) 4 4))), (q_31, .inl (cI, 6, .inl (fun _ => 0)))]) hx hb hK hP hD hS 1 0 rfl rfl (vp_in_nI (n := 5) (by omega) (by omega)) (nI_clamp (n := 5) (by omega)) rfl dX1_init_51 (fun H locs hP hD hS => ?_)
  refine lv_aload_n hx hb dX1_init_52 rfl (lv_at hl 1 rfl) ?_
  refine va_get (D := D) (ci := 1) (v := .ref q_15) (C := RX1) (T := TX1) (N := 16) hx hb hts hinX1 hown hK hP 0 rfl rfl 1 (by decide) fl15 (fun _ h9 => h9) rfl dX1_init_53 ?_
  refine lv_iload_n hx hb dX1_init_56 rfl (lv_at hl 0 rfl) ?_
  refine lv_iconst (v := 3) hx hb dX1_init_57 (by decide) ?_
  refine k_iast (k := 5) (ws' := [(o, .inr (1, [.ref q_7, .ref q_15, .ref q_23, .ref q_31, .null, .null, .null, .null, .null, .null, .null, .null, .int 0, .int 0, .int 0, .int 0])), (q_7, .inl (cI, 6, .inl (upd (upd (upd (upd (upd (upd (fun _ => 0) 0 40) 1 40) 2 40) 3 40) 4 40) 5 40))), (q_15, .inl (cI, 6, .inl (upd (upd (upd (upd (upd (upd (fun _ => 0) 0 3) 1 3) 2 3) 3 3) 4 3) 5 3))), (q_23, .inl (cI, 6, .inl (upd (upd (upd (upd (upd (fun _ => 0) 0 0) 1 1) 2 2) 3 3) 4 4))), (q_31, .inl (cI, 6, .inl (fun _ => 0)))]) hx hb hK hP hD hS 2 0 rfl rfl (vp_in_nI (n := 5) (by omega) (by omega)) (nI_clamp (n := 5) (by omega)) rfl dX1_init_58 (fun H locs hP hD hS => ?_)
  refine lv_aload_n hx hb dX1_init_59 rfl (lv_at hl 1 rfl) ?_
  refine va_get (D := D) (ci := 1) (v := .ref q_23) (C := RX1) (T := TX1) (N := 16) hx hb hts hinX1 hown hK hP 0 rfl rfl 2 (by decide) fl18 (fun _ h9 => h9) rfl dX1_init_60 ?_
  refine lv_iload_n hx hb dX1_init_63 rfl (lv_at hl 0 rfl) ?_
  refine lv_iload_n hx hb dX1_init_64 rfl (lv_at hl 0 rfl) ?_
  refine k_iast (k := 5) (ws' := [(o, .inr (1, [.ref q_7, .ref q_15, .ref q_23, .ref q_31, .null, .null, .null, .null, .null, .null, .null, .null, .int 0, .int 0, .int 0, .int 0])), (q_7, .inl (cI, 6, .inl (upd (upd (upd (upd (upd (upd (fun _ => 0) 0 40) 1 40) 2 40) 3 40) 4 40) 5 40))), (q_15, .inl (cI, 6, .inl (upd (upd (upd (upd (upd (upd (fun _ => 0) 0 3) 1 3) 2 3) 3 3) 4 3) 5 3))), (q_23, .inl (cI, 6, .inl (upd (upd (upd (upd (upd (upd (fun _ => 0) 0 0) 1 1) 2 2) 3 3) 4 4) 5 5))), (q_31, .inl (cI, 6, .inl (fun _ => 0)))]) hx hb hK hP hD hS 3 0 rfl rfl (vp_in_nI (n := 5) (by omega) (by omega)) (nI_clamp (n := 5) (by omega)) rfl dX1_init_65 (fun H locs hP hD hS => ?_)
  refine lv_iinc (v := 6) (lv' := [(1, .int 6), (0, .ref o)]) hx hb dX1_init_66 hl (k := 0) rfl (by decide) (by decide) rfl (fun ls hl => ?_)
  refine lv_goto (tgt := 38) hx hb dX1_init_69 (by decide) ?_
  refine lv_iload_n hx hb dX1_init_38 rfl (lv_at hl 0 rfl) ?_
  refine lv_bipush (v := 6) hx hb dX1_init_39 (by decide) ?_
  refine lv_icmp_ge (tgt := 72) hx hb dX1_init_41 (by decide) (fun _ => ?_) (fun h9 => absurd (by decide) h9)
  refine lv_aload_n hx hb dX1_init_72 rfl (lv_at hl 1 rfl) ?_
  refine lv_bipush (v := 6) hx hb dX1_init_73 (by decide) ?_
  refine k_newa (N := 6) hx hb (hts (.arrayClass .int) (by decide +kernel)) hK hP hD hS hA 0 rfl (by decide) (by decide) (Nat.le_of_ble_eq_true rfl) (Nat.le_of_ble_eq_true rfl) (Nat.le_of_ble_eq_true rfl) dX1_init_75 (fun q_75 H hP hD hS => ?_)
  have hP : va_P D vwCl ([(o, .inr (1, [.ref q_7, .ref q_15, .ref q_23, .ref q_31, .null, .null, .null, .null, .null, .null, .null, .null, .int 0, .int 0, .int 0, .int 0])), (q_7, .inl (cI, 6, .inl (upd (upd (upd (upd (upd (upd (fun _ => 0) 0 40) 1 40) 2 40) 3 40) 4 40) 5 40))), (q_15, .inl (cI, 6, .inl (upd (upd (upd (upd (upd (upd (fun _ => 0) 0 3) 1 3) 2 3) 3 3) 4 3) 5 3))), (q_23, .inl (cI, 6, .inl (upd (upd (upd (upd (upd (upd (fun _ => 0) 0 0) 1 1) 2 2) 3 3) 4 4) 5 5))), (q_31, .inl (cI, 6, .inl (fun _ => 0))), (q_75, .inl (cI, 6, .inl (fun _ => 0)))]) H := hP
  have hD : va_D A ([(o, .inr (1, [.ref q_7, .ref q_15, .ref q_23, .ref q_31, .null, .null, .null, .null, .null, .null, .null, .null, .int 0, .int 0, .int 0, .int 0])), (q_7, .inl (cI, 6, .inl (upd (upd (upd (upd (upd (upd (fun _ => 0) 0 40) 1 40) 2 40) 3 40) 4 40) 5 40))), (q_15, .inl (cI, 6, .inl (upd (upd (upd (upd (upd (upd (fun _ => 0) 0 3) 1 3) 2 3) 3 3) 4 3) 5 3))), (q_23, .inl (cI, 6, .inl (upd (upd (upd (upd (upd (upd (fun _ => 0) 0 0) 1 1) 2 2) 3 3) 4 4) 5 5))), (q_31, .inl (cI, 6, .inl (fun _ => 0))), (q_75, .inl (cI, 6, .inl (fun _ => 0)))]) := hD
  refine k_putF (D := D) (ci := 1) (v := .ref q_75) (ty := .array .int) (C := RX1) (T := TX1) (N := 16) hx hb hts hinX1 tyX1 tyX1_ok nmX1 hown hK hP hD hS 0 rfl rfl 4 (by decide) fl24 (fun _ h9 => h9) rfl hin rfl (by decide +kernel) rfl rfl (Nat.le_of_ble_eq_true rfl) (ws' := [(o, .inr (1, [.ref q_7, .ref q_15, .ref q_23, .ref q_31, .ref q_75, .null, .null, .null, .null, .null, .null, .null, .int 0, .int 0, .int 0, .int 0])), (q_7, .inl (cI, 6, .inl (upd (upd (upd (upd (upd (upd (fun _ => 0) 0 40) 1 40) 2 40) 3 40) 4 40) 5 40))), (q_15, .inl (cI, 6, .inl (upd (upd (upd (upd (upd (upd (fun _ => 0) 0 3) 1 3) 2 3) 3 3) 4 3) 5 3))), (q_23, .inl (cI, 6, .inl (upd (upd (upd (upd (upd (upd (fun _ => 0) 0 0) 1 1) 2 2) 3 3) 4 4) 5 5))), (q_31, .inl (cI, 6, .inl (fun _ => 0))), (q_75, .inl (cI, 6, .inl (fun _ => 0)))]) rfl dX1_init_77 (fun H locs hP hD hS => ?_)
  refine lv_aload_n hx hb dX1_init_80 rfl (lv_at hl 1 rfl) ?_
  refine lv_bipush (v := 6) hx hb dX1_init_81 (by decide) ?_
  refine k_newa (N := 6) hx hb (hts (.arrayClass .int) (by decide +kernel)) hK hP hD hS hA 0 rfl (by decide) (by decide) (Nat.le_of_ble_eq_true rfl) (Nat.le_of_ble_eq_true rfl) (Nat.le_of_ble_eq_true rfl) dX1_init_83 (fun q_83 H hP hD hS => ?_)
  have hP : va_P D vwCl ([(o, .inr (1, [.ref q_7, .ref q_15, .ref q_23, .ref q_31, .ref q_75, .null, .null, .null, .null, .null, .null, .null, .int 0, .int 0, .int 0, .int 0])), (q_7, .inl (cI, 6, .inl (upd (upd (upd (upd (upd (upd (fun _ => 0) 0 40) 1 40) 2 40) 3 40) 4 40) 5 40))), (q_15, .inl (cI, 6, .inl (upd (upd (upd (upd (upd (upd (fun _ => 0) 0 3) 1 3) 2 3) 3 3) 4 3) 5 3))), (q_23, .inl (cI, 6, .inl (upd (upd (upd (upd (upd (upd (fun _ => 0) 0 0) 1 1) 2 2) 3 3) 4 4) 5 5))), (q_31, .inl (cI, 6, .inl (fun _ => 0))), (q_75, .inl (cI, 6, .inl (fun _ => 0))), (q_83, .inl (cI, 6, .inl (fun _ => 0)))]) H := hP
  have hD : va_D A ([(o, .inr (1, [.ref q_7, .ref q_15, .ref q_23, .ref q_31, .ref q_75, .null, .null, .null, .null, .null, .null, .null, .int 0, .int 0, .int 0, .int 0])), (q_7, .inl (cI, 6, .inl (upd (upd (upd (upd (upd (upd (fun _ => 0) 0 40) 1 40) 2 40) 3 40) 4 40) 5 40))), (q_15, .inl (cI, 6, .inl (upd (upd (upd (upd (upd (upd (fun _ => 0) 0 3) 1 3) 2 3) 3 3) 4 3) 5 3))), (q_23, .inl (cI, 6, .inl (upd (upd (upd (upd (upd (upd (fun _ => 0) 0 0) 1 1) 2 2) 3 3) 4 4) 5 5))), (q_31, .inl (cI, 6, .inl (fun _ => 0))), (q_75, .inl (cI, 6, .inl (fun _ => 0))), (q_83, .inl (cI, 6, .inl (fun _ => 0)))]) := hD
  refine k_putF (D := D) (ci := 1) (v := .ref q_83) (ty := .array .int) (C := RX1) (T := TX1) (N := 16) hx hb hts hinX1 tyX1 tyX1_ok nmX1 hown hK hP hD hS 0 rfl rfl 5 (by decide) fl27 (fun _ h9 => h9) rfl hin rfl (by decide +kernel) rfl rfl (Nat.le_of_ble_eq_true rfl) (ws' := [(o, .inr (1, [.ref q_7, .ref q_15, .ref q_23, .ref q_31, .ref q_75, .ref q_83, .null, .null, .null, .null, .null, .null, .int 0, .int 0, .int 0, .int 0])), (q_7, .inl (cI, 6, .inl (upd (upd (upd (upd (upd (upd (fun _ => 0) 0 40) 1 40) 2 40) 3 40) 4 40) 5 40))), (q_15, .inl (cI, 6, .inl (upd (upd (upd (upd (upd (upd (fun _ => 0) 0 3) 1 3) 2 3) 3 3) 4 3) 5 3))), (q_23, .inl (cI, 6, .inl (upd (upd (upd (upd (upd (upd (fun _ => 0) 0 0) 1 1) 2 2) 3 3) 4 4) 5 5))), (q_31, .inl (cI, 6, .inl (fun _ => 0))), (q_75, .inl (cI, 6, .inl (fun _ => 0))), (q_83, .inl (cI, 6, .inl (fun _ => 0)))]) rfl dX1_init_85 (fun H locs hP hD hS => ?_)
  refine lv_aload_n hx hb dX1_init_88 rfl (lv_at hl 1 rfl) ?_
  refine lv_bipush (v := 6) hx hb dX1_init_89 (by decide) ?_
  refine k_newa (N := 6) hx hb (hts (.arrayClass .int) (by decide +kernel)) hK hP hD hS hA 0 rfl (by decide) (by decide) (Nat.le_of_ble_eq_true rfl) (Nat.le_of_ble_eq_true rfl) (Nat.le_of_ble_eq_true rfl) dX1_init_91 (fun q_91 H hP hD hS => ?_)
  have hP : va_P D vwCl ([(o, .inr (1, [.ref q_7, .ref q_15, .ref q_23, .ref q_31, .ref q_75, .ref q_83, .null, .null, .null, .null, .null, .null, .int 0, .int 0, .int 0, .int 0])), (q_7, .inl (cI, 6, .inl (upd (upd (upd (upd (upd (upd (fun _ => 0) 0 40) 1 40) 2 40) 3 40) 4 40) 5 40))), (q_15, .inl (cI, 6, .inl (upd (upd (upd (upd (upd (upd (fun _ => 0) 0 3) 1 3) 2 3) 3 3) 4 3) 5 3))), (q_23, .inl (cI, 6, .inl (upd (upd (upd (upd (upd (upd (fun _ => 0) 0 0) 1 1) 2 2) 3 3) 4 4) 5 5))), (q_31, .inl (cI, 6, .inl (fun _ => 0))), (q_75, .inl (cI, 6, .inl (fun _ => 0))), (q_83, .inl (cI, 6, .inl (fun _ => 0))), (q_91, .inl (cI, 6, .inl (fun _ => 0)))]) H := hP
  have hD : va_D A ([(o, .inr (1, [.ref q_7, .ref q_15, .ref q_23, .ref q_31, .ref q_75, .ref q_83, .null, .null, .null, .null, .null, .null, .int 0, .int 0, .int 0, .int 0])), (q_7, .inl (cI, 6, .inl (upd (upd (upd (upd (upd (upd (fun _ => 0) 0 40) 1 40) 2 40) 3 40) 4 40) 5 40))), (q_15, .inl (cI, 6, .inl (upd (upd (upd (upd (upd (upd (fun _ => 0) 0 3) 1 3) 2 3) 3 3) 4 3) 5 3))), (q_23, .inl (cI, 6, .inl (upd (upd (upd (upd (upd (upd (fun _ => 0) 0 0) 1 1) 2 2) 3 3) 4 4) 5 5))), (q_31, .inl (cI, 6, .inl (fun _ => 0))), (q_75, .inl (cI, 6, .inl (fun _ => 0))), (q_83, .inl (cI, 6, .inl (fun _ => 0))), (q_91, .inl (cI, 6, .inl (fun _ => 0)))]) := hD
  refine k_putF (D := D) (ci := 1) (v := .ref q_91) (ty := .array .int) (C := RX1) (T := TX1) (N := 16) hx hb hts hinX1 tyX1 tyX1_ok nmX1 hown hK hP hD hS 0 rfl rfl 6 (by decide) fl30 (fun _ h9 => h9) rfl hin rfl (by decide +kernel) rfl rfl (Nat.le_of_ble_eq_true rfl) (ws' := [(o, .inr (1, [.ref q_7, .ref q_15, .ref q_23, .ref q_31, .ref q_75, .ref q_83, .ref q_91, .null, .null, .null, .null, .null, .int 0, .int 0, .int 0, .int 0])), (q_7, .inl (cI, 6, .inl (upd (upd (upd (upd (upd (upd (fun _ => 0) 0 40) 1 40) 2 40) 3 40) 4 40) 5 40))), (q_15, .inl (cI, 6, .inl (upd (upd (upd (upd (upd (upd (fun _ => 0) 0 3) 1 3) 2 3) 3 3) 4 3) 5 3))), (q_23, .inl (cI, 6, .inl (upd (upd (upd (upd (upd (upd (fun _ => 0) 0 0) 1 1) 2 2) 3 3) 4 4) 5 5))), (q_31, .inl (cI, 6, .inl (fun _ => 0))), (q_75, .inl (cI, 6, .inl (fun _ => 0))), (q_83, .inl (cI, 6, .inl (fun _ => 0))), (q_91, .inl (cI, 6, .inl (fun _ => 0)))]) rfl dX1_init_93 (fun H locs hP hD hS => ?_)
  refine lv_aload_n hx hb dX1_init_96 rfl (lv_at hl 1 rfl) ?_
  refine lv_bipush (v := 6) hx hb dX1_init_97 (by decide) ?_
  refine k_newa (N := 6) hx hb (hts (.arrayClass .int) (by decide +kernel)) hK hP hD hS hA 0 rfl (by decide) (by decide) (Nat.le_of_ble_eq_true rfl) (Nat.le_of_ble_eq_true rfl) (Nat.le_of_ble_eq_true rfl) dX1_init_99 (fun q_99 H hP hD hS => ?_)
  have hP : va_P D vwCl ([(o, .inr (1, [.ref q_7, .ref q_15, .ref q_23, .ref q_31, .ref q_75, .ref q_83, .ref q_91, .null, .null, .null, .null, .null, .int 0, .int 0, .int 0, .int 0])), (q_7, .inl (cI, 6, .inl (upd (upd (upd (upd (upd (upd (fun _ => 0) 0 40) 1 40) 2 40) 3 40) 4 40) 5 40))), (q_15, .inl (cI, 6, .inl (upd (upd (upd (upd (upd (upd (fun _ => 0) 0 3) 1 3) 2 3) 3 3) 4 3) 5 3))), (q_23, .inl (cI, 6, .inl (upd (upd (upd (upd (upd (upd (fun _ => 0) 0 0) 1 1) 2 2) 3 3) 4 4) 5 5))), (q_31, .inl (cI, 6, .inl (fun _ => 0))), (q_75, .inl (cI, 6, .inl (fun _ => 0))), (q_83, .inl (cI, 6, .inl (fun _ => 0))), (q_91, .inl (cI, 6, .inl (fun _ => 0))), (q_99, .inl (cI, 6, .inl (fun _ => 0)))]) H := hP
  have hD : va_D A ([(o, .inr (1, [.ref q_7, .ref q_15, .ref q_23, .ref q_31, .ref q_75, .ref q_83, .ref q_91, .null, .null, .null, .null, .null, .int 0, .int 0, .int 0, .int 0])), (q_7, .inl (cI, 6, .inl (upd (upd (upd (upd (upd (upd (fun _ => 0) 0 40) 1 40) 2 40) 3 40) 4 40) 5 40))), (q_15, .inl (cI, 6, .inl (upd (upd (upd (upd (upd (upd (fun _ => 0) 0 3) 1 3) 2 3) 3 3) 4 3) 5 3))), (q_23, .inl (cI, 6, .inl (upd (upd (upd (upd (upd (upd (fun _ => 0) 0 0) 1 1) 2 2) 3 3) 4 4) 5 5))), (q_31, .inl (cI, 6, .inl (fun _ => 0))), (q_75, .inl (cI, 6, .inl (fun _ => 0))), (q_83, .inl (cI, 6, .inl (fun _ => 0))), (q_91, .inl (cI, 6, .inl (fun _ => 0))), (q_99, .inl (cI, 6, .inl (fun _ => 0)))]) := hD
  refine k_putF (D := D) (ci := 1) (v := .ref q_99) (ty := .array .int) (C := RX1) (T := TX1) (N := 16) hx hb hts hinX1 tyX1 tyX1_ok nmX1 hown hK hP hD hS 0 rfl rfl 7 (by decide) fl33 (fun _ h9 => h9) rfl hin rfl (by decide +kernel) rfl rfl (Nat.le_of_ble_eq_true rfl) (ws' := [(o, .inr (1, [.ref q_7, .ref q_15, .ref q_23, .ref q_31, .ref q_75, .ref q_83, .ref q_91, .ref q_99, .null, .null, .null, .null, .int 0, .int 0, .int 0, .int 0])), (q_7, .inl (cI, 6, .inl (upd (upd (upd (upd (upd (upd (fun _ => 0) 0 40) 1 40) 2 40) 3 40) 4 40) 5 40))), (q_15, .inl (cI, 6, .inl (upd (upd (upd (upd (upd (upd (fun _ => 0) 0 3) 1 3) 2 3) 3 3) 4 3) 5 3))), (q_23, .inl (cI, 6, .inl (upd (upd (upd (upd (upd (upd (fun _ => 0) 0 0) 1 1) 2 2) 3 3) 4 4) 5 5))), (q_31, .inl (cI, 6, .inl (fun _ => 0))), (q_75, .inl (cI, 6, .inl (fun _ => 0))), (q_83, .inl (cI, 6, .inl (fun _ => 0))), (q_91, .inl (cI, 6, .inl (fun _ => 0))), (q_99, .inl (cI, 6, .inl (fun _ => 0)))]) rfl dX1_init_101 (fun H locs hP hD hS => ?_)
  refine lv_aload_n hx hb dX1_init_104 rfl (lv_at hl 1 rfl) ?_
  refine lv_bipush (v := 6) hx hb dX1_init_105 (by decide) ?_
  refine k_newa (N := 6) hx hb (hts (.arrayClass .int) (by decide +kernel)) hK hP hD hS hA 0 rfl (by decide) (by decide) (Nat.le_of_ble_eq_true rfl) (Nat.le_of_ble_eq_true rfl) (Nat.le_of_ble_eq_true rfl) dX1_init_107 (fun q_107 H hP hD hS => ?_)
  have hP : va_P D vwCl ([(o, .inr (1, [.ref q_7, .ref q_15, .ref q_23, .ref q_31, .ref q_75, .ref q_83, .ref q_91, .ref q_99, .null, .null, .null, .null, .int 0, .int 0, .int 0, .int 0])), (q_7, .inl (cI, 6, .inl (upd (upd (upd (upd (upd (upd (fun _ => 0) 0 40) 1 40) 2 40) 3 40) 4 40) 5 40))), (q_15, .inl (cI, 6, .inl (upd (upd (upd (upd (upd (upd (fun _ => 0) 0 3) 1 3) 2 3) 3 3) 4 3) 5 3))), (q_23, .inl (cI, 6, .inl (upd (upd (upd (upd (upd (upd (fun _ => 0) 0 0) 1 1) 2 2) 3 3) 4 4) 5 5))), (q_31, .inl (cI, 6, .inl (fun _ => 0))), (q_75, .inl (cI, 6, .inl (fun _ => 0))), (q_83, .inl (cI, 6, .inl (fun _ => 0))), (q_91, .inl (cI, 6, .inl (fun _ => 0))), (q_99, .inl (cI, 6, .inl (fun _ => 0))), (q_107, .inl (cI, 6, .inl (fun _ => 0)))]) H := hP
  have hD : va_D A ([(o, .inr (1, [.ref q_7, .ref q_15, .ref q_23, .ref q_31, .ref q_75, .ref q_83, .ref q_91, .ref q_99, .null, .null, .null, .null, .int 0, .int 0, .int 0, .int 0])), (q_7, .inl (cI, 6, .inl (upd (upd (upd (upd (upd (upd (fun _ => 0) 0 40) 1 40) 2 40) 3 40) 4 40) 5 40))), (q_15, .inl (cI, 6, .inl (upd (upd (upd (upd (upd (upd (fun _ => 0) 0 3) 1 3) 2 3) 3 3) 4 3) 5 3))), (q_23, .inl (cI, 6, .inl (upd (upd (upd (upd (upd (upd (fun _ => 0) 0 0) 1 1) 2 2) 3 3) 4 4) 5 5))), (q_31, .inl (cI, 6, .inl (fun _ => 0))), (q_75, .inl (cI, 6, .inl (fun _ => 0))), (q_83, .inl (cI, 6, .inl (fun _ => 0))), (q_91, .inl (cI, 6, .inl (fun _ => 0))), (q_99, .inl (cI, 6, .inl (fun _ => 0))), (q_107, .inl (cI, 6, .inl (fun _ => 0)))]) := hD
  refine k_putF (D := D) (ci := 1) (v := .ref q_107) (ty := .array .int) (C := RX1) (T := TX1) (N := 16) hx hb hts hinX1 tyX1 tyX1_ok nmX1 hown hK hP hD hS 0 rfl rfl 8 (by decide) fl36 (fun _ h9 => h9) rfl hin rfl (by decide +kernel) rfl rfl (Nat.le_of_ble_eq_true rfl) (ws' := [(o, .inr (1, [.ref q_7, .ref q_15, .ref q_23, .ref q_31, .ref q_75, .ref q_83, .ref q_91, .ref q_99, .ref q_107, .null, .null, .null, .int 0, .int 0, .int 0, .int 0])), (q_7, .inl (cI, 6, .inl (upd (upd (upd (upd (upd (upd (fun _ => 0) 0 40) 1 40) 2 40) 3 40) 4 40) 5 40))), (q_15, .inl (cI, 6, .inl (upd (upd (upd (upd (upd (upd (fun _ => 0) 0 3) 1 3) 2 3) 3 3) 4 3) 5 3))), (q_23, .inl (cI, 6, .inl (upd (upd (upd (upd (upd (upd (fun _ => 0) 0 0) 1 1) 2 2) 3 3) 4 4) 5 5))), (q_31, .inl (cI, 6, .inl (fun _ => 0))), (q_75, .inl (cI, 6, .inl (fun _ => 0))), (q_83, .inl (cI, 6, .inl (fun _ => 0))), (q_91, .inl (cI, 6, .inl (fun _ => 0))), (q_99, .inl (cI, 6, .inl (fun _ => 0))), (q_107, .inl (cI, 6, .inl (fun _ => 0)))]) rfl dX1_init_109 (fun H locs hP hD hS => ?_)
  refine lv_aload_n hx hb dX1_init_112 rfl (lv_at hl 1 rfl) ?_
  refine lv_bipush (v := 6) hx hb dX1_init_113 (by decide) ?_
  refine k_newa (N := 6) hx hb (hts (.arrayClass .int) (by decide +kernel)) hK hP hD hS hA 0 rfl (by decide) (by decide) (Nat.le_of_ble_eq_true rfl) (Nat.le_of_ble_eq_true rfl) (Nat.le_of_ble_eq_true rfl) dX1_init_115 (fun q_115 H hP hD hS => ?_)
  have hP : va_P D vwCl ([(o, .inr (1, [.ref q_7, .ref q_15, .ref q_23, .ref q_31, .ref q_75, .ref q_83, .ref q_91, .ref q_99, .ref q_107, .null, .null, .null, .int 0, .int 0, .int 0, .int 0])), (q_7, .inl (cI, 6, .inl (upd (upd (upd (upd (upd (upd (fun _ => 0) 0 40) 1 40) 2 40) 3 40) 4 40) 5 40))), (q_15, .inl (cI, 6, .inl (upd (upd (upd (upd (upd (upd (fun _ => 0) 0 3) 1 3) 2 3) 3 3) 4 3) 5 3))), (q_23, .inl (cI, 6, .inl (upd (upd (upd (upd (upd (upd (fun _ => 0) 0 0) 1 1) 2 2) 3 3) 4 4) 5 5))), (q_31, .inl (cI, 6, .inl (fun _ => 0))), (q_75, .inl (cI, 6, .inl (fun _ => 0))), (q_83, .inl (cI, 6, .inl (fun _ => 0))), (q_91, .inl (cI, 6, .inl (fun _ => 0))), (q_99, .inl (cI, 6, .inl (fun _ => 0))), (q_107, .inl (cI, 6, .inl (fun _ => 0))), (q_115, .inl (cI, 6, .inl (fun _ => 0)))]) H := hP
  have hD : va_D A ([(o, .inr (1, [.ref q_7, .ref q_15, .ref q_23, .ref q_31, .ref q_75, .ref q_83, .ref q_91, .ref q_99, .ref q_107, .null, .null, .null, .int 0, .int 0, .int 0, .int 0])), (q_7, .inl (cI, 6, .inl (upd (upd (upd (upd (upd (upd (fun _ => 0) 0 40) 1 40) 2 40) 3 40) 4 40) 5 40))), (q_15, .inl (cI, 6, .inl (upd (upd (upd (upd (upd (upd (fun _ => 0) 0 3) 1 3) 2 3) 3 3) 4 3) 5 3))), (q_23, .inl (cI, 6, .inl (upd (upd (upd (upd (upd (upd (fun _ => 0) 0 0) 1 1) 2 2) 3 3) 4 4) 5 5))), (q_31, .inl (cI, 6, .inl (fun _ => 0))), (q_75, .inl (cI, 6, .inl (fun _ => 0))), (q_83, .inl (cI, 6, .inl (fun _ => 0))), (q_91, .inl (cI, 6, .inl (fun _ => 0))), (q_99, .inl (cI, 6, .inl (fun _ => 0))), (q_107, .inl (cI, 6, .inl (fun _ => 0))), (q_115, .inl (cI, 6, .inl (fun _ => 0)))]) := hD
  refine k_putF (D := D) (ci := 1) (v := .ref q_115) (ty := .array .int) (C := RX1) (T := TX1) (N := 16) hx hb hts hinX1 tyX1 tyX1_ok nmX1 hown hK hP hD hS 0 rfl rfl 9 (by decide) fl39 (fun _ h9 => h9) rfl hin rfl (by decide +kernel) rfl rfl (Nat.le_of_ble_eq_true rfl) (ws' := [(o, .inr (1, [.ref q_7, .ref q_15, .ref q_23, .ref q_31, .ref q_75, .ref q_83, .ref q_91, .ref q_99, .ref q_107, .ref q_115, .null, .null, .int 0, .int 0, .int 0, .int 0])), (q_7, .inl (cI, 6, .inl (upd (upd (upd (upd (upd (upd (fun _ => 0) 0 40) 1 40) 2 40) 3 40) 4 40) 5 40))), (q_15, .inl (cI, 6, .inl (upd (upd (upd (upd (upd (upd (fun _ => 0) 0 3) 1 3) 2 3) 3 3) 4 3) 5 3))), (q_23, .inl (cI, 6, .inl (upd (upd (upd (upd (upd (upd (fun _ => 0) 0 0) 1 1) 2 2) 3 3) 4 4) 5 5))), (q_31, .inl (cI, 6, .inl (fun _ => 0))), (q_75, .inl (cI, 6, .inl (fun _ => 0))), (q_83, .inl (cI, 6, .inl (fun _ => 0))), (q_91, .inl (cI, 6, .inl (fun _ => 0))), (q_99, .inl (cI, 6, .inl (fun _ => 0))), (q_107, .inl (cI, 6, .inl (fun _ => 0))), (q_115, .inl (cI, 6, .inl (fun _ => 0)))]) rfl dX1_init_117 (fun H locs hP hD hS => ?_)
  refine lv_aload_n hx hb dX1_init_120 rfl (lv_at hl 1 rfl) ?_
  refine lv_bipush (v := 6) hx hb dX1_init_121 (by decide) ?_
  refine k_newa (N := 6) hx hb (hts (.arrayClass .int) (by decide +kernel)) hK hP hD hS hA 0 rfl (by decide) (by decide) (Nat.le_of_ble_eq_true rfl) (Nat.le_of_ble_eq_true rfl) (Nat.le_of_ble_eq_true rfl) dX1_init_123 (fun q_123 H hP hD hS => ?_)
  have hP : va_P D vwCl ([(o, .inr (1, [.ref q_7, .ref q_15, .ref q_23, .ref q_31, .ref q_75, .ref q_83, .ref q_91, .ref q_99, .ref q_107, .ref q_115, .null, .null, .int 0, .int 0, .int 0, .int 0])), (q_7, .inl (cI, 6, .inl (upd (upd (upd (upd (upd (upd (fun _ => 0) 0 40) 1 40) 2 40) 3 40) 4 40) 5 40))), (q_15, .inl (cI, 6, .inl (upd (upd (upd (upd (upd (upd (fun _ => 0) 0 3) 1 3) 2 3) 3 3) 4 3) 5 3))), (q_23, .inl (cI, 6, .inl (upd (upd (upd (upd (upd (upd (fun _ => 0) 0 0) 1 1) 2 2) 3 3) 4 4) 5 5))), (q_31, .inl (cI, 6, .inl (fun _ => 0))), (q_75, .inl (cI, 6, .inl (fun _ => 0))), (q_83, .inl (cI, 6, .inl (fun _ => 0))), (q_91, .inl (cI, 6, .inl (fun _ => 0))), (q_99, .inl (cI, 6, .inl (fun _ => 0))), (q_107, .inl (cI, 6, .inl (fun _ => 0))), (q_115, .inl (cI, 6, .inl (fun _ => 0))), (q_123, .inl (cI, 6, .inl (fun _ => 0)))]) H := hP
  have hD : va_D A ([(o, .inr (1, [.ref q_7, .ref q_15, .ref q_23, .ref q_31, .ref q_75, .ref q_83, .ref q_91, .ref q_99, .ref q_107, .ref q_115, .null, .null, .int 0, .int 0, .int 0, .int 0])), (q_7, .inl (cI, 6, .inl (upd (upd (upd (upd (upd (upd (fun _ => 0) 0 40) 1 40) 2 40) 3 40) 4 40) 5 40))), (q_15, .inl (cI, 6, .inl (upd (upd (upd (upd (upd (upd (fun _ => 0) 0 3) 1 3) 2 3) 3 3) 4 3) 5 3))), (q_23, .inl (cI, 6, .inl (upd (upd (upd (upd (upd (upd (fun _ => 0) 0 0) 1 1) 2 2) 3 3) 4 4) 5 5))), (q_31, .inl (cI, 6, .inl (fun _ => 0))), (q_75, .inl (cI, 6, .inl (fun _ => 0))), (q_83, .inl (cI, 6, .inl (fun _ => 0))), (q_91, .inl (cI, 6, .inl (fun _ => 0))), (q_99, .inl (cI, 6, .inl (fun _ => 0))), (q_107, .inl (cI, 6, .inl (fun _ => 0))), (q_115, .inl (cI, 6, .inl (fun _ => 0))), (q_123, .inl (cI, 6, .inl (fun _ => 0)))]) := hD
  refine k_putF (D := D) (ci := 1) (v := .ref q_123) (ty := .array .int) (C := RX1) (T := TX1) (N := 16) hx hb hts hinX1 tyX1 tyX1_ok nmX1 hown hK hP hD hS 0 rfl rfl 10 (by decide) fl42 (fun _ h9 => h9) rfl hin rfl (by decide +kernel) rfl rfl (Nat.le_of_ble_eq_true rfl) (ws' := [(o, .inr (1, [.ref q_7, .ref q_15, .ref q_23, .ref q_31, .ref q_75, .ref q_83, .ref q_91, .ref q_99, .ref q_107, .ref q_115, .ref q_123, .null, .int 0, .int 0, .int 0, .int 0])), (q_7, .inl (cI, 6, .inl (upd (upd (upd (upd (upd (upd (fun _ => 0) 0 40) 1 40) 2 40) 3 40) 4 40) 5 40))), (q_15, .inl (cI, 6, .inl (upd (upd (upd (upd (upd (upd (fun _ => 0) 0 3) 1 3) 2 3) 3 3) 4 3) 5 3))), (q_23, .inl (cI, 6, .inl (upd (upd (upd (upd (upd (upd (fun _ => 0) 0 0) 1 1) 2 2) 3 3) 4 4) 5 5))), (q_31, .inl (cI, 6, .inl (fun _ => 0))), (q_75, .inl (cI, 6, .inl (fun _ => 0))), (q_83, .inl (cI, 6, .inl (fun _ => 0))), (q_91, .inl (cI, 6, .inl (fun _ => 0))), (q_99, .inl (cI, 6, .inl (fun _ => 0))), (q_107, .inl (cI, 6, .inl (fun _ => 0))), (q_115, .inl (cI, 6, .inl (fun _ => 0))), (q_123, .inl (cI, 6, .inl (fun _ => 0)))]) rfl dX1_init_125 (fun H locs hP hD hS => ?_)
  refine lv_iconst (v := 0) hx hb dX1_init_128 (by decide) ?_
  refine lv_istore_n (lv' := [(1, .int 0), (0, .ref o)]) hx hb dX1_init_129 rfl hl (by decide) rfl (fun ls hl => ?_)
  refine lv_iload_n hx hb dX1_init_130 rfl (lv_at hl 0 rfl) ?_
  refine lv_bipush (v := 6) hx hb dX1_init_131 (by decide) ?_
  refine lv_icmp_ge (tgt := 165) hx hb dX1_init_133 (by decide) (fun h9 => absurd h9 (by decide)) (fun _ => ?_)
  refine lv_aload_n hx hb dX1_init_136 rfl (lv_at hl 1 rfl) ?_
  refine va_get (D := D) (ci := 1) (v := .ref q_75) (C := RX1) (T := TX1) (N := 16) hx hb hts hinX1 hown hK hP 0 rfl rfl 4 (by decide) fl24 (fun _ h9 => h9) rfl dX1_init_137 ?_
  refine lv_iload_n hx hb dX1_init_140 rfl (lv_at hl 0 rfl) ?_
  refine lv_bipush (v := 60) hx hb dX1_init_141 (by decide) ?_
  refine k_iast (k := 0) (ws' := [(o, .inr (1, [.ref q_7, .ref q_15, .ref q_23, .ref q_31, .ref q_75, .ref q_83, .ref q_91, .ref q_99, .ref q_107, .ref q_115, .ref q_123, .null, .int 0, .int 0, .int 0, .int 0])), (q_7, .inl (cI, 6, .inl (upd (upd (upd (upd (upd (upd (fun _ => 0) 0 40) 1 40) 2 40) 3 40) 4 40) 5 40))), (q_15, .inl (cI, 6, .inl (upd (upd (upd (upd (upd (upd (fun _ => 0) 0 3) 1 3) 2 3) 3 3) 4 3) 5 3))), (q_23, .inl (cI, 6, .inl (upd (upd (upd (upd (upd (upd (fun _ => 0) 0 0) 1 1) 2 2) 3 3) 4 4) 5 5))), (q_31, .inl (cI, 6, .inl (fun _ => 0))), (q_75, .inl (cI, 6, .inl (upd (fun _ => 0) 0 60))), (q_83, .inl (cI, 6, .inl (fun _ => 0))), (q_91, .inl (cI, 6, .inl (fun _ => 0))), (q_99, .inl (cI, 6, .inl (fun _ => 0))), (q_107, .inl (cI, 6, .inl (fun _ => 0))), (q_115, .inl (cI, 6, .inl (fun _ => 0))), (q_123, .inl (cI, 6, .inl (fun _ => 0)))]) hx hb hK hP hD hS 5 0 rfl rfl (vp_in_nI (n := 0) (by omega) (by omega)) (nI_clamp (n := 0) (by omega)) rfl dX1_init_143 (fun H locs hP hD hS => ?_)
  refine lv_aload_n hx hb dX1_init_144 rfl (lv_at hl 1 rfl) ?_
  refine va_get (D := D) (ci := 1) (v := .ref q_83) (C := RX1) (T := TX1) (N := 16) hx hb hts hinX1 hown hK hP 0 rfl rfl 5 (by decide) fl27 (fun _ h9 => h9) rfl dX1_init_145 ?_
  refine lv_iload_n hx hb dX1_init_148 rfl (lv_at hl 0 rfl) ?_
  refine lv_bipush (v := 20) hx hb dX1_init_149 (by decide) ?_
  refine k_iast (k := 0) (ws' := [(o, .inr (1, [.ref q_7, .ref q_15, .ref q_23, .ref q_31, .ref q_75, .ref q_83, .ref q_91, .ref q_99, .ref q_107, .ref q_115, .ref q_123, .null, .int 0, .int 0, .int 0, .int 0])), (q_7, .inl (cI, 6, .inl (upd (upd (upd (upd (upd (upd (fun _ => 0) 0 40) 1 40) 2 40) 3 40) 4 40) 5 40))), (q_15, .inl (cI, 6, .inl (upd (upd (upd (upd (upd (upd (fun _ => 0) 0 3) 1 3) 2 3) 3 3) 4 3) 5 3))), (q_23, .inl (cI, 6, .inl (upd (upd (upd (upd (upd (upd (fun _ => 0) 0 0) 1 1) 2 2) 3 3) 4 4) 5 5))), (q_31, .inl (cI, 6, .inl (fun _ => 0))), (q_75, .inl (cI, 6, .inl (upd (fun _ => 0) 0 60))), (q_83, .inl (cI, 6, .inl (upd (fun _ => 0) 0 20))), (q_91, .inl (cI, 6, .inl (fun _ => 0))), (q_99, .inl (cI, 6, .inl (fun _ => 0))), (q_107, .inl (cI, 6, .inl (fun _ => 0))), (q_115, .inl (cI, 6, .inl (fun _ => 0))), (q_123, .inl (cI, 6, .inl (fun _ => 0)))]) hx hb hK hP hD hS 6 0 rfl rfl (vp_in_nI (n := 0) (by omega) (by omega)) (nI_clamp (n := 0) (by omega)) rfl dX1_init_151 (fun H locs hP hD hS => ?_)
  refine lv_aload_n hx hb dX1_init_152 rfl (lv_at hl 1 rfl) ?_
  refine va_get (D := D) (ci := 1) (v := .ref q_99) (C := RX1) (T := TX1) (N := 16) hx hb hts hinX1 hown hK hP 0 rfl rfl 7 (by decide) fl33 (fun _ h9 => h9) rfl dX1_init_153 ?_
  refine lv_iload_n hx hb dX1_init_156 rfl (lv_at hl 0 rfl) ?_
  refine lv_iconst (v := (-1)) hx hb dX1_init_157 (by decide) ?_
  refine k_iast (k := 0) (ws' := [(o, .inr (1, [.ref q_7, .ref q_15, .ref q_23, .ref q_31, .ref q_75, .ref q_83, .ref q_91, .ref q_99, .ref q_107, .ref q_115, .ref q_123, .null, .int 0, .int 0, .int 0, .int 0])), (q_7, .inl (cI, 6, .inl (upd (upd (upd (upd (upd (upd (fun _ => 0) 0 40) 1 40) 2 40) 3 40) 4 40) 5 40))), (q_15, .inl (cI, 6, .inl (upd (upd (upd (upd (upd (upd (fun _ => 0) 0 3) 1 3) 2 3) 3 3) 4 3) 5 3))), (q_23, .inl (cI, 6, .inl (upd (upd (upd (upd (upd (upd (fun _ => 0) 0 0) 1 1) 2 2) 3 3) 4 4) 5 5))), (q_31, .inl (cI, 6, .inl (fun _ => 0))), (q_75, .inl (cI, 6, .inl (upd (fun _ => 0) 0 60))), (q_83, .inl (cI, 6, .inl (upd (fun _ => 0) 0 20))), (q_91, .inl (cI, 6, .inl (fun _ => 0))), (q_99, .inl (cI, 6, .inl (upd (fun _ => 0) 0 (-1)))), (q_107, .inl (cI, 6, .inl (fun _ => 0))), (q_115, .inl (cI, 6, .inl (fun _ => 0))), (q_123, .inl (cI, 6, .inl (fun _ => 0)))]) hx hb hK hP hD hS 8 0 rfl rfl (vp_in_nI (n := 0) (by omega) (by omega)) (nI_clamp (n := 0) (by omega)) rfl dX1_init_158 (fun H locs hP hD hS => ?_)
  refine lv_iinc (v := 1) (lv' := [(1, .int 1), (0, .ref o)]) hx hb dX1_init_159 hl (k := 0) rfl (by decide) (by decide) rfl (fun ls hl => ?_)
  refine lv_goto (tgt := 130) hx hb dX1_init_162 (by decide) ?_
  refine lv_iload_n hx hb dX1_init_130 rfl (lv_at hl 0 rfl) ?_
  refine lv_bipush (v := 6) hx hb dX1_init_131 (by decide) ?_
  refine lv_icmp_ge (tgt := 165) hx hb dX1_init_133 (by decide) (fun h9 => absurd h9 (by decide)) (fun _ => ?_)
  refine lv_aload_n hx hb dX1_init_136 rfl (lv_at hl 1 rfl) ?_
  refine va_get (D := D) (ci := 1) (v := .ref q_75) (C := RX1) (T := TX1) (N := 16) hx hb hts hinX1 hown hK hP 0 rfl rfl 4 (by decide) fl24 (fun _ h9 => h9) rfl dX1_init_137 ?_
  refine lv_iload_n hx hb dX1_init_140 rfl (lv_at hl 0 rfl) ?_
  refine lv_bipush (v := 60) hx hb dX1_init_141 (by decide) ?_
  refine k_iast (k := 1) (ws' := [(o, .inr (1, [.ref q_7, .ref q_15, .ref q_23, .ref q_31, .ref q_75, .ref q_83, .ref q_91, .ref q_99, .ref q_107, .ref q_115, .ref q_123, .null, .int 0, .int 0, .int 0, .int 0])), (q_7, .inl (cI, 6, .inl (upd (upd (upd (upd (upd (upd (fun _ => 0) 0 40) 1 40) 2 40) 3 40) 4 40) 5 40))), (q_15, .inl (cI, 6, .inl (upd (upd (upd (upd (upd (upd (fun _ => 0) 0 3) 1 3) 2 3) 3 3) 4 3) 5 3))), (q_23, .inl (cI, 6, .inl (upd (upd (upd (upd (upd (upd (fun _ => 0) 0 0) 1 1) 2 2) 3 3) 4 4) 5 5))), (q_31, .inl (cI, 6, .inl (fun _ => 0))), (q_75, .inl (cI, 6, .inl (upd (upd (fun _ => 0) 0 60) 1 60))), (q_83, .inl (cI, 6, .inl (upd (fun _ => 0) 0 20))), (q_91, .inl (cI, 6, .inl (fun _ => 0))), (q_99, .inl (cI, 6, .inl (upd (fun _ => 0) 0 (-1)))), (q_107, .inl (cI, 6, .inl (fun _ => 0))), (q_115, .inl (cI, 6, .inl (fun _ => 0))), (q_123, .inl (cI, 6, .inl (fun _ => 0)))]) hx hb hK hP hD hS 5 0 rfl rfl (vp_in_nI (n := 1) (by omega) (by omega)) (nI_clamp (n := 1) (by omega)) rfl dX1_init_143 (fun H locs hP hD hS => ?_)
  refine lv_aload_n hx hb dX1_init_144 rfl (lv_at hl 1 rfl) ?_
  refine va_get (D := D) (ci := 1) (v := .ref q_83) (C := RX1) (T := TX1) (N := 16) hx hb hts hinX1 hown hK hP 0 rfl rfl 5 (by decide) fl27 (fun _ h9 => h9) rfl dX1_init_145 ?_
  refine lv_iload_n hx hb dX1_init_148 rfl (lv_at hl 0 rfl) ?_
  refine lv_bipush (v := 20) hx hb dX1_init_149 (by decide) ?_
  refine k_iast (k := 1) (ws' := [(o, .inr (1, [.ref q_7, .ref q_15, .ref q_23, .ref q_31, .ref q_75, .ref q_83, .ref q_91, .ref q_99, .ref q_107, .ref q_115, .ref q_123, .null, .int 0, .int 0, .int 0, .int 0])), (q_7, .inl (cI, 6, .inl (upd (upd (upd (upd (upd (upd (fun _ => 0) 0 40) 1 40) 2 40) 3 40) 4 40) 5 40))), (q_15, .inl (cI, 6, .inl (upd (upd (upd (upd (upd (upd (fun _ => 0) 0 3) 1 3) 2 3) 3 3) 4 3) 5 3))), (q_23, .inl (cI, 6, .inl (upd (upd (upd (upd (upd (upd (fun _ => 0) 0 0) 1 1) 2 2) 3 3) 4 4) 5 5))), (q_31, .inl (cI, 6, .inl (fun _ => 0))), (q_75, .inl (cI, 6, .inl (upd (upd (fun _ => 0) 0 60) 1 60))), (q_83, .inl (cI, 6, .inl (upd (upd (fun _ => 0) 0 20) 1 20))), (q_91, .inl (cI, 6, .inl (fun _ => 0))), (q_99, .inl (cI, 6, .inl (upd (fun _ => 0) 0 (-1)))), (q_107, .inl (cI, 6, .inl (fun _ => 0))), (q_115, .inl (cI, 6, .inl (fun _ => 0))), (q_123, .inl (cI, 6, .inl (fun _ => 0)))]) hx hb hK hP hD hS 6 0 rfl rfl (vp_in_nI (n := 1) (by omega) (by omega)) (nI_clamp (n := 1) (by omega)) rfl dX1_init_151 (fun H locs hP hD hS => ?_)
  refine lv_aload_n hx hb dX1_init_152 rfl (lv_at hl 1 rfl) ?_
  refine va_get (D := D) (ci := 1) (v := .ref q_99) (C := RX1) (T := TX1) (N := 16) hx hb hts hinX1 hown hK hP 0 rfl rfl 7 (by decide) fl33 (fun _ h9 => h9) rfl dX1_init_153 ?_
  refine lv_iload_n hx hb dX1_init_156 rfl (lv_at hl 0 rfl) ?_
  refine lv_iconst (v := (-1)) hx hb dX1_init_157 (by decide) ?_
  refine k_iast (k := 1) (ws' := [(o, .inr (1, [.ref q_7, .ref q_15, .ref q_23, .ref q_31, .ref q_75, .ref q_83, .ref q_91, .ref q_99, .ref q_107, .ref q_115, .ref q_123, .null, .int 0, .int 0, .int 0, .int 0])), (q_7, .inl (cI, 6, .inl (upd (upd (upd (upd (upd (upd (fun _ => 0) 0 40) 1 40) 2 40) 3 40) 4 40) 5 40))), (q_15, .inl (cI, 6, .inl (upd (upd (upd (upd (upd (upd (fun _ => 0) 0 3) 1 3) 2 3) 3 3) 4 3) 5 3))), (q_23, .inl (cI, 6, .inl (upd (upd (upd (upd (upd (upd (fun _ => 0) 0 0) 1 1) 2 2) 3 3) 4 4) 5 5))), (q_31, .inl (cI, 6, .inl (fun _ => 0))), (q_75, .inl (cI, 6, .inl (upd (upd (fun _ => 0) 0 60) 1 60))), (q_83, .inl (cI, 6, .inl (upd (upd (fun _ => 0) 0 20) 1 20))), (q_91, .inl (cI, 6, .inl (fun _ => 0))), (q_99, .inl (cI, 6, .inl (upd (upd (fun _ => 0) 0 (-1)) 1 (-1)))), (q_107, .inl (cI, 6, .inl (fun _ => 0))), (q_115, .inl (cI, 6, .inl (fun _ => 0))), (q_123, .inl (cI, 6, .inl (fun _ => 0)))]) hx hb hK hP hD hS 8 0 rfl rfl (vp_in_nI (n := 1) (by omega) (by omega)) (nI_clamp (n := 1) (by omega)) rfl dX1_init_158 (fun H locs hP hD hS => ?_)
  refine lv_iinc (v := 2) (lv' := [(1, .int 2), (0, .ref o)]) hx hb dX1_init_159 hl (k := 0) rfl (by decide) (by decide) rfl (fun ls hl => ?_)
  refine lv_goto (tgt := 130) hx hb dX1_init_162 (by decide) ?_
  refine lv_iload_n hx hb dX1_init_130 rfl (lv_at hl 0 rfl) ?_
  refine lv_bipush (v := 6) hx hb dX1_init_131 (by decide) ?_
  refine lv_icmp_ge (tgt := 165) hx hb dX1_init_133 (by decide) (fun h9 => absurd h9 (by decide)) (fun _ => ?_)
  refine lv_aload_n hx hb dX1_init_136 rfl (lv_at hl 1 rfl) ?_
  refine va_get (D := D) (ci := 1) (v := .ref q_75) (C := RX1) (T := TX1) (N := 16) hx hb hts hinX1 hown hK hP 0 rfl rfl 4 (by decide) fl24 (fun _ h9 => h9) rfl dX1_init_137 ?_
  refine lv_iload_n hx hb dX1_init_140 rfl (lv_at hl 0 rfl) ?_
  refine lv_bipush (v := 60) hx hb dX1_init_141 (by decide) ?_
  refine k_iast (k := 2) (ws' := [(o, .inr (1, [.ref q_7, .ref q_15, .ref q_23, .ref q_31, .ref q_75, .ref q_83, .ref q_91, .ref q_99, .ref q_107, .ref q_115, .ref q_123, .null, .int 0, .int 0, .int 0, .int 0])), (q_7, .inl (cI, 6, .inl (upd (upd (upd (upd (upd (upd (fun _ => 0) 0 40) 1 40) 2 40) 3 40) 4 40) 5 40))), (q_15, .inl (cI, 6, .inl (upd (upd (upd (upd (upd (upd (fun _ => 0) 0 3) 1 3) 2 3) 3 3) 4 3) 5 3))), (q_23, .inl (cI, 6, .inl (upd (upd (upd (upd (upd (upd (fun _ => 0) 0 0) 1 1) 2 2) 3 3) 4 4) 5 5))), (q_31, .inl (cI, 6, .inl (fun _ => 0))), (q_75, .inl (cI, 6, .inl (upd (upd (upd (fun _ => 0) 0 60) 1 60) 2 60))), (q_83, .inl (cI, 6, .inl (upd (upd (fun _ => 0) 0 20) 1 20))), (q_91, .inl (cI, 6, .inl (fun _ => 0))), (q_99, .inl (cI, 6, .inl (upd (upd (fun _ => 0) 0 (-1)) 1 (-1)))), (q_107, .inl (cI, 6, .inl (fun _ => 0))), (q_115, .inl (cI, 6, .inl (fun _ => 0))), (q_123, .inl (cI, 6, .inl (fun _ => 0)))]) hx hb hK hP hD hS 5 0 rfl rfl (vp_in_nI (n := 2) (by omega) (by omega)) (nI_clamp (n := 2) (by omega)) rfl dX1_init_143 (fun H locs hP hD hS => ?_)
  refine lv_aload_n hx hb dX1_init_144 rfl (lv_at hl 1 rfl) ?_
  refine va_get (D := D) (ci := 1) (v := .ref q_83) (C := RX1) (T := TX1) (N := 16) hx hb hts hinX1 hown hK hP 0 rfl rfl 5 (by decide) fl27 (fun _ h9 => h9) rfl dX1_init_145 ?_
  refine lv_iload_n hx hb dX1_init_148 rfl (lv_at hl 0 rfl) ?_
  refine lv_bipush (v := 20) hx hb dX1_init_149 (by decide) ?_
  refine k_iast (k := 2) (ws' := [(o, .inr (1, [.ref q_7, .ref q_15, .ref q_23, .ref q_31, .ref q_75, .ref q_83, .ref q_91, .ref q_99, .ref q_107, .ref q_115, .ref q_123, .null, .int 0, .int 0, .int 0, .int 0])), (q_7, .inl (cI, 6, .inl (upd (upd (upd (upd (upd (upd (fun _ => 0) 0 40) 1 40) 2 40) 3 40) 4 40) 5 40))), (q_15, .inl (cI, 6, .inl (upd (upd (upd (upd (upd (upd (fun _ => 0) 0 3) 1 3) 2 3) 3 3) 4 3) 5 3))), (q_23, .inl (cI, 6, .inl (upd (upd (upd (upd (upd (upd (fun _ => 0) 0 0) 1 1) 2 2) 3 3) 4 4) 5 5))), (q_31, .inl (cI, 6, .inl (fun _ => 0))), (q_75, .inl (cI, 6, .inl (upd (upd (upd (fun _ => 0) 0 60) 1 60) 2 60))), (q_83, .inl (cI, 6, .inl (upd (upd (upd (fun _ => 0) 0 20) 1 20) 2 20))), (q_91, .inl (cI, 6, .inl (fun _ => 0))), (q_99, .inl (cI, 6, .inl (upd (upd (fun _ => 0) 0 (-1)) 1 (-1)))), (q_107, .inl (cI, 6, .inl (fun _ => 0))), (q_115, .inl (cI, 6, .inl (fun _ => 0))), (q_123, .inl (cI, 6, .inl (fun _ => 0)))]) hx hb hK hP hD hS 6 0 rfl rfl (vp_in_nI (n := 2) (by omega) (by omega)) (nI_clamp (n := 2) (by omega)) rfl dX1_init_151 (fun H locs hP hD hS => ?_)
  refine lv_aload_n hx hb dX1_init_152 rfl (lv_at hl 1 rfl) ?_
  refine va_get (D := D) (ci := 1) (v := .ref q_99) (C := RX1) (T := TX1) (N := 16) hx hb hts hinX1 hown hK hP 0 rfl rfl 7 (by decide) fl33 (fun _ h9 => h9) rfl dX1_init_153 ?_
  refine lv_iload_n hx hb dX1_init_156 rfl (lv_at hl 0 rfl) ?_
  refine lv_iconst (v := (-1)) hx hb dX1_init_157 (by decide) ?_
  refine k_iast (k := 2) (ws' := [(o, .inr (1, [.ref q_7, .ref q_15, .ref q_23, .ref q_31, .ref q_75, .ref q_83, .ref q_91, .ref q_99, .ref q_107, .ref q_115, .ref q_123, .null, .int 0, .int 0, .int 0, .int 0])), (q_7, .inl (cI, 6, .inl (upd (upd (upd (upd (upd (upd (fun _ => 0) 0 40) 1 40) 2 40) 3 40) 4 40) 5 40))), (q_15, .inl (cI, 6, .inl (upd (upd (upd (upd (upd (upd (fun _ => 0) 0 3) 1 3) 2 3) 3 3) 4 3) 5 3))), (q_23, .inl (cI, 6, .inl (upd (upd (upd (upd (upd (upd (fun _ => 0) 0 0) 1 1) 2 2) 3 3) 4 4) 5 5))), (q_31, .inl (cI, 6, .inl (fun _ => 0))), (q_75, .inl (cI, 6, .inl (upd (upd (upd (fun _ => 0) 0 60) 1 60) 2 60))), (q_83, .inl (cI, 6, .inl (upd (upd (upd (fun _ => 0) 0 20) 1 20) 2 20))), (q_91, .inl (cI, 6, .inl (fun _ => 0))), (q_99, .inl (cI, 6, .inl (upd (upd (upd (fun _ => 0) 0 (-1)) 1 (-1)) 2 (-1)))), (q_107, .inl (cI, 6, .inl (fun _ => 0))), (q_115, .inl (cI, 6, .inl (fun _ => 0))), (q_123, .inl (cI, 6, .inl (fun _ => 0)))]) hx hb hK hP hD hS 8 0 rfl rfl (vp_in_nI (n := 2) (by omega) (by omega)) (nI_clamp (n := 2) (by omega)) rfl dX1_init_158 (fun H locs hP hD hS => ?_)
  refine lv_iinc (v := 3) (lv' := [(1, .int 3), (0, .ref o)]) hx hb dX1_init_159 hl (k := 0) rfl (by decide) (by decide) rfl (fun ls hl => ?_)
  refine lv_goto (tgt := 130) hx hb dX1_init_162 (by decide) ?_
  refine lv_iload_n hx hb dX1_init_130 rfl (lv_at hl 0 rfl) ?_
  refine lv_bipush (v := 6) hx hb dX1_init_131 (by decide) ?_
  refine lv_icmp_ge (tgt := 165) hx hb dX1_init_133 (by decide) (fun h9 => absurd h9 (by decide)) (fun _ => ?_)
  refine lv_aload_n hx hb dX1_init_136 rfl (lv_at hl 1 rfl) ?_
  refine va_get (D := D) (ci := 1) (v := .ref q_75) (C := RX1) (T := TX1) (N := 16) hx hb hts hinX1 hown hK hP 0 rfl rfl 4 (by decide) fl24 (fun _ h9 => h9) rfl dX1_init_137 ?_
  refine lv_iload_n hx hb dX1_init_140 rfl (lv_at hl 0 rfl) ?_
  refine lv_bipush (v := 60) hx hb dX1_init_141 (by decide) ?_
  refine k_iast (k := 3) (ws' := [(o, .inr (1, [.ref q_7, .ref q_15, .ref q_23, .ref q_31, .ref q_75, .ref q_83, .ref q_91, .ref q_99, .ref q_107, .ref q_115, .ref q_123, .null, .int 0, .int 0, .int 0, .int 0])), (q_7, .inl (cI, 6, .inl (upd (upd (upd (upd (upd (upd (fun _ => 0) 0 40) 1 40) 2 40) 3 40) 4 40) 5 40))), (q_15, .inl (cI, 6, .inl (upd (upd (upd (upd (upd (upd (fun _ => 0) 0 3) 1 3) 2 3) 3 3) 4 3) 5 3))), (q_23, .inl (cI, 6, .inl (upd (upd (upd (upd (upd (upd (fun _ => 0) 0 0) 1 1) 2 2) 3 3) 4 4) 5 5))), (q_31, .inl (cI, 6, .inl (fun _ => 0))), (q_75, .inl (cI, 6, .inl (upd (upd (upd (upd (fun _ => 0) 0 60) 1 60) 2 60) 3 60))), (q_83, .inl (cI, 6, .inl (upd (upd (upd (fun _ => 0) 0 20) 1 20) 2 20))), (q_91, .inl (cI, 6, .inl (fun _ => 0))), (q_99, .inl (cI, 6, .inl (upd (upd (upd (fun _ => 0) 0 (-1)) 1 (-1)) 2 (-1)))), (q_107, .inl (cI, 6, .inl (fun _ => 0))), (q_115, .inl (cI, 6, .inl (fun _ => 0))), (q_123, .inl (cI, 6, .inl (fun _ => 0)))]) hx hb hK hP hD hS 5 0 rfl rfl (vp_in_nI (n := 3) (by omega) (by omega)) (nI_clamp (n := 3) (by omega)) rfl dX1_init_143 (fun H locs hP hD hS => ?_)
  refine lv_aload_n hx hb dX1_init_144 rfl (lv_at hl 1 rfl) ?_
  refine va_get (D := D) (ci := 1) (v := .ref q_83) (C := RX1) (T := TX1) (N := 16) hx hb hts hinX1 hown hK hP 0 rfl rfl 5 (by decide) fl27 (fun _ h9 => h9) rfl dX1_init_145 ?_
  refine lv_iload_n hx hb dX1_init_148 rfl (lv_at hl 0 rfl) ?_
  refine lv_bipush (v := 20) hx hb dX1_init_149 (by decide) ?_
  refine k_iast (k := 3) (ws' := [(o, .inr (1, [.ref q_7, .ref q_15, .ref q_23, .ref q_31, .ref q_75, .ref q_83, .ref q_91, .ref q_99, .ref q_107, .ref q_115, .ref q_123, .null, .int 0, .int 0, .int 0, .int 0])), (q_7, .inl (cI, 6, .inl (upd (upd (upd (upd (upd (upd (fun _ => 0) 0 40) 1 40) 2 40) 3 40) 4 40) 5 40))), (q_15, .inl (cI, 6, .inl (upd (upd (upd (upd (upd (upd (fun _ => 0) 0 3) 1 3) 2 3) 3 3) 4 3) 5 3))), (q_23, .inl (cI, 6, .inl (upd (upd (upd (upd (upd (upd (fun _ => 0) 0 0) 1 1) 2 2) 3 3) 4 4) 5 5))), (q_31, .inl (cI, 6, .inl (fun _ => 0))), (q_75, .inl (cI, 6, .inl (upd (upd (upd (upd (fun _ => 0) 0 60) 1 60) 2 60) 3 60))), (q_83, .inl (cI, 6, .inl (upd (upd (upd (upd (fun _ => 0) 0 20) 1 20) 2 20) 3 20))), (q_91, .inl (cI, 6, .inl (fun _ => 0))), (q_99, .inl (cI, 6, .inl (upd (upd (upd (fun _ => 0) 0 (-1)) 1 (-1)) 2 (-1)))), (q_107, .inl (cI, 6, .inl (fun _ => 0))), (q_115, .inl (cI, 6, .inl (fun _ => 0))), (q_123, .inl (cI, 6, .inl (fun _ => 0)))]) hx hb hK hP hD hS 6 0 rfl rfl (vp_in_nI (n := 3) (by omega) (by omega)) (nI_clamp (n := 3) (by omega)) rfl dX1_init_151 (fun H locs hP hD hS => ?_)
  refine lv_aload_n hx hb dX1_init_152 rfl (lv_at hl 1 rfl) ?_
  refine va_get (D := D) (ci := 1) (v := .ref q_99) (C := RX1) (T := TX1) (N := 16) hx hb hts hinX1 hown hK hP 0 rfl rfl 7 (by decide) fl33 (fun _ h9 => h9) rfl dX1_init_153 ?_
  refine lv_iload_n hx hb dX1_init_156 rfl (lv_at hl 0 rfl) ?_
  refine lv_iconst (v := (-1)) hx hb dX1_init_157 (by decide) ?_
  refine k_iast (k := 3) (ws' := [(o, .inr (1, [.ref q_7, .ref q_15, .ref q_23, .ref q_31, .ref q_75, .ref q_83, .ref q_91, .ref q_99, .ref q_107, .ref q_115, .ref q_123, .null, .int 0, .int 0, .int 0, .int 0])), (q_7, .inl (cI, 6, .inl (upd (upd (upd (upd (upd (upd (fun _ => 0) 0 40) 1 40) 2 40) 3 40) 4 40) 5 40))), (q_15, .inl (cI, 6, .inl (upd (upd (upd (upd (upd (upd (fun _ => 0) 0 3) 1 3) 2 3) 3 3) 4 3) 5 3))), (q_23, .inl (cI, 6, .inl (upd (upd (upd (upd (upd (upd (fun _ => 0) 0 0) 1 1) 2 2) 3 3) 4 4) 5 5))), (q_31, .inl (cI, 6, .inl (fun _ => 0))), (q_75, .inl (cI, 6, .inl (upd (upd (upd (upd (fun _ => 0) 0 60) 1 60) 2 60) 3 60))), (q_83, .inl (cI, 6, .inl (upd (upd (upd (upd (fun _ => 0) 0 20) 1 20) 2 20) 3 20))), (q_91, .inl (cI, 6, .inl (fun _ => 0))), (q_99, .inl (cI, 6, .inl (upd (upd (upd (upd (fun _ => 0) 0 (-1)) 1 (-1)) 2 (-1)) 3 (-1)))), (q_107, .inl (cI, 6, .inl (fun _ => 0))), (q_115, .inl (cI, 6, .inl (fun _ => 0))), (q_123, .inl (cI, 6, .inl (fun _ => 0)))]) hx hb hK hP hD hS 8 0 rfl rfl (vp_in_nI (n := 3) (by omega) (by omega)) (nI_clamp (n := 3) (by omega)) rfl dX1_init_158 (fun H locs hP hD hS => ?_)
  refine lv_iinc (v := 4) (lv' := [(1, .int 4), (0, .ref o)]) hx hb dX1_init_159 hl (k := 0) rfl (by decide) (by decide) rfl (fun ls hl => ?_)
  refine lv_goto (tgt := 130) hx hb dX1_init_162 (by decide) ?_
  refine lv_iload_n hx hb dX1_init_130 rfl (lv_at hl 0 rfl) ?_
  refine lv_bipush (v := 6) hx hb dX1_init_131 (by decide) ?_
  refine lv_icmp_ge (tgt := 165) hx hb dX1_init_133 (by decide) (fun h9 => absurd h9 (by decide)) (fun _ => ?_)
  refine lv_aload_n hx hb dX1_init_136 rfl (lv_at hl 1 rfl) ?_
  refine va_get (D := D) (ci := 1) (v := .ref q_75) (C := RX1) (T := TX1) (N := 16) hx hb hts hinX1 hown hK hP 0 rfl rfl 4 (by decide) fl24 (fun _ h9 => h9) rfl dX1_init_137 ?_
  refine lv_iload_n hx hb dX1_init_140 rfl (lv_at hl 0 rfl) ?_
  refine lv_bipush (v := 60) hx hb dX1_init_141 (by decide) ?_
  refine k_iast (k := 4) (ws' := [(o, .inr (1, [.ref q_7, .ref q_15, .ref q_23, .ref q_31, .ref q_75, .ref q_83, .ref q_91, .ref q_99, .ref q_107, .ref q_115, .ref q_123, .null, .int 0, .int 0, .int 0, .int 0])), (q_7, .inl (cI, 6, .inl (upd (upd (upd (upd (upd (upd (fun _ => 0) 0 40) 1 40) 2 40) 3 40) 4 40) 5 40))), (q_15, .inl (cI, 6, .inl (upd (upd (upd (upd (upd (upd (fun _ => 0) 0 3) 1 3) 2 3) 3 3) 4 3) 5 3))), (q_23, .inl (cI, 6, .inl (upd (upd (upd (upd (upd (upd (fun _ => 0) 0 0) 1 1) 2 2) 3 3) 4 4) 5 5))), (q_31, .inl (cI, 6, .inl (fun _ => 0))), (q_75, .inl (cI, 6, .inl (upd (upd (upd (upd (upd (fun _ => 0) 0 60) 1 60) 2 60) 3 60) 4 60))), (q_83, .inl (cI, 6, .inl (upd (upd (upd (upd (fun _ => 0) 0 20) 1 20) 2 20) 3 20))), (q_91, .inl (cI, 6, .inl (fun _ => 0))), (q_99, .inl (cI, 6, .inl (upd (upd (upd (upd (fun _ => 0) 0 (-1)) 1 (-1)) 2 (-1)) 3 (-1)))), (q_107, .inl (cI, 6, .inl (fun _ => 0))), (q_115, .inl (cI, 6, .inl (fun _ => 0))), (q_123, .inl (cI, 6, .inl (fun _ => 0)))]) hx hb hK hP hD hS 5 0 rfl rfl (vp_in_nI (n := 4) (by omega) (by omega)) (nI_clamp (n := 4) (by omega)) rfl dX1_init_143 (fun H locs hP hD hS => ?_)
  refine lv_aload_n hx hb dX1_init_144 rfl (lv_at hl 1 rfl) ?_
  refine va_get (D := D) (ci := 1) (v := .ref q_83) (C := RX1) (T := TX1) (N := 16) hx hb hts hinX1 hown hK hP 0 rfl rfl 5 (by decide) fl27 (fun _ h9 => h9) rfl dX1_init_145 ?_
  refine lv_iload_n hx hb dX1_init_148 rfl (lv_at hl 0 rfl) ?_
  refine lv_bipush (v := 20) hx hb dX1_init_149 (by decide) ?_
  refine k_iast (k := 4) (ws' := [(o, .inr (1, [.ref q_7, .ref q_15, .ref q_23, .ref q_31, .ref q_75, .ref q_83, .ref q_91, .ref q_99, .ref q_107, .ref q_115, .ref q_123, .null, .int 0, .int 0, .int 0, .int 0])), (q_7, .inl (cI, 6, .inl (upd (upd (upd (upd (upd (upd (fun _ => 0) 0 40) 1 40) 2 40) 3 40) 4 40) 5 40))), (q_15, .inl (cI, 6, .inl (upd (upd (upd (upd (upd (upd (fun _ => 0) 0 3) 1 3) 2 3) 3 3) 4 3) 5 3))), (q_23, .inl (cI, 6, .inl (upd (upd (upd (upd (upd (upd (fun _ => 0) 0 0) 1 1) 2 2) 3 3) 4 4) 5 5))), (q_31, .inl (cI, 6, .inl (fun _ => 0))), (q_75, .inl (cI, 6, .inl (upd (upd (upd (upd (upd (fun _ => 0) 0 60) 1 60) 2 60) 3 60) 4 60))), (q_83, .inl (cI, 6, .inl (upd (upd (upd (upd (upd (fun _ => 0) 0 20) 1 20) 2 20) 3 20) 4 20))), (q_91, .inl (cI, 6, .inl (fun _ => 0))), (q_99, .inl (cI, 6, .inl (upd (upd (upd (upd (fun _ => 0) 0 (-1)) 1 (-1)) 2 (-1)) 3 (-1)))), (q_107, .inl (cI, 6, .inl (fun _ => 0))), (q_115, .inl (cI, 6, .inl (fun _ => 0))), (q_123, .inl (cI, 6, .inl (fun _ => 0)))]) hx hb hK hP hD hS 6 0 rfl rfl (vp_in_nI (n := 4) (by omega) (by omega)) (nI_clamp (n := 4) (by omega)) rfl dX1_init_151 (fun H locs hP hD hS => ?_)
  refine lv_aload_n hx hb dX1_init_152 rfl (lv_at hl 1 rfl) ?_
  refine va_get (D := D) (ci := 1) (v := .ref q_99) (C := RX1) (T := TX1) (N := 16) hx hb hts hinX1 hown hK hP 0 rfl rfl 7 (by decide) fl33 (fun _ h9 => h9) rfl dX1_init_153 ?_
  refine lv_iload_n hx hb dX1_init_156 rfl (lv_at hl 0 rfl) ?_
  refine lv_iconst (v := (-1)) hx hb dX1_init_157 (by decide) ?_
  refine k_iast (k := 4) (ws' := [(o, .inr (1, [.ref q_7, .ref q_15, .ref q_23, .ref q_31, .ref q_75, .ref q_83, .ref q_91, .ref q_99, .ref q_107, .ref q_115, .ref q_123, .null, .int 0, .int 0, .int 0, .int 0])), (q_7, .inl (cI, 6, .inl (upd (upd (upd (upd (upd (upd (fun _ => 0) 0 40) 1 40) 2 40) 3 40) 4 40) 5 40))), (q_15, .inl (cI, 6, .inl (upd (upd (upd (upd (upd (upd (fun _ => 0) 0 3) 1 3) 2 3) 3 3) 4 3) 5 3))), (q_23, .inl (cI, 6, .inl (upd (upd (upd (upd (upd (upd (fun _ => 0) 0 0) 1 1) 2 2) 3 3) 4 4) 5 5))), (q_31, .inl (cI, 6, .inl (fun _ => 0))), (q_75, .inl (cI, 6, .inl (upd (upd (upd (upd (upd (fun _ => 0) 0 60) 1 60) 2 60) 3 60) 4 60))), (q_83, .inl (cI, 6, .inl (upd (upd (upd (upd (upd (fun _ => 0) 0 20) 1 20) 2 20) 3 20) 4 20))), (q_91, .inl (cI, 6, .inl (fun _ => 0))), (q_99, .inl (cI, 6, .inl (upd (upd (upd (upd (upd (fun _ => 0) 0 (-1)) 1 (-1)) 2 (-1)) 3 (-1)) 4 (-1)))), (q_107, .inl (cI, 6, .inl (fun _ => 0))), (q_115, .inl (cI, 6, .inl (fun _ => 0))), (q_123, .inl (cI, 6, .inl (fun _ => 0)))]) hx hb hK hP hD hS 8 0 rfl rfl (vp_in_nI (n := 4) (by omega) (by omega)) (nI_clamp (n := 4) (by omega)) rfl dX1_init_158 (fun H locs hP hD hS => ?_)
  refine lv_iinc (v := 5) (lv' := [(1, .int 5), (0, .ref o)]) hx hb dX1_init_159 hl (k := 0) rfl (by decide) (by decide) rfl (fun ls hl => ?_)
  refine lv_goto (tgt := 130) hx hb dX1_init_162 (by decide) ?_
  refine lv_iload_n hx hb dX1_init_130 rfl (lv_at hl 0 rfl) ?_
  refine lv_bipush (v := 6) hx hb dX1_init_131 (by decide) ?_
  refine lv_icmp_ge (tgt := 165) hx hb dX1_init_133 (by decide) (fun h9 => absurd h9 (by decide)) (fun _ => ?_)
  refine lv_aload_n hx hb dX1_init_136 rfl (lv_at hl 1 rfl) ?_
  refine va_get (D := D) (ci := 1) (v := .ref q_75) (C := RX1) (T := TX1) (N := 16) hx hb hts hinX1 hown hK hP 0 rfl rfl 4 (by decide) fl24 (fun _ h9 => h9) rfl dX1_init_137 ?_
  refine lv_iload_n hx hb dX1_init_140 rfl (lv_at hl 0 rfl) ?_
  refine lv_bipush (v := 60) hx hb dX1_init_141 (by decide) ?_
  refine k_iast (k := 5) (ws' := [(o, .inr (1, [.ref q_7, .ref q_15, .ref q_23, .ref q_31, .ref q_75, .ref q_83, .ref q_91, .ref q_99, .ref q_107, .ref q_115, .ref q_123, .null, .int 0, .int 0, .int 0, .int 0])), (q_7, .inl (cI, 6, .inl (upd (upd (upd (upd (upd (upd (fun _ => 0) 0 40) 1 40) 2 40) 3 40) 4 40) 5 40))), (q_15, .inl (cI, 6, .inl (upd (upd (upd (upd (upd (upd (fun _ => 0) 0 3) 1 3) 2 3) 3 3) 4 3) 5 3))), (q_23, .inl (cI, 6, .inl (upd (upd (upd (upd (upd (upd (fun _ => 0) 0 0) 1 1) 2 2) 3 3) 4 4) 5 5))), (q_31, .inl (cI, 6, .inl (fun _ => 0))), (q_75, .inl (cI, 6, .inl (upd (upd (upd (upd (upd (upd (fun _ => 0) 0 60) 1 60) 2 60) 3 60) 4 60) 5 60))), (q_83, .inl (cI, 6, .inl (upd (upd (upd (upd (upd (fun _ => 0) 0 20) 1 20) 2 20) 3 20) 4 20))), (q_91, .inl (cI, 6, .inl (fun _ => 0))), (q_99, .inl (cI, 6, .inl (upd (upd (upd (upd (upd (fun _ => 0) 0 (-1)) 1 (-1)) 2 (-1)) 3 (-1)) 4 (-1)))), (q_107, .inl (cI, 6, .inl (fun _ => 0))), (q_115, .inl (cI, 6, .inl (fun _ => 0))), (q_123, .inl (cI, 6, .inl (fun _ => 0)))]) hx hb hK hP hD hS 5 0 rfl rfl (vp_in_nI (n := 5) (by omega) (by omega)) (nI_clamp (n := 5) (by omega)) rfl dX1_init_143 (fun H locs hP hD hS => ?_)
  refine lv_aload_n hx hb dX1_init_144 rfl (lv_at hl 1 rfl) ?_
  refine va_get (D := D) (ci := 1) (v := .ref q_83) (C := RX1) (T := TX1) (N := 16) hx hb hts hinX1 hown hK hP 0 rfl rfl 5 (by decide) fl27 (fun _ h9 => h9) rfl dX1_init_145 ?_
  refine lv_iload_n hx hb dX1_init_148 rfl (lv_at hl 0 rfl) ?_
  refine lv_bipush (v := 20) hx hb dX1_init_149 (by decide) ?_
  refine k_iast (k := 5) (ws' := [(o, .inr (1, [.ref q_7, .ref q_15, .ref q_23, .ref q_31, .ref q_75, .ref q_83, .ref q_91, .ref q_99, .ref q_107, .ref q_115, .ref q_123, .null, .int 0, .int 0, .int 0, .int 0])), (q_7, .inl (cI, 6, .inl (upd (upd (upd (upd (upd (upd (fun _ => 0) 0 40) 1 40) 2 40) 3 40) 4 40) 5 40))), (q_15, .inl (cI, 6, .inl (upd (upd (upd (upd (upd (upd (fun _ => 0) 0 3) 1 3) 2 3) 3 3) 4 3) 5 3))), (q_23, .inl (cI, 6, .inl (upd (upd (upd (upd (upd (upd (fun _ => 0) 0 0) 1 1) 2 2) 3 3) 4 4) 5 5))), (q_31, .inl (cI, 6, .inl (fun _ => 0))), (q_75, .inl (cI, 6, .inl (upd (upd (upd (upd (upd (upd (fun _ => 0) 0 60) 1 60) 2 60) 3 60) 4 60) 5 60))), (q_83, .inl (cI, 6, .inl (upd (upd (upd (upd (upd (upd (fun _ => 0) 0 20) 1 20) 2 20) 3 20) 4 20) 5 20))), (q_91, .inl (cI, 6, .inl (fun _ => 0))), (q_99, .inl (cI, 6, .inl (upd (upd (upd (upd (upd (fun _ => 0) 0 (-1)) 1 (-1)) 2 (-1)) 3 (-1)) 4 (-1)))), (q_107, .inl (cI, 6, .inl (fun _ => 0))), (q_115, .inl (cI, 6, .inl (fun _ => 0))), (q_123, .inl (cI, 6, .inl (fun _ => 0)))]) hx hb hK hP hD hS 6 0 rfl rfl (vp_in_nI (n := 5) (by omega) (by omega)) (nI_clamp (n := 5) (by omega)) rfl dX1_init_151 (fun H locs hP hD hS => ?_)
  refine lv_aload_n hx hb dX1_init_152 rfl (lv_at hl 1 rfl) ?_
  refine va_get (D := D) (ci := 1) (v := .ref q_99) (C := RX1) (T := TX1) (N := 16) hx hb hts hinX1 hown hK hP 0 rfl rfl 7 (by decide) fl33 (fun _ h9 => h9) rfl dX1_init_153 ?_
  refine lv_iload_n hx hb dX1_init_156 rfl (lv_at hl 0 rfl) ?_
  refine lv_iconst (v := (-1)) hx hb dX1_init_157 (by decide) ?_
  refine k_iast (k := 5) (ws' := [(o, .inr (1, [.ref q_7, .ref q_15, .ref q_23, .ref q_31, .ref q_75, .ref q_83, .ref q_91, .ref q_99, .ref q_107, .ref q_115, .ref q_123, .null, .int 0, .int 0, .int 0, .int 0])), (q_7, .inl (cI, 6, .inl (upd (upd (upd (upd (upd (upd (fun _ => 0) 0 40) 1 40) 2 40) 3 40) 4 40) 5 40))), (q_15, .inl (cI, 6, .inl (upd (upd (upd (upd (upd (upd (fun _ => 0) 0 3) 1 3) 2 3) 3 3) 4 3) 5 3))), (q_23, .inl (cI, 6, .inl (upd (upd (upd (upd (upd (upd (fun _ => 0) 0 0) 1 1) 2 2) 3 3) 4 4) 5 5))), (q_31, .inl (cI, 6, .inl (fun _ => 0))), (q_75, .inl (cI, 6, .inl (upd (upd (upd (upd (upd (upd (fun _ => 0) 0 60) 1 60) 2 60) 3 60) 4 60) 5 60))), (q_83, .inl (cI, 6, .inl (upd (upd (upd (upd (upd (upd (fun _ => 0) 0 20) 1 20) 2 20) 3 20) 4 20) 5 20))), (q_91, .inl (cI, 6, .inl (fun _ => 0))), (q_99, .inl (cI, 6, .inl (upd (upd (upd (upd (upd (upd (fun _ => 0) 0 (-1)) 1 (-1)) 2 (-1)) 3 (-1)) 4 (-1)) 5 (-1)))), (q_107, .inl (cI, 6, .inl (fun _ => 0))), (q_115, .inl (cI, 6, .inl (fun _ => 0))), (q_123, .inl (cI, 6, .inl (fun _ => 0)))]) hx hb hK hP hD hS 8 0 rfl rfl (vp_in_nI (n := 5) (by omega) (by omega)) (nI_clamp (n := 5) (by omega)) rfl dX1_init_158 (fun H locs hP hD hS => ?_)
  refine lv_iinc (v := 6) (lv' := [(1, .int 6), (0, .ref o)]) hx hb dX1_init_159 hl (k := 0) rfl (by decide) (by decide) rfl (fun ls hl => ?_)
  refine lv_goto (tgt := 130) hx hb dX1_init_162 (by decide) ?_
  refine lv_iload_n hx hb dX1_init_130 rfl (lv_at hl 0 rfl) ?_
  refine lv_bipush (v := 6) hx hb dX1_init_131 (by decide) ?_
  refine lv_icmp_ge (tgt := 165) hx hb dX1_init_133 (by decide) (fun _ => ?_) (fun h9 => absurd (by decide) h9)
  refine lv_aload_n hx hb dX1_init_165 rfl (lv_at hl 1 rfl) ?_
  refine lv_iconst (v := 3) hx hb dX1_init_166 (by decide) ?_
  refine k_newa (N := 3) hx hb (hts (.arrayClass .int) (by decide +kernel)) hK hP hD hS hA 0 rfl (by decide) (by decide) (Nat.le_of_ble_eq_true rfl) (Nat.le_of_ble_eq_true rfl) (Nat.le_of_ble_eq_true rfl) dX1_init_167 (fun q_167 H hP hD hS => ?_)
  have hP : va_P D vwCl ([(o, .inr (1, [.ref q_7, .ref q_15, .ref q_23, .ref q_31, .ref q_75, .ref q_83, .ref q_91, .ref q_99, .ref q_107, .ref q_115, .ref q_123, .null, .int 0, .int 0, .int 0, .int 0])), (q_7, .inl (cI, 6, .inl (upd (upd (upd (upd (upd (upd (fun _ => 0) 0 40) 1 40) 2 40) 3 40) 4 40) 5 40))), (q_15, .inl (cI, 6, .inl (upd (upd (upd (upd (upd (upd (fun _ => 0) 0 3) 1 3) 2 3) 3 3) 4 3) 5 3))), (q_23, .inl (cI, 6, .inl (upd (upd (upd (upd (upd (upd (fun _ => 0) 0 0) 1 1) 2 2) 3 3) 4 4) 5 5))), (q_31, .inl (cI, 6, .inl (fun _ => 0))), (q_75, .inl (cI, 6, .inl (upd (upd (upd (upd (upd (upd (fun _ => 0) 0 60) 1 60) 2 60) 3 60) 4 60) 5 60))), (q_83, .inl (cI, 6, .inl (upd (upd (upd (upd (upd (upd (fun _ => 0) 0 20) 1 20) 2 20) 3 20) 4 20) 5 20))), (q_91, .inl (cI, 6, .inl (fun _ => 0))), (q_99, .inl (cI, 6, .inl (upd (upd (upd (upd (upd (upd (fun _ => 0) 0 (-1)) 1 (-1)) 2 (-1)) 3 (-1)) 4 (-1)) 5 (-1)))), (q_107, .inl (cI, 6, .inl (fun _ => 0))), (q_115, .inl (cI, 6, .inl (fun _ => 0))), (q_123, .inl (cI, 6, .inl (fun _ => 0))), (q_167, .inl (cI, 3, .inl (fun _ => 0)))]) H := hP
  have hD : va_D A ([(o, .inr (1, [.ref q_7, .ref q_15, .ref q_23, .ref q_31, .ref q_75, .ref q_83, .ref q_91, .ref q_99, .ref q_107, .ref q_115, .ref q_123, .null, .int 0, .int 0, .int 0, .int 0])), (q_7, .inl (cI, 6, .inl (upd (upd (upd (upd (upd (upd (fun _ => 0) 0 40) 1 40) 2 40) 3 40) 4 40) 5 40))), (q_15, .inl (cI, 6, .inl (upd (upd (upd (upd (upd (upd (fun _ => 0) 0 3) 1 3) 2 3) 3 3) 4 3) 5 3))), (q_23, .inl (cI, 6, .inl (upd (upd (upd (upd (upd (upd (fun _ => 0) 0 0) 1 1) 2 2) 3 3) 4 4) 5 5))), (q_31, .inl (cI, 6, .inl (fun _ => 0))), (q_75, .inl (cI, 6, .inl (upd (upd (upd (upd (upd (upd (fun _ => 0) 0 60) 1 60) 2 60) 3 60) 4 60) 5 60))), (q_83, .inl (cI, 6, .inl (upd (upd (upd (upd (upd (upd (fun _ => 0) 0 20) 1 20) 2 20) 3 20) 4 20) 5 20))), (q_91, .inl (cI, 6, .inl (fun _ => 0))), (q_99, .inl (cI, 6, .inl (upd (upd (upd (upd (upd (upd (fun _ => 0) 0 (-1)) 1 (-1)) 2 (-1)) 3 (-1)) 4 (-1)) 5 (-1)))), (q_107, .inl (cI, 6, .inl (fun _ => 0))), (q_115, .inl (cI, 6, .inl (fun _ => 0))), (q_123, .inl (cI, 6, .inl (fun _ => 0))), (q_167, .inl (cI, 3, .inl (fun _ => 0)))]) := hD
  refine k_putF (D := D) (ci := 1) (v := .ref q_167) (ty := .array .int) (C := RX1) (T := TX1) (N := 16) hx hb hts hinX1 tyX1 tyX1_ok nmX1 hown hK hP hD hS 0 rfl rfl 11 (by decide) fl45 (fun _ h9 => h9) rfl hin rfl (by decide +kernel) rfl rfl (Nat.le_of_ble_eq_true rfl) (ws' := [(o, .inr (1, [.ref q_7, .ref q_15, .ref q_23, .ref q_31, .ref q_75, .ref q_83, .ref q_91, .ref q_99, .ref q_107, .ref q_115, .ref q_123, .ref q_167, .int 0, .int 0, .int 0, .int 0])), (q_7, .inl (cI, 6, .inl (upd (upd (upd (upd (upd (upd (fun _ => 0) 0 40) 1 40) 2 40) 3 40) 4 40) 5 40))), (q_15, .inl (cI, 6, .inl (upd (upd (upd (upd (upd (upd (fun _ => 0) 0 3) 1 3) 2 3) 3 3) 4 3) 5 3))), (q_23, .inl (cI, 6, .inl (upd (upd (upd (upd (upd (upd (fun _ => 0) 0 0) 1 1) 2 2) 3 3) 4 4) 5 5))), (q_31, .inl (cI, 6, .inl (fun _ => 0))), (q_75, .inl (cI, 6, .inl (upd (upd (upd (upd (upd (upd (fun _ => 0) 0 60) 1 60) 2 60) 3 60) 4 60) 5 60))), (q_83, .inl (cI, 6, .inl (upd (upd (upd (upd (upd (upd (fun _ => 0) 0 20) 1 20) 2 20) 3 20) 4 20) 5 20))), (q_91, .inl (cI, 6, .inl (fun _ => 0))), (q_99, .inl (cI, 6, .inl (upd (upd (upd (upd (upd (upd (fun _ => 0) 0 (-1)) 1 (-1)) 2 (-1)) 3 (-1)) 4 (-1)) 5 (-1)))), (q_107, .inl (cI, 6, .inl (fun _ => 0))), (q_115, .inl (cI, 6, .inl (fun _ => 0))), (q_123, .inl (cI, 6, .inl (fun _ => 0))), (q_167, .inl (cI, 3, .inl (fun _ => 0)))]) rfl dX1_init_169 (fun H locs hP hD hS => ?_)
  refine lv_aload_n hx hb dX1_init_172 rfl (lv_at hl 1 rfl) ?_
  refine va_get (D := D) (ci := 1) (v := .ref q_167) (C := RX1) (T := TX1) (N := 16) hx hb hts hinX1 hown hK hP 0 rfl rfl 11 (by decide) fl45 (fun _ h9 => h9) rfl dX1_init_173 ?_
  refine lv_iconst (v := 0) hx hb dX1_init_176 (by decide) ?_
  refine lv_bipush (v := 100) hx hb dX1_init_177 (by decide) ?_
  refine k_iast (k := 0) (ws' := [(o, .inr (1, [.ref q_7, .ref q_15, .ref q_23, .ref q_31, .ref q_75, .ref q_83, .ref q_91, .ref q_99, .ref q_107, .ref q_115, .ref q_123, .ref q_167, .int 0, .int 0, .int 0, .int 0])), (q_7, .inl (cI, 6, .inl (upd (upd (upd (upd (upd (upd (fun _ => 0) 0 40) 1 40) 2 40) 3 40) 4 40) 5 40))), (q_15, .inl (cI, 6, .inl (upd (upd (upd (upd (upd (upd (fun _ => 0) 0 3) 1 3) 2 3) 3 3) 4 3) 5 3))), (q_23, .inl (cI, 6, .inl (upd (upd (upd (upd (upd (upd (fun _ => 0) 0 0) 1 1) 2 2) 3 3) 4 4) 5 5))), (q_31, .inl (cI, 6, .inl (fun _ => 0))), (q_75, .inl (cI, 6, .inl (upd (upd (upd (upd (upd (upd (fun _ => 0) 0 60) 1 60) 2 60) 3 60) 4 60) 5 60))), (q_83, .inl (cI, 6, .inl (upd (upd (upd (upd (upd (upd (fun _ => 0) 0 20) 1 20) 2 20) 3 20) 4 20) 5 20))), (q_91, .inl (cI, 6, .inl (fun _ => 0))), (q_99, .inl (cI, 6, .inl (upd (upd (upd (upd (upd (upd (fun _ => 0) 0 (-1)) 1 (-1)) 2 (-1)) 3 (-1)) 4 (-1)) 5 (-1)))), (q_107, .inl (cI, 6, .inl (fun _ => 0))), (q_115, .inl (cI, 6, .inl (fun _ => 0))), (q_123, .inl (cI, 6, .inl (fun _ => 0))), (q_167, .inl (cI, 3, .inl (upd (fun _ => 0) 0 100)))]) hx hb hK hP hD hS 12 0 rfl rfl (vp_in_nI (n := 0) (by omega) (by omega)) (nI_clamp (n := 0) (by omega)) rfl dX1_init_179 (fun H locs hP hD hS => ?_)
  refine lv_aload_n hx hb dX1_init_180 rfl (lv_at hl 1 rfl) ?_
  refine va_get (D := D) (ci := 1) (v := .ref q_167) (C := RX1) (T := TX1) (N := 16) hx hb hts hinX1 hown hK hP 0 rfl rfl 11 (by decide) fl45 (fun _ h9 => h9) rfl dX1_init_181 ?_
  refine lv_iconst (v := 1) hx hb dX1_init_184 (by decide) ?_
  refine lv_iconst (v := 4) hx hb dX1_init_185 (by decide) ?_
  refine k_iast (k := 1) (ws' := [(o, .inr (1, [.ref q_7, .ref q_15, .ref q_23, .ref q_31, .ref q_75, .ref q_83, .ref q_91, .ref q_99, .ref q_107, .ref q_115, .ref q_123, .ref q_167, .int 0, .int 0, .int 0, .int 0])), (q_7, .inl (cI, 6, .inl (upd (upd (upd (upd (upd (upd (fun _ => 0) 0 40) 1 40) 2 40) 3 40) 4 40) 5 40))), (q_15, .inl (cI, 6, .inl (upd (upd (upd (upd (upd (upd (fun _ => 0) 0 3) 1 3) 2 3) 3 3) 4 3) 5 3))), (q_23, .inl (cI, 6, .inl (upd (upd (upd (upd (upd (upd (fun _ => 0) 0 0) 1 1) 2 2) 3 3) 4 4) 5 5))), (q_31, .inl (cI, 6, .inl (fun _ => 0))), (q_75, .inl (cI, 6, .inl (upd (upd (upd (upd (upd (upd (fun _ => 0) 0 60) 1 60) 2 60) 3 60) 4 60) 5 60))), (q_83, .inl (cI, 6, .inl (upd (upd (upd (upd (upd (upd (fun _ => 0) 0 20) 1 20) 2 20) 3 20) 4 20) 5 20))), (q_91, .inl (cI, 6, .inl (fun _ => 0))), (q_99, .inl (cI, 6, .inl (upd (upd (upd (upd (upd (upd (fun _ => 0) 0 (-1)) 1 (-1)) 2 (-1)) 3 (-1)) 4 (-1)) 5 (-1)))), (q_107, .inl (cI, 6, .inl (fun _ => 0))), (q_115, .inl (cI, 6, .inl (fun _ => 0))), (q_123, .inl (cI, 6, .inl (fun _ => 0))), (q_167, .inl (cI, 3, .inl (upd (upd (fun _ => 0) 0 100) 1 4)))]) hx hb hK hP hD hS 12 0 rfl rfl (vp_in_nI (n := 1) (by omega) (by omega)) (nI_clamp (n := 1) (by omega)) rfl dX1_init_186 (fun H locs hP hD hS => ?_)
  refine lv_aload_n hx hb dX1_init_187 rfl (lv_at hl 1 rfl) ?_
  refine va_get (D := D) (ci := 1) (v := .ref q_167) (C := RX1) (T := TX1) (N := 16) hx hb hts hinX1 hown hK hP 0 rfl rfl 11 (by decide) fl45 (fun _ h9 => h9) rfl dX1_init_188 ?_
  refine lv_iconst (v := 2) hx hb dX1_init_191 (by decide) ?_
  refine lv_bipush (v := 20) hx hb dX1_init_192 (by decide) ?_
  refine k_iast (k := 2) (ws' := [(o, .inr (1, [.ref q_7, .ref q_15, .ref q_23, .ref q_31, .ref q_75, .ref q_83, .ref q_91, .ref q_99, .ref q_107, .ref q_115, .ref q_123, .ref q_167, .int 0, .int 0, .int 0, .int 0])), (q_7, .inl (cI, 6, .inl (upd (upd (upd (upd (upd (upd (fun _ => 0) 0 40) 1 40) 2 40) 3 40) 4 40) 5 40))), (q_15, .inl (cI, 6, .inl (upd (upd (upd (upd (upd (upd (fun _ => 0) 0 3) 1 3) 2 3) 3 3) 4 3) 5 3))), (q_23, .inl (cI, 6, .inl (upd (upd (upd (upd (upd (upd (fun _ => 0) 0 0) 1 1) 2 2) 3 3) 4 4) 5 5))), (q_31, .inl (cI, 6, .inl (fun _ => 0))), (q_75, .inl (cI, 6, .inl (upd (upd (upd (upd (upd (upd (fun _ => 0) 0 60) 1 60) 2 60) 3 60) 4 60) 5 60))), (q_83, .inl (cI, 6, .inl (upd (upd (upd (upd (upd (upd (fun _ => 0) 0 20) 1 20) 2 20) 3 20) 4 20) 5 20))), (q_91, .inl (cI, 6, .inl (fun _ => 0))), (q_99, .inl (cI, 6, .inl (upd (upd (upd (upd (upd (upd (fun _ => 0) 0 (-1)) 1 (-1)) 2 (-1)) 3 (-1)) 4 (-1)) 5 (-1)))), (q_107, .inl (cI, 6, .inl (fun _ => 0))), (q_115, .inl (cI, 6, .inl (fun _ => 0))), (q_123, .inl (cI, 6, .inl (fun _ => 0))), (q_167, .inl (cI, 3, .inl (upd (upd (upd (fun _ => 0) 0 100) 1 4) 2 20)))]) hx hb hK hP hD hS 12 0 rfl rfl (vp_in_nI (n := 2) (by omega) (by omega)) (nI_clamp (n := 2) (by omega)) rfl dX1_init_194 (fun H locs hP hD hS => ?_)
  refine W.widen (k := 12) (n := 69) (Nat.le_of_ble_eq_true rfl) (Nat.le_of_ble_eq_true rfl) ?_
  have hP : va_P D vwCl ((fun (u : Nat → Nat) => cR cI (adF o u) rB0) (fun k => [q_7, q_15, q_23, q_31, q_75, q_83, q_91, q_99, q_107, q_115, q_123, q_167].getD k 0)) H := hP
  have hD : va_D A ((fun (u : Nat → Nat) => cR cI (adF o u) rB0) (fun k => [q_7, q_15, q_23, q_31, q_75, q_83, q_91, q_99, q_107, q_115, q_123, q_167].getD k 0)) := hD
  exact k_vretN (w' := fun (u : Nat → Nat) => cR cI (adF o u) rB0) (fun k => [q_7, q_15, q_23, q_31, q_75, q_83, q_91, q_99, q_107, q_115, q_123, q_167].getD k 0) hx hb hr hlocks hS hP hD dX1_init_195
set_option maxHeartbeats 4000000 in
set_option maxRecDepth 100000 in
theorem mX0_init (l : Launch) (D : va_G) (cI cQ cJ : ClassId) (o : Nat) (sz : Nat) : Met l yX0_init wsX0_init ({ frames := 1, cells := 1, slots := 60, locals := 40 } : Room) (va_Pc [.ref o] (Prx D (tY cI cQ cJ) sz [(o, .inr (0, [.null, .int 0]))])) (va_Qv (fun (_ : Nat) => True) (fun u t => Wd D (cT cI (adF o (fun _ => u)) tB0) t ∧ va_D (va_A [(o, .inr (0, [.null, .int 0]))] sz) (cT cI (adF o (fun _ => u)) tB0)) (va_A [(o, .inr (0, [.null, .int 0]))] sz)) 1 60 (va_A [(o, .inr (0, [.null, .int 0]))] sz) := by
  refine N_of (cc := cX0_init) (maxL := 1) (ret := none) (Qc := fun A => va_Qv (fun (_ : Nat) => True) (fun u t => Wd D (cT cI (adF o (fun _ => u)) tB0) t ∧ va_D A (cT cI (adF o (fun _ => u)) tB0)) A) (by decide) rfl (Nat.le_of_ble_eq_true rfl) ?_ sz
  intro p e s m below meth c A ls hB hnm hE hP hK hD hA hl
  obtain ⟨hx, hb, hr, hml, hts, hown, hlocks⟩ := hB
  have hin : meth.name = "<init>" := hnm
  have hS : va_S A s.heap s.heap [] := va_S.rf
  have hl : lv_has ls 1 [(0, .ref o)] := hl
  have hinX0 : ∀ w ∈ u_ws RX0 TX0 2, w ∈ wsX0_init := by decide +kernel
  have fl9 := hts (.fieldLink RX0 9 "RoofDrains$RainText" "codes" "[I") (by decide +kernel)
  refine lv_aload_n hx hb dX0_init_0 rfl (lv_at hl 0 rfl) ?_
  refine W.objInit hx hb hown (hts (.methodLink RX0 1 objectInit) (by decide +kernel)) (hts (.instanceMethod objectInit) (by decide +kernel)) (hts (.code objectInit ⟨#[0xb1]⟩ 1 none) (by decide +kernel)) rfl (by rw [hml]; exact hl.1) rfl dX0_init_1 (Nat.le_of_ble_eq_true rfl) (Nat.le_of_ble_eq_true rfl) ?_
  refine W.eq (g2 := F0 m 4 ls []) rfl ?_
  refine lv_aload_n hx hb dX0_init_4 rfl (lv_at hl 0 rfl) ?_
  refine lv_bipush (v := 60) hx hb dX0_init_5 (by decide) ?_
  refine k_newa (N := 60) hx hb (hts (.arrayClass .int) (by decide +kernel)) hK hP hD hS hA 0 rfl (by decide) (by decide) (Nat.le_of_ble_eq_true rfl) (Nat.le_of_ble_eq_true rfl) (Nat.le_of_ble_eq_true rfl) dX0_init_7 (fun q_7 H hP hD hS => ?_)
  have hP : va_P D vwCl ([(o, .inr (0, [.null, .int 0])), (q_7, .inl (cI, 60, .inl (fun _ => 0)))]) H := hP
  have hD : va_D A ([(o, .inr (0, [.null, .int 0])), (q_7, .inl (cI, 60, .inl (fun _ => 0)))]) := hD
  refine k_putF (D := D) (ci := 0) (v := .ref q_7) (ty := .array .int) (C := RX0) (T := TX0) (N := 2) hx hb hts hinX0 tyX0 tyX0_ok nmX0 hown hK hP hD hS 0 rfl rfl 0 (by decide) fl9 (fun _ h9 => h9) rfl hin rfl (by decide +kernel) rfl rfl (Nat.le_of_ble_eq_true rfl) (ws' := [(o, .inr (0, [.ref q_7, .int 0])), (q_7, .inl (cI, 60, .inl (fun _ => 0)))]) rfl dX0_init_9 (fun H locs hP hD hS => ?_)
  refine W.widen (k := 1) (n := 60) (Nat.le_of_ble_eq_true rfl) (Nat.le_of_ble_eq_true rfl) ?_
  have hP : va_P D vwCl ((fun (u : Nat) => cT cI (adF o (fun _ => u)) tB0) (q_7)) H := hP
  have hD : va_D A ((fun (u : Nat) => cT cI (adF o (fun _ => u)) tB0) (q_7)) := hD
  exact k_vretN (w' := fun (u : Nat) => cT cI (adF o (fun _ => u)) tB0) (q_7) hx hb hr hlocks hS hP hD dX0_init_12
set_option maxHeartbeats 4000000 in
set_option maxRecDepth 100000 in
theorem mX2_init (l : Launch) (D : va_G) (cI cQ cJ : ClassId) (o : Nat) (sz : Nat) : Met l yX2_init wsX2_init ({ frames := 1, cells := 1, slots := 6, locals := 40 } : Room) (va_Pc [.ref o] (Pry D (tY cI cQ cJ) sz [(o, .inr (2, [.null, .int 0, .int 0]))])) (va_Qv (fun (_ : Nat) => True) (fun u t => Wd D (cS cQ o u (fun _ => none) 0 0) t ∧ va_D (va_A [(o, .inr (2, [.null, .int 0, .int 0]))] sz) (cS cQ o u (fun _ => none) 0 0)) (va_A [(o, .inr (2, [.null, .int 0, .int 0]))] sz)) 1 6 (va_A [(o, .inr (2, [.null, .int 0, .int 0]))] sz) := by
  refine Y_of (cc := cX2_init) (maxL := 1) (ret := none) (Qc := fun A => va_Qv (fun (_ : Nat) => True) (fun u t => Wd D (cS cQ o u (fun _ => none) 0 0) t ∧ va_D A (cS cQ o u (fun _ => none) 0 0)) A) (by decide) rfl (Nat.le_of_ble_eq_true rfl) ?_ sz
  intro p e s m below meth c A ls hB hnm hE hX hP hK hD hA hl
  obtain ⟨hx, hb, hr, hml, hts, hown, hlocks⟩ := hB
  have hin : meth.name = "<init>" := hnm
  have hS : va_S A s.heap s.heap [] := va_S.rf
  have hl : lv_has ls 1 [(0, .ref o)] := hl
  have hinX2 : ∀ w ∈ u_ws RX2 TX2 3, w ∈ wsX2_init := by decide +kernel
  have fl11 := hts (.fieldLink RX2 11 "RoofDrains$SavedRoofs" "rows" "[LRoofDrains$Roof;") (by decide +kernel)
  refine lv_aload_n hx hb dX2_init_0 rfl (lv_at hl 0 rfl) ?_
  refine W.objInit hx hb hown (hts (.methodLink RX2 1 objectInit) (by decide +kernel)) (hts (.instanceMethod objectInit) (by decide +kernel)) (hts (.code objectInit ⟨#[0xb1]⟩ 1 none) (by decide +kernel)) rfl (by rw [hml]; exact hl.1) rfl dX2_init_1 (Nat.le_of_ble_eq_true rfl) (Nat.le_of_ble_eq_true rfl) ?_
  refine W.eq (g2 := F0 m 4 ls []) rfl ?_
  refine lv_aload_n hx hb dX2_init_4 rfl (lv_at hl 0 rfl) ?_
  refine lv_bipush (v := 6) hx hb dX2_init_5 (by decide) ?_
  refine k_newq (N := 6) (C := RX1) hx hb hown (hts (.classLink RX2 9 RX1) (by decide +kernel)) hX.2.2.2.2.2.2.1 hK hP hD hS hA 1 rfl (by decide) (by decide) (Nat.le_of_ble_eq_true rfl) (Nat.le_of_ble_eq_true rfl) (Nat.le_of_ble_eq_true rfl) dX2_init_7 (fun q_7 H hP hD hS => ?_)
  have hP : va_P D vwCl ([(o, .inr (2, [.null, .int 0, .int 0])), (q_7, .inl (cQ, 6, .inr (.inr (.inr (.inr (fun _ => none))))))]) H := hP
  have hD : va_D A ([(o, .inr (2, [.null, .int 0, .int 0])), (q_7, .inl (cQ, 6, .inr (.inr (.inr (.inr (fun _ => none))))))]) := hD
  refine k_putF (D := D) (ci := 2) (v := .ref q_7) (ty := .array (.object "RoofDrains$Roof")) (C := RX2) (T := TX2) (N := 3) hx hb hts hinX2 tyX2 tyX2_ok nmX2 hown hK hP hD hS 0 rfl rfl 0 (by decide) fl11 (fun _ h9 => h9) rfl hin rfl (by decide +kernel) rfl rfl (Nat.le_of_ble_eq_true rfl) (ws' := [(o, .inr (2, [.ref q_7, .int 0, .int 0])), (q_7, .inl (cQ, 6, .inr (.inr (.inr (.inr (fun _ => none))))))]) rfl dX2_init_10 (fun H locs hP hD hS => ?_)
  refine W.widen (k := 1) (n := 6) (Nat.le_of_ble_eq_true rfl) (Nat.le_of_ble_eq_true rfl) ?_
  have hP : va_P D vwCl ((fun (u : Nat) => cS cQ o u (fun _ => none) 0 0) (q_7)) H := hP
  have hD : va_D A ((fun (u : Nat) => cS cQ o u (fun _ => none) 0 0) (q_7)) := hD
  exact k_vretN (w' := fun (u : Nat) => cS cQ o u (fun _ => none) 0 0) (q_7) hx hb hr hlocks hS hP hD dX2_init_13
set_option maxHeartbeats 4000000 in
set_option maxRecDepth 100000 in
theorem mX3_init (l : Launch) (D : va_G) (cI cQ cJ : ClassId) (o : Nat) (sz : Nat) : Met l yX3_init wsX3_init ({ frames := 2, cells := 30, slots := 241, locals := 69 } : Room) (va_Pc [.ref o] (Pry D (tY cI cQ cJ) sz [(o, .inr (3, [.null, .null, .null, .null]))])) (va_Qv (fun (_ : (Nat → Nat) × (Nat → Nat) × Nat × Nat × (Nat → Nat)) => True) (fun u t => Wd D (WX cI cQ o u.2.2.1 u.2.2.2.1 u.2.2.2.2 u.1 u.2.1 (fun _ _ => 0) rB0 rB0 tB0 0 (fun _ => none) 0 0 (fun _ => tB0)) t ∧ va_D (va_A [(o, .inr (3, [.null, .null, .null, .null]))] sz) (WX cI cQ o u.2.2.1 u.2.2.2.1 u.2.2.2.2 u.1 u.2.1 (fun _ _ => 0) rB0 rB0 tB0 0 (fun _ => none) 0 0 (fun _ => tB0))) (va_A [(o, .inr (3, [.null, .null, .null, .null]))] sz)) 30 241 (va_A [(o, .inr (3, [.null, .null, .null, .null]))] sz) := by
  refine Y_of (cc := cX3_init) (maxL := 1) (ret := none) (Qc := fun A => va_Qv (fun (_ : (Nat → Nat) × (Nat → Nat) × Nat × Nat × (Nat → Nat)) => True) (fun u t => Wd D (WX cI cQ o u.2.2.1 u.2.2.2.1 u.2.2.2.2 u.1 u.2.1 (fun _ _ => 0) rB0 rB0 tB0 0 (fun _ => none) 0 0 (fun _ => tB0)) t ∧ va_D A (WX cI cQ o u.2.2.1 u.2.2.2.1 u.2.2.2.2 u.1 u.2.1 (fun _ _ => 0) rB0 rB0 tB0 0 (fun _ => none) 0 0 (fun _ => tB0))) A) (by decide) rfl (Nat.le_of_ble_eq_true rfl) ?_ sz
  intro p e s m below meth c A ls hB hnm hE hX hP hK hD hA hl
  obtain ⟨hx, hb, hr, hml, hts, hown, hlocks⟩ := hB
  have hin : meth.name = "<init>" := hnm
  have hS : va_S A s.heap s.heap [] := va_S.rf
  have hl : lv_has ls 1 [(0, .ref o)] := hl
  have hinX1 : ∀ w ∈ u_ws RX1 TX1 16, w ∈ wsX3_init := by decide +kernel
  have hinX3 : ∀ w ∈ u_ws RX3 TX3 4, w ∈ wsX3_init := by decide +kernel
  have fl10 := hts (.fieldLink RX3 10 "RoofDrains" "roof" "LRoofDrains$Roof;") (by decide +kernel)
  have fl16 := hts (.fieldLink RX3 16 "RoofDrains" "thought" "LRoofDrains$Roof;") (by decide +kernel)
  have hinX2 : ∀ w ∈ u_ws RX2 TX2 3, w ∈ wsX3_init := by decide +kernel
  have fl22 := hts (.fieldLink RX3 22 "RoofDrains" "saved" "LRoofDrains$SavedRoofs;") (by decide +kernel)
  have hinX0 : ∀ w ∈ u_ws RX0 TX0 2, w ∈ wsX3_init := by decide +kernel
  have fl29 := hts (.fieldLink RX3 29 "RoofDrains" "text" "LRoofDrains$RainText;") (by decide +kernel)
  refine lv_aload_n hx hb dX3_init_0 rfl (lv_at hl 0 rfl) ?_
  refine W.objInit hx hb hown (hts (.methodLink RX3 1 objectInit) (by decide +kernel)) (hts (.instanceMethod objectInit) (by decide +kernel)) (hts (.code objectInit ⟨#[0xb1]⟩ 1 none) (by decide +kernel)) rfl (by rw [hml]; exact hl.1) rfl dX3_init_1 (Nat.le_of_ble_eq_true rfl) (Nat.le_of_ble_eq_true rfl) ?_
  refine W.eq (g2 := F0 m 4 ls []) rfl ?_
  refine lv_aload_n hx hb dX3_init_4 rfl (lv_at hl 0 rfl) ?_
  refine va_new (D := D) (ci := 1) (fs := [.null, .null, .null, .null, .null, .null, .null, .null, .null, .null, .null, .null, .int 0, .int 0, .int 0, .int 0]) (C := RX1) (T := TX1) (N := 16) hx hb hts hinX1 tyX1 tyX1_ok hown (hts (.classLink RX3 7 RX1) (by decide +kernel)) (hts (.instantiable RX1 16) (by decide +kernel)) (hts (.initialized RX1) (by decide +kernel)) hK hP hD hS hA rfl (fun j hj => by rcases (show j = 0 ∨ j = 1 ∨ j = 2 ∨ j = 3 ∨ j = 4 ∨ j = 5 ∨ j = 6 ∨ j = 7 ∨ j = 8 ∨ j = 9 ∨ j = 10 ∨ j = 11 ∨ j = 12 ∨ j = 13 ∨ j = 14 ∨ j = 15 by omega) with rfl | rfl | rfl | rfl | rfl | rfl | rfl | rfl | rfl | rfl | rfl | rfl | rfl | rfl | rfl | rfl <;> rfl) (Nat.le_of_ble_eq_true rfl) (Nat.le_of_ble_eq_true rfl) dX3_init_5 (fun q_5 H hP hD hS => ?_)
  refine lv_dup hx hb dX3_init_8 rfl ?_
  refine k_calln (wr := [(o, .inr (3, [.null, .null, .null, .null]))]) (wc := [(q_5, .inr (1, [.null, .null, .null, .null, .null, .null, .null, .null, .null, .null, .null, .null, .int 0, .int 0, .int 0, .int 0]))]) (w' := fun u_9 => cR cI (adF q_5 u_9) rB0) (va_runI (As := []) (rest := [.ref q_5, .ref o]) ⟨hx, hb, hml, hown, hts⟩ (mX1_init l D cI cQ cJ q_5 _) (cwI 0 hts gX3_init_X1_init rfl rfl rfl (hts (.initialized RX1) (by decide +kernel)) (hts (.methodLink RX3 9 yX1_init) (by decide +kernel)) (hts (.instanceMethod yX1_init) (by decide +kernel)) rfl (by decide +kernel) ⟨Nat.le_of_ble_eq_true rfl, Nat.le_of_ble_eq_true rfl⟩) (k_preR (wr := [(o, .inr (3, [.null, .null, .null, .null]))]) (wc := [(q_5, .inr (1, [.null, .null, .null, .null, .null, .null, .null, .null, .null, .null, .null, .null, .int 0, .int 0, .int 0, .int 0]))]) hE hK hP hD [.ref q_5]) rfl rfl hl.1 rfl (lv_room (Nat.le_of_ble_eq_true rfl)) dX3_init_9 ⟨Nat.le_of_ble_eq_true rfl, Nat.le_of_ble_eq_true rfl⟩) hP hD hS hA (fun u_9 H locs hP hD hS => ?_)
  have hP : va_P D vwCl ([(o, .inr (3, [.null, .null, .null, .null]))] ++ (cR cI (adF q_5 u_9) rB0)) H := hP
  have hD : va_D A ([(o, .inr (3, [.null, .null, .null, .null]))] ++ (cR cI (adF q_5 u_9) rB0)) := hD
  refine k_putF (D := D) (ci := 3) (v := .ref q_5) (ty := .object "RoofDrains$Roof") (C := RX3) (T := TX3) (N := 4) hx hb hts hinX3 tyX3 tyX3_ok nmX3 hown hK hP hD hS 0 rfl rfl 0 (by decide) fl10 (fun _ h9 => h9) rfl hin rfl (by decide +kernel) rfl rfl (Nat.le_of_ble_eq_true rfl) (ws' := [(o, .inr (3, [.ref q_5, .null, .null, .null]))] ++ (cR cI (adF q_5 u_9) rB0)) rfl dX3_init_12 (fun H locs hP hD hS => ?_)
  refine lv_aload_n hx hb dX3_init_15 rfl (lv_at hl 0 rfl) ?_
  refine va_new (D := D) (ci := 1) (fs := [.null, .null, .null, .null, .null, .null, .null, .null, .null, .null, .null, .null, .int 0, .int 0, .int 0, .int 0]) (C := RX1) (T := TX1) (N := 16) hx hb hts hinX1 tyX1 tyX1_ok hown (hts (.classLink RX3 7 RX1) (by decide +kernel)) (hts (.instantiable RX1 16) (by decide +kernel)) (hts (.initialized RX1) (by decide +kernel)) hK hP hD hS hA rfl (fun j hj => by rcases (show j = 0 ∨ j = 1 ∨ j = 2 ∨ j = 3 ∨ j = 4 ∨ j = 5 ∨ j = 6 ∨ j = 7 ∨ j = 8 ∨ j = 9 ∨ j = 10 ∨ j = 11 ∨ j = 12 ∨ j = 13 ∨ j = 14 ∨ j = 15 by omega) with rfl | rfl | rfl | rfl | rfl | rfl | rfl | rfl | rfl | rfl | rfl | rfl | rfl | rfl | rfl | rfl <;> rfl) (Nat.le_of_ble_eq_true rfl) (Nat.le_of_ble_eq_true rfl) dX3_init_16 (fun q_16 H hP hD hS => ?_)
  refine lv_dup hx hb dX3_init_19 rfl ?_
  refine k_calln (wr := [(o, .inr (3, [.ref q_5, .null, .null, .null]))] ++ (cR cI (adF q_5 u_9) rB0)) (wc := [(q_16, .inr (1, [.null, .null, .null, .null, .null, .null, .null, .null, .null, .null, .null, .null, .int 0, .int 0, .int 0, .int 0]))]) (w' := fun u_20 => cR cI (adF q_16 u_20) rB0) (va_runI (As := []) (rest := [.ref q_16, .ref o]) ⟨hx, hb, hml, hown, hts⟩ (mX1_init l D cI cQ cJ q_16 _) (cwI 0 hts gX3_init_X1_init rfl rfl rfl (hts (.initialized RX1) (by decide +kernel)) (hts (.methodLink RX3 9 yX1_init) (by decide +kernel)) (hts (.instanceMethod yX1_init) (by decide +kernel)) rfl (by decide +kernel) ⟨Nat.le_of_ble_eq_true rfl, Nat.le_of_ble_eq_true rfl⟩) (k_preR (wr := [(o, .inr (3, [.ref q_5, .null, .null, .null]))] ++ (cR cI (adF q_5 u_9) rB0)) (wc := [(q_16, .inr (1, [.null, .null, .null, .null, .null, .null, .null, .null, .null, .null, .null, .null, .int 0, .int 0, .int 0, .int 0]))]) hE hK hP hD [.ref q_16]) rfl rfl hl.1 rfl (lv_room (Nat.le_of_ble_eq_true rfl)) dX3_init_20 ⟨Nat.le_of_ble_eq_true rfl, Nat.le_of_ble_eq_true rfl⟩) hP hD hS hA (fun u_20 H locs hP hD hS => ?_)
  have hP : va_P D vwCl ([(o, .inr (3, [.ref q_5, .null, .null, .null]))] ++ (cR cI (adF q_5 u_9) rB0) ++ (cR cI (adF q_16 u_20) rB0)) H := hP
  have hD : va_D A ([(o, .inr (3, [.ref q_5, .null, .null, .null]))] ++ (cR cI (adF q_5 u_9) rB0) ++ (cR cI (adF q_16 u_20) rB0)) := hD
  refine k_putF (D := D) (ci := 3) (v := .ref q_16) (ty := .object "RoofDrains$Roof") (C := RX3) (T := TX3) (N := 4) hx hb hts hinX3 tyX3 tyX3_ok nmX3 hown hK hP hD hS 0 rfl rfl 1 (by decide) fl16 (fun _ h9 => h9) rfl hin rfl (by decide +kernel) rfl rfl (Nat.le_of_ble_eq_true rfl) (ws' := [(o, .inr (3, [.ref q_5, .ref q_16, .null, .null]))] ++ (cR cI (adF q_5 u_9) rB0) ++ (cR cI (adF q_16 u_20) rB0)) rfl dX3_init_23 (fun H locs hP hD hS => ?_)
  refine lv_aload_n hx hb dX3_init_26 rfl (lv_at hl 0 rfl) ?_
  refine va_new (D := D) (ci := 2) (fs := [.null, .int 0, .int 0]) (C := RX2) (T := TX2) (N := 3) hx hb hts hinX2 tyX2 tyX2_ok hown (hts (.classLink RX3 19 RX2) (by decide +kernel)) (hts (.instantiable RX2 3) (by decide +kernel)) (hts (.initialized RX2) (by decide +kernel)) hK hP hD hS hA rfl (fun j hj => by rcases (show j = 0 ∨ j = 1 ∨ j = 2 by omega) with rfl | rfl | rfl <;> rfl) (Nat.le_of_ble_eq_true rfl) (Nat.le_of_ble_eq_true rfl) dX3_init_27 (fun q_27 H hP hD hS => ?_)
  refine lv_dup hx hb dX3_init_30 rfl ?_
  refine k_calln (wr := [(o, .inr (3, [.ref q_5, .ref q_16, .null, .null]))] ++ (cR cI (adF q_5 u_9) rB0) ++ (cR cI (adF q_16 u_20) rB0)) (wc := [(q_27, .inr (2, [.null, .int 0, .int 0]))]) (w' := fun u_31 => cS cQ q_27 u_31 (fun _ => none) 0 0) (va_runI (As := []) (rest := [.ref q_27, .ref o]) ⟨hx, hb, hml, hown, hts⟩ (mX2_init l D cI cQ cJ q_27 _) (cwI 0 hts gX3_init_X2_init rfl rfl rfl (hts (.initialized RX2) (by decide +kernel)) (hts (.methodLink RX3 21 yX2_init) (by decide +kernel)) (hts (.instanceMethod yX2_init) (by decide +kernel)) rfl (by decide +kernel) ⟨Nat.le_of_ble_eq_true rfl, Nat.le_of_ble_eq_true rfl⟩) (k_preY (wr := [(o, .inr (3, [.ref q_5, .ref q_16, .null, .null]))] ++ (cR cI (adF q_5 u_9) rB0) ++ (cR cI (adF q_16 u_20) rB0)) (wc := [(q_27, .inr (2, [.null, .int 0, .int 0]))]) hE hX hK hP hD hS hA [.ref q_27]) rfl rfl hl.1 rfl (lv_room (Nat.le_of_ble_eq_true rfl)) dX3_init_31 ⟨Nat.le_of_ble_eq_true rfl, Nat.le_of_ble_eq_true rfl⟩) hP hD hS hA (fun u_31 H locs hP hD hS => ?_)
  have hP : va_P D vwCl ([(o, .inr (3, [.ref q_5, .ref q_16, .null, .null]))] ++ (cR cI (adF q_5 u_9) rB0) ++ (cR cI (adF q_16 u_20) rB0) ++ (cS cQ q_27 u_31 (fun _ => none) 0 0)) H := hP
  have hD : va_D A ([(o, .inr (3, [.ref q_5, .ref q_16, .null, .null]))] ++ (cR cI (adF q_5 u_9) rB0) ++ (cR cI (adF q_16 u_20) rB0) ++ (cS cQ q_27 u_31 (fun _ => none) 0 0)) := hD
  refine k_putF (D := D) (ci := 3) (v := .ref q_27) (ty := .object "RoofDrains$SavedRoofs") (C := RX3) (T := TX3) (N := 4) hx hb hts hinX3 tyX3 tyX3_ok nmX3 hown hK hP hD hS 0 rfl rfl 2 (by decide) fl22 (fun _ h9 => h9) rfl hin rfl (by decide +kernel) rfl rfl (Nat.le_of_ble_eq_true rfl) (ws' := [(o, .inr (3, [.ref q_5, .ref q_16, .ref q_27, .null]))] ++ (cR cI (adF q_5 u_9) rB0) ++ (cR cI (adF q_16 u_20) rB0) ++ (cS cQ q_27 u_31 (fun _ => none) 0 0)) rfl dX3_init_34 (fun H locs hP hD hS => ?_)
  refine lv_aload_n hx hb dX3_init_37 rfl (lv_at hl 0 rfl) ?_
  refine va_new (D := D) (ci := 0) (fs := [.null, .int 0]) (C := RX0) (T := TX0) (N := 2) hx hb hts hinX0 tyX0 tyX0_ok hown (hts (.classLink RX3 26 RX0) (by decide +kernel)) (hts (.instantiable RX0 2) (by decide +kernel)) (hts (.initialized RX0) (by decide +kernel)) hK hP hD hS hA rfl (fun j hj => by rcases (show j = 0 ∨ j = 1 by omega) with rfl | rfl <;> rfl) (Nat.le_of_ble_eq_true rfl) (Nat.le_of_ble_eq_true rfl) dX3_init_38 (fun q_38 H hP hD hS => ?_)
  refine lv_dup hx hb dX3_init_41 rfl ?_
  refine k_calln (wr := [(o, .inr (3, [.ref q_5, .ref q_16, .ref q_27, .null]))] ++ (cR cI (adF q_5 u_9) rB0) ++ (cR cI (adF q_16 u_20) rB0) ++ (cS cQ q_27 u_31 (fun _ => none) 0 0)) (wc := [(q_38, .inr (0, [.null, .int 0]))]) (w' := fun u_42 => cT cI (adF q_38 (fun _ => u_42)) tB0) (va_runI (As := []) (rest := [.ref q_38, .ref o]) ⟨hx, hb, hml, hown, hts⟩ (mX0_init l D cI cQ cJ q_38 _) (cwI 0 hts gX3_init_X0_init rfl rfl rfl (hts (.initialized RX0) (by decide +kernel)) (hts (.methodLink RX3 28 yX0_init) (by decide +kernel)) (hts (.instanceMethod yX0_init) (by decide +kernel)) rfl (by decide +kernel) ⟨Nat.le_of_ble_eq_true rfl, Nat.le_of_ble_eq_true rfl⟩) (k_preR (wr := [(o, .inr (3, [.ref q_5, .ref q_16, .ref q_27, .null]))] ++ (cR cI (adF q_5 u_9) rB0) ++ (cR cI (adF q_16 u_20) rB0) ++ (cS cQ q_27 u_31 (fun _ => none) 0 0)) (wc := [(q_38, .inr (0, [.null, .int 0]))]) hE hK hP hD [.ref q_38]) rfl rfl hl.1 rfl (lv_room (Nat.le_of_ble_eq_true rfl)) dX3_init_42 ⟨Nat.le_of_ble_eq_true rfl, Nat.le_of_ble_eq_true rfl⟩) hP hD hS hA (fun u_42 H locs hP hD hS => ?_)
  have hP : va_P D vwCl ([(o, .inr (3, [.ref q_5, .ref q_16, .ref q_27, .null]))] ++ (cR cI (adF q_5 u_9) rB0) ++ (cR cI (adF q_16 u_20) rB0) ++ (cS cQ q_27 u_31 (fun _ => none) 0 0) ++ (cT cI (adF q_38 (fun _ => u_42)) tB0)) H := hP
  have hD : va_D A ([(o, .inr (3, [.ref q_5, .ref q_16, .ref q_27, .null]))] ++ (cR cI (adF q_5 u_9) rB0) ++ (cR cI (adF q_16 u_20) rB0) ++ (cS cQ q_27 u_31 (fun _ => none) 0 0) ++ (cT cI (adF q_38 (fun _ => u_42)) tB0)) := hD
  refine k_putF (D := D) (ci := 3) (v := .ref q_38) (ty := .object "RoofDrains$RainText") (C := RX3) (T := TX3) (N := 4) hx hb hts hinX3 tyX3 tyX3_ok nmX3 hown hK hP hD hS 0 rfl rfl 3 (by decide) fl29 (fun _ h9 => h9) rfl hin rfl (by decide +kernel) rfl rfl (Nat.le_of_ble_eq_true rfl) (ws' := [(o, .inr (3, [.ref q_5, .ref q_16, .ref q_27, .ref q_38]))] ++ (cR cI (adF q_5 u_9) rB0) ++ (cR cI (adF q_16 u_20) rB0) ++ (cS cQ q_27 u_31 (fun _ => none) 0 0) ++ (cT cI (adF q_38 (fun _ => u_42)) tB0)) rfl dX3_init_45 (fun H locs hP hD hS => ?_)
  refine W.widen (k := 30) (n := 241) (Nat.le_of_ble_eq_true rfl) (Nat.le_of_ble_eq_true rfl) ?_
  obtain ⟨hP, hD⟩ := k_eqw (List.append_nil _).symm hP hD
  have hP : va_P D vwCl ((fun (u : (Nat → Nat) × (Nat → Nat) × Nat × Nat × (Nat → Nat)) => WX cI cQ o u.2.2.1 u.2.2.2.1 u.2.2.2.2 u.1 u.2.1 (fun _ _ => 0) rB0 rB0 tB0 0 (fun _ => none) 0 0 (fun _ => tB0)) ((adF q_5 u_9, adF q_16 u_20, q_27, u_31, adF q_38 (fun _ => u_42)))) H := hP
  have hD : va_D A ((fun (u : (Nat → Nat) × (Nat → Nat) × Nat × Nat × (Nat → Nat)) => WX cI cQ o u.2.2.1 u.2.2.2.1 u.2.2.2.2 u.1 u.2.1 (fun _ _ => 0) rB0 rB0 tB0 0 (fun _ => none) 0 0 (fun _ => tB0)) ((adF q_5 u_9, adF q_16 u_20, q_27, u_31, adF q_38 (fun _ => u_42)))) := hD
  exact k_vretN (w' := fun (u : (Nat → Nat) × (Nat → Nat) × Nat × Nat × (Nat → Nat)) => WX cI cQ o u.2.2.1 u.2.2.2.1 u.2.2.2.2 u.1 u.2.1 (fun _ _ => 0) rB0 rB0 tB0 0 (fun _ => none) 0 0 (fun _ => tB0)) ((adF q_5 u_9, adF q_16 u_20, q_27, u_31, adF q_38 (fun _ => u_42))) hx hb hr hlocks hS hP hD dX3_init_48
def sB0 : rB := fun a => match a with
  | 0 => upd (upd (upd (upd (upd (upd (upd (upd (upd (upd (upd (upd (upd (upd (upd (upd (upd (upd (upd (upd (upd (upd (upd (upd (upd (upd (upd (upd (upd (upd (upd (upd (upd (fun _ => 0) 0 100) 1 4) 2 20) 9 40) 10 3) 11 0) 33 60) 34 20) 13 40) 14 3) 15 1) 40 60) 41 20) 17 40) 18 3) 19 2) 47 60) 48 20) 21 40) 22 3) 23 3) 54 60) 55 20) 25 40) 26 3) 27 4) 61 60) 62 20) 29 40) 30 3) 31 5) 68 60) 69 20
  | 1 => (fun _ => 0)
  | 2 => (fun _ => 0)
  | 3 => (fun _ => 0)
  | 4 => (fun _ => 0)
  | _ => fun _ => 0
set_option maxHeartbeats 4000000 in
set_option maxRecDepth 100000 in
theorem mX4_init (l : Launch) (D : va_G) (cI cQ cJ : ClassId) (o : Nat) (sz : Nat) : Met l yX4_init wsX4_init ({ frames := 1, cells := 5, slots := 724, locals := 40 } : Room) (va_Pc [.ref o] (Prx D (tY cI cQ cJ) sz [(o, .inr (4, [.int 0, .null, .null, .null, .int 0, .null, .int 0, .int 0, .int 0, .null, .int 0, .long 0]))])) (va_Qv (fun (_ : Nat → Nat) => True) (fun u t => Wd D (cM cI (adF o u) sB0 0) t ∧ va_D (va_A [(o, .inr (4, [.int 0, .null, .null, .null, .int 0, .null, .int 0, .int 0, .int 0, .null, .int 0, .long 0]))] sz) (cM cI (adF o u) sB0 0)) (va_A [(o, .inr (4, [.int 0, .null, .null, .null, .int 0, .null, .int 0, .int 0, .int 0, .null, .int 0, .long 0]))] sz)) 5 724 (va_A [(o, .inr (4, [.int 0, .null, .null, .null, .int 0, .null, .int 0, .int 0, .int 0, .null, .int 0, .long 0]))] sz) := by
  refine N_of (cc := cX4_init) (maxL := 2) (ret := none) (Qc := fun A => va_Qv (fun (_ : Nat → Nat) => True) (fun u t => Wd D (cM cI (adF o u) sB0 0) t ∧ va_D A (cM cI (adF o u) sB0 0)) A) (by decide) rfl (Nat.le_of_ble_eq_true rfl) ?_ sz
  intro p e s m below meth c A ls hB hnm hE hP hK hD hA hl
  obtain ⟨hx, hb, hr, hml, hts, hown, hlocks⟩ := hB
  have hin : meth.name = "<init>" := hnm
  have hS : va_S A s.heap s.heap [] := va_S.rf
  have hl : lv_has ls 2 [(0, .ref o)] := hl
  have hinX4 : ∀ w ∈ u_ws RX4 TX4 12, w ∈ wsX4_init := by decide +kernel
  have fl7 := hts (.fieldLink RX4 7 "RoofDrainsModel" "s" "[I") (by decide +kernel)
  have fl13 := hts (.fieldLink RX4 13 "RoofDrainsModel" "aside" "[I") (by decide +kernel)
  have fl16 := hts (.fieldLink RX4 16 "RoofDrainsModel" "saved" "[I") (by decide +kernel)
  have fl19 := hts (.fieldLink RX4 19 "RoofDrainsModel" "buffer" "[I") (by decide +kernel)
  have fl22 := hts (.fieldLink RX4 22 "RoofDrainsModel" "parts" "[I") (by decide +kernel)
  have fl25 := hts (.fieldLink RX4 25 "RoofDrainsModel" "thrown" "I") (by decide +kernel)
  refine lv_aload_n hx hb dX4_init_0 rfl (lv_at hl 0 rfl) ?_
  refine W.objInit hx hb hown (hts (.methodLink RX4 1 objectInit) (by decide +kernel)) (hts (.instanceMethod objectInit) (by decide +kernel)) (hts (.code objectInit ⟨#[0xb1]⟩ 1 none) (by decide +kernel)) rfl (by rw [hml]; exact hl.1) rfl dX4_init_1 (Nat.le_of_ble_eq_true rfl) (Nat.le_of_ble_eq_true rfl) ?_
  refine W.eq (g2 := F0 m 4 ls []) rfl ?_
  refine lv_aload_n hx hb dX4_init_4 rfl (lv_at hl 0 rfl) ?_
  refine lv_bipush (v := 75) hx hb dX4_init_5 (by decide) ?_
  refine k_newa (N := 75) hx hb (hts (.arrayClass .int) (by decide +kernel)) hK hP hD hS hA 0 rfl (by decide) (by decide) (Nat.le_of_ble_eq_true rfl) (Nat.le_of_ble_eq_true rfl) (Nat.le_of_ble_eq_true rfl) dX4_init_7 (fun q_7 H hP hD hS => ?_)
  have hP : va_P D vwCl ([(o, .inr (4, [.int 0, .null, .null, .null, .int 0, .null, .int 0, .int 0, .int 0, .null, .int 0, .long 0])), (q_7, .inl (cI, 75, .inl (fun _ => 0)))]) H := hP
  have hD : va_D A ([(o, .inr (4, [.int 0, .null, .null, .null, .int 0, .null, .int 0, .int 0, .int 0, .null, .int 0, .long 0])), (q_7, .inl (cI, 75, .inl (fun _ => 0)))]) := hD
  refine k_putF (D := D) (ci := 4) (v := .ref q_7) (ty := .array .int) (C := RX4) (T := TX4) (N := 12) hx hb hts hinX4 tyX4 tyX4_ok nmX4 hown hK hP hD hS 0 rfl rfl 1 (by decide) fl7 (fun _ h9 => h9) rfl hin rfl (by decide +kernel) rfl rfl (Nat.le_of_ble_eq_true rfl) (ws' := [(o, .inr (4, [.int 0, .ref q_7, .null, .null, .int 0, .null, .int 0, .int 0, .int 0, .null, .int 0, .long 0])), (q_7, .inl (cI, 75, .inl (fun _ => 0)))]) rfl dX4_init_9 (fun H locs hP hD hS => ?_)
  refine lv_aload_n hx hb dX4_init_12 rfl (lv_at hl 0 rfl) ?_
  refine lv_bipush (v := 75) hx hb dX4_init_13 (by decide) ?_
  refine k_newa (N := 75) hx hb (hts (.arrayClass .int) (by decide +kernel)) hK hP hD hS hA 0 rfl (by decide) (by decide) (Nat.le_of_ble_eq_true rfl) (Nat.le_of_ble_eq_true rfl) (Nat.le_of_ble_eq_true rfl) dX4_init_15 (fun q_15 H hP hD hS => ?_)
  have hP : va_P D vwCl ([(o, .inr (4, [.int 0, .ref q_7, .null, .null, .int 0, .null, .int 0, .int 0, .int 0, .null, .int 0, .long 0])), (q_7, .inl (cI, 75, .inl (fun _ => 0))), (q_15, .inl (cI, 75, .inl (fun _ => 0)))]) H := hP
  have hD : va_D A ([(o, .inr (4, [.int 0, .ref q_7, .null, .null, .int 0, .null, .int 0, .int 0, .int 0, .null, .int 0, .long 0])), (q_7, .inl (cI, 75, .inl (fun _ => 0))), (q_15, .inl (cI, 75, .inl (fun _ => 0)))]) := hD
  refine k_putF (D := D) (ci := 4) (v := .ref q_15) (ty := .array .int) (C := RX4) (T := TX4) (N := 12) hx hb hts hinX4 tyX4 tyX4_ok nmX4 hown hK hP hD hS 0 rfl rfl 2 (by decide) fl13 (fun _ h9 => h9) rfl hin rfl (by decide +kernel) rfl rfl (Nat.le_of_ble_eq_true rfl) (ws' := [(o, .inr (4, [.int 0, .ref q_7, .ref q_15, .null, .int 0, .null, .int 0, .int 0, .int 0, .null, .int 0, .long 0])), (q_7, .inl (cI, 75, .inl (fun _ => 0))), (q_15, .inl (cI, 75, .inl (fun _ => 0)))]) rfl dX4_init_17 (fun H locs hP hD hS => ?_)
  refine lv_aload_n hx hb dX4_init_20 rfl (lv_at hl 0 rfl) ?_
  refine lv_sipush (v := 450) hx hb dX4_init_21 (by decide) ?_
  refine k_newa (N := 450) hx hb (hts (.arrayClass .int) (by decide +kernel)) hK hP hD hS hA 0 rfl (by decide) (by decide) (Nat.le_of_ble_eq_true rfl) (Nat.le_of_ble_eq_true rfl) (Nat.le_of_ble_eq_true rfl) dX4_init_24 (fun q_24 H hP hD hS => ?_)
  have hP : va_P D vwCl ([(o, .inr (4, [.int 0, .ref q_7, .ref q_15, .null, .int 0, .null, .int 0, .int 0, .int 0, .null, .int 0, .long 0])), (q_7, .inl (cI, 75, .inl (fun _ => 0))), (q_15, .inl (cI, 75, .inl (fun _ => 0))), (q_24, .inl (cI, 450, .inl (fun _ => 0)))]) H := hP
  have hD : va_D A ([(o, .inr (4, [.int 0, .ref q_7, .ref q_15, .null, .int 0, .null, .int 0, .int 0, .int 0, .null, .int 0, .long 0])), (q_7, .inl (cI, 75, .inl (fun _ => 0))), (q_15, .inl (cI, 75, .inl (fun _ => 0))), (q_24, .inl (cI, 450, .inl (fun _ => 0)))]) := hD
  refine k_putF (D := D) (ci := 4) (v := .ref q_24) (ty := .array .int) (C := RX4) (T := TX4) (N := 12) hx hb hts hinX4 tyX4 tyX4_ok nmX4 hown hK hP hD hS 0 rfl rfl 3 (by decide) fl16 (fun _ h9 => h9) rfl hin rfl (by decide +kernel) rfl rfl (Nat.le_of_ble_eq_true rfl) (ws' := [(o, .inr (4, [.int 0, .ref q_7, .ref q_15, .ref q_24, .int 0, .null, .int 0, .int 0, .int 0, .null, .int 0, .long 0])), (q_7, .inl (cI, 75, .inl (fun _ => 0))), (q_15, .inl (cI, 75, .inl (fun _ => 0))), (q_24, .inl (cI, 450, .inl (fun _ => 0)))]) rfl dX4_init_26 (fun H locs hP hD hS => ?_)
  refine lv_aload_n hx hb dX4_init_29 rfl (lv_at hl 0 rfl) ?_
  refine lv_bipush (v := 60) hx hb dX4_init_30 (by decide) ?_
  refine k_newa (N := 60) hx hb (hts (.arrayClass .int) (by decide +kernel)) hK hP hD hS hA 0 rfl (by decide) (by decide) (Nat.le_of_ble_eq_true rfl) (Nat.le_of_ble_eq_true rfl) (Nat.le_of_ble_eq_true rfl) dX4_init_32 (fun q_32 H hP hD hS => ?_)
  have hP : va_P D vwCl ([(o, .inr (4, [.int 0, .ref q_7, .ref q_15, .ref q_24, .int 0, .null, .int 0, .int 0, .int 0, .null, .int 0, .long 0])), (q_7, .inl (cI, 75, .inl (fun _ => 0))), (q_15, .inl (cI, 75, .inl (fun _ => 0))), (q_24, .inl (cI, 450, .inl (fun _ => 0))), (q_32, .inl (cI, 60, .inl (fun _ => 0)))]) H := hP
  have hD : va_D A ([(o, .inr (4, [.int 0, .ref q_7, .ref q_15, .ref q_24, .int 0, .null, .int 0, .int 0, .int 0, .null, .int 0, .long 0])), (q_7, .inl (cI, 75, .inl (fun _ => 0))), (q_15, .inl (cI, 75, .inl (fun _ => 0))), (q_24, .inl (cI, 450, .inl (fun _ => 0))), (q_32, .inl (cI, 60, .inl (fun _ => 0)))]) := hD
  refine k_putF (D := D) (ci := 4) (v := .ref q_32) (ty := .array .int) (C := RX4) (T := TX4) (N := 12) hx hb hts hinX4 tyX4 tyX4_ok nmX4 hown hK hP hD hS 0 rfl rfl 5 (by decide) fl19 (fun _ h9 => h9) rfl hin rfl (by decide +kernel) rfl rfl (Nat.le_of_ble_eq_true rfl) (ws' := [(o, .inr (4, [.int 0, .ref q_7, .ref q_15, .ref q_24, .int 0, .ref q_32, .int 0, .int 0, .int 0, .null, .int 0, .long 0])), (q_7, .inl (cI, 75, .inl (fun _ => 0))), (q_15, .inl (cI, 75, .inl (fun _ => 0))), (q_24, .inl (cI, 450, .inl (fun _ => 0))), (q_32, .inl (cI, 60, .inl (fun _ => 0)))]) rfl dX4_init_34 (fun H locs hP hD hS => ?_)
  refine lv_aload_n hx hb dX4_init_37 rfl (lv_at hl 0 rfl) ?_
  refine lv_bipush (v := 64) hx hb dX4_init_38 (by decide) ?_
  refine k_newa (N := 64) hx hb (hts (.arrayClass .int) (by decide +kernel)) hK hP hD hS hA 0 rfl (by decide) (by decide) (Nat.le_of_ble_eq_true rfl) (Nat.le_of_ble_eq_true rfl) (Nat.le_of_ble_eq_true rfl) dX4_init_40 (fun q_40 H hP hD hS => ?_)
  have hP : va_P D vwCl ([(o, .inr (4, [.int 0, .ref q_7, .ref q_15, .ref q_24, .int 0, .ref q_32, .int 0, .int 0, .int 0, .null, .int 0, .long 0])), (q_7, .inl (cI, 75, .inl (fun _ => 0))), (q_15, .inl (cI, 75, .inl (fun _ => 0))), (q_24, .inl (cI, 450, .inl (fun _ => 0))), (q_32, .inl (cI, 60, .inl (fun _ => 0))), (q_40, .inl (cI, 64, .inl (fun _ => 0)))]) H := hP
  have hD : va_D A ([(o, .inr (4, [.int 0, .ref q_7, .ref q_15, .ref q_24, .int 0, .ref q_32, .int 0, .int 0, .int 0, .null, .int 0, .long 0])), (q_7, .inl (cI, 75, .inl (fun _ => 0))), (q_15, .inl (cI, 75, .inl (fun _ => 0))), (q_24, .inl (cI, 450, .inl (fun _ => 0))), (q_32, .inl (cI, 60, .inl (fun _ => 0))), (q_40, .inl (cI, 64, .inl (fun _ => 0)))]) := hD
  refine k_putF (D := D) (ci := 4) (v := .ref q_40) (ty := .array .int) (C := RX4) (T := TX4) (N := 12) hx hb hts hinX4 tyX4 tyX4_ok nmX4 hown hK hP hD hS 0 rfl rfl 9 (by decide) fl22 (fun _ h9 => h9) rfl hin rfl (by decide +kernel) rfl rfl (Nat.le_of_ble_eq_true rfl) (ws' := [(o, .inr (4, [.int 0, .ref q_7, .ref q_15, .ref q_24, .int 0, .ref q_32, .int 0, .int 0, .int 0, .ref q_40, .int 0, .long 0])), (q_7, .inl (cI, 75, .inl (fun _ => 0))), (q_15, .inl (cI, 75, .inl (fun _ => 0))), (q_24, .inl (cI, 450, .inl (fun _ => 0))), (q_32, .inl (cI, 60, .inl (fun _ => 0))), (q_40, .inl (cI, 64, .inl (fun _ => 0)))]) rfl dX4_init_42 (fun H locs hP hD hS => ?_)
  refine lv_aload_n hx hb dX4_init_45 rfl (lv_at hl 0 rfl) ?_
  refine lv_iconst (v := 0) hx hb dX4_init_46 (by decide) ?_
  refine k_put (D := D) (ci := 4) (v := .int 0) (ty := .int) (C := RX4) (T := TX4) (N := 12) hx hb hts hinX4 tyX4 tyX4_ok nmX4 hown hK hP hD hS 0 rfl rfl 0 (by decide) fl25 (fun _ h9 => h9) rfl (by decide +kernel) rfl rfl (Nat.le_of_ble_eq_true rfl) (ws' := [(o, .inr (4, [.int 0, .ref q_7, .ref q_15, .ref q_24, .int 0, .ref q_32, .int 0, .int 0, .int 0, .ref q_40, .int 0, .long 0])), (q_7, .inl (cI, 75, .inl (fun _ => 0))), (q_15, .inl (cI, 75, .inl (fun _ => 0))), (q_24, .inl (cI, 450, .inl (fun _ => 0))), (q_32, .inl (cI, 60, .inl (fun _ => 0))), (q_40, .inl (cI, 64, .inl (fun _ => 0)))]) rfl dX4_init_47 (fun H locs hP hD hS => ?_)
  refine lv_aload_n hx hb dX4_init_50 rfl (lv_at hl 0 rfl) ?_
  refine va_get (D := D) (ci := 4) (v := .ref q_7) (C := RX4) (T := TX4) (N := 12) hx hb hts hinX4 hown hK hP 0 rfl rfl 1 (by decide) fl7 (fun _ h9 => h9) rfl dX4_init_51 ?_
  refine lv_iconst (v := 0) hx hb dX4_init_54 (by decide) ?_
  refine lv_bipush (v := 100) hx hb dX4_init_55 (by decide) ?_
  refine k_iast (k := 0) (ws' := [(o, .inr (4, [.int 0, .ref q_7, .ref q_15, .ref q_24, .int 0, .ref q_32, .int 0, .int 0, .int 0, .ref q_40, .int 0, .long 0])), (q_7, .inl (cI, 75, .inl (upd (fun _ => 0) 0 100))), (q_15, .inl (cI, 75, .inl (fun _ => 0))), (q_24, .inl (cI, 450, .inl (fun _ => 0))), (q_32, .inl (cI, 60, .inl (fun _ => 0))), (q_40, .inl (cI, 64, .inl (fun _ => 0)))]) hx hb hK hP hD hS 1 0 rfl rfl (vp_in_nI (n := 0) (by omega) (by omega)) (nI_clamp (n := 0) (by omega)) rfl dX4_init_57 (fun H locs hP hD hS => ?_)
  refine lv_aload_n hx hb dX4_init_58 rfl (lv_at hl 0 rfl) ?_
  refine va_get (D := D) (ci := 4) (v := .ref q_7) (C := RX4) (T := TX4) (N := 12) hx hb hts hinX4 hown hK hP 0 rfl rfl 1 (by decide) fl7 (fun _ h9 => h9) rfl dX4_init_59 ?_
  refine lv_iconst (v := 1) hx hb dX4_init_62 (by decide) ?_
  refine lv_iconst (v := 4) hx hb dX4_init_63 (by decide) ?_
  refine k_iast (k := 1) (ws' := [(o, .inr (4, [.int 0, .ref q_7, .ref q_15, .ref q_24, .int 0, .ref q_32, .int 0, .int 0, .int 0, .ref q_40, .int 0, .long 0])), (q_7, .inl (cI, 75, .inl (upd (upd (fun _ => 0) 0 100) 1 4))), (q_15, .inl (cI, 75, .inl (fun _ => 0))), (q_24, .inl (cI, 450, .inl (fun _ => 0))), (q_32, .inl (cI, 60, .inl (fun _ => 0))), (q_40, .inl (cI, 64, .inl (fun _ => 0)))]) hx hb hK hP hD hS 1 0 rfl rfl (vp_in_nI (n := 1) (by omega) (by omega)) (nI_clamp (n := 1) (by omega)) rfl dX4_init_64 (fun H locs hP hD hS => ?_)
  refine lv_aload_n hx hb dX4_init_65 rfl (lv_at hl 0 rfl) ?_
  refine va_get (D := D) (ci := 4) (v := .ref q_7) (C := RX4) (T := TX4) (N := 12) hx hb hts hinX4 hown hK hP 0 rfl rfl 1 (by decide) fl7 (fun _ h9 => h9) rfl dX4_init_66 ?_
  refine lv_iconst (v := 2) hx hb dX4_init_69 (by decide) ?_
  refine lv_bipush (v := 20) hx hb dX4_init_70 (by decide) ?_
  refine k_iast (k := 2) (ws' := [(o, .inr (4, [.int 0, .ref q_7, .ref q_15, .ref q_24, .int 0, .ref q_32, .int 0, .int 0, .int 0, .ref q_40, .int 0, .long 0])), (q_7, .inl (cI, 75, .inl (upd (upd (upd (fun _ => 0) 0 100) 1 4) 2 20))), (q_15, .inl (cI, 75, .inl (fun _ => 0))), (q_24, .inl (cI, 450, .inl (fun _ => 0))), (q_32, .inl (cI, 60, .inl (fun _ => 0))), (q_40, .inl (cI, 64, .inl (fun _ => 0)))]) hx hb hK hP hD hS 1 0 rfl rfl (vp_in_nI (n := 2) (by omega) (by omega)) (nI_clamp (n := 2) (by omega)) rfl dX4_init_72 (fun H locs hP hD hS => ?_)
  refine lv_iconst (v := 0) hx hb dX4_init_73 (by decide) ?_
  refine lv_istore_n (lv' := [(1, .int 0), (0, .ref o)]) hx hb dX4_init_74 rfl hl (by decide) rfl (fun ls hl => ?_)
  refine lv_iload_n hx hb dX4_init_75 rfl (lv_at hl 0 rfl) ?_
  refine lv_bipush (v := 6) hx hb dX4_init_76 (by decide) ?_
  refine lv_icmp_ge (tgt := 162) hx hb dX4_init_78 (by decide) (fun h9 => absurd h9 (by decide)) (fun _ => ?_)
  refine lv_aload_n hx hb dX4_init_81 rfl (lv_at hl 1 rfl) ?_
  refine va_get (D := D) (ci := 4) (v := .ref q_7) (C := RX4) (T := TX4) (N := 12) hx hb hts hinX4 hown hK hP 0 rfl rfl 1 (by decide) fl7 (fun _ h9 => h9) rfl dX4_init_82 ?_
  refine lv_bipush (v := 9) hx hb dX4_init_85 (by decide) ?_
  refine lv_iconst (v := 4) hx hb dX4_init_87 (by decide) ?_
  refine lv_iload_n hx hb dX4_init_88 rfl (lv_at hl 0 rfl) ?_
  refine lv_imul hx hb dX4_init_89 ?_
  refine lv_eqi (y := 0) (by decide) ?_
  refine lv_iadd hx hb dX4_init_90 ?_
  refine lv_eqi (y := 9) (by decide) ?_
  refine lv_iconst (v := 0) hx hb dX4_init_91 (by decide) ?_
  refine lv_iadd hx hb dX4_init_92 ?_
  refine lv_eqi (y := 9) (by decide) ?_
  refine lv_bipush (v := 40) hx hb dX4_init_93 (by decide) ?_
  refine k_iast (k := 9) (ws' := [(o, .inr (4, [.int 0, .ref q_7, .ref q_15, .ref q_24, .int 0, .ref q_32, .int 0, .int 0, .int 0, .ref q_40, .int 0, .long 0])), (q_7, .inl (cI, 75, .inl (upd (upd (upd (upd (fun _ => 0) 0 100) 1 4) 2 20) 9 40))), (q_15, .inl (cI, 75, .inl (fun _ => 0))), (q_24, .inl (cI, 450, .inl (fun _ => 0))), (q_32, .inl (cI, 60, .inl (fun _ => 0))), (q_40, .inl (cI, 64, .inl (fun _ => 0)))]) hx hb hK hP hD hS 1 0 rfl rfl (vp_in_nI (n := 9) (by omega) (by omega)) (nI_clamp (n := 9) (by omega)) rfl dX4_init_95 (fun H locs hP hD hS => ?_)
  refine lv_aload_n hx hb dX4_init_96 rfl (lv_at hl 1 rfl) ?_
  refine va_get (D := D) (ci := 4) (v := .ref q_7) (C := RX4) (T := TX4) (N := 12) hx hb hts hinX4 hown hK hP 0 rfl rfl 1 (by decide) fl7 (fun _ h9 => h9) rfl dX4_init_97 ?_
  refine lv_bipush (v := 9) hx hb dX4_init_100 (by decide) ?_
  refine lv_iconst (v := 4) hx hb dX4_init_102 (by decide) ?_
  refine lv_iload_n hx hb dX4_init_103 rfl (lv_at hl 0 rfl) ?_
  refine lv_imul hx hb dX4_init_104 ?_
  refine lv_eqi (y := 0) (by decide) ?_
  refine lv_iadd hx hb dX4_init_105 ?_
  refine lv_eqi (y := 9) (by decide) ?_
  refine lv_iconst (v := 1) hx hb dX4_init_106 (by decide) ?_
  refine lv_iadd hx hb dX4_init_107 ?_
  refine lv_eqi (y := 10) (by decide) ?_
  refine lv_iconst (v := 3) hx hb dX4_init_108 (by decide) ?_
  refine k_iast (k := 10) (ws' := [(o, .inr (4, [.int 0, .ref q_7, .ref q_15, .ref q_24, .int 0, .ref q_32, .int 0, .int 0, .int 0, .ref q_40, .int 0, .long 0])), (q_7, .inl (cI, 75, .inl (upd (upd (upd (upd (upd (fun _ => 0) 0 100) 1 4) 2 20) 9 40) 10 3))), (q_15, .inl (cI, 75, .inl (fun _ => 0))), (q_24, .inl (cI, 450, .inl (fun _ => 0))), (q_32, .inl (cI, 60, .inl (fun _ => 0))), (q_40, .inl (cI, 64, .inl (fun _ => 0)))]) hx hb hK hP hD hS 1 0 rfl rfl (vp_in_nI (n := 10) (by omega) (by omega)) (nI_clamp (n := 10) (by omega)) rfl dX4_init_109 (fun H locs hP hD hS => ?_)
  refine lv_aload_n hx hb dX4_init_110 rfl (lv_at hl 1 rfl) ?_
  refine va_get (D := D) (ci := 4) (v := .ref q_7) (C := RX4) (T := TX4) (N := 12) hx hb hts hinX4 hown hK hP 0 rfl rfl 1 (by decide) fl7 (fun _ h9 => h9) rfl dX4_init_111 ?_
  refine lv_bipush (v := 9) hx hb dX4_init_114 (by decide) ?_
  refine lv_iconst (v := 4) hx hb dX4_init_116 (by decide) ?_
  refine lv_iload_n hx hb dX4_init_117 rfl (lv_at hl 0 rfl) ?_
  refine lv_imul hx hb dX4_init_118 ?_
  refine lv_eqi (y := 0) (by decide) ?_
  refine lv_iadd hx hb dX4_init_119 ?_
  refine lv_eqi (y := 9) (by decide) ?_
  refine lv_iconst (v := 2) hx hb dX4_init_120 (by decide) ?_
  refine lv_iadd hx hb dX4_init_121 ?_
  refine lv_eqi (y := 11) (by decide) ?_
  refine lv_iload_n hx hb dX4_init_122 rfl (lv_at hl 0 rfl) ?_
  refine k_iast (k := 11) (ws' := [(o, .inr (4, [.int 0, .ref q_7, .ref q_15, .ref q_24, .int 0, .ref q_32, .int 0, .int 0, .int 0, .ref q_40, .int 0, .long 0])), (q_7, .inl (cI, 75, .inl (upd (upd (upd (upd (upd (upd (fun _ => 0) 0 100) 1 4) 2 20) 9 40) 10 3) 11 0))), (q_15, .inl (cI, 75, .inl (fun _ => 0))), (q_24, .inl (cI, 450, .inl (fun _ => 0))), (q_32, .inl (cI, 60, .inl (fun _ => 0))), (q_40, .inl (cI, 64, .inl (fun _ => 0)))]) hx hb hK hP hD hS 1 0 rfl rfl (vp_in_nI (n := 11) (by omega) (by omega)) (nI_clamp (n := 11) (by omega)) rfl dX4_init_123 (fun H locs hP hD hS => ?_)
  refine lv_aload_n hx hb dX4_init_124 rfl (lv_at hl 1 rfl) ?_
  refine va_get (D := D) (ci := 4) (v := .ref q_7) (C := RX4) (T := TX4) (N := 12) hx hb hts hinX4 hown hK hP 0 rfl rfl 1 (by decide) fl7 (fun _ h9 => h9) rfl dX4_init_125 ?_
  refine lv_bipush (v := 33) hx hb dX4_init_128 (by decide) ?_
  refine lv_bipush (v := 7) hx hb dX4_init_130 (by decide) ?_
  refine lv_iload_n hx hb dX4_init_132 rfl (lv_at hl 0 rfl) ?_
  refine lv_imul hx hb dX4_init_133 ?_
  refine lv_eqi (y := 0) (by decide) ?_
  refine lv_iadd hx hb dX4_init_134 ?_
  refine lv_eqi (y := 33) (by decide) ?_
  refine lv_iconst (v := 0) hx hb dX4_init_135 (by decide) ?_
  refine lv_iadd hx hb dX4_init_136 ?_
  refine lv_eqi (y := 33) (by decide) ?_
  refine lv_bipush (v := 60) hx hb dX4_init_137 (by decide) ?_
  refine k_iast (k := 33) (ws' := [(o, .inr (4, [.int 0, .ref q_7, .ref q_15, .ref q_24, .int 0, .ref q_32, .int 0, .int 0, .int 0, .ref q_40, .int 0, .long 0])), (q_7, .inl (cI, 75, .inl (upd (upd (upd (upd (upd (upd (upd (fun _ => 0) 0 100) 1 4) 2 20) 9 40) 10 3) 11 0) 33 60))), (q_15, .inl (cI, 75, .inl (fun _ => 0))), (q_24, .inl (cI, 450, .inl (fun _ => 0))), (q_32, .inl (cI, 60, .inl (fun _ => 0))), (q_40, .inl (cI, 64, .inl (fun _ => 0)))]) hx hb hK hP hD hS 1 0 rfl rfl (vp_in_nI (n := 33) (by omega) (by omega)) (nI_clamp (n := 33) (by omega)) rfl dX4_init_139 (fun H locs hP hD hS => ?_)
  refine lv_aload_n hx hb dX4_init_140 rfl (lv_at hl 1 rfl) ?_
  refine va_get (D := D) (ci := 4) (v := .ref q_7) (C := RX4) (T := TX4) (N := 12) hx hb hts hinX4 hown hK hP 0 rfl rfl 1 (by decide) fl7 (fun _ h9 => h9) rfl dX4_init_141 ?_
  refine lv_bipush (v := 33) hx hb dX4_init_144 (by decide) ?_
  refine lv_bipush (v := 7) hx hb dX4_init_146 (by decide) ?_
  refine lv_iload_n hx hb dX4_init_148 rfl (lv_at hl 0 rfl) ?_
  refine lv_imul hx hb dX4_init_149 ?_
  refine lv_eqi (y := 0) (by decide) ?_
  refine lv_iadd hx hb dX4_init_150 ?_
  refine lv_eqi (y := 33) (by decide) ?_
  refine lv_iconst (v := 1) hx hb dX4_init_151 (by decide) ?_
  refine lv_iadd hx hb dX4_init_152 ?_
  refine lv_eqi (y := 34) (by decide) ?_
  refine lv_bipush (v := 20) hx hb dX4_init_153 (by decide) ?_
  refine k_iast (k := 34) (ws' := [(o, .inr (4, [.int 0, .ref q_7, .ref q_15, .ref q_24, .int 0, .ref q_32, .int 0, .int 0, .int 0, .ref q_40, .int 0, .long 0])), (q_7, .inl (cI, 75, .inl (upd (upd (upd (upd (upd (upd (upd (upd (fun _ => 0) 0 100) 1 4) 2 20) 9 40) 10 3) 11 0) 33 60) 34 20))), (q_15, .inl (cI, 75, .inl (fun _ => 0))), (q_24, .inl (cI, 450, .inl (fun _ => 0))), (q_32, .inl (cI, 60, .inl (fun _ => 0))), (q_40, .inl (cI, 64, .inl (fun _ => 0)))]) hx hb hK hP hD hS 1 0 rfl rfl (vp_in_nI (n := 34) (by omega) (by omega)) (nI_clamp (n := 34) (by omega)) rfl dX4_init_155 (fun H locs hP hD hS => ?_)
  refine lv_iinc (v := 1) (lv' := [(1, .int 1), (0, .ref o)]) hx hb dX4_init_156 hl (k := 0) rfl (by decide) (by decide) rfl (fun ls hl => ?_)
  refine lv_goto (tgt := 75) hx hb dX4_init_159 (by decide) ?_
  refine lv_iload_n hx hb dX4_init_75 rfl (lv_at hl 0 rfl) ?_
  refine lv_bipush (v := 6) hx hb dX4_init_76 (by decide) ?_
  refine lv_icmp_ge (tgt := 162) hx hb dX4_init_78 (by decide) (fun h9 => absurd h9 (by decide)) (fun _ => ?_)
  refine lv_aload_n hx hb dX4_init_81 rfl (lv_at hl 1 rfl) ?_
  refine va_get (D := D) (ci := 4) (v := .ref q_7) (C := RX4) (T := TX4) (N := 12) hx hb hts hinX4 hown hK hP 0 rfl rfl 1 (by decide) fl7 (fun _ h9 => h9) rfl dX4_init_82 ?_
  refine lv_bipush (v := 9) hx hb dX4_init_85 (by decide) ?_
  refine lv_iconst (v := 4) hx hb dX4_init_87 (by decide) ?_
  refine lv_iload_n hx hb dX4_init_88 rfl (lv_at hl 0 rfl) ?_
  refine lv_imul hx hb dX4_init_89 ?_
  refine lv_eqi (y := 4) (by decide) ?_
  refine lv_iadd hx hb dX4_init_90 ?_
  refine lv_eqi (y := 13) (by decide) ?_
  refine lv_iconst (v := 0) hx hb dX4_init_91 (by decide) ?_
  refine lv_iadd hx hb dX4_init_92 ?_
  refine lv_eqi (y := 13) (by decide) ?_
  refine lv_bipush (v := 40) hx hb dX4_init_93 (by decide) ?_
  refine k_iast (k := 13) (ws' := [(o, .inr (4, [.int 0, .ref q_7, .ref q_15, .ref q_24, .int 0, .ref q_32, .int 0, .int 0, .int 0, .ref q_40, .int 0, .long 0])), (q_7, .inl (cI, 75, .inl (upd (upd (upd (upd (upd (upd (upd (upd (upd (fun _ => 0) 0 100) 1 4) 2 20) 9 40) 10 3) 11 0) 33 60) 34 20) 13 40))), (q_15, .inl (cI, 75, .inl (fun _ => 0))), (q_24, .inl (cI, 450, .inl (fun _ => 0))), (q_32, .inl (cI, 60, .inl (fun _ => 0))), (q_40, .inl (cI, 64, .inl (fun _ => 0)))]) hx hb hK hP hD hS 1 0 rfl rfl (vp_in_nI (n := 13) (by omega) (by omega)) (nI_clamp (n := 13) (by omega)) rfl dX4_init_95 (fun H locs hP hD hS => ?_)
  refine lv_aload_n hx hb dX4_init_96 rfl (lv_at hl 1 rfl) ?_
  refine va_get (D := D) (ci := 4) (v := .ref q_7) (C := RX4) (T := TX4) (N := 12) hx hb hts hinX4 hown hK hP 0 rfl rfl 1 (by decide) fl7 (fun _ h9 => h9) rfl dX4_init_97 ?_
  refine lv_bipush (v := 9) hx hb dX4_init_100 (by decide) ?_
  refine lv_iconst (v := 4) hx hb dX4_init_102 (by decide) ?_
  refine lv_iload_n hx hb dX4_init_103 rfl (lv_at hl 0 rfl) ?_
  refine lv_imul hx hb dX4_init_104 ?_
  refine lv_eqi (y := 4) (by decide) ?_
  refine lv_iadd hx hb dX4_init_105 ?_
  refine lv_eqi (y := 13) (by decide) ?_
  refine lv_iconst (v := 1) hx hb dX4_init_106 (by decide) ?_
  refine lv_iadd hx hb dX4_init_107 ?_
  refine lv_eqi (y := 14) (by decide) ?_
  refine lv_iconst (v := 3) hx hb dX4_init_108 (by decide) ?_
  refine k_iast (k := 14) (ws' := [(o, .inr (4, [.int 0, .ref q_7, .ref q_15, .ref q_24, .int 0, .ref q_32, .int 0, .int 0, .int 0, .ref q_40, .int 0, .long 0])), (q_7, .inl (cI, 75, .inl (upd (upd (upd (upd (upd (upd (upd (upd (upd (upd (fun _ => 0) 0 100) 1 4) 2 20) 9 40) 10 3) 11 0) 33 60) 34 20) 13 40) 14 3))), (q_15, .inl (cI, 75, .inl (fun _ => 0))), (q_24, .inl (cI, 450, .inl (fun _ => 0))), (q_32, .inl (cI, 60, .inl (fun _ => 0))), (q_40, .inl (cI, 64, .inl (fun _ => 0)))]) hx hb hK hP hD hS 1 0 rfl rfl (vp_in_nI (n := 14) (by omega) (by omega)) (nI_clamp (n := 14) (by omega)) rfl dX4_init_109 (fun H locs hP hD hS => ?_)
  refine lv_aload_n hx hb dX4_init_110 rfl (lv_at hl 1 rfl) ?_
  refine va_get (D := D) (ci := 4) (v := .ref q_7) (C := RX4) (T := TX4) (N := 12) hx hb hts hinX4 hown hK hP 0 rfl rfl 1 (by decide) fl7 (fun _ h9 => h9) rfl dX4_init_111 ?_
  refine lv_bipush (v := 9) hx hb dX4_init_114 (by decide) ?_
  refine lv_iconst (v := 4) hx hb dX4_init_116 (by decide) ?_
  refine lv_iload_n hx hb dX4_init_117 rfl (lv_at hl 0 rfl) ?_
  refine lv_imul hx hb dX4_init_118 ?_
  refine lv_eqi (y := 4) (by decide) ?_
  refine lv_iadd hx hb dX4_init_119 ?_
  refine lv_eqi (y := 13) (by decide) ?_
  refine lv_iconst (v := 2) hx hb dX4_init_120 (by decide) ?_
  refine lv_iadd hx hb dX4_init_121 ?_
  refine lv_eqi (y := 15) (by decide) ?_
  refine lv_iload_n hx hb dX4_init_122 rfl (lv_at hl 0 rfl) ?_
  refine k_iast (k := 15) (ws' := [(o, .inr (4, [.int 0, .ref q_7, .ref q_15, .ref q_24, .int 0, .ref q_32, .int 0, .int 0, .int 0, .ref q_40, .int 0, .long 0])), (q_7, .inl (cI, 75, .inl (upd (upd (upd (upd (upd (upd (upd (upd (upd (upd (upd (fun _ => 0) 0 100) 1 4) 2 20) 9 40) 10 3) 11 0) 33 60) 34 20) 13 40) 14 3) 15 1))), (q_15, .inl (cI, 75, .inl (fun _ => 0))), (q_24, .inl (cI, 450, .inl (fun _ => 0))), (q_32, .inl (cI, 60, .inl (fun _ => 0))), (q_40, .inl (cI, 64, .inl (fun _ => 0)))]) hx hb hK hP hD hS 1 0 rfl rfl (vp_in_nI (n := 15) (by omega) (by omega)) (nI_clamp (n := 15) (by omega)) rfl dX4_init_123 (fun H locs hP hD hS => ?_)
  refine lv_aload_n hx hb dX4_init_124 rfl (lv_at hl 1 rfl) ?_
  refine va_get (D := D) (ci := 4) (v := .ref q_7) (C := RX4) (T := TX4) (N := 12) hx hb hts hinX4 hown hK hP 0 rfl rfl 1 (by decide) fl7 (fun _ h9 => h9) rfl dX4_init_125 ?_
  refine lv_bipush (v := 33) hx hb dX4_init_128 (by decide) ?_
  refine lv_bipush (v := 7) hx hb dX4_init_130 (by decide) ?_
  refine lv_iload_n hx hb dX4_init_132 rfl (lv_at hl 0 rfl) ?_
  refine lv_imul hx hb dX4_init_133 ?_
  refine lv_eqi (y := 7) (by decide) ?_
  refine lv_iadd hx hb dX4_init_134 ?_
  refine lv_eqi (y := 40) (by decide) ?_
  refine lv_iconst (v := 0) hx hb dX4_init_135 (by decide) ?_
  refine lv_iadd hx hb dX4_init_136 ?_
  refine lv_eqi (y := 40) (by decide) ?_
  refine lv_bipush (v := 60) hx hb dX4_init_137 (by decide) ?_
  refine k_iast (k := 40) (ws' := [(o, .inr (4, [.int 0, .ref q_7, .ref q_15, .ref q_24, .int 0, .ref q_32, .int 0, .int 0, .int 0, .ref q_40, .int 0, .long 0])), (q_7, .inl (cI, 75, .inl (upd (upd (upd (upd (upd (upd (upd (upd (upd (upd (upd (upd (fun _ => 0) 0 100) 1 4) 2 20) 9 40) 10 3) 11 0) 33 60) 34 20) 13 40) 14 3) 15 1) 40 60))), (q_15, .inl (cI, 75, .inl (fun _ => 0))), (q_24, .inl (cI, 450, .inl (fun _ => 0))), (q_32, .inl (cI, 60, .inl (fun _ => 0))), (q_40, .inl (cI, 64, .inl (fun _ => 0)))]) hx hb hK hP hD hS 1 0 rfl rfl (vp_in_nI (n := 40) (by omega) (by omega)) (nI_clamp (n := 40) (by omega)) rfl dX4_init_139 (fun H locs hP hD hS => ?_)
  refine lv_aload_n hx hb dX4_init_140 rfl (lv_at hl 1 rfl) ?_
  refine va_get (D := D) (ci := 4) (v := .ref q_7) (C := RX4) (T := TX4) (N := 12) hx hb hts hinX4 hown hK hP 0 rfl rfl 1 (by decide) fl7 (fun _ h9 => h9) rfl dX4_init_141 ?_
  refine lv_bipush (v := 33) hx hb dX4_init_144 (by decide) ?_
  refine lv_bipush (v := 7) hx hb dX4_init_146 (by decide) ?_
  refine lv_iload_n hx hb dX4_init_148 rfl (lv_at hl 0 rfl) ?_
  refine lv_imul hx hb dX4_init_149 ?_
  refine lv_eqi (y := 7) (by decide) ?_
  refine lv_iadd hx hb dX4_init_150 ?_
  refine lv_eqi (y := 40) (by decide) ?_
  refine lv_iconst (v := 1) hx hb dX4_init_151 (by decide) ?_
  refine lv_iadd hx hb dX4_init_152 ?_
  refine lv_eqi (y := 41) (by decide) ?_
  refine lv_bipush (v := 20) hx hb dX4_init_153 (by decide) ?_
  refine k_iast (k := 41) (ws' := [(o, .inr (4, [.int 0, .ref q_7, .ref q_15, .ref q_24, .int 0, .ref q_32, .int 0, .int 0, .int 0, .ref q_40, .int 0, .long 0])), (q_7, .inl (cI, 75, .inl (upd (upd (upd (upd (upd (upd (upd (upd (upd (upd (upd (upd (upd (fun _ => 0) 0 100) 1 4) 2 20) 9 40) 10 3) 11 0) 33 60) 34 20) 13 40) 14 3) 15 1) 40 60) 41 20))), (q_15, .inl (cI, 75, .inl (fun _ => 0))), (q_24, .inl (cI, 450, .inl (fun _ => 0))), (q_32, .inl (cI, 60, .inl (fun _ => 0))), (q_40, .inl (cI, 64, .inl (fun _ => 0)))]) hx hb hK hP hD hS 1 0 rfl rfl (vp_in_nI (n := 41) (by omega) (by omega)) (nI_clamp (n := 41) (by omega)) rfl dX4_init_155 (fun H locs hP hD hS => ?_)
  refine lv_iinc (v := 2) (lv' := [(1, .int 2), (0, .ref o)]) hx hb dX4_init_156 hl (k := 0) rfl (by decide) (by decide) rfl (fun ls hl => ?_)
  refine lv_goto (tgt := 75) hx hb dX4_init_159 (by decide) ?_
  refine lv_iload_n hx hb dX4_init_75 rfl (lv_at hl 0 rfl) ?_
  refine lv_bipush (v := 6) hx hb dX4_init_76 (by decide) ?_
  refine lv_icmp_ge (tgt := 162) hx hb dX4_init_78 (by decide) (fun h9 => absurd h9 (by decide)) (fun _ => ?_)
  refine lv_aload_n hx hb dX4_init_81 rfl (lv_at hl 1 rfl) ?_
  refine va_get (D := D) (ci := 4) (v := .ref q_7) (C := RX4) (T := TX4) (N := 12) hx hb hts hinX4 hown hK hP 0 rfl rfl 1 (by decide) fl7 (fun _ h9 => h9) rfl dX4_init_82 ?_
  refine lv_bipush (v := 9) hx hb dX4_init_85 (by decide) ?_
  refine lv_iconst (v := 4) hx hb dX4_init_87 (by decide) ?_
  refine lv_iload_n hx hb dX4_init_88 rfl (lv_at hl 0 rfl) ?_
  refine lv_imul hx hb dX4_init_89 ?_
  refine lv_eqi (y := 8) (by decide) ?_
  refine lv_iadd hx hb dX4_init_90 ?_
  refine lv_eqi (y := 17) (by decide) ?_
  refine lv_iconst (v := 0) hx hb dX4_init_91 (by decide) ?_
  refine lv_iadd hx hb dX4_init_92 ?_
  refine lv_eqi (y := 17) (by decide) ?_
  refine lv_bipush (v := 40) hx hb dX4_init_93 (by decide) ?_
  refine k_iast (k := 17) (ws' := [(o, .inr (4, [.int 0, .ref q_7, .ref q_15, .ref q_24, .int 0, .ref q_32, .int 0, .int 0, .int 0, .ref q_40, .int 0, .long 0])), (q_7, .inl (cI, 75, .inl (upd (upd (upd (upd (upd (upd (upd (upd (upd (upd (upd (upd (upd (upd (fun _ => 0) 0 100) 1 4) 2 20) 9 40) 10 3) 11 0) 33 60) 34 20) 13 40) 14 3) 15 1) 40 60) 41 20) 17 40))), (q_15, .inl (cI, 75, .inl (fun _ => 0))), (q_24, .inl (cI, 450, .inl (fun _ => 0))), (q_32, .inl (cI, 60, .inl (fun _ => 0))), (q_40, .inl (cI, 64, .inl (fun _ => 0)))]) hx hb hK hP hD hS 1 0 rfl rfl (vp_in_nI (n := 17) (by omega) (by omega)) (nI_clamp (n := 17) (by omega)) rfl dX4_init_95 (fun H locs hP hD hS => ?_)
  refine lv_aload_n hx hb dX4_init_96 rfl (lv_at hl 1 rfl) ?_
  refine va_get (D := D) (ci := 4) (v := .ref q_7) (C := RX4) (T := TX4) (N := 12) hx hb hts hinX4 hown hK hP 0 rfl rfl 1 (by decide) fl7 (fun _ h9 => h9) rfl dX4_init_97 ?_
  refine lv_bipush (v := 9) hx hb dX4_init_100 (by decide) ?_
  refine lv_iconst (v := 4) hx hb dX4_init_102 (by decide) ?_
  refine lv_iload_n hx hb dX4_init_103 rfl (lv_at hl 0 rfl) ?_
  refine lv_imul hx hb dX4_init_104 ?_
  refine lv_eqi (y := 8) (by decide) ?_
  refine lv_iadd hx hb dX4_init_105 ?_
  refine lv_eqi (y := 17) (by decide) ?_
  refine lv_iconst (v := 1) hx hb dX4_init_106 (by decide) ?_
  refine lv_iadd hx hb dX4_init_107 ?_
  refine lv_eqi (y := 18) (by decide) ?_
  refine lv_iconst (v := 3) hx hb dX4_init_108 (by decide) ?_
  refine k_iast (k := 18) (ws' := [(o, .inr (4, [.int 0, .ref q_7, .ref q_15, .ref q_24, .int 0, .ref q_32, .int 0, .int 0, .int 0, .ref q_40, .int 0, .long 0])), (q_7, .inl (cI, 75, .inl (upd (upd (upd (upd (upd (upd (upd (upd (upd (upd (upd (upd (upd (upd (upd (fun _ => 0) 0 100) 1 4) 2 20) 9 40) 10 3) 11 0) 33 60) 34 20) 13 40) 14 3) 15 1) 40 60) 41 20) 17 40) 18 3))), (q_15, .inl (cI, 75, .inl (fun _ => 0))), (q_24, .inl (cI, 450, .inl (fun _ => 0))), (q_32, .inl (cI, 60, .inl (fun _ => 0))), (q_40, .inl (cI, 64, .inl (fun _ => 0)))]) hx hb hK hP hD hS 1 0 rfl rfl (vp_in_nI (n := 18) (by omega) (by omega)) (nI_clamp (n := 18) (by omega)) rfl dX4_init_109 (fun H locs hP hD hS => ?_)
  refine lv_aload_n hx hb dX4_init_110 rfl (lv_at hl 1 rfl) ?_
  refine va_get (D := D) (ci := 4) (v := .ref q_7) (C := RX4) (T := TX4) (N := 12) hx hb hts hinX4 hown hK hP 0 rfl rfl 1 (by decide) fl7 (fun _ h9 => h9) rfl dX4_init_111 ?_
  refine lv_bipush (v := 9) hx hb dX4_init_114 (by decide) ?_
  refine lv_iconst (v := 4) hx hb dX4_init_116 (by decide) ?_
  refine lv_iload_n hx hb dX4_init_117 rfl (lv_at hl 0 rfl) ?_
  refine lv_imul hx hb dX4_init_118 ?_
  refine lv_eqi (y := 8) (by decide) ?_
  refine lv_iadd hx hb dX4_init_119 ?_
  refine lv_eqi (y := 17) (by decide) ?_
  refine lv_iconst (v := 2) hx hb dX4_init_120 (by decide) ?_
  refine lv_iadd hx hb dX4_init_121 ?_
  refine lv_eqi (y := 19) (by decide) ?_
  refine lv_iload_n hx hb dX4_init_122 rfl (lv_at hl 0 rfl) ?_
  refine k_iast (k := 19) (ws' := [(o, .inr (4, [.int 0, .ref q_7, .ref q_15, .ref q_24, .int 0, .ref q_32, .int 0, .int 0, .int 0, .ref q_40, .int 0, .long 0])), (q_7, .inl (cI, 75, .inl (upd (upd (upd (upd (upd (upd (upd (upd (upd (upd (upd (upd (upd (upd (upd (upd (fun _ => 0) 0 100) 1 4) 2 20) 9 40) 10 3) 11 0) 33 60) 34 20) 13 40) 14 3) 15 1) 40 60) 41 20) 17 40) 18 3) 19 2))), (q_15, .inl (cI, 75, .inl (fun _ => 0))), (q_24, .inl (cI, 450, .inl (fun _ => 0))), (q_32, .inl (cI, 60, .inl (fun _ => 0))), (q_40, .inl (cI, 64, .inl (fun _ => 0)))]) hx hb hK hP hD hS 1 0 rfl rfl (vp_in_nI (n := 19) (by omega) (by omega)) (nI_clamp (n := 19) (by omega)) rfl dX4_init_123 (fun H locs hP hD hS => ?_)
  refine lv_aload_n hx hb dX4_init_124 rfl (lv_at hl 1 rfl) ?_
  refine va_get (D := D) (ci := 4) (v := .ref q_7) (C := RX4) (T := TX4) (N := 12) hx hb hts hinX4 hown hK hP 0 rfl rfl 1 (by decide) fl7 (fun _ h9 => h9) rfl dX4_init_125 ?_
  refine lv_bipush (v := 33) hx hb dX4_init_128 (by decide) ?_
  refine lv_bipush (v := 7) hx hb dX4_init_130 (by decide) ?_
  refine lv_iload_n hx hb dX4_init_132 rfl (lv_at hl 0 rfl) ?_
  refine lv_imul hx hb dX4_init_133 ?_
  refine lv_eqi (y := 14) (by decide) ?_
  refine lv_iadd hx hb dX4_init_134 ?_
  refine lv_eqi (y := 47) (by decide) ?_
  refine lv_iconst (v := 0) hx hb dX4_init_135 (by decide) ?_
  refine lv_iadd hx hb dX4_init_136 ?_
  refine lv_eqi (y := 47) (by decide) ?_
  refine lv_bipush (v := 60) hx hb dX4_init_137 (by decide) ?_
  refine k_iast (k := 47) (ws' := [(o, .inr (4, [.int 0, .ref q_7, .ref q_15, .ref q_24, .int 0, .ref q_32, .int 0, .int 0, .int 0, .ref q_40, .int 0, .long 0])), (q_7, .inl (cI, 75, .inl (upd (upd (upd (upd (upd (upd (upd (upd (upd (upd (upd (upd (upd (upd (upd (upd (upd (fun _ => 0) 0 100) 1 4) 2 20) 9 40) 10 3) 11 0) 33 60) 34 20) 13 40) 14 3) 15 1) 40 60) 41 20) 17 40) 18 3) 19 2) 47 60))), (q_15, .inl (cI, 75, .inl (fun _ => 0))), (q_24, .inl (cI, 450, .inl (fun _ => 0))), (q_32, .inl (cI, 60, .inl (fun _ => 0))), (q_40, .inl (cI, 64, .inl (fun _ => 0)))]) hx hb hK hP hD hS 1 0 rfl rfl (vp_in_nI (n := 47) (by omega) (by omega)) (nI_clamp (n := 47) (by omega)) rfl dX4_init_139 (fun H locs hP hD hS => ?_)
  refine lv_aload_n hx hb dX4_init_140 rfl (lv_at hl 1 rfl) ?_
  refine va_get (D := D) (ci := 4) (v := .ref q_7) (C := RX4) (T := TX4) (N := 12) hx hb hts hinX4 hown hK hP 0 rfl rfl 1 (by decide) fl7 (fun _ h9 => h9) rfl dX4_init_141 ?_
  refine lv_bipush (v := 33) hx hb dX4_init_144 (by decide) ?_
  refine lv_bipush (v := 7) hx hb dX4_init_146 (by decide) ?_
  refine lv_iload_n hx hb dX4_init_148 rfl (lv_at hl 0 rfl) ?_
  refine lv_imul hx hb dX4_init_149 ?_
  refine lv_eqi (y := 14) (by decide) ?_
  refine lv_iadd hx hb dX4_init_150 ?_
  refine lv_eqi (y := 47) (by decide) ?_
  refine lv_iconst (v := 1) hx hb dX4_init_151 (by decide) ?_
  refine lv_iadd hx hb dX4_init_152 ?_
  refine lv_eqi (y := 48) (by decide) ?_
  refine lv_bipush (v := 20) hx hb dX4_init_153 (by decide) ?_
  refine k_iast (k := 48) (ws' := [(o, .inr (4, [.int 0, .ref q_7, .ref q_15, .ref q_24, .int 0, .ref q_32, .int 0, .int 0, .int 0, .ref q_40, .int 0, .long 0])), (q_7, .inl (cI, 75, .inl (upd (upd (upd (upd (upd (upd (upd (upd (upd (upd (upd (upd (upd (upd (upd (upd (upd (upd (fun _ => 0) 0 100) 1 4) 2 20) 9 40) 10 3) 11 0) 33 60) 34 20) 13 40) 14 3) 15 1) 40 60) 41 20) 17 40) 18 3) 19 2) 47 60) 48 20))), (q_15, .inl (cI, 75, .inl (fun _ => 0))), (q_24, .inl (cI, 450, .inl (fun _ => 0))), (q_32, .inl (cI, 60, .inl (fun _ => 0))), (q_40, .inl (cI, 64, .inl (fun _ => 0)))]) hx hb hK hP hD hS 1 0 rfl rfl (vp_in_nI (n := 48) (by omega) (by omega)) (nI_clamp (n := 48) (by omega)) rfl dX4_init_155 (fun H locs hP hD hS => ?_)
  refine lv_iinc (v := 3) (lv' := [(1, .int 3), (0, .ref o)]) hx hb dX4_init_156 hl (k := 0) rfl (by decide) (by decide) rfl (fun ls hl => ?_)
  refine lv_goto (tgt := 75) hx hb dX4_init_159 (by decide) ?_
  refine lv_iload_n hx hb dX4_init_75 rfl (lv_at hl 0 rfl) ?_
  refine lv_bipush (v := 6) hx hb dX4_init_76 (by decide) ?_
  refine lv_icmp_ge (tgt := 162) hx hb dX4_init_78 (by decide) (fun h9 => absurd h9 (by decide)) (fun _ => ?_)
  refine lv_aload_n hx hb dX4_init_81 rfl (lv_at hl 1 rfl) ?_
  refine va_get (D := D) (ci := 4) (v := .ref q_7) (C := RX4) (T := TX4) (N := 12) hx hb hts hinX4 hown hK hP 0 rfl rfl 1 (by decide) fl7 (fun _ h9 => h9) rfl dX4_init_82 ?_
  refine lv_bipush (v := 9) hx hb dX4_init_85 (by decide) ?_
  refine lv_iconst (v := 4) hx hb dX4_init_87 (by decide) ?_
  refine lv_iload_n hx hb dX4_init_88 rfl (lv_at hl 0 rfl) ?_
  refine lv_imul hx hb dX4_init_89 ?_
  refine lv_eqi (y := 12) (by decide) ?_
  refine lv_iadd hx hb dX4_init_90 ?_
  refine lv_eqi (y := 21) (by decide) ?_
  refine lv_iconst (v := 0) hx hb dX4_init_91 (by decide) ?_
  refine lv_iadd hx hb dX4_init_92 ?_
  refine lv_eqi (y := 21) (by decide) ?_
  refine lv_bipush (v := 40) hx hb dX4_init_93 (by decide) ?_
  refine k_iast (k := 21) (ws' := [(o, .inr (4, [.int 0, .ref q_7, .ref q_15, .ref q_24, .int 0, .ref q_32, .int 0, .int 0, .int 0, .ref q_40, .int 0, .long 0])), (q_7, .inl (cI, 75, .inl (upd (upd (upd (upd (upd (upd (upd (upd (upd (upd (upd (upd (upd (upd (upd (upd (upd (upd (upd (fun _ => 0) 0 100) 1 4) 2 20) 9 40) 10 3) 11 0) 33 60) 34 20) 13 40) 14 3) 15 1) 40 60) 41 20) 17 40) 18 3) 19 2) 47 60) 48 20) 21 40))), (q_15, .inl (cI, 75, .inl (fun _ => 0))), (q_24, .inl (cI, 450, .inl (fun _ => 0))), (q_32, .inl (cI, 60, .inl (fun _ => 0))), (q_40, .inl (cI, 64, .inl (fun _ => 0)))]) hx hb hK hP hD hS 1 0 rfl rfl (vp_in_nI (n := 21) (by omega) (by omega)) (nI_clamp (n := 21) (by omega)) rfl dX4_init_95 (fun H locs hP hD hS => ?_)
  refine lv_aload_n hx hb dX4_init_96 rfl (lv_at hl 1 rfl) ?_
  refine va_get (D := D) (ci := 4) (v := .ref q_7) (C := RX4) (T := TX4) (N := 12) hx hb hts hinX4 hown hK hP 0 rfl rfl 1 (by decide) fl7 (fun _ h9 => h9) rfl dX4_init_97 ?_
  refine lv_bipush (v := 9) hx hb dX4_init_100 (by decide) ?_
  refine lv_iconst (v := 4) hx hb dX4_init_102 (by decide) ?_
  refine lv_iload_n hx hb dX4_init_103 rfl (lv_at hl 0 rfl) ?_
  refine lv_imul hx hb dX4_init_104 ?_
  refine lv_eqi (y := 12) (by decide) ?_
  refine lv_iadd hx hb dX4_init_105 ?_
  refine lv_eqi (y := 21) (by decide) ?_
  refine lv_iconst (v := 1) hx hb dX4_init_106 (by decide) ?_
  refine lv_iadd hx hb dX4_init_107 ?_
  refine lv_eqi (y := 22) (by decide) ?_
  refine lv_iconst (v := 3) hx hb dX4_init_108 (by decide) ?_
  refine k_iast (k := 22) (ws' := [(o, .inr (4, [.int 0, .ref q_7, .ref q_15, .ref q_24, .int 0, .ref q_32, .int 0, .int 0, .int 0, .ref q_40, .int 0, .long 0])), (q_7, .inl (cI, 75, .inl (upd (upd (upd (upd (upd (upd (upd (upd (upd (upd (upd (upd (upd (upd (upd (upd (upd (upd (upd (upd (fun _ => 0) 0 100) 1 4) 2 20) 9 40) 10 3) 11 0) 33 60) 34 20) 13 40) 14 3) 15 1) 40 60) 41 20) 17 40) 18 3) 19 2) 47 60) 48 20) 21 40) 22 3))), (q_15, .inl (cI, 75, .inl (fun _ => 0))), (q_24, .inl (cI, 450, .inl (fun _ => 0))), (q_32, .inl (cI, 60, .inl (fun _ => 0))), (q_40, .inl (cI, 64, .inl (fun _ => 0)))]) hx hb hK hP hD hS 1 0 rfl rfl (vp_in_nI (n := 22) (by omega) (by omega)) (nI_clamp (n := 22) (by omega)) rfl dX4_init_109 (fun H locs hP hD hS => ?_)
  refine lv_aload_n hx hb dX4_init_110 rfl (lv_at hl 1 rfl) ?_
  refine va_get (D := D) (ci := 4) (v := .ref q_7) (C := RX4) (T := TX4) (N := 12) hx hb hts hinX4 hown hK hP 0 rfl rfl 1 (by decide) fl7 (fun _ h9 => h9) rfl dX4_init_111 ?_
  refine lv_bipush (v := 9) hx hb dX4_init_114 (by decide) ?_
  refine lv_iconst (v := 4) hx hb dX4_init_116 (by decide) ?_
  refine lv_iload_n hx hb dX4_init_117 rfl (lv_at hl 0 rfl) ?_
  refine lv_imul hx hb dX4_init_118 ?_
  refine lv_eqi (y := 12) (by decide) ?_
  refine lv_iadd hx hb dX4_init_119 ?_
  refine lv_eqi (y := 21) (by decide) ?_
  refine lv_iconst (v := 2) hx hb dX4_init_120 (by decide) ?_
  refine lv_iadd hx hb dX4_init_121 ?_
  refine lv_eqi (y := 23) (by decide) ?_
  refine lv_iload_n hx hb dX4_init_122 rfl (lv_at hl 0 rfl) ?_
  refine k_iast (k := 23) (ws' := [(o, .inr (4, [.int 0, .ref q_7, .ref q_15, .ref q_24, .int 0, .ref q_32, .int 0, .int 0, .int 0, .ref q_40, .int 0, .long 0])), (q_7, .inl (cI, 75, .inl (upd (upd (upd (upd (upd (upd (upd (upd (upd (upd (upd (upd (upd (upd (upd (upd (upd (upd (upd (upd (upd (fun _ => 0) 0 100) 1 4) 2 20) 9 40) 10 3) 11 0) 33 60) 34 20) 13 40) 14 3) 15 1) 40 60) 41 20) 17 40) 18 3) 19 2) 47 60) 48 20) 21 40) 22 3) 23 3))), (q_15, .inl (cI, 75, .inl (fun _ => 0))), (q_24, .inl (cI, 450, .inl (fun _ => 0))), (q_32, .inl (cI, 60, .inl (fun _ => 0))), (q_40, .inl (cI, 64, .inl (fun _ => 0)))]) hx hb hK hP hD hS 1 0 rfl rfl (vp_in_nI (n := 23) (by omega) (by omega)) (nI_clamp (n := 23) (by omega)) rfl dX4_init_123 (fun H locs hP hD hS => ?_)
  refine lv_aload_n hx hb dX4_init_124 rfl (lv_at hl 1 rfl) ?_
  refine va_get (D := D) (ci := 4) (v := .ref q_7) (C := RX4) (T := TX4) (N := 12) hx hb hts hinX4 hown hK hP 0 rfl rfl 1 (by decide) fl7 (fun _ h9 => h9) rfl dX4_init_125 ?_
  refine lv_bipush (v := 33) hx hb dX4_init_128 (by decide) ?_
  refine lv_bipush (v := 7) hx hb dX4_init_130 (by decide) ?_
  refine lv_iload_n hx hb dX4_init_132 rfl (lv_at hl 0 rfl) ?_
  refine lv_imul hx hb dX4_init_133 ?_
  refine lv_eqi (y := 21) (by decide) ?_
  refine lv_iadd hx hb dX4_init_134 ?_
  refine lv_eqi (y := 54) (by decide) ?_
  refine lv_iconst (v := 0) hx hb dX4_init_135 (by decide) ?_
  refine lv_iadd hx hb dX4_init_136 ?_
  refine lv_eqi (y := 54) (by decide) ?_
  refine lv_bipush (v := 60) hx hb dX4_init_137 (by decide) ?_
  refine k_iast (k := 54) (ws' := [(o, .inr (4, [.int 0, .ref q_7, .ref q_15, .ref q_24, .int 0, .ref q_32, .int 0, .int 0, .int 0, .ref q_40, .int 0, .long 0])), (q_7, .inl (cI, 75, .inl (upd (upd (upd (upd (upd (upd (upd (upd (upd (upd (upd (upd (upd (upd (upd (upd (upd (upd (upd (upd (upd (upd (fun _ => 0) 0 100) 1 4) 2 20) 9 40) 10 3) 11 0) 33 60) 34 20) 13 40) 14 3) 15 1) 40 60) 41 20) 17 40) 18 3) 19 2) 47 60) 48 20) 21 40) 22 3) 23 3) 54 60))), (q_15, .inl (cI, 75, .inl (fun _ => 0))), (q_24, .inl (cI, 450, .inl (fun _ => 0))), (q_32, .inl (cI, 60, .inl (fun _ => 0))), (q_40, .inl (cI, 64, .inl (fun _ => 0)))]) hx hb hK hP hD hS 1 0 rfl rfl (vp_in_nI (n := 54) (by omega) (by omega)) (nI_clamp (n := 54) (by omega)) rfl dX4_init_139 (fun H locs hP hD hS => ?_)
  refine lv_aload_n hx hb dX4_init_140 rfl (lv_at hl 1 rfl) ?_
  refine va_get (D := D) (ci := 4) (v := .ref q_7) (C := RX4) (T := TX4) (N := 12) hx hb hts hinX4 hown hK hP 0 rfl rfl 1 (by decide) fl7 (fun _ h9 => h9) rfl dX4_init_141 ?_
  refine lv_bipush (v := 33) hx hb dX4_init_144 (by decide) ?_
  refine lv_bipush (v := 7) hx hb dX4_init_146 (by decide) ?_
  refine lv_iload_n hx hb dX4_init_148 rfl (lv_at hl 0 rfl) ?_
  refine lv_imul hx hb dX4_init_149 ?_
  refine lv_eqi (y := 21) (by decide) ?_
  refine lv_iadd hx hb dX4_init_150 ?_
  refine lv_eqi (y := 54) (by decide) ?_
  refine lv_iconst (v := 1) hx hb dX4_init_151 (by decide) ?_
  refine lv_iadd hx hb dX4_init_152 ?_
  refine lv_eqi (y := 55) (by decide) ?_
  refine lv_bipush (v := 20) hx hb dX4_init_153 (by decide) ?_
  refine k_iast (k := 55) (ws' := [(o, .inr (4, [.int 0, .ref q_7, .ref q_15, .ref q_24, .int 0, .ref q_32, .int 0, .int 0, .int 0, .ref q_40, .int 0, .long 0])), (q_7, .inl (cI, 75, .inl (upd (upd (upd (upd (upd (upd (upd (upd (upd (upd (upd (upd (upd (upd (upd (upd (upd (upd (upd (upd (upd (upd (upd (fun _ => 0) 0 100) 1 4) 2 20) 9 40) 10 3) 11 0) 33 60) 34 20) 13 40) 14 3) 15 1) 40 60) 41 20) 17 40) 18 3) 19 2) 47 60) 48 20) 21 40) 22 3) 23 3) 54 60) 55 20))), (q_15, .inl (cI, 75, .inl (fun _ => 0))), (q_24, .inl (cI, 450, .inl (fun _ => 0))), (q_32, .inl (cI, 60, .inl (fun _ => 0))), (q_40, .inl (cI, 64, .inl (fun _ => 0)))]) hx hb hK hP hD hS 1 0 rfl rfl (vp_in_nI (n := 55) (by omega) (by omega)) (nI_clamp (n := 55) (by omega)) rfl dX4_init_155 (fun H locs hP hD hS => ?_)
  refine lv_iinc (v := 4) (lv' := [(1, .int 4), (0, .ref o)]) hx hb dX4_init_156 hl (k := 0) rfl (by decide) (by decide) rfl (fun ls hl => ?_)
  refine lv_goto (tgt := 75) hx hb dX4_init_159 (by decide) ?_
  refine lv_iload_n hx hb dX4_init_75 rfl (lv_at hl 0 rfl) ?_
  refine lv_bipush (v := 6) hx hb dX4_init_76 (by decide) ?_
  refine lv_icmp_ge (tgt := 162) hx hb dX4_init_78 (by decide) (fun h9 => absurd h9 (by decide)) (fun _ => ?_)
  refine lv_aload_n hx hb dX4_init_81 rfl (lv_at hl 1 rfl) ?_
  refine va_get (D := D) (ci := 4) (v := .ref q_7) (C := RX4) (T := TX4) (N := 12) hx hb hts hinX4 hown hK hP 0 rfl rfl 1 (by decide) fl7 (fun _ h9 => h9) rfl dX4_init_82 ?_
  refine lv_bipush (v := 9) hx hb dX4_init_85 (by decide) ?_
  refine lv_iconst (v := 4) hx hb dX4_init_87 (by decide) ?_
  refine lv_iload_n hx hb dX4_init_88 rfl (lv_at hl 0 rfl) ?_
  refine lv_imul hx hb dX4_init_89 ?_
  refine lv_eqi (y := 16) (by decide) ?_
  refine lv_iadd hx hb dX4_init_90 ?_
  refine lv_eqi (y := 25) (by decide) ?_
  refine lv_iconst (v := 0) hx hb dX4_init_91 (by decide) ?_
  refine lv_iadd hx hb dX4_init_92 ?_
  refine lv_eqi (y := 25) (by decide) ?_
  refine lv_bipush (v := 40) hx hb dX4_init_93 (by decide) ?_
  refine k_iast (k := 25) (ws' := [(o, .inr (4, [.int 0, .ref q_7, .ref q_15, .ref q_24, .int 0, .ref q_32, .int 0, .int 0, .int 0, .ref q_40, .int 0, .long 0])), (q_7, .inl (cI, 75, .inl (upd (upd (upd (upd (upd (upd (upd (upd (upd (upd (upd (upd (upd (upd (upd (upd (upd (upd (upd (upd (upd (upd (upd (upd (fun _ => 0) 0 100) 1 4) 2 20) 9 40) 10 3) 11 0) 33 60) 34 20) 13 40) 14 3) 15 1) 40 60) 41 20) 17 40) 18 3) 19 2) 47 60) 48 20) 21 40) 22 3) 23 3) 54 60) 55 20) 25 40))), (q_15, .inl (cI, 75, .inl (fun _ => 0))), (q_24, .inl (cI, 450, .inl (fun _ => 0))), (q_32, .inl (cI, 60, .inl (fun _ => 0))), (q_40, .inl (cI, 64, .inl (fun _ => 0)))]) hx hb hK hP hD hS 1 0 rfl rfl (vp_in_nI (n := 25) (by omega) (by omega)) (nI_clamp (n := 25) (by omega)) rfl dX4_init_95 (fun H locs hP hD hS => ?_)
  refine lv_aload_n hx hb dX4_init_96 rfl (lv_at hl 1 rfl) ?_
  refine va_get (D := D) (ci := 4) (v := .ref q_7) (C := RX4) (T := TX4) (N := 12) hx hb hts hinX4 hown hK hP 0 rfl rfl 1 (by decide) fl7 (fun _ h9 => h9) rfl dX4_init_97 ?_
  refine lv_bipush (v := 9) hx hb dX4_init_100 (by decide) ?_
  refine lv_iconst (v := 4) hx hb dX4_init_102 (by decide) ?_
  refine lv_iload_n hx hb dX4_init_103 rfl (lv_at hl 0 rfl) ?_
  refine lv_imul hx hb dX4_init_104 ?_
  refine lv_eqi (y := 16) (by decide) ?_
  refine lv_iadd hx hb dX4_init_105 ?_
  refine lv_eqi (y := 25) (by decide) ?_
  refine lv_iconst (v := 1) hx hb dX4_init_106 (by decide) ?_
  refine lv_iadd hx hb dX4_init_107 ?_
  refine lv_eqi (y := 26) (by decide) ?_
  refine lv_iconst (v := 3) hx hb dX4_init_108 (by decide) ?_
  refine k_iast (k := 26) (ws' := [(o, .inr (4, [.int 0, .ref q_7, .ref q_15, .ref q_24, .int 0, .ref q_32, .int 0, .int 0, .int 0, .ref q_40, .int 0, .long 0])), (q_7, .inl (cI, 75, .inl (upd (upd (upd (upd (upd (upd (upd (upd (upd (upd (upd (upd (upd (upd (upd (upd (upd (upd (upd (upd (upd (upd (upd (upd (upd (fun _ => 0) 0 100) 1 4) 2 20) 9 40) 10 3) 11 0) 33 60) 34 20) 13 40) 14 3) 15 1) 40 60) 41 20) 17 40) 18 3) 19 2) 47 60) 48 20) 21 40) 22 3) 23 3) 54 60) 55 20) 25 40) 26 3))), (q_15, .inl (cI, 75, .inl (fun _ => 0))), (q_24, .inl (cI, 450, .inl (fun _ => 0))), (q_32, .inl (cI, 60, .inl (fun _ => 0))), (q_40, .inl (cI, 64, .inl (fun _ => 0)))]) hx hb hK hP hD hS 1 0 rfl rfl (vp_in_nI (n := 26) (by omega) (by omega)) (nI_clamp (n := 26) (by omega)) rfl dX4_init_109 (fun H locs hP hD hS => ?_)
  refine lv_aload_n hx hb dX4_init_110 rfl (lv_at hl 1 rfl) ?_
  refine va_get (D := D) (ci := 4) (v := .ref q_7) (C := RX4) (T := TX4) (N := 12) hx hb hts hinX4 hown hK hP 0 rfl rfl 1 (by decide) fl7 (fun _ h9 => h9) rfl dX4_init_111 ?_
  refine lv_bipush (v := 9) hx hb dX4_init_114 (by decide) ?_
  refine lv_iconst (v := 4) hx hb dX4_init_116 (by decide) ?_
  refine lv_iload_n hx hb dX4_init_117 rfl (lv_at hl 0 rfl) ?_
  refine lv_imul hx hb dX4_init_118 ?_
  refine lv_eqi (y := 16) (by decide) ?_
  refine lv_iadd hx hb dX4_init_119 ?_
  refine lv_eqi (y := 25) (by decide) ?_
  refine lv_iconst (v := 2) hx hb dX4_init_120 (by decide) ?_
  refine lv_iadd hx hb dX4_init_121 ?_
  refine lv_eqi (y := 27) (by decide) ?_
  refine lv_iload_n hx hb dX4_init_122 rfl (lv_at hl 0 rfl) ?_
  refine k_iast (k := 27) (ws' := [(o, .inr (4, [.int 0, .ref q_7, .ref q_15, .ref q_24, .int 0, .ref q_32, .int 0, .int 0, .int 0, .ref q_40, .int 0, .long 0])), (q_7, .inl (cI, 75, .inl (upd (upd (upd (upd (upd (upd (upd (upd (upd (upd (upd (upd (upd (upd (upd (upd (upd (upd (upd (upd (upd (upd (upd (upd (upd (upd (fun _ => 0) 0 100) 1 4) 2 20) 9 40) 10 3) 11 0) 33 60) 34 20) 13 40) 14 3) 15 1) 40 60) 41 20) 17 40) 18 3) 19 2) 47 60) 48 20) 21 40) 22 3) 23 3) 54 60) 55 20) 25 40) 26 3) 27 4))), (q_15, .inl (cI, 75, .inl (fun _ => 0))), (q_24, .inl (cI, 450, .inl (fun _ => 0))), (q_32, .inl (cI, 60, .inl (fun _ => 0))), (q_40, .inl (cI, 64, .inl (fun _ => 0)))]) hx hb hK hP hD hS 1 0 rfl rfl (vp_in_nI (n := 27) (by omega) (by omega)) (nI_clamp (n := 27) (by omega)) rfl dX4_init_123 (fun H locs hP hD hS => ?_)
  refine lv_aload_n hx hb dX4_init_124 rfl (lv_at hl 1 rfl) ?_
  refine va_get (D := D) (ci := 4) (v := .ref q_7) (C := RX4) (T := TX4) (N := 12) hx hb hts hinX4 hown hK hP 0 rfl rfl 1 (by decide) fl7 (fun _ h9 => h9) rfl dX4_init_125 ?_
  refine lv_bipush (v := 33) hx hb dX4_init_128 (by decide) ?_
  refine lv_bipush (v := 7) hx hb dX4_init_130 (by decide) ?_
  refine lv_iload_n hx hb dX4_init_132 rfl (lv_at hl 0 rfl) ?_
  refine lv_imul hx hb dX4_init_133 ?_
  refine lv_eqi (y := 28) (by decide) ?_
  refine lv_iadd hx hb dX4_init_134 ?_
  refine lv_eqi (y := 61) (by decide) ?_
  refine lv_iconst (v := 0) hx hb dX4_init_135 (by decide) ?_
  refine lv_iadd hx hb dX4_init_136 ?_
  refine lv_eqi (y := 61) (by decide) ?_
  refine lv_bipush (v := 60) hx hb dX4_init_137 (by decide) ?_
  refine k_iast (k := 61) (ws' := [(o, .inr (4, [.int 0, .ref q_7, .ref q_15, .ref q_24, .int 0, .ref q_32, .int 0, .int 0, .int 0, .ref q_40, .int 0, .long 0])), (q_7, .inl (cI, 75, .inl (upd (upd (upd (upd (upd (upd (upd (upd (upd (upd (upd (upd (upd (upd (upd (upd (upd (upd (upd (upd (upd (upd (upd (upd (upd (upd (upd (fun _ => 0) 0 100) 1 4) 2 20) 9 40) 10 3) 11 0) 33 60) 34 20) 13 40) 14 3) 15 1) 40 60) 41 20) 17 40) 18 3) 19 2) 47 60) 48 20) 21 40) 22 3) 23 3) 54 60) 55 20) 25 40) 26 3) 27 4) 61 60))), (q_15, .inl (cI, 75, .inl (fun _ => 0))), (q_24, .inl (cI, 450, .inl (fun _ => 0))), (q_32, .inl (cI, 60, .inl (fun _ => 0))), (q_40, .inl (cI, 64, .inl (fun _ => 0)))]) hx hb hK hP hD hS 1 0 rfl rfl (vp_in_nI (n := 61) (by omega) (by omega)) (nI_clamp (n := 61) (by omega)) rfl dX4_init_139 (fun H locs hP hD hS => ?_)
  refine lv_aload_n hx hb dX4_init_140 rfl (lv_at hl 1 rfl) ?_
  refine va_get (D := D) (ci := 4) (v := .ref q_7) (C := RX4) (T := TX4) (N := 12) hx hb hts hinX4 hown hK hP 0 rfl rfl 1 (by decide) fl7 (fun _ h9 => h9) rfl dX4_init_141 ?_
  refine lv_bipush (v := 33) hx hb dX4_init_144 (by decide) ?_
  refine lv_bipush (v := 7) hx hb dX4_init_146 (by decide) ?_
  refine lv_iload_n hx hb dX4_init_148 rfl (lv_at hl 0 rfl) ?_
  refine lv_imul hx hb dX4_init_149 ?_
  refine lv_eqi (y := 28) (by decide) ?_
  refine lv_iadd hx hb dX4_init_150 ?_
  refine lv_eqi (y := 61) (by decide) ?_
  refine lv_iconst (v := 1) hx hb dX4_init_151 (by decide) ?_
  refine lv_iadd hx hb dX4_init_152 ?_
  refine lv_eqi (y := 62) (by decide) ?_
  refine lv_bipush (v := 20) hx hb dX4_init_153 (by decide) ?_
  refine k_iast (k := 62) (ws' := [(o, .inr (4, [.int 0, .ref q_7, .ref q_15, .ref q_24, .int 0, .ref q_32, .int 0, .int 0, .int 0, .ref q_40, .int 0, .long 0])), (q_7, .inl (cI, 75, .inl (upd (upd (upd (upd (upd (upd (upd (upd (upd (upd (upd (upd (upd (upd (upd (upd (upd (upd (upd (upd (upd (upd (upd (upd (upd (upd (upd (upd (fun _ => 0) 0 100) 1 4) 2 20) 9 40) 10 3) 11 0) 33 60) 34 20) 13 40) 14 3) 15 1) 40 60) 41 20) 17 40) 18 3) 19 2) 47 60) 48 20) 21 40) 22 3) 23 3) 54 60) 55 20) 25 40) 26 3) 27 4) 61 60) 62 20))), (q_15, .inl (cI, 75, .inl (fun _ => 0))), (q_24, .inl (cI, 450, .inl (fun _ => 0))), (q_32, .inl (cI, 60, .inl (fun _ => 0))), (q_40, .inl (cI, 64, .inl (fun _ => 0)))]) hx hb hK hP hD hS 1 0 rfl rfl (vp_in_nI (n := 62) (by omega) (by omega)) (nI_clamp (n := 62) (by omega)) rfl dX4_init_155 (fun H locs hP hD hS => ?_)
  refine lv_iinc (v := 5) (lv' := [(1, .int 5), (0, .ref o)]) hx hb dX4_init_156 hl (k := 0) rfl (by decide) (by decide) rfl (fun ls hl => ?_)
  refine lv_goto (tgt := 75) hx hb dX4_init_159 (by decide) ?_
  refine lv_iload_n hx hb dX4_init_75 rfl (lv_at hl 0 rfl) ?_
  refine lv_bipush (v := 6) hx hb dX4_init_76 (by decide) ?_
  refine lv_icmp_ge (tgt := 162) hx hb dX4_init_78 (by decide) (fun h9 => absurd h9 (by decide)) (fun _ => ?_)
  refine lv_aload_n hx hb dX4_init_81 rfl (lv_at hl 1 rfl) ?_
  refine va_get (D := D) (ci := 4) (v := .ref q_7) (C := RX4) (T := TX4) (N := 12) hx hb hts hinX4 hown hK hP 0 rfl rfl 1 (by decide) fl7 (fun _ h9 => h9) rfl dX4_init_82 ?_
  refine lv_bipush (v := 9) hx hb dX4_init_85 (by decide) ?_
  refine lv_iconst (v := 4) hx hb dX4_init_87 (by decide) ?_
  refine lv_iload_n hx hb dX4_init_88 rfl (lv_at hl 0 rfl) ?_
  refine lv_imul hx hb dX4_init_89 ?_
  refine lv_eqi (y := 20) (by decide) ?_
  refine lv_iadd hx hb dX4_init_90 ?_
  refine lv_eqi (y := 29) (by decide) ?_
  refine lv_iconst (v := 0) hx hb dX4_init_91 (by decide) ?_
  refine lv_iadd hx hb dX4_init_92 ?_
  refine lv_eqi (y := 29) (by decide) ?_
  refine lv_bipush (v := 40) hx hb dX4_init_93 (by decide) ?_
  refine k_iast (k := 29) (ws' := [(o, .inr (4, [.int 0, .ref q_7, .ref q_15, .ref q_24, .int 0, .ref q_32, .int 0, .int 0, .int 0, .ref q_40, .int 0, .long 0])), (q_7, .inl (cI, 75, .inl (upd (upd (upd (upd (upd (upd (upd (upd (upd (upd (upd (upd (upd (upd (upd (upd (upd (upd (upd (upd (upd (upd (upd (upd (upd (upd (upd (upd (upd (fun _ => 0) 0 100) 1 4) 2 20) 9 40) 10 3) 11 0) 33 60) 34 20) 13 40) 14 3) 15 1) 40 60) 41 20) 17 40) 18 3) 19 2) 47 60) 48 20) 21 40) 22 3) 23 3) 54 60) 55 20) 25 40) 26 3) 27 4) 61 60) 62 20) 29 40))), (q_15, .inl (cI, 75, .inl (fun _ => 0))), (q_24, .inl (cI, 450, .inl (fun _ => 0))), (q_32, .inl (cI, 60, .inl (fun _ => 0))), (q_40, .inl (cI, 64, .inl (fun _ => 0)))]) hx hb hK hP hD hS 1 0 rfl rfl (vp_in_nI (n := 29) (by omega) (by omega)) (nI_clamp (n := 29) (by omega)) rfl dX4_init_95 (fun H locs hP hD hS => ?_)
  refine lv_aload_n hx hb dX4_init_96 rfl (lv_at hl 1 rfl) ?_
  refine va_get (D := D) (ci := 4) (v := .ref q_7) (C := RX4) (T := TX4) (N := 12) hx hb hts hinX4 hown hK hP 0 rfl rfl 1 (by decide) fl7 (fun _ h9 => h9) rfl dX4_init_97 ?_
  refine lv_bipush (v := 9) hx hb dX4_init_100 (by decide) ?_
  refine lv_iconst (v := 4) hx hb dX4_init_102 (by decide) ?_
  refine lv_iload_n hx hb dX4_init_103 rfl (lv_at hl 0 rfl) ?_
  refine lv_imul hx hb dX4_init_104 ?_
  refine lv_eqi (y := 20) (by decide) ?_
  refine lv_iadd hx hb dX4_init_105 ?_
  refine lv_eqi (y := 29) (by decide) ?_
  refine lv_iconst (v := 1) hx hb dX4_init_106 (by decide) ?_
  refine lv_iadd hx hb dX4_init_107 ?_
  refine lv_eqi (y := 30) (by decide) ?_
  refine lv_iconst (v := 3) hx hb dX4_init_108 (by decide) ?_
  refine k_iast (k := 30) (ws' := [(o, .inr (4, [.int 0, .ref q_7, .ref q_15, .ref q_24, .int 0, .ref q_32, .int 0, .int 0, .int 0, .ref q_40, .int 0, .long 0])), (q_7, .inl (cI, 75, .inl (upd (upd (upd (upd (upd (upd (upd (upd (upd (upd (upd (upd (upd (upd (upd (upd (upd (upd (upd (upd (upd (upd (upd (upd (upd (upd (upd (upd (upd (upd (fun _ => 0) 0 100) 1 4) 2 20) 9 40) 10 3) 11 0) 33 60) 34 20) 13 40) 14 3) 15 1) 40 60) 41 20) 17 40) 18 3) 19 2) 47 60) 48 20) 21 40) 22 3) 23 3) 54 60) 55 20) 25 40) 26 3) 27 4) 61 60) 62 20) 29 40) 30 3))), (q_15, .inl (cI, 75, .inl (fun _ => 0))), (q_24, .inl (cI, 450, .inl (fun _ => 0))), (q_32, .inl (cI, 60, .inl (fun _ => 0))), (q_40, .inl (cI, 64, .inl (fun _ => 0)))]) hx hb hK hP hD hS 1 0 rfl rfl (vp_in_nI (n := 30) (by omega) (by omega)) (nI_clamp (n := 30) (by omega)) rfl dX4_init_109 (fun H locs hP hD hS => ?_)
  refine lv_aload_n hx hb dX4_init_110 rfl (lv_at hl 1 rfl) ?_
  refine va_get (D := D) (ci := 4) (v := .ref q_7) (C := RX4) (T := TX4) (N := 12) hx hb hts hinX4 hown hK hP 0 rfl rfl 1 (by decide) fl7 (fun _ h9 => h9) rfl dX4_init_111 ?_
  refine lv_bipush (v := 9) hx hb dX4_init_114 (by decide) ?_
  refine lv_iconst (v := 4) hx hb dX4_init_116 (by decide) ?_
  refine lv_iload_n hx hb dX4_init_117 rfl (lv_at hl 0 rfl) ?_
  refine lv_imul hx hb dX4_init_118 ?_
  refine lv_eqi (y := 20) (by decide) ?_
  refine lv_iadd hx hb dX4_init_119 ?_
  refine lv_eqi (y := 29) (by decide) ?_
  refine lv_iconst (v := 2) hx hb dX4_init_120 (by decide) ?_
  refine lv_iadd hx hb dX4_init_121 ?_
  refine lv_eqi (y := 31) (by decide) ?_
  refine lv_iload_n hx hb dX4_init_122 rfl (lv_at hl 0 rfl) ?_
  refine k_iast (k := 31) (ws' := [(o, .inr (4, [.int 0, .ref q_7, .ref q_15, .ref q_24, .int 0, .ref q_32, .int 0, .int 0, .int 0, .ref q_40, .int 0, .long 0])), (q_7, .inl (cI, 75, .inl (upd (upd (upd (upd (upd (upd (upd (upd (upd (upd (upd (upd (upd (upd (upd (upd (upd (upd (upd (upd (upd (upd (upd (upd (upd (upd (upd (upd (upd (upd (upd (fun _ => 0) 0 100) 1 4) 2 20) 9 40) 10 3) 11 0) 33 60) 34 20) 13 40) 14 3) 15 1) 40 60) 41 20) 17 40) 18 3) 19 2) 47 60) 48 20) 21 40) 22 3) 23 3) 54 60) 55 20) 25 40) 26 3) 27 4) 61 60) 62 20) 29 40) 30 3) 31 5))), (q_15, .inl (cI, 75, .inl (fun _ => 0))), (q_24, .inl (cI, 450, .inl (fun _ => 0))), (q_32, .inl (cI, 60, .inl (fun _ => 0))), (q_40, .inl (cI, 64, .inl (fun _ => 0)))]) hx hb hK hP hD hS 1 0 rfl rfl (vp_in_nI (n := 31) (by omega) (by omega)) (nI_clamp (n := 31) (by omega)) rfl dX4_init_123 (fun H locs hP hD hS => ?_)
  refine lv_aload_n hx hb dX4_init_124 rfl (lv_at hl 1 rfl) ?_
  refine va_get (D := D) (ci := 4) (v := .ref q_7) (C := RX4) (T := TX4) (N := 12) hx hb hts hinX4 hown hK hP 0 rfl rfl 1 (by decide) fl7 (fun _ h9 => h9) rfl dX4_init_125 ?_
  refine lv_bipush (v := 33) hx hb dX4_init_128 (by decide) ?_
  refine lv_bipush (v := 7) hx hb dX4_init_130 (by decide) ?_
  refine lv_iload_n hx hb dX4_init_132 rfl (lv_at hl 0 rfl) ?_
  refine lv_imul hx hb dX4_init_133 ?_
  refine lv_eqi (y := 35) (by decide) ?_
  refine lv_iadd hx hb dX4_init_134 ?_
  refine lv_eqi (y := 68) (by decide) ?_
  refine lv_iconst (v := 0) hx hb dX4_init_135 (by decide) ?_
  refine lv_iadd hx hb dX4_init_136 ?_
  refine lv_eqi (y := 68) (by decide) ?_
  refine lv_bipush (v := 60) hx hb dX4_init_137 (by decide) ?_
  refine k_iast (k := 68) (ws' := [(o, .inr (4, [.int 0, .ref q_7, .ref q_15, .ref q_24, .int 0, .ref q_32, .int 0, .int 0, .int 0, .ref q_40, .int 0, .long 0])), (q_7, .inl (cI, 75, .inl (upd (upd (upd (upd (upd (upd (upd (upd (upd (upd (upd (upd (upd (upd (upd (upd (upd (upd (upd (upd (upd (upd (upd (upd (upd (upd (upd (upd (upd (upd (upd (upd (fun _ => 0) 0 100) 1 4) 2 20) 9 40) 10 3) 11 0) 33 60) 34 20) 13 40) 14 3) 15 1) 40 60) 41 20) 17 40) 18 3) 19 2) 47 60) 48 20) 21 40) 22 3) 23 3) 54 60) 55 20) 25 40) 26 3) 27 4) 61 60) 62 20) 29 40) 30 3) 31 5) 68 60))), (q_15, .inl (cI, 75, .inl (fun _ => 0))), (q_24, .inl (cI, 450, .inl (fun _ => 0))), (q_32, .inl (cI, 60, .inl (fun _ => 0))), (q_40, .inl (cI, 64, .inl (fun _ => 0)))]) hx hb hK hP hD hS 1 0 rfl rfl (vp_in_nI (n := 68) (by omega) (by omega)) (nI_clamp (n := 68) (by omega)) rfl dX4_init_139 (fun H locs hP hD hS => ?_)
  refine lv_aload_n hx hb dX4_init_140 rfl (lv_at hl 1 rfl) ?_
  refine va_get (D := D) (ci := 4) (v := .ref q_7) (C := RX4) (T := TX4) (N := 12) hx hb hts hinX4 hown hK hP 0 rfl rfl 1 (by decide) fl7 (fun _ h9 => h9) rfl dX4_init_141 ?_
  refine lv_bipush (v := 33) hx hb dX4_init_144 (by decide) ?_
  refine lv_bipush (v := 7) hx hb dX4_init_146 (by decide) ?_
  refine lv_iload_n hx hb dX4_init_148 rfl (lv_at hl 0 rfl) ?_
  refine lv_imul hx hb dX4_init_149 ?_
  refine lv_eqi (y := 35) (by decide) ?_
  refine lv_iadd hx hb dX4_init_150 ?_
  refine lv_eqi (y := 68) (by decide) ?_
  refine lv_iconst (v := 1) hx hb dX4_init_151 (by decide) ?_
  refine lv_iadd hx hb dX4_init_152 ?_
  refine lv_eqi (y := 69) (by decide) ?_
  refine lv_bipush (v := 20) hx hb dX4_init_153 (by decide) ?_
  refine k_iast (k := 69) (ws' := [(o, .inr (4, [.int 0, .ref q_7, .ref q_15, .ref q_24, .int 0, .ref q_32, .int 0, .int 0, .int 0, .ref q_40, .int 0, .long 0])), (q_7, .inl (cI, 75, .inl (upd (upd (upd (upd (upd (upd (upd (upd (upd (upd (upd (upd (upd (upd (upd (upd (upd (upd (upd (upd (upd (upd (upd (upd (upd (upd (upd (upd (upd (upd (upd (upd (upd (fun _ => 0) 0 100) 1 4) 2 20) 9 40) 10 3) 11 0) 33 60) 34 20) 13 40) 14 3) 15 1) 40 60) 41 20) 17 40) 18 3) 19 2) 47 60) 48 20) 21 40) 22 3) 23 3) 54 60) 55 20) 25 40) 26 3) 27 4) 61 60) 62 20) 29 40) 30 3) 31 5) 68 60) 69 20))), (q_15, .inl (cI, 75, .inl (fun _ => 0))), (q_24, .inl (cI, 450, .inl (fun _ => 0))), (q_32, .inl (cI, 60, .inl (fun _ => 0))), (q_40, .inl (cI, 64, .inl (fun _ => 0)))]) hx hb hK hP hD hS 1 0 rfl rfl (vp_in_nI (n := 69) (by omega) (by omega)) (nI_clamp (n := 69) (by omega)) rfl dX4_init_155 (fun H locs hP hD hS => ?_)
  refine lv_iinc (v := 6) (lv' := [(1, .int 6), (0, .ref o)]) hx hb dX4_init_156 hl (k := 0) rfl (by decide) (by decide) rfl (fun ls hl => ?_)
  refine lv_goto (tgt := 75) hx hb dX4_init_159 (by decide) ?_
  refine lv_iload_n hx hb dX4_init_75 rfl (lv_at hl 0 rfl) ?_
  refine lv_bipush (v := 6) hx hb dX4_init_76 (by decide) ?_
  refine lv_icmp_ge (tgt := 162) hx hb dX4_init_78 (by decide) (fun _ => ?_) (fun h9 => absurd (by decide) h9)
  refine W.widen (k := 5) (n := 724) (Nat.le_of_ble_eq_true rfl) (Nat.le_of_ble_eq_true rfl) ?_
  have hP : va_P D vwCl ((fun (u : Nat → Nat) => cM cI (adF o u) sB0 0) (fun k => [q_7, q_15, q_24, q_32, q_40].getD k 0)) H := hP
  have hD : va_D A ((fun (u : Nat → Nat) => cM cI (adF o u) sB0 0) (fun k => [q_7, q_15, q_24, q_32, q_40].getD k 0)) := hD
  exact k_vretN (w' := fun (u : Nat → Nat) => cM cI (adF o u) sB0 0) (fun k => [q_7, q_15, q_24, q_32, q_40].getD k 0) hx hb hr hlocks hS hP hD dX4_init_162
