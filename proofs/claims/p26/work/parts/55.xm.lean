/-! the calls of the face: what they throw, what they answer -/
theorem bad1 : ∀ w ∈ (vx_atS RX3 44 "java/lang/IndexOutOfBoundsException" nmX).filter (fun w => !goodWord w), w ∈ exB "java/lang/IndexOutOfBoundsException" := by decide +kernel
theorem hot1 : ∀ w ∈ Cond.classLink RX3 40 "java/lang/IndexOutOfBoundsException" :: Cond.initialized "java/lang/IndexOutOfBoundsException" :: vx_atS RX3 44 "java/lang/IndexOutOfBoundsException" nmX, vx_ot w = true := by decide +kernel
theorem bad2 : ∀ w ∈ (vx_atS RX3 55 "java/lang/IllegalArgumentException" nmX).filter (fun w => !goodWord w), w ∈ exB "java/lang/IllegalArgumentException" := by decide +kernel
theorem hot2 : ∀ w ∈ Cond.classLink RX3 51 "java/lang/IllegalArgumentException" :: Cond.initialized "java/lang/IllegalArgumentException" :: vx_atS RX3 55 "java/lang/IllegalArgumentException" nmX, vx_ot w = true := by decide +kernel
theorem bad3 : ∀ w ∈ (vx_atS RX3 82 "java/lang/IllegalStateException" nmX).filter (fun w => !goodWord w), w ∈ exB "java/lang/IllegalStateException" := by decide +kernel
theorem hot3 : ∀ w ∈ Cond.classLink RX3 78 "java/lang/IllegalStateException" :: Cond.initialized "java/lang/IllegalStateException" :: vx_atS RX3 82 "java/lang/IllegalStateException" nmX, vx_ot w = true := by decide +kernel
theorem k_preRV {s : State} {H : Heap} {A : Nat → Prop} {D : va_G} {tys : List (ClassId × FieldType)} {wr wc : va_W} (hE : EV s) (hK : va_K D vwCl tys s) (hP : va_P D vwCl (wr ++ wc) H) (hD : va_D A (wr ++ wc)) {b ci q0 : Nat} {q : vw_C} {fs : List Value} (hc : vwCl[ci]? = some q) (he : (wr ++ wc)[q0]? = some (b, .inr (ci, fs))) (As : List Value) : PreV s H q.1 b (va_Pc (.ref b :: As) (Prx D tys H.size wc)) As :=
  ⟨(k_preR hE hK hP hD (.ref b :: As)).1, va_recv hK hP hc he, (k_preR hE hK hP hD (.ref b :: As)).2⟩
def cPla (pp ra rs rg : Int32) : Nat := if zL pp 6 = 0 then 1 else if zL rg 6 = 0 then 1 else if zW ra 0 200 = 0 then 2 else if zW rs 0 9 = 0 then 2 else 0
def cGut (pp rs rb : Int32) : Nat := if zL pp 6 = 0 then 1 else if zW rs 1 500 = 0 then 2 else if zW rb 0 99 = 0 then 2 else 0
def cVal (r : rB) (pp rt : Int32) : Nat := if zL pp 6 = 0 then 1 else if rt = -1 then (if pp = rt then 2 else if vlead r pp 6 rt = 0 then 0 else 3) else if zL rt 6 = 0 then 1 else if pp = rt then 2 else if vlead r pp 6 rt = 0 then 0 else 3
def cCle (pp : Int32) : Nat := if zL pp 6 = 0 then 1 else 0
def cSet (pp rv : Int32) : Nat := if zL pp 3 = 0 then 1 else if zW rv 0 (mosF pp.toNatClampNeg) = 0 then 2 else 0
def cRai (rx rm : Int32) : Nat := if zW rx 0 99 = 0 then 2 else if zW rm 1 60 = 0 then 2 else 0
def cWks (rm : Int32) : Nat := if zW rm 1 52 = 0 then 2 else 0
def cUnd (held : Nat) : Nat := if held = 0 then 3 else 0
def cPof (pp rw : Int32) : Nat := if zL pp 6 = 0 then 1 else if zW rw 0 3 = 0 then 2 else 0
def cGof (pp rw : Int32) : Nat := if zL pp 6 = 0 then 1 else if zW rw 0 8 = 0 then 2 else 0
def cStg (pp : Int32) : Nat := if zL pp 3 = 0 then 1 else 0
set_option maxHeartbeats 4000000 in
set_option maxRecDepth 100000 in
theorem xX3_plane (l : Launch) (hfl : l.stackTraces = false) (D : va_G) (cI cQ cJ : ClassId) (o s0 w0 : Nat) (x a a2 : Nat → Nat) (A : Nat → Nat → Nat) (r q t : rB) (n old held : Nat) (B : Nat → rB) (pp ra rs rg : Int32) (hok : svOk n old held)  : XM l D (tY cI cQ cJ) yX3_plane wsX3_plane ({ frames := 6, cells := 14, slots := 91, locals := 112 } : Room) [.ref o, .int pp, .int ra, .int rs, .int rg] (WX cI cQ o s0 w0 x a a2 A r q t n (zF A n) (nI old) (nI held) B) (cPla pp ra rs rg) (fun z w' => ∃ u : Nat → Nat → Nat, z = r 0 pp.toNatClampNeg ∧ w' = WX cI cQ o s0 w0 x a a2 u (bp (bp (bp r 0 pp.toNatClampNeg ra) 1 pp.toNatClampNeg rs) 2 pp.toNatClampNeg rg) q t (kN n old held) (zF u (kN n old held)) (nI (kO old held)) (nI (kH held + 1)) (kB B old held r)) := by
  refine X_of (cc := cX3_plane) (maxL := 5) (ret := some .int) (by decide) rfl (Nat.le_of_ble_eq_true rfl) ?_
  intro p e s m below meth c A0 ls hB hT hE hX hP hK hD hA0 hl
  obtain ⟨hx, hb, hr, hml, hts, hown, hlocks⟩ := hB
  have hS : va_S A0 s.heap s.heap [] := va_S.rf
  have hA := hA0
  have hl : lv_has ls 5 [(0, .ref o), (1, .int pp), (2, .int ra), (3, .int rs), (4, .int rg)] := hl
  have hinX3 : ∀ w ∈ u_ws RX3 TX3 4, w ∈ wsX3_plane := by decide +kernel
  have fl22 := hts (.fieldLink RX3 22 "RoofDrains" "saved" "LRoofDrains$SavedRoofs;") (by decide +kernel)
  have fl10 := hts (.fieldLink RX3 10 "RoofDrains" "roof" "LRoofDrains$Roof;") (by decide +kernel)
  refine lv_iload_n hx hb dX3_plane_0 rfl (lv_at hl 1 rfl) ?_
  refine k_calli (wc := ([] : va_W)) (w' := ([] : va_W)) (wn := (cO o [.ref (a 0), .ref (a2 0), .ref s0, .ref (x 0)]) ++ (cR cI a r) ++ (cR cI a2 q) ++ (cS cQ s0 w0 (zF A n) (nI old) (nI held)) ++ (cT cI x t) ++ (cZ cI A B n)) (va_runS (As := [.int pp]) (rest := []) ⟨hx, hb, hml, hown, hts⟩ (mX3_isPlane l D cI cQ cJ pp _) (va_cwS 1 hts gX3_plane_X3_isPlane rfl rfl rfl (by decide +kernel) ⟨Nat.le_of_ble_eq_true rfl, Nat.le_of_ble_eq_true rfl⟩) (k_preS (wc := ([] : va_W)) hE hK hP hD [] (by decide) rfl [.int pp]) rfl rfl hl.1 rfl (lv_room (Nat.le_of_ble_eq_true rfl)) dX3_plane_1 ⟨Nat.le_of_ble_eq_true rfl, Nat.le_of_ble_eq_true rfl⟩) hP hD hS hA [] rfl rfl rfl (fun H locs hP hD hS => ?_)
  refine lv_if_eq (tgt := 15) hx hb dX3_plane_4 (by decide) (fun c_1 => ?_) (fun c_1 => ?_)
  · skip
    exact x_throw (E := "java/lang/IndexOutOfBoundsException") (kE := 1) (text := "no such plane or gutter") (ik := 40) (is := 42) (ic := 44) (Ts := wsX3_plane) hfl hx hb hml hts hown hX hS hP hT hlocks rfl (by simp [eIOB, eIAE, eISE]) (by decide +kernel) (by decide +kernel) (fun _ h => List.mem_cons_of_mem _ (List.mem_append_left _ (List.mem_append_right _ h))) bad1 hot1 (by decide +kernel) (by decide +kernel) hl.1 (by simp only [cPla, if_pos c_1, ↓reduceIte]) (by decide) dX3_plane_15 dX3_plane_18 dX3_plane_19 dX3_plane_21 dX3_plane_24 (Nat.le_of_ble_eq_true rfl) (Nat.le_of_ble_eq_true rfl) (Nat.le_of_ble_eq_true rfl) (Nat.le_of_ble_eq_true rfl) (Nat.le_of_ble_eq_true rfl) (Nat.le_of_ble_eq_true rfl)
  · skip
    refine lv_iload hx hb dX3_plane_7 (lv_at hl 4 rfl) ?_
    refine k_calli (wc := ([] : va_W)) (w' := ([] : va_W)) (wn := (cO o [.ref (a 0), .ref (a2 0), .ref s0, .ref (x 0)]) ++ (cR cI a r) ++ (cR cI a2 q) ++ (cS cQ s0 w0 (zF A n) (nI old) (nI held)) ++ (cT cI x t) ++ (cZ cI A B n)) (va_runS (As := [.int rg]) (rest := []) ⟨hx, hb, hml, hown, hts⟩ (mX3_isGutter l D cI cQ cJ rg _) (va_cwS 1 hts gX3_plane_X3_isGutter rfl rfl rfl (by decide +kernel) ⟨Nat.le_of_ble_eq_true rfl, Nat.le_of_ble_eq_true rfl⟩) (k_preS (wc := ([] : va_W)) hE hK hP hD [] (by decide) rfl [.int rg]) rfl rfl hl.1 rfl (lv_room (Nat.le_of_ble_eq_true rfl)) dX3_plane_9 ⟨Nat.le_of_ble_eq_true rfl, Nat.le_of_ble_eq_true rfl⟩) hP hD hS hA [] rfl rfl rfl (fun H locs hP hD hS => ?_)
    refine lv_if_ne (tgt := 25) hx hb dX3_plane_12 (by decide) (fun c_2 => ?_) (fun c_2 => ?_)
    · skip
      refine lv_iload_n hx hb dX3_plane_25 rfl (lv_at hl 2 rfl) ?_
      refine lv_iconst (v := 0) hx hb dX3_plane_26 (by decide) ?_
      refine lv_sipush (v := 200) hx hb dX3_plane_27 (by decide) ?_
      refine k_calli (wc := ([] : va_W)) (w' := ([] : va_W)) (wn := (cO o [.ref (a 0), .ref (a2 0), .ref s0, .ref (x 0)]) ++ (cR cI a r) ++ (cR cI a2 q) ++ (cS cQ s0 w0 (zF A n) (nI old) (nI held)) ++ (cT cI x t) ++ (cZ cI A B n)) (va_runS (As := [.int ra, .int 0, .int 200]) (rest := []) ⟨hx, hb, hml, hown, hts⟩ (mX3_isWithin l D cI cQ cJ ra 0 200 _) (va_cwS 3 hts gX3_plane_X3_isWithin rfl rfl rfl (by decide +kernel) ⟨Nat.le_of_ble_eq_true rfl, Nat.le_of_ble_eq_true rfl⟩) (k_preS (wc := ([] : va_W)) hE hK hP hD [] (by decide) rfl [.int ra, .int 0, .int 200]) rfl rfl hl.1 rfl (lv_room (Nat.le_of_ble_eq_true rfl)) dX3_plane_30 ⟨Nat.le_of_ble_eq_true rfl, Nat.le_of_ble_eq_true rfl⟩) hP hD hS hA [] rfl rfl rfl (fun H locs hP hD hS => ?_)
      refine lv_if_eq (tgt := 46) hx hb dX3_plane_33 (by decide) (fun c_3 => ?_) (fun c_3 => ?_)
      · skip
        exact x_throw (E := "java/lang/IllegalArgumentException") (kE := 2) (text := "area or slope out of range") (ik := 51) (is := 53) (ic := 55) (Ts := wsX3_plane) hfl hx hb hml hts hown hX hS hP hT hlocks rfl (by simp [eIOB, eIAE, eISE]) (by decide +kernel) (by decide +kernel) (fun _ h => List.mem_cons_of_mem _ (List.mem_append_right _ h)) bad2 hot2 (by decide +kernel) (by decide +kernel) hl.1 (by simp only [cPla, if_neg c_1, if_neg c_2, if_pos c_3, ↓reduceIte]) (by decide) dX3_plane_46 dX3_plane_49 dX3_plane_50 dX3_plane_52 dX3_plane_55 (Nat.le_of_ble_eq_true rfl) (Nat.le_of_ble_eq_true rfl) (Nat.le_of_ble_eq_true rfl) (Nat.le_of_ble_eq_true rfl) (Nat.le_of_ble_eq_true rfl) (Nat.le_of_ble_eq_true rfl)
      · skip
        refine lv_iload_n hx hb dX3_plane_36 rfl (lv_at hl 3 rfl) ?_
        refine lv_iconst (v := 0) hx hb dX3_plane_37 (by decide) ?_
        refine lv_bipush (v := 9) hx hb dX3_plane_38 (by decide) ?_
        refine k_calli (wc := ([] : va_W)) (w' := ([] : va_W)) (wn := (cO o [.ref (a 0), .ref (a2 0), .ref s0, .ref (x 0)]) ++ (cR cI a r) ++ (cR cI a2 q) ++ (cS cQ s0 w0 (zF A n) (nI old) (nI held)) ++ (cT cI x t) ++ (cZ cI A B n)) (va_runS (As := [.int rs, .int 0, .int 9]) (rest := []) ⟨hx, hb, hml, hown, hts⟩ (mX3_isWithin l D cI cQ cJ rs 0 9 _) (va_cwS 3 hts gX3_plane_X3_isWithin rfl rfl rfl (by decide +kernel) ⟨Nat.le_of_ble_eq_true rfl, Nat.le_of_ble_eq_true rfl⟩) (k_preS (wc := ([] : va_W)) hE hK hP hD [] (by decide) rfl [.int rs, .int 0, .int 9]) rfl rfl hl.1 rfl (lv_room (Nat.le_of_ble_eq_true rfl)) dX3_plane_40 ⟨Nat.le_of_ble_eq_true rfl, Nat.le_of_ble_eq_true rfl⟩) hP hD hS hA [] rfl rfl rfl (fun H locs hP hD hS => ?_)
        refine lv_if_ne (tgt := 56) hx hb dX3_plane_43 (by decide) (fun c_4 => ?_) (fun c_4 => ?_)
        · skip
          refine lv_aload_n hx hb dX3_plane_56 rfl (lv_at hl 0 rfl) ?_
          refine va_get (D := D) (ci := 3) (v := .ref s0) (C := RX3) (T := TX3) (N := 4) hx hb hts hinX3 hown hK hP 0 rfl rfl 2 (by decide) fl22 (fun _ h9 => h9) rfl dX3_plane_57 ?_
          refine lv_aload_n hx hb dX3_plane_60 rfl (lv_at hl 0 rfl) ?_
          refine va_get (D := D) (ci := 3) (v := .ref (a 0)) (C := RX3) (T := TX3) (N := 4) hx hb hts hinX3 hown hK hP 0 rfl rfl 0 (by decide) fl10 (fun _ h9 => h9) rfl dX3_plane_61 ?_
          refine k_calln (wr := []) (wc := (cO o [.ref (a 0), .ref (a2 0), .ref s0, .ref (x 0)]) ++ (cR cI a r) ++ (cR cI a2 q) ++ (cS cQ s0 w0 (zF A n) (nI old) (nI held)) ++ (cT cI x t) ++ (cZ cI A B n)) (w' := fun u => WX cI cQ o s0 w0 x a a2 u r q t (kN n old held) (zF u (kN n old held)) (nI (kO old held)) (nI (kH held + 1)) (kB B old held r)) (va_runV (As := [.ref (a 0)]) (rest := []) ⟨hx, hb, hml, hown, hts⟩ (mX2_keep l D cI cQ cJ o s0 w0 x a a2 A r q t n old held B hok _) (cwV 1 hts gX3_plane_X2_keep rfl rfl rfl (by decide +kernel) ⟨Nat.le_of_ble_eq_true rfl, Nat.le_of_ble_eq_true rfl⟩) (k_preRV (wr := []) (wc := (cO o [.ref (a 0), .ref (a2 0), .ref s0, .ref (x 0)]) ++ (cR cI a r) ++ (cR cI a2 q) ++ (cS cQ s0 w0 (zF A n) (nI old) (nI held)) ++ (cT cI x t) ++ (cZ cI A B n)) hE hK hP hD (ci := 2) (q0 := 27) rfl rfl [.ref (a 0)]) rfl rfl hl.1 rfl (lv_room (Nat.le_of_ble_eq_true rfl)) dX3_plane_64 ⟨Nat.le_of_ble_eq_true rfl, Nat.le_of_ble_eq_true rfl⟩) hP hD hS hA0 (fun u H locs hP hD hS => ?_)
          have hP : va_P D vwCl ((cO o [.ref (a 0), .ref (a2 0), .ref s0, .ref (x 0)]) ++ (cR cI a r) ++ (cR cI a2 q) ++ (cS cQ s0 w0 (zF u (kN n old held)) (nI (kO old held)) (nI (kH held + 1))) ++ (cT cI x t) ++ (cZ cI u (kB B old held r) (kN n old held))) H := hP
          have hD : va_D A0 ((cO o [.ref (a 0), .ref (a2 0), .ref s0, .ref (x 0)]) ++ (cR cI a r) ++ (cR cI a2 q) ++ (cS cQ s0 w0 (zF u (kN n old held)) (nI (kO old held)) (nI (kH held + 1))) ++ (cT cI x t) ++ (cZ cI u (kB B old held r) (kN n old held))) := hD
          refine lv_aload_n hx hb dX3_plane_67 rfl (lv_at hl 0 rfl) ?_
          refine va_get (D := D) (ci := 3) (v := .ref (a 0)) (C := RX3) (T := TX3) (N := 4) hx hb hts hinX3 hown hK hP 0 rfl rfl 0 (by decide) fl10 (fun _ h9 => h9) rfl dX3_plane_68 ?_
          refine lv_iload_n hx hb dX3_plane_71 rfl (lv_at hl 1 rfl) ?_
          refine lv_iload_n hx hb dX3_plane_72 rfl (lv_at hl 2 rfl) ?_
          refine lv_iload_n hx hb dX3_plane_73 rfl (lv_at hl 3 rfl) ?_
          refine lv_iload hx hb dX3_plane_74 (lv_at hl 4 rfl) ?_
          obtain ⟨r_5, er_5⟩ : ∃ z : rB, z = bp (bp (bp r 0 pp.toNatClampNeg ra) 1 pp.toNatClampNeg rs) 2 pp.toNatClampNeg rg := ⟨_, rfl⟩
          have hm_6 := mX1_changePlane l D cI cQ cJ a r pp pp.toNatClampNeg (zL_in (n := 6) rfl rfl c_1) rfl ra rs rg
          rw [← er_5] at hm_6
          refine k_calli (wc := cR cI a r) (w' := cR cI a r_5) (wn := (cO o [.ref (a 0), .ref (a2 0), .ref s0, .ref (x 0)]) ++ (cR cI a r_5) ++ (cR cI a2 q) ++ (cS cQ s0 w0 (zF u (kN n old held)) (nI (kO old held)) (nI (kH held + 1))) ++ (cT cI x t) ++ (cZ cI u (kB B old held r) (kN n old held))) (va_runV (As := [.int pp, .int ra, .int rs, .int rg]) (rest := []) ⟨hx, hb, hml, hown, hts⟩ (hm_6 _) (cwV 4 hts gX3_plane_X1_changePlane rfl rfl rfl (by decide +kernel) ⟨Nat.le_of_ble_eq_true rfl, Nat.le_of_ble_eq_true rfl⟩) (k_preV (wc := cR cI a r) hE hK hP hD [1, 2, 3, 4, 5, 6, 7, 8, 9, 10, 11, 12, 13] (by decide) rfl (ci := 1) (q0 := 1) rfl rfl [.int pp, .int ra, .int rs, .int rg]) rfl rfl hl.1 rfl (lv_room (Nat.le_of_ble_eq_true rfl)) dX3_plane_76 ⟨Nat.le_of_ble_eq_true rfl, Nat.le_of_ble_eq_true rfl⟩) hP hD hS hA [1, 2, 3, 4, 5, 6, 7, 8, 9, 10, 11, 12, 13] rfl rfl (by rw [show [1, 2, 3, 4, 5, 6, 7, 8, 9, 10, 11, 12, 13] = List.range' 1 13 from rfl, putAt_l _ _ _ _ 31, putAt_l _ _ _ _ 29, putAt_l _ _ _ _ 27, putAt_l _ _ _ _ 14, putAt_0 13 _ _ _ 1] <;> first | rfl | decide) (fun H locs hP hD hS => ?_)
          replace er_5 := er_5.symm; subst er_5
          exact x_iret hx hb hr hlocks hS hP hD dX3_plane_79 (by simp only [cPla, if_neg c_1, if_neg c_2, if_neg c_3, if_neg c_4, ↓reduceIte]) ⟨u, rfl, rfl⟩ (Nat.le_of_ble_eq_true rfl) (Nat.le_of_ble_eq_true rfl)
        · skip
          exact x_throw (E := "java/lang/IllegalArgumentException") (kE := 2) (text := "area or slope out of range") (ik := 51) (is := 53) (ic := 55) (Ts := wsX3_plane) hfl hx hb hml hts hown hX hS hP hT hlocks rfl (by simp [eIOB, eIAE, eISE]) (by decide +kernel) (by decide +kernel) (fun _ h => List.mem_cons_of_mem _ (List.mem_append_right _ h)) bad2 hot2 (by decide +kernel) (by decide +kernel) hl.1 (by simp only [cPla, if_neg c_1, if_neg c_2, if_neg c_3, if_pos c_4, ↓reduceIte]) (by decide) dX3_plane_46 dX3_plane_49 dX3_plane_50 dX3_plane_52 dX3_plane_55 (Nat.le_of_ble_eq_true rfl) (Nat.le_of_ble_eq_true rfl) (Nat.le_of_ble_eq_true rfl) (Nat.le_of_ble_eq_true rfl) (Nat.le_of_ble_eq_true rfl) (Nat.le_of_ble_eq_true rfl)
    · skip
      exact x_throw (E := "java/lang/IndexOutOfBoundsException") (kE := 1) (text := "no such plane or gutter") (ik := 40) (is := 42) (ic := 44) (Ts := wsX3_plane) hfl hx hb hml hts hown hX hS hP hT hlocks rfl (by simp [eIOB, eIAE, eISE]) (by decide +kernel) (by decide +kernel) (fun _ h => List.mem_cons_of_mem _ (List.mem_append_left _ (List.mem_append_right _ h))) bad1 hot1 (by decide +kernel) (by decide +kernel) hl.1 (by simp only [cPla, if_neg c_1, if_pos c_2, ↓reduceIte]) (by decide) dX3_plane_15 dX3_plane_18 dX3_plane_19 dX3_plane_21 dX3_plane_24 (Nat.le_of_ble_eq_true rfl) (Nat.le_of_ble_eq_true rfl) (Nat.le_of_ble_eq_true rfl) (Nat.le_of_ble_eq_true rfl) (Nat.le_of_ble_eq_true rfl) (Nat.le_of_ble_eq_true rfl)
set_option maxHeartbeats 4000000 in
set_option maxRecDepth 100000 in
theorem xX3_gutter (l : Launch) (hfl : l.stackTraces = false) (D : va_G) (cI cQ cJ : ClassId) (o s0 w0 : Nat) (x a a2 : Nat → Nat) (A : Nat → Nat → Nat) (r q t : rB) (n old held : Nat) (B : Nat → rB) (pp rs rb : Int32) (hok : svOk n old held)  : XM l D (tY cI cQ cJ) yX3_gutter wsX3_gutter ({ frames := 6, cells := 14, slots := 91, locals := 112 } : Room) [.ref o, .int pp, .int rs, .int rb] (WX cI cQ o s0 w0 x a a2 A r q t n (zF A n) (nI old) (nI held) B) (cGut pp rs rb) (fun z w' => ∃ u : Nat → Nat → Nat, z = r 4 pp.toNatClampNeg ∧ w' = WX cI cQ o s0 w0 x a a2 u (bp (bp r 4 pp.toNatClampNeg rs) 5 pp.toNatClampNeg rb) q t (kN n old held) (zF u (kN n old held)) (nI (kO old held)) (nI (kH held + 1)) (kB B old held r)) := by
  refine X_of (cc := cX3_gutter) (maxL := 4) (ret := some .int) (by decide) rfl (Nat.le_of_ble_eq_true rfl) ?_
  intro p e s m below meth c A0 ls hB hT hE hX hP hK hD hA0 hl
  obtain ⟨hx, hb, hr, hml, hts, hown, hlocks⟩ := hB
  have hS : va_S A0 s.heap s.heap [] := va_S.rf
  have hA := hA0
  have hl : lv_has ls 4 [(0, .ref o), (1, .int pp), (2, .int rs), (3, .int rb)] := hl
  have hinX3 : ∀ w ∈ u_ws RX3 TX3 4, w ∈ wsX3_gutter := by decide +kernel
  have fl22 := hts (.fieldLink RX3 22 "RoofDrains" "saved" "LRoofDrains$SavedRoofs;") (by decide +kernel)
  have fl10 := hts (.fieldLink RX3 10 "RoofDrains" "roof" "LRoofDrains$Roof;") (by decide +kernel)
  refine lv_iload_n hx hb dX3_gutter_0 rfl (lv_at hl 1 rfl) ?_
  refine k_calli (wc := ([] : va_W)) (w' := ([] : va_W)) (wn := (cO o [.ref (a 0), .ref (a2 0), .ref s0, .ref (x 0)]) ++ (cR cI a r) ++ (cR cI a2 q) ++ (cS cQ s0 w0 (zF A n) (nI old) (nI held)) ++ (cT cI x t) ++ (cZ cI A B n)) (va_runS (As := [.int pp]) (rest := []) ⟨hx, hb, hml, hown, hts⟩ (mX3_isGutter l D cI cQ cJ pp _) (va_cwS 1 hts gX3_gutter_X3_isGutter rfl rfl rfl (by decide +kernel) ⟨Nat.le_of_ble_eq_true rfl, Nat.le_of_ble_eq_true rfl⟩) (k_preS (wc := ([] : va_W)) hE hK hP hD [] (by decide) rfl [.int pp]) rfl rfl hl.1 rfl (lv_room (Nat.le_of_ble_eq_true rfl)) dX3_gutter_1 ⟨Nat.le_of_ble_eq_true rfl, Nat.le_of_ble_eq_true rfl⟩) hP hD hS hA [] rfl rfl rfl (fun H locs hP hD hS => ?_)
  refine lv_if_ne (tgt := 17) hx hb dX3_gutter_4 (by decide) (fun c_1 => ?_) (fun c_1 => ?_)
  · skip
    refine lv_iload_n hx hb dX3_gutter_17 rfl (lv_at hl 2 rfl) ?_
    refine lv_iconst (v := 1) hx hb dX3_gutter_18 (by decide) ?_
    refine lv_sipush (v := 500) hx hb dX3_gutter_19 (by decide) ?_
    refine k_calli (wc := ([] : va_W)) (w' := ([] : va_W)) (wn := (cO o [.ref (a 0), .ref (a2 0), .ref s0, .ref (x 0)]) ++ (cR cI a r) ++ (cR cI a2 q) ++ (cS cQ s0 w0 (zF A n) (nI old) (nI held)) ++ (cT cI x t) ++ (cZ cI A B n)) (va_runS (As := [.int rs, .int 1, .int 500]) (rest := []) ⟨hx, hb, hml, hown, hts⟩ (mX3_isWithin l D cI cQ cJ rs 1 500 _) (va_cwS 3 hts gX3_gutter_X3_isWithin rfl rfl rfl (by decide +kernel) ⟨Nat.le_of_ble_eq_true rfl, Nat.le_of_ble_eq_true rfl⟩) (k_preS (wc := ([] : va_W)) hE hK hP hD [] (by decide) rfl [.int rs, .int 1, .int 500]) rfl rfl hl.1 rfl (lv_room (Nat.le_of_ble_eq_true rfl)) dX3_gutter_22 ⟨Nat.le_of_ble_eq_true rfl, Nat.le_of_ble_eq_true rfl⟩) hP hD hS hA [] rfl rfl rfl (fun H locs hP hD hS => ?_)
    refine lv_if_eq (tgt := 38) hx hb dX3_gutter_25 (by decide) (fun c_2 => ?_) (fun c_2 => ?_)
    · skip
      exact x_throw (E := "java/lang/IllegalArgumentException") (kE := 2) (text := "size or bore out of range") (ik := 51) (is := 66) (ic := 55) (Ts := wsX3_gutter) hfl hx hb hml hts hown hX hS hP hT hlocks rfl (by simp [eIOB, eIAE, eISE]) (by decide +kernel) (by decide +kernel) (fun _ h => List.mem_cons_of_mem _ (List.mem_append_right _ h)) bad2 hot2 (by decide +kernel) (by decide +kernel) hl.1 (by simp only [cGut, if_neg c_1, if_pos c_2, ↓reduceIte]) (by decide) dX3_gutter_38 dX3_gutter_41 dX3_gutter_42 dX3_gutter_44 dX3_gutter_47 (Nat.le_of_ble_eq_true rfl) (Nat.le_of_ble_eq_true rfl) (Nat.le_of_ble_eq_true rfl) (Nat.le_of_ble_eq_true rfl) (Nat.le_of_ble_eq_true rfl) (Nat.le_of_ble_eq_true rfl)
    · skip
      refine lv_iload_n hx hb dX3_gutter_28 rfl (lv_at hl 3 rfl) ?_
      refine lv_iconst (v := 0) hx hb dX3_gutter_29 (by decide) ?_
      refine lv_bipush (v := 99) hx hb dX3_gutter_30 (by decide) ?_
      refine k_calli (wc := ([] : va_W)) (w' := ([] : va_W)) (wn := (cO o [.ref (a 0), .ref (a2 0), .ref s0, .ref (x 0)]) ++ (cR cI a r) ++ (cR cI a2 q) ++ (cS cQ s0 w0 (zF A n) (nI old) (nI held)) ++ (cT cI x t) ++ (cZ cI A B n)) (va_runS (As := [.int rb, .int 0, .int 99]) (rest := []) ⟨hx, hb, hml, hown, hts⟩ (mX3_isWithin l D cI cQ cJ rb 0 99 _) (va_cwS 3 hts gX3_gutter_X3_isWithin rfl rfl rfl (by decide +kernel) ⟨Nat.le_of_ble_eq_true rfl, Nat.le_of_ble_eq_true rfl⟩) (k_preS (wc := ([] : va_W)) hE hK hP hD [] (by decide) rfl [.int rb, .int 0, .int 99]) rfl rfl hl.1 rfl (lv_room (Nat.le_of_ble_eq_true rfl)) dX3_gutter_32 ⟨Nat.le_of_ble_eq_true rfl, Nat.le_of_ble_eq_true rfl⟩) hP hD hS hA [] rfl rfl rfl (fun H locs hP hD hS => ?_)
      refine lv_if_ne (tgt := 48) hx hb dX3_gutter_35 (by decide) (fun c_3 => ?_) (fun c_3 => ?_)
      · skip
        refine lv_aload_n hx hb dX3_gutter_48 rfl (lv_at hl 0 rfl) ?_
        refine va_get (D := D) (ci := 3) (v := .ref s0) (C := RX3) (T := TX3) (N := 4) hx hb hts hinX3 hown hK hP 0 rfl rfl 2 (by decide) fl22 (fun _ h9 => h9) rfl dX3_gutter_49 ?_
        refine lv_aload_n hx hb dX3_gutter_52 rfl (lv_at hl 0 rfl) ?_
        refine va_get (D := D) (ci := 3) (v := .ref (a 0)) (C := RX3) (T := TX3) (N := 4) hx hb hts hinX3 hown hK hP 0 rfl rfl 0 (by decide) fl10 (fun _ h9 => h9) rfl dX3_gutter_53 ?_
        refine k_calln (wr := []) (wc := (cO o [.ref (a 0), .ref (a2 0), .ref s0, .ref (x 0)]) ++ (cR cI a r) ++ (cR cI a2 q) ++ (cS cQ s0 w0 (zF A n) (nI old) (nI held)) ++ (cT cI x t) ++ (cZ cI A B n)) (w' := fun u => WX cI cQ o s0 w0 x a a2 u r q t (kN n old held) (zF u (kN n old held)) (nI (kO old held)) (nI (kH held + 1)) (kB B old held r)) (va_runV (As := [.ref (a 0)]) (rest := []) ⟨hx, hb, hml, hown, hts⟩ (mX2_keep l D cI cQ cJ o s0 w0 x a a2 A r q t n old held B hok _) (cwV 1 hts gX3_gutter_X2_keep rfl rfl rfl (by decide +kernel) ⟨Nat.le_of_ble_eq_true rfl, Nat.le_of_ble_eq_true rfl⟩) (k_preRV (wr := []) (wc := (cO o [.ref (a 0), .ref (a2 0), .ref s0, .ref (x 0)]) ++ (cR cI a r) ++ (cR cI a2 q) ++ (cS cQ s0 w0 (zF A n) (nI old) (nI held)) ++ (cT cI x t) ++ (cZ cI A B n)) hE hK hP hD (ci := 2) (q0 := 27) rfl rfl [.ref (a 0)]) rfl rfl hl.1 rfl (lv_room (Nat.le_of_ble_eq_true rfl)) dX3_gutter_56 ⟨Nat.le_of_ble_eq_true rfl, Nat.le_of_ble_eq_true rfl⟩) hP hD hS hA0 (fun u H locs hP hD hS => ?_)
        have hP : va_P D vwCl ((cO o [.ref (a 0), .ref (a2 0), .ref s0, .ref (x 0)]) ++ (cR cI a r) ++ (cR cI a2 q) ++ (cS cQ s0 w0 (zF u (kN n old held)) (nI (kO old held)) (nI (kH held + 1))) ++ (cT cI x t) ++ (cZ cI u (kB B old held r) (kN n old held))) H := hP
        have hD : va_D A0 ((cO o [.ref (a 0), .ref (a2 0), .ref s0, .ref (x 0)]) ++ (cR cI a r) ++ (cR cI a2 q) ++ (cS cQ s0 w0 (zF u (kN n old held)) (nI (kO old held)) (nI (kH held + 1))) ++ (cT cI x t) ++ (cZ cI u (kB B old held r) (kN n old held))) := hD
        refine lv_aload_n hx hb dX3_gutter_59 rfl (lv_at hl 0 rfl) ?_
        refine va_get (D := D) (ci := 3) (v := .ref (a 0)) (C := RX3) (T := TX3) (N := 4) hx hb hts hinX3 hown hK hP 0 rfl rfl 0 (by decide) fl10 (fun _ h9 => h9) rfl dX3_gutter_60 ?_
        refine lv_iload_n hx hb dX3_gutter_63 rfl (lv_at hl 1 rfl) ?_
        refine lv_iload_n hx hb dX3_gutter_64 rfl (lv_at hl 2 rfl) ?_
        refine lv_iload_n hx hb dX3_gutter_65 rfl (lv_at hl 3 rfl) ?_
        obtain ⟨r_4, er_4⟩ : ∃ z : rB, z = bp (bp r 4 pp.toNatClampNeg rs) 5 pp.toNatClampNeg rb := ⟨_, rfl⟩
        have hm_5 := mX1_changeGutter l D cI cQ cJ a r pp pp.toNatClampNeg (zL_in (n := 6) rfl rfl c_1) rfl rs rb
        rw [← er_4] at hm_5
        refine k_calli (wc := cR cI a r) (w' := cR cI a r_4) (wn := (cO o [.ref (a 0), .ref (a2 0), .ref s0, .ref (x 0)]) ++ (cR cI a r_4) ++ (cR cI a2 q) ++ (cS cQ s0 w0 (zF u (kN n old held)) (nI (kO old held)) (nI (kH held + 1))) ++ (cT cI x t) ++ (cZ cI u (kB B old held r) (kN n old held))) (va_runV (As := [.int pp, .int rs, .int rb]) (rest := []) ⟨hx, hb, hml, hown, hts⟩ (hm_5 _) (cwV 3 hts gX3_gutter_X1_changeGutter rfl rfl rfl (by decide +kernel) ⟨Nat.le_of_ble_eq_true rfl, Nat.le_of_ble_eq_true rfl⟩) (k_preV (wc := cR cI a r) hE hK hP hD [1, 2, 3, 4, 5, 6, 7, 8, 9, 10, 11, 12, 13] (by decide) rfl (ci := 1) (q0 := 1) rfl rfl [.int pp, .int rs, .int rb]) rfl rfl hl.1 rfl (lv_room (Nat.le_of_ble_eq_true rfl)) dX3_gutter_66 ⟨Nat.le_of_ble_eq_true rfl, Nat.le_of_ble_eq_true rfl⟩) hP hD hS hA [1, 2, 3, 4, 5, 6, 7, 8, 9, 10, 11, 12, 13] rfl rfl (by rw [show [1, 2, 3, 4, 5, 6, 7, 8, 9, 10, 11, 12, 13] = List.range' 1 13 from rfl, putAt_l _ _ _ _ 31, putAt_l _ _ _ _ 29, putAt_l _ _ _ _ 27, putAt_l _ _ _ _ 14, putAt_0 13 _ _ _ 1] <;> first | rfl | decide) (fun H locs hP hD hS => ?_)
        replace er_4 := er_4.symm; subst er_4
        exact x_iret hx hb hr hlocks hS hP hD dX3_gutter_69 (by simp only [cGut, if_neg c_1, if_neg c_2, if_neg c_3, ↓reduceIte]) ⟨u, rfl, rfl⟩ (Nat.le_of_ble_eq_true rfl) (Nat.le_of_ble_eq_true rfl)
      · skip
        exact x_throw (E := "java/lang/IllegalArgumentException") (kE := 2) (text := "size or bore out of range") (ik := 51) (is := 66) (ic := 55) (Ts := wsX3_gutter) hfl hx hb hml hts hown hX hS hP hT hlocks rfl (by simp [eIOB, eIAE, eISE]) (by decide +kernel) (by decide +kernel) (fun _ h => List.mem_cons_of_mem _ (List.mem_append_right _ h)) bad2 hot2 (by decide +kernel) (by decide +kernel) hl.1 (by simp only [cGut, if_neg c_1, if_neg c_2, if_pos c_3, ↓reduceIte]) (by decide) dX3_gutter_38 dX3_gutter_41 dX3_gutter_42 dX3_gutter_44 dX3_gutter_47 (Nat.le_of_ble_eq_true rfl) (Nat.le_of_ble_eq_true rfl) (Nat.le_of_ble_eq_true rfl) (Nat.le_of_ble_eq_true rfl) (Nat.le_of_ble_eq_true rfl) (Nat.le_of_ble_eq_true rfl)
  · skip
    exact x_throw (E := "java/lang/IndexOutOfBoundsException") (kE := 1) (text := "no such gutter") (ik := 40) (is := 64) (ic := 44) (Ts := wsX3_gutter) hfl hx hb hml hts hown hX hS hP hT hlocks rfl (by simp [eIOB, eIAE, eISE]) (by decide +kernel) (by decide +kernel) (fun _ h => List.mem_cons_of_mem _ (List.mem_append_left _ (List.mem_append_right _ h))) bad1 hot1 (by decide +kernel) (by decide +kernel) hl.1 (by simp only [cGut, if_pos c_1, ↓reduceIte]) (by decide) dX3_gutter_7 dX3_gutter_10 dX3_gutter_11 dX3_gutter_13 dX3_gutter_16 (Nat.le_of_ble_eq_true rfl) (Nat.le_of_ble_eq_true rfl) (Nat.le_of_ble_eq_true rfl) (Nat.le_of_ble_eq_true rfl) (Nat.le_of_ble_eq_true rfl) (Nat.le_of_ble_eq_true rfl)
set_option maxHeartbeats 4000000 in
set_option maxRecDepth 100000 in
theorem xX3_valley (l : Launch) (hfl : l.stackTraces = false) (D : va_G) (cI cQ cJ : ClassId) (o s0 w0 : Nat) (x a a2 : Nat → Nat) (A : Nat → Nat → Nat) (r q t : rB) (n old held : Nat) (B : Nat → rB) (pp rt : Int32) (hok : svOk n old held)  : XM l D (tY cI cQ cJ) yX3_valley wsX3_valley ({ frames := 6, cells := 14, slots := 91, locals := 112 } : Room) [.ref o, .int pp, .int rt] (WX cI cQ o s0 w0 x a a2 A r q t n (zF A n) (nI old) (nI held) B) (cVal r pp rt) (fun z w' => ∃ u : Nat → Nat → Nat, z = r 7 pp.toNatClampNeg ∧ w' = WX cI cQ o s0 w0 x a a2 u (bp r 7 pp.toNatClampNeg rt) q t (kN n old held) (zF u (kN n old held)) (nI (kO old held)) (nI (kH held + 1)) (kB B old held r)) := by
  refine X_of (cc := cX3_valley) (maxL := 3) (ret := some .int) (by decide) rfl (Nat.le_of_ble_eq_true rfl) ?_
  intro p e s m below meth c A0 ls hB hT hE hX hP hK hD hA0 hl
  obtain ⟨hx, hb, hr, hml, hts, hown, hlocks⟩ := hB
  have hS : va_S A0 s.heap s.heap [] := va_S.rf
  have hA := hA0
  have hl : lv_has ls 3 [(0, .ref o), (1, .int pp), (2, .int rt)] := hl
  have hinX3 : ∀ w ∈ u_ws RX3 TX3 4, w ∈ wsX3_valley := by decide +kernel
  have fl10 := hts (.fieldLink RX3 10 "RoofDrains" "roof" "LRoofDrains$Roof;") (by decide +kernel)
  have fl22 := hts (.fieldLink RX3 22 "RoofDrains" "saved" "LRoofDrains$SavedRoofs;") (by decide +kernel)
  refine lv_iload_n hx hb dX3_valley_0 rfl (lv_at hl 1 rfl) ?_
  refine k_calli (wc := ([] : va_W)) (w' := ([] : va_W)) (wn := (cO o [.ref (a 0), .ref (a2 0), .ref s0, .ref (x 0)]) ++ (cR cI a r) ++ (cR cI a2 q) ++ (cS cQ s0 w0 (zF A n) (nI old) (nI held)) ++ (cT cI x t) ++ (cZ cI A B n)) (va_runS (As := [.int pp]) (rest := []) ⟨hx, hb, hml, hown, hts⟩ (mX3_isGutter l D cI cQ cJ pp _) (va_cwS 1 hts gX3_valley_X3_isGutter rfl rfl rfl (by decide +kernel) ⟨Nat.le_of_ble_eq_true rfl, Nat.le_of_ble_eq_true rfl⟩) (k_preS (wc := ([] : va_W)) hE hK hP hD [] (by decide) rfl [.int pp]) rfl rfl hl.1 rfl (lv_room (Nat.le_of_ble_eq_true rfl)) dX3_valley_1 ⟨Nat.le_of_ble_eq_true rfl, Nat.le_of_ble_eq_true rfl⟩) hP hD hS hA [] rfl rfl rfl (fun H locs hP hD hS => ?_)
  refine lv_if_eq (tgt := 19) hx hb dX3_valley_4 (by decide) (fun c_1 => ?_) (fun c_1 => ?_)
  · skip
    exact x_throw (E := "java/lang/IndexOutOfBoundsException") (kE := 1) (text := "no such gutter") (ik := 40) (is := 64) (ic := 44) (Ts := wsX3_valley) hfl hx hb hml hts hown hX hS hP hT hlocks rfl (by simp [eIOB, eIAE, eISE]) (by decide +kernel) (by decide +kernel) (fun _ h => List.mem_cons_of_mem _ (List.mem_append_left _ (List.mem_append_left _ (List.mem_append_right _ h)))) bad1 hot1 (by decide +kernel) (by decide +kernel) hl.1 (by simp only [cVal, if_pos c_1, ↓reduceIte]) (by decide) dX3_valley_19 dX3_valley_22 dX3_valley_23 dX3_valley_25 dX3_valley_28 (Nat.le_of_ble_eq_true rfl) (Nat.le_of_ble_eq_true rfl) (Nat.le_of_ble_eq_true rfl) (Nat.le_of_ble_eq_true rfl) (Nat.le_of_ble_eq_true rfl) (Nat.le_of_ble_eq_true rfl)
  · skip
    refine lv_iload_n hx hb dX3_valley_7 rfl (lv_at hl 2 rfl) ?_
    refine lv_iconst (v := (-1)) hx hb dX3_valley_8 (by decide) ?_
    refine lv_icmp_eq (tgt := 29) hx hb dX3_valley_9 (by decide) (fun c_2 => ?_) (fun c_2 => ?_)
    · skip
      refine lv_iload_n hx hb dX3_valley_29 rfl (lv_at hl 1 rfl) ?_
      refine lv_iload_n hx hb dX3_valley_30 rfl (lv_at hl 2 rfl) ?_
      refine lv_icmp_ne (tgt := 44) hx hb dX3_valley_31 (by decide) (fun c_3 => ?_) (fun c_3 => ?_)
      · skip
        refine lv_aload_n hx hb dX3_valley_44 rfl (lv_at hl 0 rfl) ?_
        refine va_get (D := D) (ci := 3) (v := .ref (a 0)) (C := RX3) (T := TX3) (N := 4) hx hb hts hinX3 hown hK hP 0 rfl rfl 0 (by decide) fl10 (fun _ h9 => h9) rfl dX3_valley_45 ?_
        refine lv_iload_n hx hb dX3_valley_48 rfl (lv_at hl 2 rfl) ?_
        refine lv_iload_n hx hb dX3_valley_49 rfl (lv_at hl 1 rfl) ?_
        refine k_calli (wc := cR cI a r) (w' := cR cI a r) (wn := (cO o [.ref (a 0), .ref (a2 0), .ref s0, .ref (x 0)]) ++ (cR cI a r) ++ (cR cI a2 q) ++ (cS cQ s0 w0 (zF A n) (nI old) (nI held)) ++ (cT cI x t) ++ (cZ cI A B n)) (va_runV (As := [.int rt, .int pp]) (rest := []) ⟨hx, hb, hml, hown, hts⟩ (mX1_valleysLead l D cI cQ cJ a r rt pp _) (cwV 2 hts gX3_valley_X1_valleysLead rfl rfl rfl (by decide +kernel) ⟨Nat.le_of_ble_eq_true rfl, Nat.le_of_ble_eq_true rfl⟩) (k_preV (wc := cR cI a r) hE hK hP hD [1, 2, 3, 4, 5, 6, 7, 8, 9, 10, 11, 12, 13] (by decide) rfl (ci := 1) (q0 := 1) rfl rfl [.int rt, .int pp]) rfl rfl hl.1 rfl (lv_room (Nat.le_of_ble_eq_true rfl)) dX3_valley_50 ⟨Nat.le_of_ble_eq_true rfl, Nat.le_of_ble_eq_true rfl⟩) hP hD hS hA [1, 2, 3, 4, 5, 6, 7, 8, 9, 10, 11, 12, 13] rfl rfl (by rw [show [1, 2, 3, 4, 5, 6, 7, 8, 9, 10, 11, 12, 13] = List.range' 1 13 from rfl, putAt_l _ _ _ _ 31, putAt_l _ _ _ _ 29, putAt_l _ _ _ _ 27, putAt_l _ _ _ _ 14, putAt_0 13 _ _ _ 1] <;> first | rfl | decide) (fun H locs hP hD hS => ?_)
        refine lv_if_eq (tgt := 66) hx hb dX3_valley_53 (by decide) (fun c_4 => ?_) (fun c_4 => ?_)
        · skip
          refine lv_aload_n hx hb dX3_valley_66 rfl (lv_at hl 0 rfl) ?_
          refine va_get (D := D) (ci := 3) (v := .ref s0) (C := RX3) (T := TX3) (N := 4) hx hb hts hinX3 hown hK hP 0 rfl rfl 2 (by decide) fl22 (fun _ h9 => h9) rfl dX3_valley_67 ?_
          refine lv_aload_n hx hb dX3_valley_70 rfl (lv_at hl 0 rfl) ?_
          refine va_get (D := D) (ci := 3) (v := .ref (a 0)) (C := RX3) (T := TX3) (N := 4) hx hb hts hinX3 hown hK hP 0 rfl rfl 0 (by decide) fl10 (fun _ h9 => h9) rfl dX3_valley_71 ?_
          refine k_calln (wr := []) (wc := (cO o [.ref (a 0), .ref (a2 0), .ref s0, .ref (x 0)]) ++ (cR cI a r) ++ (cR cI a2 q) ++ (cS cQ s0 w0 (zF A n) (nI old) (nI held)) ++ (cT cI x t) ++ (cZ cI A B n)) (w' := fun u => WX cI cQ o s0 w0 x a a2 u r q t (kN n old held) (zF u (kN n old held)) (nI (kO old held)) (nI (kH held + 1)) (kB B old held r)) (va_runV (As := [.ref (a 0)]) (rest := []) ⟨hx, hb, hml, hown, hts⟩ (mX2_keep l D cI cQ cJ o s0 w0 x a a2 A r q t n old held B hok _) (cwV 1 hts gX3_valley_X2_keep rfl rfl rfl (by decide +kernel) ⟨Nat.le_of_ble_eq_true rfl, Nat.le_of_ble_eq_true rfl⟩) (k_preRV (wr := []) (wc := (cO o [.ref (a 0), .ref (a2 0), .ref s0, .ref (x 0)]) ++ (cR cI a r) ++ (cR cI a2 q) ++ (cS cQ s0 w0 (zF A n) (nI old) (nI held)) ++ (cT cI x t) ++ (cZ cI A B n)) hE hK hP hD (ci := 2) (q0 := 27) rfl rfl [.ref (a 0)]) rfl rfl hl.1 rfl (lv_room (Nat.le_of_ble_eq_true rfl)) dX3_valley_74 ⟨Nat.le_of_ble_eq_true rfl, Nat.le_of_ble_eq_true rfl⟩) hP hD hS hA0 (fun u H locs hP hD hS => ?_)
          have hP : va_P D vwCl ((cO o [.ref (a 0), .ref (a2 0), .ref s0, .ref (x 0)]) ++ (cR cI a r) ++ (cR cI a2 q) ++ (cS cQ s0 w0 (zF u (kN n old held)) (nI (kO old held)) (nI (kH held + 1))) ++ (cT cI x t) ++ (cZ cI u (kB B old held r) (kN n old held))) H := hP
          have hD : va_D A0 ((cO o [.ref (a 0), .ref (a2 0), .ref s0, .ref (x 0)]) ++ (cR cI a r) ++ (cR cI a2 q) ++ (cS cQ s0 w0 (zF u (kN n old held)) (nI (kO old held)) (nI (kH held + 1))) ++ (cT cI x t) ++ (cZ cI u (kB B old held r) (kN n old held))) := hD
          refine lv_aload_n hx hb dX3_valley_77 rfl (lv_at hl 0 rfl) ?_
          refine va_get (D := D) (ci := 3) (v := .ref (a 0)) (C := RX3) (T := TX3) (N := 4) hx hb hts hinX3 hown hK hP 0 rfl rfl 0 (by decide) fl10 (fun _ h9 => h9) rfl dX3_valley_78 ?_
          refine lv_iload_n hx hb dX3_valley_81 rfl (lv_at hl 1 rfl) ?_
          refine lv_iload_n hx hb dX3_valley_82 rfl (lv_at hl 2 rfl) ?_
          obtain ⟨r_5, er_5⟩ : ∃ z : rB, z = bp r 7 pp.toNatClampNeg rt := ⟨_, rfl⟩
          have hm_6 := mX1_changeValley l D cI cQ cJ a r pp pp.toNatClampNeg (zL_in (n := 6) rfl rfl c_1) rfl rt
          rw [← er_5] at hm_6
          refine k_calli (wc := cR cI a r) (w' := cR cI a r_5) (wn := (cO o [.ref (a 0), .ref (a2 0), .ref s0, .ref (x 0)]) ++ (cR cI a r_5) ++ (cR cI a2 q) ++ (cS cQ s0 w0 (zF u (kN n old held)) (nI (kO old held)) (nI (kH held + 1))) ++ (cT cI x t) ++ (cZ cI u (kB B old held r) (kN n old held))) (va_runV (As := [.int pp, .int rt]) (rest := []) ⟨hx, hb, hml, hown, hts⟩ (hm_6 _) (cwV 2 hts gX3_valley_X1_changeValley rfl rfl rfl (by decide +kernel) ⟨Nat.le_of_ble_eq_true rfl, Nat.le_of_ble_eq_true rfl⟩) (k_preV (wc := cR cI a r) hE hK hP hD [1, 2, 3, 4, 5, 6, 7, 8, 9, 10, 11, 12, 13] (by decide) rfl (ci := 1) (q0 := 1) rfl rfl [.int pp, .int rt]) rfl rfl hl.1 rfl (lv_room (Nat.le_of_ble_eq_true rfl)) dX3_valley_83 ⟨Nat.le_of_ble_eq_true rfl, Nat.le_of_ble_eq_true rfl⟩) hP hD hS hA [1, 2, 3, 4, 5, 6, 7, 8, 9, 10, 11, 12, 13] rfl rfl (by rw [show [1, 2, 3, 4, 5, 6, 7, 8, 9, 10, 11, 12, 13] = List.range' 1 13 from rfl, putAt_l _ _ _ _ 31, putAt_l _ _ _ _ 29, putAt_l _ _ _ _ 27, putAt_l _ _ _ _ 14, putAt_0 13 _ _ _ 1] <;> first | rfl | decide) (fun H locs hP hD hS => ?_)
          replace er_5 := er_5.symm; subst er_5
          exact x_iret hx hb hr hlocks hS hP hD dX3_valley_86 (by simp only [cVal, if_neg c_1, if_pos c_2, if_neg c_3, if_pos c_4, ↓reduceIte]) ⟨u, rfl, rfl⟩ (Nat.le_of_ble_eq_true rfl) (Nat.le_of_ble_eq_true rfl)
        · skip
          exact x_throw (E := "java/lang/IllegalStateException") (kE := 3) (text := "water would come back") (ik := 78) (is := 80) (ic := 82) (Ts := wsX3_valley) hfl hx hb hml hts hown hX hS hP hT hlocks rfl (by simp [eIOB, eIAE, eISE]) (by decide +kernel) (by decide +kernel) (fun _ h => List.mem_cons_of_mem _ (List.mem_append_right _ h)) bad3 hot3 (by decide +kernel) (by decide +kernel) hl.1 (by simp only [cVal, if_neg c_1, if_pos c_2, if_neg c_3, if_neg c_4, ↓reduceIte]) (by decide) dX3_valley_56 dX3_valley_59 dX3_valley_60 dX3_valley_62 dX3_valley_65 (Nat.le_of_ble_eq_true rfl) (Nat.le_of_ble_eq_true rfl) (Nat.le_of_ble_eq_true rfl) (Nat.le_of_ble_eq_true rfl) (Nat.le_of_ble_eq_true rfl) (Nat.le_of_ble_eq_true rfl)
      · skip
        exact x_throw (E := "java/lang/IllegalArgumentException") (kE := 2) (text := "both gutters are the same") (ik := 51) (is := 72) (ic := 55) (Ts := wsX3_valley) hfl hx hb hml hts hown hX hS hP hT hlocks rfl (by simp [eIOB, eIAE, eISE]) (by decide +kernel) (by decide +kernel) (fun _ h => List.mem_cons_of_mem _ (List.mem_append_left _ (List.mem_append_right _ h))) bad2 hot2 (by decide +kernel) (by decide +kernel) hl.1 (by simp only [cVal, if_neg c_1, if_pos c_2, if_pos c_3, ↓reduceIte]) (by decide) dX3_valley_34 dX3_valley_37 dX3_valley_38 dX3_valley_40 dX3_valley_43 (Nat.le_of_ble_eq_true rfl) (Nat.le_of_ble_eq_true rfl) (Nat.le_of_ble_eq_true rfl) (Nat.le_of_ble_eq_true rfl) (Nat.le_of_ble_eq_true rfl) (Nat.le_of_ble_eq_true rfl)
    · skip
      refine lv_iload_n hx hb dX3_valley_12 rfl (lv_at hl 2 rfl) ?_
      refine k_calli (wc := ([] : va_W)) (w' := ([] : va_W)) (wn := (cO o [.ref (a 0), .ref (a2 0), .ref s0, .ref (x 0)]) ++ (cR cI a r) ++ (cR cI a2 q) ++ (cS cQ s0 w0 (zF A n) (nI old) (nI held)) ++ (cT cI x t) ++ (cZ cI A B n)) (va_runS (As := [.int rt]) (rest := []) ⟨hx, hb, hml, hown, hts⟩ (mX3_isGutter l D cI cQ cJ rt _) (va_cwS 1 hts gX3_valley_X3_isGutter rfl rfl rfl (by decide +kernel) ⟨Nat.le_of_ble_eq_true rfl, Nat.le_of_ble_eq_true rfl⟩) (k_preS (wc := ([] : va_W)) hE hK hP hD [] (by decide) rfl [.int rt]) rfl rfl hl.1 rfl (lv_room (Nat.le_of_ble_eq_true rfl)) dX3_valley_13 ⟨Nat.le_of_ble_eq_true rfl, Nat.le_of_ble_eq_true rfl⟩) hP hD hS hA [] rfl rfl rfl (fun H locs hP hD hS => ?_)
      refine lv_if_ne (tgt := 29) hx hb dX3_valley_16 (by decide) (fun c_7 => ?_) (fun c_7 => ?_)
      · skip
        refine lv_iload_n hx hb dX3_valley_29 rfl (lv_at hl 1 rfl) ?_
        refine lv_iload_n hx hb dX3_valley_30 rfl (lv_at hl 2 rfl) ?_
        refine lv_icmp_ne (tgt := 44) hx hb dX3_valley_31 (by decide) (fun c_8 => ?_) (fun c_8 => ?_)
        · skip
          refine lv_aload_n hx hb dX3_valley_44 rfl (lv_at hl 0 rfl) ?_
          refine va_get (D := D) (ci := 3) (v := .ref (a 0)) (C := RX3) (T := TX3) (N := 4) hx hb hts hinX3 hown hK hP 0 rfl rfl 0 (by decide) fl10 (fun _ h9 => h9) rfl dX3_valley_45 ?_
          refine lv_iload_n hx hb dX3_valley_48 rfl (lv_at hl 2 rfl) ?_
          refine lv_iload_n hx hb dX3_valley_49 rfl (lv_at hl 1 rfl) ?_
          refine k_calli (wc := cR cI a r) (w' := cR cI a r) (wn := (cO o [.ref (a 0), .ref (a2 0), .ref s0, .ref (x 0)]) ++ (cR cI a r) ++ (cR cI a2 q) ++ (cS cQ s0 w0 (zF A n) (nI old) (nI held)) ++ (cT cI x t) ++ (cZ cI A B n)) (va_runV (As := [.int rt, .int pp]) (rest := []) ⟨hx, hb, hml, hown, hts⟩ (mX1_valleysLead l D cI cQ cJ a r rt pp _) (cwV 2 hts gX3_valley_X1_valleysLead rfl rfl rfl (by decide +kernel) ⟨Nat.le_of_ble_eq_true rfl, Nat.le_of_ble_eq_true rfl⟩) (k_preV (wc := cR cI a r) hE hK hP hD [1, 2, 3, 4, 5, 6, 7, 8, 9, 10, 11, 12, 13] (by decide) rfl (ci := 1) (q0 := 1) rfl rfl [.int rt, .int pp]) rfl rfl hl.1 rfl (lv_room (Nat.le_of_ble_eq_true rfl)) dX3_valley_50 ⟨Nat.le_of_ble_eq_true rfl, Nat.le_of_ble_eq_true rfl⟩) hP hD hS hA [1, 2, 3, 4, 5, 6, 7, 8, 9, 10, 11, 12, 13] rfl rfl (by rw [show [1, 2, 3, 4, 5, 6, 7, 8, 9, 10, 11, 12, 13] = List.range' 1 13 from rfl, putAt_l _ _ _ _ 31, putAt_l _ _ _ _ 29, putAt_l _ _ _ _ 27, putAt_l _ _ _ _ 14, putAt_0 13 _ _ _ 1] <;> first | rfl | decide) (fun H locs hP hD hS => ?_)
          refine lv_if_eq (tgt := 66) hx hb dX3_valley_53 (by decide) (fun c_9 => ?_) (fun c_9 => ?_)
          · skip
            refine lv_aload_n hx hb dX3_valley_66 rfl (lv_at hl 0 rfl) ?_
            refine va_get (D := D) (ci := 3) (v := .ref s0) (C := RX3) (T := TX3) (N := 4) hx hb hts hinX3 hown hK hP 0 rfl rfl 2 (by decide) fl22 (fun _ h9 => h9) rfl dX3_valley_67 ?_
            refine lv_aload_n hx hb dX3_valley_70 rfl (lv_at hl 0 rfl) ?_
            refine va_get (D := D) (ci := 3) (v := .ref (a 0)) (C := RX3) (T := TX3) (N := 4) hx hb hts hinX3 hown hK hP 0 rfl rfl 0 (by decide) fl10 (fun _ h9 => h9) rfl dX3_valley_71 ?_
            refine k_calln (wr := []) (wc := (cO o [.ref (a 0), .ref (a2 0), .ref s0, .ref (x 0)]) ++ (cR cI a r) ++ (cR cI a2 q) ++ (cS cQ s0 w0 (zF A n) (nI old) (nI held)) ++ (cT cI x t) ++ (cZ cI A B n)) (w' := fun u => WX cI cQ o s0 w0 x a a2 u r q t (kN n old held) (zF u (kN n old held)) (nI (kO old held)) (nI (kH held + 1)) (kB B old held r)) (va_runV (As := [.ref (a 0)]) (rest := []) ⟨hx, hb, hml, hown, hts⟩ (mX2_keep l D cI cQ cJ o s0 w0 x a a2 A r q t n old held B hok _) (cwV 1 hts gX3_valley_X2_keep rfl rfl rfl (by decide +kernel) ⟨Nat.le_of_ble_eq_true rfl, Nat.le_of_ble_eq_true rfl⟩) (k_preRV (wr := []) (wc := (cO o [.ref (a 0), .ref (a2 0), .ref s0, .ref (x 0)]) ++ (cR cI a r) ++ (cR cI a2 q) ++ (cS cQ s0 w0 (zF A n) (nI old) (nI held)) ++ (cT cI x t) ++ (cZ cI A B n)) hE hK hP hD (ci := 2) (q0 := 27) rfl rfl [.ref (a 0)]) rfl rfl hl.1 rfl (lv_room (Nat.le_of_ble_eq_true rfl)) dX3_valley_74 ⟨Nat.le_of_ble_eq_true rfl, Nat.le_of_ble_eq_true rfl⟩) hP hD hS hA0 (fun u H locs hP hD hS => ?_)
            have hP : va_P D vwCl ((cO o [.ref (a 0), .ref (a2 0), .ref s0, .ref (x 0)]) ++ (cR cI a r) ++ (cR cI a2 q) ++ (cS cQ s0 w0 (zF u (kN n old held)) (nI (kO old held)) (nI (kH held + 1))) ++ (cT cI x t) ++ (cZ cI u (kB B old held r) (kN n old held))) H := hP
            have hD : va_D A0 ((cO o [.ref (a 0), .ref (a2 0), .ref s0, .ref (x 0)]) ++ (cR cI a r) ++ (cR cI a2 q) ++ (cS cQ s0 w0 (zF u (kN n old held)) (nI (kO old held)) (nI (kH held + 1))) ++ (cT cI x t) ++ (cZ cI u (kB B old held r) (kN n old held))) := hD
            refine lv_aload_n hx hb dX3_valley_77 rfl (lv_at hl 0 rfl) ?_
            refine va_get (D := D) (ci := 3) (v := .ref (a 0)) (C := RX3) (T := TX3) (N := 4) hx hb hts hinX3 hown hK hP 0 rfl rfl 0 (by decide) fl10 (fun _ h9 => h9) rfl dX3_valley_78 ?_
            refine lv_iload_n hx hb dX3_valley_81 rfl (lv_at hl 1 rfl) ?_
            refine lv_iload_n hx hb dX3_valley_82 rfl (lv_at hl 2 rfl) ?_
            obtain ⟨r_10, er_10⟩ : ∃ z : rB, z = bp r 7 pp.toNatClampNeg rt := ⟨_, rfl⟩
            have hm_11 := mX1_changeValley l D cI cQ cJ a r pp pp.toNatClampNeg (zL_in (n := 6) rfl rfl c_1) rfl rt
            rw [← er_10] at hm_11
            refine k_calli (wc := cR cI a r) (w' := cR cI a r_10) (wn := (cO o [.ref (a 0), .ref (a2 0), .ref s0, .ref (x 0)]) ++ (cR cI a r_10) ++ (cR cI a2 q) ++ (cS cQ s0 w0 (zF u (kN n old held)) (nI (kO old held)) (nI (kH held + 1))) ++ (cT cI x t) ++ (cZ cI u (kB B old held r) (kN n old held))) (va_runV (As := [.int pp, .int rt]) (rest := []) ⟨hx, hb, hml, hown, hts⟩ (hm_11 _) (cwV 2 hts gX3_valley_X1_changeValley rfl rfl rfl (by decide +kernel) ⟨Nat.le_of_ble_eq_true rfl, Nat.le_of_ble_eq_true rfl⟩) (k_preV (wc := cR cI a r) hE hK hP hD [1, 2, 3, 4, 5, 6, 7, 8, 9, 10, 11, 12, 13] (by decide) rfl (ci := 1) (q0 := 1) rfl rfl [.int pp, .int rt]) rfl rfl hl.1 rfl (lv_room (Nat.le_of_ble_eq_true rfl)) dX3_valley_83 ⟨Nat.le_of_ble_eq_true rfl, Nat.le_of_ble_eq_true rfl⟩) hP hD hS hA [1, 2, 3, 4, 5, 6, 7, 8, 9, 10, 11, 12, 13] rfl rfl (by rw [show [1, 2, 3, 4, 5, 6, 7, 8, 9, 10, 11, 12, 13] = List.range' 1 13 from rfl, putAt_l _ _ _ _ 31, putAt_l _ _ _ _ 29, putAt_l _ _ _ _ 27, putAt_l _ _ _ _ 14, putAt_0 13 _ _ _ 1] <;> first | rfl | decide) (fun H locs hP hD hS => ?_)
            replace er_10 := er_10.symm; subst er_10
            exact x_iret hx hb hr hlocks hS hP hD dX3_valley_86 (by simp only [cVal, if_neg c_1, if_neg c_2, if_neg c_7, if_neg c_8, if_pos c_9, ↓reduceIte]) ⟨u, rfl, rfl⟩ (Nat.le_of_ble_eq_true rfl) (Nat.le_of_ble_eq_true rfl)
          · skip
            exact x_throw (E := "java/lang/IllegalStateException") (kE := 3) (text := "water would come back") (ik := 78) (is := 80) (ic := 82) (Ts := wsX3_valley) hfl hx hb hml hts hown hX hS hP hT hlocks rfl (by simp [eIOB, eIAE, eISE]) (by decide +kernel) (by decide +kernel) (fun _ h => List.mem_cons_of_mem _ (List.mem_append_right _ h)) bad3 hot3 (by decide +kernel) (by decide +kernel) hl.1 (by simp only [cVal, if_neg c_1, if_neg c_2, if_neg c_7, if_neg c_8, if_neg c_9, ↓reduceIte]) (by decide) dX3_valley_56 dX3_valley_59 dX3_valley_60 dX3_valley_62 dX3_valley_65 (Nat.le_of_ble_eq_true rfl) (Nat.le_of_ble_eq_true rfl) (Nat.le_of_ble_eq_true rfl) (Nat.le_of_ble_eq_true rfl) (Nat.le_of_ble_eq_true rfl) (Nat.le_of_ble_eq_true rfl)
        · skip
          exact x_throw (E := "java/lang/IllegalArgumentException") (kE := 2) (text := "both gutters are the same") (ik := 51) (is := 72) (ic := 55) (Ts := wsX3_valley) hfl hx hb hml hts hown hX hS hP hT hlocks rfl (by simp [eIOB, eIAE, eISE]) (by decide +kernel) (by decide +kernel) (fun _ h => List.mem_cons_of_mem _ (List.mem_append_left _ (List.mem_append_right _ h))) bad2 hot2 (by decide +kernel) (by decide +kernel) hl.1 (by simp only [cVal, if_neg c_1, if_neg c_2, if_neg c_7, if_pos c_8, ↓reduceIte]) (by decide) dX3_valley_34 dX3_valley_37 dX3_valley_38 dX3_valley_40 dX3_valley_43 (Nat.le_of_ble_eq_true rfl) (Nat.le_of_ble_eq_true rfl) (Nat.le_of_ble_eq_true rfl) (Nat.le_of_ble_eq_true rfl) (Nat.le_of_ble_eq_true rfl) (Nat.le_of_ble_eq_true rfl)
      · skip
        exact x_throw (E := "java/lang/IndexOutOfBoundsException") (kE := 1) (text := "no such gutter") (ik := 40) (is := 64) (ic := 44) (Ts := wsX3_valley) hfl hx hb hml hts hown hX hS hP hT hlocks rfl (by simp [eIOB, eIAE, eISE]) (by decide +kernel) (by decide +kernel) (fun _ h => List.mem_cons_of_mem _ (List.mem_append_left _ (List.mem_append_left _ (List.mem_append_right _ h)))) bad1 hot1 (by decide +kernel) (by decide +kernel) hl.1 (by simp only [cVal, if_neg c_1, if_neg c_2, if_pos c_7, ↓reduceIte]) (by decide) dX3_valley_19 dX3_valley_22 dX3_valley_23 dX3_valley_25 dX3_valley_28 (Nat.le_of_ble_eq_true rfl) (Nat.le_of_ble_eq_true rfl) (Nat.le_of_ble_eq_true rfl) (Nat.le_of_ble_eq_true rfl) (Nat.le_of_ble_eq_true rfl) (Nat.le_of_ble_eq_true rfl)
set_option maxHeartbeats 4000000 in
set_option maxRecDepth 100000 in
theorem xX3_clean (l : Launch) (hfl : l.stackTraces = false) (D : va_G) (cI cQ cJ : ClassId) (o s0 w0 : Nat) (x a a2 : Nat → Nat) (A : Nat → Nat → Nat) (r q t : rB) (n old held : Nat) (B : Nat → rB) (pp : Int32) (hok : svOk n old held)  : XM l D (tY cI cQ cJ) yX3_clean wsX3_clean ({ frames := 6, cells := 14, slots := 91, locals := 112 } : Room) [.ref o, .int pp] (WX cI cQ o s0 w0 x a a2 A r q t n (zF A n) (nI old) (nI held) B) (cCle pp) (fun z w' => ∃ u : Nat → Nat → Nat, z = r 6 pp.toNatClampNeg ∧ w' = WX cI cQ o s0 w0 x a a2 u (bp r 6 pp.toNatClampNeg 0) q t (kN n old held) (zF u (kN n old held)) (nI (kO old held)) (nI (kH held + 1)) (kB B old held r)) := by
  refine X_of (cc := cX3_clean) (maxL := 2) (ret := some .int) (by decide) rfl (Nat.le_of_ble_eq_true rfl) ?_
  intro p e s m below meth c A0 ls hB hT hE hX hP hK hD hA0 hl
  obtain ⟨hx, hb, hr, hml, hts, hown, hlocks⟩ := hB
  have hS : va_S A0 s.heap s.heap [] := va_S.rf
  have hA := hA0
  have hl : lv_has ls 2 [(0, .ref o), (1, .int pp)] := hl
  have hinX3 : ∀ w ∈ u_ws RX3 TX3 4, w ∈ wsX3_clean := by decide +kernel
  have fl22 := hts (.fieldLink RX3 22 "RoofDrains" "saved" "LRoofDrains$SavedRoofs;") (by decide +kernel)
  have fl10 := hts (.fieldLink RX3 10 "RoofDrains" "roof" "LRoofDrains$Roof;") (by decide +kernel)
  refine lv_iload_n hx hb dX3_clean_0 rfl (lv_at hl 1 rfl) ?_
  refine k_calli (wc := ([] : va_W)) (w' := ([] : va_W)) (wn := (cO o [.ref (a 0), .ref (a2 0), .ref s0, .ref (x 0)]) ++ (cR cI a r) ++ (cR cI a2 q) ++ (cS cQ s0 w0 (zF A n) (nI old) (nI held)) ++ (cT cI x t) ++ (cZ cI A B n)) (va_runS (As := [.int pp]) (rest := []) ⟨hx, hb, hml, hown, hts⟩ (mX3_isGutter l D cI cQ cJ pp _) (va_cwS 1 hts gX3_clean_X3_isGutter rfl rfl rfl (by decide +kernel) ⟨Nat.le_of_ble_eq_true rfl, Nat.le_of_ble_eq_true rfl⟩) (k_preS (wc := ([] : va_W)) hE hK hP hD [] (by decide) rfl [.int pp]) rfl rfl hl.1 rfl (lv_room (Nat.le_of_ble_eq_true rfl)) dX3_clean_1 ⟨Nat.le_of_ble_eq_true rfl, Nat.le_of_ble_eq_true rfl⟩) hP hD hS hA [] rfl rfl rfl (fun H locs hP hD hS => ?_)
  refine lv_if_ne (tgt := 17) hx hb dX3_clean_4 (by decide) (fun c_1 => ?_) (fun c_1 => ?_)
  · skip
    refine lv_aload_n hx hb dX3_clean_17 rfl (lv_at hl 0 rfl) ?_
    refine va_get (D := D) (ci := 3) (v := .ref s0) (C := RX3) (T := TX3) (N := 4) hx hb hts hinX3 hown hK hP 0 rfl rfl 2 (by decide) fl22 (fun _ h9 => h9) rfl dX3_clean_18 ?_
    refine lv_aload_n hx hb dX3_clean_21 rfl (lv_at hl 0 rfl) ?_
    refine va_get (D := D) (ci := 3) (v := .ref (a 0)) (C := RX3) (T := TX3) (N := 4) hx hb hts hinX3 hown hK hP 0 rfl rfl 0 (by decide) fl10 (fun _ h9 => h9) rfl dX3_clean_22 ?_
    refine k_calln (wr := []) (wc := (cO o [.ref (a 0), .ref (a2 0), .ref s0, .ref (x 0)]) ++ (cR cI a r) ++ (cR cI a2 q) ++ (cS cQ s0 w0 (zF A n) (nI old) (nI held)) ++ (cT cI x t) ++ (cZ cI A B n)) (w' := fun u => WX cI cQ o s0 w0 x a a2 u r q t (kN n old held) (zF u (kN n old held)) (nI (kO old held)) (nI (kH held + 1)) (kB B old held r)) (va_runV (As := [.ref (a 0)]) (rest := []) ⟨hx, hb, hml, hown, hts⟩ (mX2_keep l D cI cQ cJ o s0 w0 x a a2 A r q t n old held B hok _) (cwV 1 hts gX3_clean_X2_keep rfl rfl rfl (by decide +kernel) ⟨Nat.le_of_ble_eq_true rfl, Nat.le_of_ble_eq_true rfl⟩) (k_preRV (wr := []) (wc := (cO o [.ref (a 0), .ref (a2 0), .ref s0, .ref (x 0)]) ++ (cR cI a r) ++ (cR cI a2 q) ++ (cS cQ s0 w0 (zF A n) (nI old) (nI held)) ++ (cT cI x t) ++ (cZ cI A B n)) hE hK hP hD (ci := 2) (q0 := 27) rfl rfl [.ref (a 0)]) rfl rfl hl.1 rfl (lv_room (Nat.le_of_ble_eq_true rfl)) dX3_clean_25 ⟨Nat.le_of_ble_eq_true rfl, Nat.le_of_ble_eq_true rfl⟩) hP hD hS hA0 (fun u H locs hP hD hS => ?_)
    have hP : va_P D vwCl ((cO o [.ref (a 0), .ref (a2 0), .ref s0, .ref (x 0)]) ++ (cR cI a r) ++ (cR cI a2 q) ++ (cS cQ s0 w0 (zF u (kN n old held)) (nI (kO old held)) (nI (kH held + 1))) ++ (cT cI x t) ++ (cZ cI u (kB B old held r) (kN n old held))) H := hP
    have hD : va_D A0 ((cO o [.ref (a 0), .ref (a2 0), .ref s0, .ref (x 0)]) ++ (cR cI a r) ++ (cR cI a2 q) ++ (cS cQ s0 w0 (zF u (kN n old held)) (nI (kO old held)) (nI (kH held + 1))) ++ (cT cI x t) ++ (cZ cI u (kB B old held r) (kN n old held))) := hD
    refine lv_aload_n hx hb dX3_clean_28 rfl (lv_at hl 0 rfl) ?_
    refine va_get (D := D) (ci := 3) (v := .ref (a 0)) (C := RX3) (T := TX3) (N := 4) hx hb hts hinX3 hown hK hP 0 rfl rfl 0 (by decide) fl10 (fun _ h9 => h9) rfl dX3_clean_29 ?_
    refine lv_iload_n hx hb dX3_clean_32 rfl (lv_at hl 1 rfl) ?_
    obtain ⟨r_2, er_2⟩ : ∃ z : rB, z = bp r 6 pp.toNatClampNeg 0 := ⟨_, rfl⟩
    have hm_3 := mX1_takeLeaves l D cI cQ cJ a r pp pp.toNatClampNeg (zL_in (n := 6) rfl rfl c_1) rfl
    rw [← er_2] at hm_3
    refine k_calli (wc := cR cI a r) (w' := cR cI a r_2) (wn := (cO o [.ref (a 0), .ref (a2 0), .ref s0, .ref (x 0)]) ++ (cR cI a r_2) ++ (cR cI a2 q) ++ (cS cQ s0 w0 (zF u (kN n old held)) (nI (kO old held)) (nI (kH held + 1))) ++ (cT cI x t) ++ (cZ cI u (kB B old held r) (kN n old held))) (va_runV (As := [.int pp]) (rest := []) ⟨hx, hb, hml, hown, hts⟩ (hm_3 _) (cwV 1 hts gX3_clean_X1_takeLeaves rfl rfl rfl (by decide +kernel) ⟨Nat.le_of_ble_eq_true rfl, Nat.le_of_ble_eq_true rfl⟩) (k_preV (wc := cR cI a r) hE hK hP hD [1, 2, 3, 4, 5, 6, 7, 8, 9, 10, 11, 12, 13] (by decide) rfl (ci := 1) (q0 := 1) rfl rfl [.int pp]) rfl rfl hl.1 rfl (lv_room (Nat.le_of_ble_eq_true rfl)) dX3_clean_33 ⟨Nat.le_of_ble_eq_true rfl, Nat.le_of_ble_eq_true rfl⟩) hP hD hS hA [1, 2, 3, 4, 5, 6, 7, 8, 9, 10, 11, 12, 13] rfl rfl (by rw [show [1, 2, 3, 4, 5, 6, 7, 8, 9, 10, 11, 12, 13] = List.range' 1 13 from rfl, putAt_l _ _ _ _ 31, putAt_l _ _ _ _ 29, putAt_l _ _ _ _ 27, putAt_l _ _ _ _ 14, putAt_0 13 _ _ _ 1] <;> first | rfl | decide) (fun H locs hP hD hS => ?_)
    replace er_2 := er_2.symm; subst er_2
    exact x_iret hx hb hr hlocks hS hP hD dX3_clean_36 (by simp only [cCle, if_neg c_1, ↓reduceIte]) ⟨u, rfl, rfl⟩ (Nat.le_of_ble_eq_true rfl) (Nat.le_of_ble_eq_true rfl)
  · skip
    exact x_throw (E := "java/lang/IndexOutOfBoundsException") (kE := 1) (text := "no such gutter") (ik := 40) (is := 64) (ic := 44) (Ts := wsX3_clean) hfl hx hb hml hts hown hX hS hP hT hlocks rfl (by simp [eIOB, eIAE, eISE]) (by decide +kernel) (by decide +kernel) (fun _ h => List.mem_cons_of_mem _ (List.mem_append_right _ h)) bad1 hot1 (by decide +kernel) (by decide +kernel) hl.1 (by simp only [cCle, if_pos c_1, ↓reduceIte]) (by decide) dX3_clean_7 dX3_clean_10 dX3_clean_11 dX3_clean_13 dX3_clean_16 (Nat.le_of_ble_eq_true rfl) (Nat.le_of_ble_eq_true rfl) (Nat.le_of_ble_eq_true rfl) (Nat.le_of_ble_eq_true rfl) (Nat.le_of_ble_eq_true rfl) (Nat.le_of_ble_eq_true rfl)
set_option maxHeartbeats 4000000 in
set_option maxRecDepth 100000 in
theorem xX3_set (l : Launch) (hfl : l.stackTraces = false) (D : va_G) (cI cQ cJ : ClassId) (o s0 w0 : Nat) (x a a2 : Nat → Nat) (A : Nat → Nat → Nat) (r q t : rB) (n old held : Nat) (B : Nat → rB) (pp rv : Int32) (hok : svOk n old held)  : XM l D (tY cI cQ cJ) yX3_set wsX3_set ({ frames := 6, cells := 14, slots := 91, locals := 112 } : Room) [.ref o, .int pp, .int rv] (WX cI cQ o s0 w0 x a a2 A r q t n (zF A n) (nI old) (nI held) B) (cSet pp rv) (fun z w' => ∃ u : Nat → Nat → Nat, z = r 11 pp.toNatClampNeg ∧ w' = WX cI cQ o s0 w0 x a a2 u (bp r 11 pp.toNatClampNeg rv) q t (kN n old held) (zF u (kN n old held)) (nI (kO old held)) (nI (kH held + 1)) (kB B old held r)) := by
  refine X_of (cc := cX3_set) (maxL := 3) (ret := some .int) (by decide) rfl (Nat.le_of_ble_eq_true rfl) ?_
  intro p e s m below meth c A0 ls hB hT hE hX hP hK hD hA0 hl
  obtain ⟨hx, hb, hr, hml, hts, hown, hlocks⟩ := hB
  have hS : va_S A0 s.heap s.heap [] := va_S.rf
  have hA := hA0
  have hl : lv_has ls 3 [(0, .ref o), (1, .int pp), (2, .int rv)] := hl
  obtain ⟨bS, hZs, hXs, hbl, hbA⟩ := hX.2.2.2.2.2.2.2
  have hinX3 : ∀ w ∈ u_ws RX3 TX3 4, w ∈ wsX3_set := by decide +kernel
  have fl22 := hts (.fieldLink RX3 22 "RoofDrains" "saved" "LRoofDrains$SavedRoofs;") (by decide +kernel)
  have fl10 := hts (.fieldLink RX3 10 "RoofDrains" "roof" "LRoofDrains$Roof;") (by decide +kernel)
  refine lv_iload_n hx hb dX3_set_0 rfl (lv_at hl 1 rfl) ?_
  refine k_calli (wc := ([] : va_W)) (w' := ([] : va_W)) (wn := (cO o [.ref (a 0), .ref (a2 0), .ref s0, .ref (x 0)]) ++ (cR cI a r) ++ (cR cI a2 q) ++ (cS cQ s0 w0 (zF A n) (nI old) (nI held)) ++ (cT cI x t) ++ (cZ cI A B n)) (va_runS (As := [.int pp]) (rest := []) ⟨hx, hb, hml, hown, hts⟩ (mX3_isSetting l D cI cQ cJ pp _) (va_cwS 1 hts gX3_set_X3_isSetting rfl rfl rfl (by decide +kernel) ⟨Nat.le_of_ble_eq_true rfl, Nat.le_of_ble_eq_true rfl⟩) (k_preS (wc := ([] : va_W)) hE hK hP hD [] (by decide) rfl [.int pp]) rfl rfl hl.1 rfl (lv_room (Nat.le_of_ble_eq_true rfl)) dX3_set_1 ⟨Nat.le_of_ble_eq_true rfl, Nat.le_of_ble_eq_true rfl⟩) hP hD hS hA [] rfl rfl rfl (fun H locs hP hD hS => ?_)
  refine lv_if_ne (tgt := 17) hx hb dX3_set_4 (by decide) (fun c_1 => ?_) (fun c_1 => ?_)
  · skip
    refine lv_iload_n hx hb dX3_set_17 rfl (lv_at hl 2 rfl) ?_
    refine lv_iconst (v := 0) hx hb dX3_set_18 (by decide) ?_
    refine va_gets hx hb hZs hS hown (hts (.fieldLink RX3 96 "RoofDrains" "MOST_OF_SETTING" "[I") (by decide +kernel)) (fun _ h9 => h9) dX3_set_19 ?_
    refine lv_iload_n hx hb dX3_set_22 rfl (lv_at hl 1 rfl) ?_
    refine va_sld hx hb hXs hbl hbA hS (zL_in (n := 3) rfl rfl c_1) dX3_set_23 ?_
    refine k_calli (wc := ([] : va_W)) (w' := ([] : va_W)) (wn := (cO o [.ref (a 0), .ref (a2 0), .ref s0, .ref (x 0)]) ++ (cR cI a r) ++ (cR cI a2 q) ++ (cS cQ s0 w0 (zF A n) (nI old) (nI held)) ++ (cT cI x t) ++ (cZ cI A B n)) (va_runS (As := [.int rv, .int 0, .int (mosF pp.toNatClampNeg)]) (rest := []) ⟨hx, hb, hml, hown, hts⟩ (mX3_isWithin l D cI cQ cJ rv 0 (mosF pp.toNatClampNeg) _) (va_cwS 3 hts gX3_set_X3_isWithin rfl rfl rfl (by decide +kernel) ⟨Nat.le_of_ble_eq_true rfl, Nat.le_of_ble_eq_true rfl⟩) (k_preS (wc := ([] : va_W)) hE hK hP hD [] (by decide) rfl [.int rv, .int 0, .int (mosF pp.toNatClampNeg)]) rfl rfl hl.1 rfl (lv_room (Nat.le_of_ble_eq_true rfl)) dX3_set_24 ⟨Nat.le_of_ble_eq_true rfl, Nat.le_of_ble_eq_true rfl⟩) hP hD hS hA [] rfl rfl rfl (fun H locs hP hD hS => ?_)
    refine lv_if_ne (tgt := 40) hx hb dX3_set_27 (by decide) (fun c_2 => ?_) (fun c_2 => ?_)
    · skip
      refine lv_aload_n hx hb dX3_set_40 rfl (lv_at hl 0 rfl) ?_
      refine va_get (D := D) (ci := 3) (v := .ref s0) (C := RX3) (T := TX3) (N := 4) hx hb hts hinX3 hown hK hP 0 rfl rfl 2 (by decide) fl22 (fun _ h9 => h9) rfl dX3_set_41 ?_
      refine lv_aload_n hx hb dX3_set_44 rfl (lv_at hl 0 rfl) ?_
      refine va_get (D := D) (ci := 3) (v := .ref (a 0)) (C := RX3) (T := TX3) (N := 4) hx hb hts hinX3 hown hK hP 0 rfl rfl 0 (by decide) fl10 (fun _ h9 => h9) rfl dX3_set_45 ?_
      refine k_calln (wr := []) (wc := (cO o [.ref (a 0), .ref (a2 0), .ref s0, .ref (x 0)]) ++ (cR cI a r) ++ (cR cI a2 q) ++ (cS cQ s0 w0 (zF A n) (nI old) (nI held)) ++ (cT cI x t) ++ (cZ cI A B n)) (w' := fun u => WX cI cQ o s0 w0 x a a2 u r q t (kN n old held) (zF u (kN n old held)) (nI (kO old held)) (nI (kH held + 1)) (kB B old held r)) (va_runV (As := [.ref (a 0)]) (rest := []) ⟨hx, hb, hml, hown, hts⟩ (mX2_keep l D cI cQ cJ o s0 w0 x a a2 A r q t n old held B hok _) (cwV 1 hts gX3_set_X2_keep rfl rfl rfl (by decide +kernel) ⟨Nat.le_of_ble_eq_true rfl, Nat.le_of_ble_eq_true rfl⟩) (k_preRV (wr := []) (wc := (cO o [.ref (a 0), .ref (a2 0), .ref s0, .ref (x 0)]) ++ (cR cI a r) ++ (cR cI a2 q) ++ (cS cQ s0 w0 (zF A n) (nI old) (nI held)) ++ (cT cI x t) ++ (cZ cI A B n)) hE hK hP hD (ci := 2) (q0 := 27) rfl rfl [.ref (a 0)]) rfl rfl hl.1 rfl (lv_room (Nat.le_of_ble_eq_true rfl)) dX3_set_48 ⟨Nat.le_of_ble_eq_true rfl, Nat.le_of_ble_eq_true rfl⟩) hP hD hS hA0 (fun u H locs hP hD hS => ?_)
      have hP : va_P D vwCl ((cO o [.ref (a 0), .ref (a2 0), .ref s0, .ref (x 0)]) ++ (cR cI a r) ++ (cR cI a2 q) ++ (cS cQ s0 w0 (zF u (kN n old held)) (nI (kO old held)) (nI (kH held + 1))) ++ (cT cI x t) ++ (cZ cI u (kB B old held r) (kN n old held))) H := hP
      have hD : va_D A0 ((cO o [.ref (a 0), .ref (a2 0), .ref s0, .ref (x 0)]) ++ (cR cI a r) ++ (cR cI a2 q) ++ (cS cQ s0 w0 (zF u (kN n old held)) (nI (kO old held)) (nI (kH held + 1))) ++ (cT cI x t) ++ (cZ cI u (kB B old held r) (kN n old held))) := hD
      refine lv_aload_n hx hb dX3_set_51 rfl (lv_at hl 0 rfl) ?_
      refine va_get (D := D) (ci := 3) (v := .ref (a 0)) (C := RX3) (T := TX3) (N := 4) hx hb hts hinX3 hown hK hP 0 rfl rfl 0 (by decide) fl10 (fun _ h9 => h9) rfl dX3_set_52 ?_
      refine lv_iload_n hx hb dX3_set_55 rfl (lv_at hl 1 rfl) ?_
      refine lv_iload_n hx hb dX3_set_56 rfl (lv_at hl 2 rfl) ?_
      obtain ⟨r_3, er_3⟩ : ∃ z : rB, z = bp r 11 pp.toNatClampNeg rv := ⟨_, rfl⟩
      have hm_4 := mX1_changeSetting l D cI cQ cJ a r pp pp.toNatClampNeg (zL_in (n := 3) rfl rfl c_1) rfl rv
      rw [← er_3] at hm_4
      refine k_calli (wc := cR cI a r) (w' := cR cI a r_3) (wn := (cO o [.ref (a 0), .ref (a2 0), .ref s0, .ref (x 0)]) ++ (cR cI a r_3) ++ (cR cI a2 q) ++ (cS cQ s0 w0 (zF u (kN n old held)) (nI (kO old held)) (nI (kH held + 1))) ++ (cT cI x t) ++ (cZ cI u (kB B old held r) (kN n old held))) (va_runV (As := [.int pp, .int rv]) (rest := []) ⟨hx, hb, hml, hown, hts⟩ (hm_4 _) (cwV 2 hts gX3_set_X1_changeSetting rfl rfl rfl (by decide +kernel) ⟨Nat.le_of_ble_eq_true rfl, Nat.le_of_ble_eq_true rfl⟩) (k_preV (wc := cR cI a r) hE hK hP hD [1, 2, 3, 4, 5, 6, 7, 8, 9, 10, 11, 12, 13] (by decide) rfl (ci := 1) (q0 := 1) rfl rfl [.int pp, .int rv]) rfl rfl hl.1 rfl (lv_room (Nat.le_of_ble_eq_true rfl)) dX3_set_57 ⟨Nat.le_of_ble_eq_true rfl, Nat.le_of_ble_eq_true rfl⟩) hP hD hS hA [1, 2, 3, 4, 5, 6, 7, 8, 9, 10, 11, 12, 13] rfl rfl (by rw [show [1, 2, 3, 4, 5, 6, 7, 8, 9, 10, 11, 12, 13] = List.range' 1 13 from rfl, putAt_l _ _ _ _ 31, putAt_l _ _ _ _ 29, putAt_l _ _ _ _ 27, putAt_l _ _ _ _ 14, putAt_0 13 _ _ _ 1] <;> first | rfl | decide) (fun H locs hP hD hS => ?_)
      replace er_3 := er_3.symm; subst er_3
      exact x_iret hx hb hr hlocks hS hP hD dX3_set_60 (by simp only [cSet, if_neg c_1, if_neg c_2, ↓reduceIte]) ⟨u, rfl, rfl⟩ (Nat.le_of_ble_eq_true rfl) (Nat.le_of_ble_eq_true rfl)
    · skip
      exact x_throw (E := "java/lang/IllegalArgumentException") (kE := 2) (text := "value out of range") (ik := 51) (is := 100) (ic := 55) (Ts := wsX3_set) hfl hx hb hml hts hown hX hS hP hT hlocks rfl (by simp [eIOB, eIAE, eISE]) (by decide +kernel) (by decide +kernel) (fun _ h => List.mem_cons_of_mem _ (List.mem_append_right _ h)) bad2 hot2 (by decide +kernel) (by decide +kernel) hl.1 (by simp only [cSet, if_neg c_1, if_pos c_2, ↓reduceIte]) (by decide) dX3_set_30 dX3_set_33 dX3_set_34 dX3_set_36 dX3_set_39 (Nat.le_of_ble_eq_true rfl) (Nat.le_of_ble_eq_true rfl) (Nat.le_of_ble_eq_true rfl) (Nat.le_of_ble_eq_true rfl) (Nat.le_of_ble_eq_true rfl) (Nat.le_of_ble_eq_true rfl)
  · skip
    exact x_throw (E := "java/lang/IndexOutOfBoundsException") (kE := 1) (text := "no such setting") (ik := 40) (is := 94) (ic := 44) (Ts := wsX3_set) hfl hx hb hml hts hown hX hS hP hT hlocks rfl (by simp [eIOB, eIAE, eISE]) (by decide +kernel) (by decide +kernel) (fun _ h => List.mem_cons_of_mem _ (List.mem_append_left _ (List.mem_append_right _ h))) bad1 hot1 (by decide +kernel) (by decide +kernel) hl.1 (by simp only [cSet, if_pos c_1, ↓reduceIte]) (by decide) dX3_set_7 dX3_set_10 dX3_set_11 dX3_set_13 dX3_set_16 (Nat.le_of_ble_eq_true rfl) (Nat.le_of_ble_eq_true rfl) (Nat.le_of_ble_eq_true rfl) (Nat.le_of_ble_eq_true rfl) (Nat.le_of_ble_eq_true rfl) (Nat.le_of_ble_eq_true rfl)
set_option maxHeartbeats 4000000 in
set_option maxRecDepth 100000 in
theorem xX3_rain (l : Launch) (hfl : l.stackTraces = false) (D : va_G) (cI cQ cJ : ClassId) (o s0 w0 : Nat) (x a a2 : Nat → Nat) (A : Nat → Nat → Nat) (r q t : rB) (n old held : Nat) (B : Nat → rB) (rx rm : Int32) (hok : svOk n old held)  : XM l D (tY cI cQ cJ) yX3_rain wsX3_rain ({ frames := 6, cells := 14, slots := 91, locals := 112 } : Room) [.ref o, .int rx, .int rm] (WX cI cQ o s0 w0 x a a2 A r q t n (zF A n) (nI old) (nI held) B) (cRai rx rm) (fun z w' => ∃ u : Nat → Nat → Nat, z = smI (minutesC rm.toNatClampNeg r rx 9) 6 0 0 - smI (r 9) 6 0 0 ∧ w' = WX cI cQ o s0 w0 x a a2 u (minutesC rm.toNatClampNeg r rx) q t (kN n old held) (zF u (kN n old held)) (nI (kO old held)) (nI (kH held + 1)) (kB B old held r)) := by
  refine X_of (cc := cX3_rain) (maxL := 4) (ret := some .int) (by decide) rfl (Nat.le_of_ble_eq_true rfl) ?_
  intro p e s m below meth c A0 ls hB hT hE hX hP hK hD hA0 hl
  obtain ⟨hx, hb, hr, hml, hts, hown, hlocks⟩ := hB
  have hS : va_S A0 s.heap s.heap [] := va_S.rf
  have hA := hA0
  have hl : lv_has ls 4 [(0, .ref o), (1, .int rx), (2, .int rm)] := hl
  have hinX3 : ∀ w ∈ u_ws RX3 TX3 4, w ∈ wsX3_rain := by decide +kernel
  have fl22 := hts (.fieldLink RX3 22 "RoofDrains" "saved" "LRoofDrains$SavedRoofs;") (by decide +kernel)
  have fl10 := hts (.fieldLink RX3 10 "RoofDrains" "roof" "LRoofDrains$Roof;") (by decide +kernel)
  refine lv_iload_n hx hb dX3_rain_0 rfl (lv_at hl 1 rfl) ?_
  refine lv_iconst (v := 0) hx hb dX3_rain_1 (by decide) ?_
  refine lv_bipush (v := 99) hx hb dX3_rain_2 (by decide) ?_
  refine k_calli (wc := ([] : va_W)) (w' := ([] : va_W)) (wn := (cO o [.ref (a 0), .ref (a2 0), .ref s0, .ref (x 0)]) ++ (cR cI a r) ++ (cR cI a2 q) ++ (cS cQ s0 w0 (zF A n) (nI old) (nI held)) ++ (cT cI x t) ++ (cZ cI A B n)) (va_runS (As := [.int rx, .int 0, .int 99]) (rest := []) ⟨hx, hb, hml, hown, hts⟩ (mX3_isWithin l D cI cQ cJ rx 0 99 _) (va_cwS 3 hts gX3_rain_X3_isWithin rfl rfl rfl (by decide +kernel) ⟨Nat.le_of_ble_eq_true rfl, Nat.le_of_ble_eq_true rfl⟩) (k_preS (wc := ([] : va_W)) hE hK hP hD [] (by decide) rfl [.int rx, .int 0, .int 99]) rfl rfl hl.1 rfl (lv_room (Nat.le_of_ble_eq_true rfl)) dX3_rain_4 ⟨Nat.le_of_ble_eq_true rfl, Nat.le_of_ble_eq_true rfl⟩) hP hD hS hA [] rfl rfl rfl (fun H locs hP hD hS => ?_)
  refine lv_if_eq (tgt := 20) hx hb dX3_rain_7 (by decide) (fun c_1 => ?_) (fun c_1 => ?_)
  · skip
    exact x_throw (E := "java/lang/IllegalArgumentException") (kE := 2) (text := "rain or minutes out of range") (ik := 51) (is := 105) (ic := 55) (Ts := wsX3_rain) hfl hx hb hml hts hown hX hS hP hT hlocks rfl (by simp [eIOB, eIAE, eISE]) (by decide +kernel) (by decide +kernel) (fun _ h => List.mem_cons_of_mem _ (List.mem_append_right _ h)) bad2 hot2 (by decide +kernel) (by decide +kernel) hl.1 (by simp only [cRai, if_pos c_1, ↓reduceIte]) (by decide) dX3_rain_20 dX3_rain_23 dX3_rain_24 dX3_rain_26 dX3_rain_29 (Nat.le_of_ble_eq_true rfl) (Nat.le_of_ble_eq_true rfl) (Nat.le_of_ble_eq_true rfl) (Nat.le_of_ble_eq_true rfl) (Nat.le_of_ble_eq_true rfl) (Nat.le_of_ble_eq_true rfl)
  · skip
    refine lv_iload_n hx hb dX3_rain_10 rfl (lv_at hl 2 rfl) ?_
    refine lv_iconst (v := 1) hx hb dX3_rain_11 (by decide) ?_
    refine lv_bipush (v := 60) hx hb dX3_rain_12 (by decide) ?_
    refine k_calli (wc := ([] : va_W)) (w' := ([] : va_W)) (wn := (cO o [.ref (a 0), .ref (a2 0), .ref s0, .ref (x 0)]) ++ (cR cI a r) ++ (cR cI a2 q) ++ (cS cQ s0 w0 (zF A n) (nI old) (nI held)) ++ (cT cI x t) ++ (cZ cI A B n)) (va_runS (As := [.int rm, .int 1, .int 60]) (rest := []) ⟨hx, hb, hml, hown, hts⟩ (mX3_isWithin l D cI cQ cJ rm 1 60 _) (va_cwS 3 hts gX3_rain_X3_isWithin rfl rfl rfl (by decide +kernel) ⟨Nat.le_of_ble_eq_true rfl, Nat.le_of_ble_eq_true rfl⟩) (k_preS (wc := ([] : va_W)) hE hK hP hD [] (by decide) rfl [.int rm, .int 1, .int 60]) rfl rfl hl.1 rfl (lv_room (Nat.le_of_ble_eq_true rfl)) dX3_rain_14 ⟨Nat.le_of_ble_eq_true rfl, Nat.le_of_ble_eq_true rfl⟩) hP hD hS hA [] rfl rfl rfl (fun H locs hP hD hS => ?_)
    refine lv_if_ne (tgt := 30) hx hb dX3_rain_17 (by decide) (fun c_2 => ?_) (fun c_2 => ?_)
    · skip
      refine lv_aload_n hx hb dX3_rain_30 rfl (lv_at hl 0 rfl) ?_
      refine va_get (D := D) (ci := 3) (v := .ref s0) (C := RX3) (T := TX3) (N := 4) hx hb hts hinX3 hown hK hP 0 rfl rfl 2 (by decide) fl22 (fun _ h9 => h9) rfl dX3_rain_31 ?_
      refine lv_aload_n hx hb dX3_rain_34 rfl (lv_at hl 0 rfl) ?_
      refine va_get (D := D) (ci := 3) (v := .ref (a 0)) (C := RX3) (T := TX3) (N := 4) hx hb hts hinX3 hown hK hP 0 rfl rfl 0 (by decide) fl10 (fun _ h9 => h9) rfl dX3_rain_35 ?_
      refine k_calln (wr := []) (wc := (cO o [.ref (a 0), .ref (a2 0), .ref s0, .ref (x 0)]) ++ (cR cI a r) ++ (cR cI a2 q) ++ (cS cQ s0 w0 (zF A n) (nI old) (nI held)) ++ (cT cI x t) ++ (cZ cI A B n)) (w' := fun u => WX cI cQ o s0 w0 x a a2 u r q t (kN n old held) (zF u (kN n old held)) (nI (kO old held)) (nI (kH held + 1)) (kB B old held r)) (va_runV (As := [.ref (a 0)]) (rest := []) ⟨hx, hb, hml, hown, hts⟩ (mX2_keep l D cI cQ cJ o s0 w0 x a a2 A r q t n old held B hok _) (cwV 1 hts gX3_rain_X2_keep rfl rfl rfl (by decide +kernel) ⟨Nat.le_of_ble_eq_true rfl, Nat.le_of_ble_eq_true rfl⟩) (k_preRV (wr := []) (wc := (cO o [.ref (a 0), .ref (a2 0), .ref s0, .ref (x 0)]) ++ (cR cI a r) ++ (cR cI a2 q) ++ (cS cQ s0 w0 (zF A n) (nI old) (nI held)) ++ (cT cI x t) ++ (cZ cI A B n)) hE hK hP hD (ci := 2) (q0 := 27) rfl rfl [.ref (a 0)]) rfl rfl hl.1 rfl (lv_room (Nat.le_of_ble_eq_true rfl)) dX3_rain_38 ⟨Nat.le_of_ble_eq_true rfl, Nat.le_of_ble_eq_true rfl⟩) hP hD hS hA0 (fun u H locs hP hD hS => ?_)
      have hP : va_P D vwCl ((cO o [.ref (a 0), .ref (a2 0), .ref s0, .ref (x 0)]) ++ (cR cI a r) ++ (cR cI a2 q) ++ (cS cQ s0 w0 (zF u (kN n old held)) (nI (kO old held)) (nI (kH held + 1))) ++ (cT cI x t) ++ (cZ cI u (kB B old held r) (kN n old held))) H := hP
      have hD : va_D A0 ((cO o [.ref (a 0), .ref (a2 0), .ref s0, .ref (x 0)]) ++ (cR cI a r) ++ (cR cI a2 q) ++ (cS cQ s0 w0 (zF u (kN n old held)) (nI (kO old held)) (nI (kH held + 1))) ++ (cT cI x t) ++ (cZ cI u (kB B old held r) (kN n old held))) := hD
      refine lv_aload_n hx hb dX3_rain_41 rfl (lv_at hl 0 rfl) ?_
      refine va_get (D := D) (ci := 3) (v := .ref (a 0)) (C := RX3) (T := TX3) (N := 4) hx hb hts hinX3 hown hK hP 0 rfl rfl 0 (by decide) fl10 (fun _ h9 => h9) rfl dX3_rain_42 ?_
      refine k_calli (wc := cR cI a r) (w' := cR cI a r) (wn := (cO o [.ref (a 0), .ref (a2 0), .ref s0, .ref (x 0)]) ++ (cR cI a r) ++ (cR cI a2 q) ++ (cS cQ s0 w0 (zF u (kN n old held)) (nI (kO old held)) (nI (kH held + 1))) ++ (cT cI x t) ++ (cZ cI u (kB B old held r) (kN n old held))) (va_runV (As := []) (rest := []) ⟨hx, hb, hml, hown, hts⟩ (mX1_spiltLitres l D cI cQ cJ a r _) (cwV 0 hts gX3_rain_X1_spiltLitres rfl rfl rfl (by decide +kernel) ⟨Nat.le_of_ble_eq_true rfl, Nat.le_of_ble_eq_true rfl⟩) (k_preV (wc := cR cI a r) hE hK hP hD [1, 2, 3, 4, 5, 6, 7, 8, 9, 10, 11, 12, 13] (by decide) rfl (ci := 1) (q0 := 1) rfl rfl []) rfl rfl hl.1 rfl (lv_room (Nat.le_of_ble_eq_true rfl)) dX3_rain_45 ⟨Nat.le_of_ble_eq_true rfl, Nat.le_of_ble_eq_true rfl⟩) hP hD hS hA [1, 2, 3, 4, 5, 6, 7, 8, 9, 10, 11, 12, 13] rfl rfl (by rw [show [1, 2, 3, 4, 5, 6, 7, 8, 9, 10, 11, 12, 13] = List.range' 1 13 from rfl, putAt_l _ _ _ _ 31, putAt_l _ _ _ _ 29, putAt_l _ _ _ _ 27, putAt_l _ _ _ _ 14, putAt_0 13 _ _ _ 1] <;> first | rfl | decide) (fun H locs hP hD hS => ?_)
      refine lv_topi (fun v3_3 ev3_3 => ?_)
      refine lv_istore_n (lv' := [(3, .int v3_3), (0, .ref o), (1, .int rx), (2, .int rm)]) hx hb dX3_rain_48 rfl hl (by decide) rfl (fun ls hl => ?_)
      refine lv_aload_n hx hb dX3_rain_49 rfl (lv_at hl 1 rfl) ?_
      refine va_get (D := D) (ci := 3) (v := .ref (a 0)) (C := RX3) (T := TX3) (N := 4) hx hb hts hinX3 hown hK hP 0 rfl rfl 0 (by decide) fl10 (fun _ h9 => h9) rfl dX3_rain_50 ?_
      refine lv_iload_n hx hb dX3_rain_53 rfl (lv_at hl 2 rfl) ?_
      refine lv_iload_n hx hb dX3_rain_54 rfl (lv_at hl 3 rfl) ?_
      obtain ⟨r_4, er_4⟩ : ∃ z : rB, z = minutesC rm.toNatClampNeg r rx := ⟨_, rfl⟩
      have hm_5 := mX1_passMinutes l D cI cQ cJ a r rx rm rm.toNatClampNeg rfl
      rw [← er_4] at hm_5
      refine k_callv (wc := cR cI a r) (w' := cR cI a r_4) (wn := (cO o [.ref (a 0), .ref (a2 0), .ref s0, .ref (x 0)]) ++ (cR cI a r_4) ++ (cR cI a2 q) ++ (cS cQ s0 w0 (zF u (kN n old held)) (nI (kO old held)) (nI (kH held + 1))) ++ (cT cI x t) ++ (cZ cI u (kB B old held r) (kN n old held))) (va_runV (As := [.int rx, .int rm]) (rest := []) ⟨hx, hb, hml, hown, hts⟩ (hm_5 _) (cwV 2 hts gX3_rain_X1_passMinutes rfl rfl rfl (by decide +kernel) ⟨Nat.le_of_ble_eq_true rfl, Nat.le_of_ble_eq_true rfl⟩) (k_preV (wc := cR cI a r) hE hK hP hD [1, 2, 3, 4, 5, 6, 7, 8, 9, 10, 11, 12, 13] (by decide) rfl (ci := 1) (q0 := 1) rfl rfl [.int rx, .int rm]) rfl rfl hl.1 rfl (lv_room (Nat.le_of_ble_eq_true rfl)) dX3_rain_55 ⟨Nat.le_of_ble_eq_true rfl, Nat.le_of_ble_eq_true rfl⟩) hP hD hS hA [1, 2, 3, 4, 5, 6, 7, 8, 9, 10, 11, 12, 13] rfl rfl (by rw [show [1, 2, 3, 4, 5, 6, 7, 8, 9, 10, 11, 12, 13] = List.range' 1 13 from rfl, putAt_l _ _ _ _ 31, putAt_l _ _ _ _ 29, putAt_l _ _ _ _ 27, putAt_l _ _ _ _ 14, putAt_0 13 _ _ _ 1] <;> first | rfl | decide) (fun H locs hP hD hS => ?_)
      refine lv_aload_n hx hb dX3_rain_58 rfl (lv_at hl 1 rfl) ?_
      refine va_get (D := D) (ci := 3) (v := .ref (a 0)) (C := RX3) (T := TX3) (N := 4) hx hb hts hinX3 hown hK hP 0 rfl rfl 0 (by decide) fl10 (fun _ h9 => h9) rfl dX3_rain_59 ?_
      refine k_calli (wc := cR cI a r_4) (w' := cR cI a r_4) (wn := (cO o [.ref (a 0), .ref (a2 0), .ref s0, .ref (x 0)]) ++ (cR cI a r_4) ++ (cR cI a2 q) ++ (cS cQ s0 w0 (zF u (kN n old held)) (nI (kO old held)) (nI (kH held + 1))) ++ (cT cI x t) ++ (cZ cI u (kB B old held r) (kN n old held))) (va_runV (As := []) (rest := []) ⟨hx, hb, hml, hown, hts⟩ (mX1_spiltLitres l D cI cQ cJ a r_4 _) (cwV 0 hts gX3_rain_X1_spiltLitres rfl rfl rfl (by decide +kernel) ⟨Nat.le_of_ble_eq_true rfl, Nat.le_of_ble_eq_true rfl⟩) (k_preV (wc := cR cI a r_4) hE hK hP hD [1, 2, 3, 4, 5, 6, 7, 8, 9, 10, 11, 12, 13] (by decide) rfl (ci := 1) (q0 := 1) rfl rfl []) rfl rfl hl.1 rfl (lv_room (Nat.le_of_ble_eq_true rfl)) dX3_rain_62 ⟨Nat.le_of_ble_eq_true rfl, Nat.le_of_ble_eq_true rfl⟩) hP hD hS hA [1, 2, 3, 4, 5, 6, 7, 8, 9, 10, 11, 12, 13] rfl rfl (by rw [show [1, 2, 3, 4, 5, 6, 7, 8, 9, 10, 11, 12, 13] = List.range' 1 13 from rfl, putAt_l _ _ _ _ 31, putAt_l _ _ _ _ 29, putAt_l _ _ _ _ 27, putAt_l _ _ _ _ 14, putAt_0 13 _ _ _ 1] <;> first | rfl | decide) (fun H locs hP hD hS => ?_)
      refine lv_iload_n hx hb dX3_rain_65 rfl (lv_at hl 0 rfl) ?_
      refine lv_isub hx hb dX3_rain_66 ?_
      replace er_4 := er_4.symm; subst er_4
      replace ev3_3 := ev3_3.symm; subst ev3_3
      exact x_iret hx hb hr hlocks hS hP hD dX3_rain_67 (by simp only [cRai, if_neg c_1, if_neg c_2, ↓reduceIte]) ⟨u, rfl, rfl⟩ (Nat.le_of_ble_eq_true rfl) (Nat.le_of_ble_eq_true rfl)
    · skip
      exact x_throw (E := "java/lang/IllegalArgumentException") (kE := 2) (text := "rain or minutes out of range") (ik := 51) (is := 105) (ic := 55) (Ts := wsX3_rain) hfl hx hb hml hts hown hX hS hP hT hlocks rfl (by simp [eIOB, eIAE, eISE]) (by decide +kernel) (by decide +kernel) (fun _ h => List.mem_cons_of_mem _ (List.mem_append_right _ h)) bad2 hot2 (by decide +kernel) (by decide +kernel) hl.1 (by simp only [cRai, if_neg c_1, if_pos c_2, ↓reduceIte]) (by decide) dX3_rain_20 dX3_rain_23 dX3_rain_24 dX3_rain_26 dX3_rain_29 (Nat.le_of_ble_eq_true rfl) (Nat.le_of_ble_eq_true rfl) (Nat.le_of_ble_eq_true rfl) (Nat.le_of_ble_eq_true rfl) (Nat.le_of_ble_eq_true rfl) (Nat.le_of_ble_eq_true rfl)
set_option maxHeartbeats 4000000 in
set_option maxRecDepth 100000 in
theorem xX3_weeks (l : Launch) (hfl : l.stackTraces = false) (D : va_G) (cI cQ cJ : ClassId) (o s0 w0 : Nat) (x a a2 : Nat → Nat) (A : Nat → Nat → Nat) (r q t : rB) (n old held : Nat) (B : Nat → rB) (rm : Int32) (hok : svOk n old held)  : XM l D (tY cI cQ cJ) yX3_weeks wsX3_weeks ({ frames := 6, cells := 14, slots := 91, locals := 112 } : Room) [.ref o, .int rm] (WX cI cQ o s0 w0 x a a2 A r q t n (zF A n) (nI old) (nI held) B) (cWks rm) (fun z w' => ∃ u : Nat → Nat → Nat, z = smI (wksC rm.toNatClampNeg r 6) 6 0 0 ∧ w' = WX cI cQ o s0 w0 x a a2 u (wksC rm.toNatClampNeg r) q t (kN n old held) (zF u (kN n old held)) (nI (kO old held)) (nI (kH held + 1)) (kB B old held r)) := by
  refine X_of (cc := cX3_weeks) (maxL := 3) (ret := some .int) (by decide) rfl (Nat.le_of_ble_eq_true rfl) ?_
  intro p e s m below meth c A0 ls hB hT hE hX hP hK hD hA0 hl
  obtain ⟨hx, hb, hr, hml, hts, hown, hlocks⟩ := hB
  have hS : va_S A0 s.heap s.heap [] := va_S.rf
  have hA := hA0
  have hl : lv_has ls 3 [(0, .ref o), (1, .int rm)] := hl
  obtain ⟨k, hk⟩ : ∃ k, rm.toNatClampNeg = k := ⟨_, rfl⟩
  have hinX3 : ∀ w ∈ u_ws RX3 TX3 4, w ∈ wsX3_weeks := by decide +kernel
  have fl22 := hts (.fieldLink RX3 22 "RoofDrains" "saved" "LRoofDrains$SavedRoofs;") (by decide +kernel)
  have fl10 := hts (.fieldLink RX3 10 "RoofDrains" "roof" "LRoofDrains$Roof;") (by decide +kernel)
  refine lv_iload_n hx hb dX3_weeks_0 rfl (lv_at hl 1 rfl) ?_
  refine lv_iconst (v := 1) hx hb dX3_weeks_1 (by decide) ?_
  refine lv_bipush (v := 52) hx hb dX3_weeks_2 (by decide) ?_
  refine k_calli (wc := ([] : va_W)) (w' := ([] : va_W)) (wn := (cO o [.ref (a 0), .ref (a2 0), .ref s0, .ref (x 0)]) ++ (cR cI a r) ++ (cR cI a2 q) ++ (cS cQ s0 w0 (zF A n) (nI old) (nI held)) ++ (cT cI x t) ++ (cZ cI A B n)) (va_runS (As := [.int rm, .int 1, .int 52]) (rest := []) ⟨hx, hb, hml, hown, hts⟩ (mX3_isWithin l D cI cQ cJ rm 1 52 _) (va_cwS 3 hts gX3_weeks_X3_isWithin rfl rfl rfl (by decide +kernel) ⟨Nat.le_of_ble_eq_true rfl, Nat.le_of_ble_eq_true rfl⟩) (k_preS (wc := ([] : va_W)) hE hK hP hD [] (by decide) rfl [.int rm, .int 1, .int 52]) rfl rfl hl.1 rfl (lv_room (Nat.le_of_ble_eq_true rfl)) dX3_weeks_4 ⟨Nat.le_of_ble_eq_true rfl, Nat.le_of_ble_eq_true rfl⟩) hP hD hS hA [] rfl rfl rfl (fun H locs hP hD hS => ?_)
  refine lv_if_ne (tgt := 20) hx hb dX3_weeks_7 (by decide) (fun c_1 => ?_) (fun c_1 => ?_)
  · skip
    refine lv_aload_n hx hb dX3_weeks_20 rfl (lv_at hl 0 rfl) ?_
    refine va_get (D := D) (ci := 3) (v := .ref s0) (C := RX3) (T := TX3) (N := 4) hx hb hts hinX3 hown hK hP 0 rfl rfl 2 (by decide) fl22 (fun _ h9 => h9) rfl dX3_weeks_21 ?_
    refine lv_aload_n hx hb dX3_weeks_24 rfl (lv_at hl 0 rfl) ?_
    refine va_get (D := D) (ci := 3) (v := .ref (a 0)) (C := RX3) (T := TX3) (N := 4) hx hb hts hinX3 hown hK hP 0 rfl rfl 0 (by decide) fl10 (fun _ h9 => h9) rfl dX3_weeks_25 ?_
    refine k_calln (wr := []) (wc := (cO o [.ref (a 0), .ref (a2 0), .ref s0, .ref (x 0)]) ++ (cR cI a r) ++ (cR cI a2 q) ++ (cS cQ s0 w0 (zF A n) (nI old) (nI held)) ++ (cT cI x t) ++ (cZ cI A B n)) (w' := fun u => WX cI cQ o s0 w0 x a a2 u r q t (kN n old held) (zF u (kN n old held)) (nI (kO old held)) (nI (kH held + 1)) (kB B old held r)) (va_runV (As := [.ref (a 0)]) (rest := []) ⟨hx, hb, hml, hown, hts⟩ (mX2_keep l D cI cQ cJ o s0 w0 x a a2 A r q t n old held B hok _) (cwV 1 hts gX3_weeks_X2_keep rfl rfl rfl (by decide +kernel) ⟨Nat.le_of_ble_eq_true rfl, Nat.le_of_ble_eq_true rfl⟩) (k_preRV (wr := []) (wc := (cO o [.ref (a 0), .ref (a2 0), .ref s0, .ref (x 0)]) ++ (cR cI a r) ++ (cR cI a2 q) ++ (cS cQ s0 w0 (zF A n) (nI old) (nI held)) ++ (cT cI x t) ++ (cZ cI A B n)) hE hK hP hD (ci := 2) (q0 := 27) rfl rfl [.ref (a 0)]) rfl rfl hl.1 rfl (lv_room (Nat.le_of_ble_eq_true rfl)) dX3_weeks_28 ⟨Nat.le_of_ble_eq_true rfl, Nat.le_of_ble_eq_true rfl⟩) hP hD hS hA0 (fun u H locs hP hD hS => ?_)
    have hP : va_P D vwCl ((cO o [.ref (a 0), .ref (a2 0), .ref s0, .ref (x 0)]) ++ (cR cI a r) ++ (cR cI a2 q) ++ (cS cQ s0 w0 (zF u (kN n old held)) (nI (kO old held)) (nI (kH held + 1))) ++ (cT cI x t) ++ (cZ cI u (kB B old held r) (kN n old held))) H := hP
    have hD : va_D A0 ((cO o [.ref (a 0), .ref (a2 0), .ref s0, .ref (x 0)]) ++ (cR cI a r) ++ (cR cI a2 q) ++ (cS cQ s0 w0 (zF u (kN n old held)) (nI (kO old held)) (nI (kH held + 1))) ++ (cT cI x t) ++ (cZ cI u (kB B old held r) (kN n old held))) := hD
    refine lv_iconst (v := 0) hx hb dX3_weeks_31 (by decide) ?_
    refine lv_istore_n (lv' := [(2, .int 0), (0, .ref o), (1, .int rm)]) hx hb dX3_weeks_32 rfl hl (by decide) rfl (fun ls hl => ?_)
    have Lp33 : ∀ (n9 i : Nat) (r1 : rB), i + n9 = k → i ≤ k → wksC n9 r1 = wksC k r → ∀ (H : Heap) (locs : List Loc), va_P D vwCl ((cO o [.ref (a 0), .ref (a2 0), .ref s0, .ref (x 0)]) ++ (cR cI a r1) ++ (cR cI a2 q) ++ (cS cQ s0 w0 (zF u (kN n old held)) (nI (kO old held)) (nI (kH held + 1))) ++ (cT cI x t) ++ (cZ cI u (kB B old held r) (kN n old held))) H → va_D A0 ((cO o [.ref (a 0), .ref (a2 0), .ref s0, .ref (x 0)]) ++ (cR cI a r1) ++ (cR cI a2 q) ++ (cS cQ s0 w0 (zF u (kN n old held)) (nI (kO old held)) (nI (kH held + 1))) ++ (cT cI x t) ++ (cZ cI u (kB B old held r) (kN n old held))) → va_S A0 s.heap H locs → ∀ (ls : Array Slot), lv_has ls 3 [(2, .int (nI i)), (0, .ref o), (1, .int rm)] → W p l e ({ frames := 6, cells := 14, slots := 91, locals := 112 } : Room) s m ([.ref o, .int rm] : List Value).toArray below meth c H locs (0 + 13) (0 + 85) (vx_MQ below (XQ D (cWks rm) (fun z w' => ∃ u : Nat → Nat → Nat, z = smI (wksC rm.toNatClampNeg r 6) 6 0 0 ∧ w' = WX cI cQ o s0 w0 x a a2 u (wksC rm.toNatClampNeg r) q t (kN n old held) (zF u (kN n old held)) (nI (kO old held)) (nI (kH held + 1)) (kB B old held r)) A0) (XX D (cWks rm) (WX cI cQ o s0 w0 x a a2 A r q t n (zF A n) (nI old) (nI held) B) A0) ([.ref o, .int rm] : List Value).toArray s 14 91 A0) (F0 m 33 ls []) := by
      intro n9
      induction n9 with
      | zero =>
        intro i r1 hin h8 hres H locs hP hD hS ls hl
        have h9r1 : r1 = wksC k r := hres
        refine lv_iload_n hx hb dX3_weeks_33 rfl (lv_at hl 0 rfl) ?_
        refine lv_iload_n hx hb dX3_weeks_34 rfl (lv_at hl 2 rfl) ?_
        refine lv_icmp_ge (tgt := 51) hx hb dX3_weeks_35 (by decide) (fun _ => ?_) (fun h9 => absurd (cl_le (i := i) (by omega)) h9)
        refine lv_aload_n hx hb dX3_weeks_51 rfl (lv_at hl 1 rfl) ?_
        refine va_get (D := D) (ci := 3) (v := .ref (a 0)) (C := RX3) (T := TX3) (N := 4) hx hb hts hinX3 hown hK hP 0 rfl rfl 0 (by decide) fl10 (fun _ h9 => h9) rfl dX3_weeks_52 ?_
        refine k_calli (wc := cR cI a r1) (w' := cR cI a r1) (wn := (cO o [.ref (a 0), .ref (a2 0), .ref s0, .ref (x 0)]) ++ (cR cI a r1) ++ (cR cI a2 q) ++ (cS cQ s0 w0 (zF u (kN n old held)) (nI (kO old held)) (nI (kH held + 1))) ++ (cT cI x t) ++ (cZ cI u (kB B old held r) (kN n old held))) (va_runV (As := []) (rest := []) ⟨hx, hb, hml, hown, hts⟩ (mX1_leavesTogether l D cI cQ cJ a r1 _) (cwV 0 hts gX3_weeks_X1_leavesTogether rfl rfl rfl (by decide +kernel) ⟨Nat.le_of_ble_eq_true rfl, Nat.le_of_ble_eq_true rfl⟩) (k_preV (wc := cR cI a r1) hE hK hP hD [1, 2, 3, 4, 5, 6, 7, 8, 9, 10, 11, 12, 13] (by decide) rfl (ci := 1) (q0 := 1) rfl rfl []) rfl rfl hl.1 rfl (lv_room (Nat.le_of_ble_eq_true rfl)) dX3_weeks_55 ⟨Nat.le_of_ble_eq_true rfl, Nat.le_of_ble_eq_true rfl⟩) hP hD hS hA [1, 2, 3, 4, 5, 6, 7, 8, 9, 10, 11, 12, 13] rfl rfl (by rw [show [1, 2, 3, 4, 5, 6, 7, 8, 9, 10, 11, 12, 13] = List.range' 1 13 from rfl, putAt_l _ _ _ _ 31, putAt_l _ _ _ _ 29, putAt_l _ _ _ _ 27, putAt_l _ _ _ _ 14, putAt_0 13 _ _ _ 1] <;> first | rfl | decide) (fun H locs hP hD hS => ?_)
        replace h9r1 := h9r1.symm; subst h9r1
        exact x_iret hx hb hr hlocks hS hP hD dX3_weeks_58 (by simp only [cWks, if_neg c_1, ↓reduceIte]) (by subst hk; exact ⟨u, rfl, rfl⟩) (Nat.le_of_ble_eq_true rfl) (Nat.le_of_ble_eq_true rfl)
      | succ n9 ih =>
        intro i r1 hin h8 hres H locs hP hD hS ls hl
        refine lv_iload_n hx hb dX3_weeks_33 rfl (lv_at hl 0 rfl) ?_
        refine lv_iload_n hx hb dX3_weeks_34 rfl (lv_at hl 2 rfl) ?_
        refine lv_icmp_ge (tgt := 51) hx hb dX3_weeks_35 (by decide) (fun h9 => absurd h9 (cl_nle (i := i) (by omega))) (fun _ => ?_)
        refine lv_aload_n hx hb dX3_weeks_38 rfl (lv_at hl 1 rfl) ?_
        refine va_get (D := D) (ci := 3) (v := .ref (a 0)) (C := RX3) (T := TX3) (N := 4) hx hb hts hinX3 hown hK hP 0 rfl rfl 0 (by decide) fl10 (fun _ h9 => h9) rfl dX3_weeks_39 ?_
        obtain ⟨r_2, er_2⟩ : ∃ z : rB, z = weekC r1 := ⟨_, rfl⟩
        have hm_3 := mX1_passWeek l D cI cQ cJ a r1
        rw [← er_2] at hm_3
        refine k_callv (wc := cR cI a r1) (w' := cR cI a r_2) (wn := (cO o [.ref (a 0), .ref (a2 0), .ref s0, .ref (x 0)]) ++ (cR cI a r_2) ++ (cR cI a2 q) ++ (cS cQ s0 w0 (zF u (kN n old held)) (nI (kO old held)) (nI (kH held + 1))) ++ (cT cI x t) ++ (cZ cI u (kB B old held r) (kN n old held))) (va_runV (As := []) (rest := []) ⟨hx, hb, hml, hown, hts⟩ (hm_3 _) (cwV 0 hts gX3_weeks_X1_passWeek rfl rfl rfl (by decide +kernel) ⟨Nat.le_of_ble_eq_true rfl, Nat.le_of_ble_eq_true rfl⟩) (k_preV (wc := cR cI a r1) hE hK hP hD [1, 2, 3, 4, 5, 6, 7, 8, 9, 10, 11, 12, 13] (by decide) rfl (ci := 1) (q0 := 1) rfl rfl []) rfl rfl hl.1 rfl (lv_room (Nat.le_of_ble_eq_true rfl)) dX3_weeks_42 ⟨Nat.le_of_ble_eq_true rfl, Nat.le_of_ble_eq_true rfl⟩) hP hD hS hA [1, 2, 3, 4, 5, 6, 7, 8, 9, 10, 11, 12, 13] rfl rfl (by rw [show [1, 2, 3, 4, 5, 6, 7, 8, 9, 10, 11, 12, 13] = List.range' 1 13 from rfl, putAt_l _ _ _ _ 31, putAt_l _ _ _ _ 29, putAt_l _ _ _ _ 27, putAt_l _ _ _ _ 14, putAt_0 13 _ _ _ 1] <;> first | rfl | decide) (fun H locs hP hD hS => ?_)
        refine lv_iinc (v := nI (i + 1)) (lv' := [(2, .int (nI (i + 1))), (0, .ref o), (1, .int rm)]) hx hb dX3_weeks_45 hl (k := 0) rfl (nI_1 i) (by decide) rfl (fun ls hl => ?_)
        refine lv_goto (tgt := 33) hx hb dX3_weeks_48 (by decide) ?_
        exact ih (i + 1) r_2 (by omega) (by omega) (by replace er_2 := er_2.symm; subst er_2; exact hres) H locs hP hD hS ls (lv_sub hl [0, 1, 2] rfl)
    exact Lp33 k 0 r (by omega) (by omega) rfl _ _ hP hD hS ls (lv_sub hl [0, 1, 2] rfl)
  · skip
    exact x_throw (E := "java/lang/IllegalArgumentException") (kE := 2) (text := "weeks out of range") (ik := 51) (is := 115) (ic := 55) (Ts := wsX3_weeks) hfl hx hb hml hts hown hX hS hP hT hlocks rfl (by simp [eIOB, eIAE, eISE]) (by decide +kernel) (by decide +kernel) (fun _ h => List.mem_cons_of_mem _ (List.mem_append_right _ h)) bad2 hot2 (by decide +kernel) (by decide +kernel) hl.1 (by simp only [cWks, if_pos c_1, ↓reduceIte]) (by decide) dX3_weeks_10 dX3_weeks_13 dX3_weeks_14 dX3_weeks_16 dX3_weeks_19 (Nat.le_of_ble_eq_true rfl) (Nat.le_of_ble_eq_true rfl) (Nat.le_of_ble_eq_true rfl) (Nat.le_of_ble_eq_true rfl) (Nat.le_of_ble_eq_true rfl) (Nat.le_of_ble_eq_true rfl)
set_option maxHeartbeats 4000000 in
set_option maxRecDepth 100000 in
theorem xX3_planeOf (l : Launch) (hfl : l.stackTraces = false) (D : va_G) (cI cQ cJ : ClassId) (o s0 w0 : Nat) (x a a2 : Nat → Nat) (A : Nat → Nat → Nat) (r q t : rB) (n old held : Nat) (B : Nat → rB) (pp rw : Int32)  : XM l D (tY cI cQ cJ) yX3_planeOf wsX3_planeOf ({ frames := 6, cells := 1, slots := 6, locals := 90 } : Room) [.ref o, .int pp, .int rw] (WX cI cQ o s0 w0 x a a2 A r q t n (zF A n) (nI old) (nI held) B) (cPof pp rw) (fun z w' => z = pnC r pp.toNatClampNeg rw.toNatClampNeg ∧ w' = WX cI cQ o s0 w0 x a a2 A r q t n (zF A n) (nI old) (nI held) B) := by
  refine X_of (cc := cX3_planeOf) (maxL := 3) (ret := some .int) (by decide) rfl (Nat.le_of_ble_eq_true rfl) ?_
  intro p e s m below meth c A0 ls hB hT hE hX hP hK hD hA0 hl
  obtain ⟨hx, hb, hr, hml, hts, hown, hlocks⟩ := hB
  have hS : va_S A0 s.heap s.heap [] := va_S.rf
  have hA := hA0
  have hl : lv_has ls 3 [(0, .ref o), (1, .int pp), (2, .int rw)] := hl
  have hinX3 : ∀ w ∈ u_ws RX3 TX3 4, w ∈ wsX3_planeOf := by decide +kernel
  have fl10 := hts (.fieldLink RX3 10 "RoofDrains" "roof" "LRoofDrains$Roof;") (by decide +kernel)
  refine lv_iload_n hx hb dX3_planeOf_0 rfl (lv_at hl 1 rfl) ?_
  refine k_calli (wc := ([] : va_W)) (w' := ([] : va_W)) (wn := (cO o [.ref (a 0), .ref (a2 0), .ref s0, .ref (x 0)]) ++ (cR cI a r) ++ (cR cI a2 q) ++ (cS cQ s0 w0 (zF A n) (nI old) (nI held)) ++ (cT cI x t) ++ (cZ cI A B n)) (va_runS (As := [.int pp]) (rest := []) ⟨hx, hb, hml, hown, hts⟩ (mX3_isPlane l D cI cQ cJ pp _) (va_cwS 1 hts gX3_planeOf_X3_isPlane rfl rfl rfl (by decide +kernel) ⟨Nat.le_of_ble_eq_true rfl, Nat.le_of_ble_eq_true rfl⟩) (k_preS (wc := ([] : va_W)) hE hK hP hD [] (by decide) rfl [.int pp]) rfl rfl hl.1 rfl (lv_room (Nat.le_of_ble_eq_true rfl)) dX3_planeOf_1 ⟨Nat.le_of_ble_eq_true rfl, Nat.le_of_ble_eq_true rfl⟩) hP hD hS hA [] rfl rfl rfl (fun H locs hP hD hS => ?_)
  refine lv_if_ne (tgt := 17) hx hb dX3_planeOf_4 (by decide) (fun c_1 => ?_) (fun c_1 => ?_)
  · skip
    refine lv_iload_n hx hb dX3_planeOf_17 rfl (lv_at hl 2 rfl) ?_
    refine lv_iconst (v := 0) hx hb dX3_planeOf_18 (by decide) ?_
    refine lv_iconst (v := 3) hx hb dX3_planeOf_19 (by decide) ?_
    refine k_calli (wc := ([] : va_W)) (w' := ([] : va_W)) (wn := (cO o [.ref (a 0), .ref (a2 0), .ref s0, .ref (x 0)]) ++ (cR cI a r) ++ (cR cI a2 q) ++ (cS cQ s0 w0 (zF A n) (nI old) (nI held)) ++ (cT cI x t) ++ (cZ cI A B n)) (va_runS (As := [.int rw, .int 0, .int 3]) (rest := []) ⟨hx, hb, hml, hown, hts⟩ (mX3_isWithin l D cI cQ cJ rw 0 3 _) (va_cwS 3 hts gX3_planeOf_X3_isWithin rfl rfl rfl (by decide +kernel) ⟨Nat.le_of_ble_eq_true rfl, Nat.le_of_ble_eq_true rfl⟩) (k_preS (wc := ([] : va_W)) hE hK hP hD [] (by decide) rfl [.int rw, .int 0, .int 3]) rfl rfl hl.1 rfl (lv_room (Nat.le_of_ble_eq_true rfl)) dX3_planeOf_20 ⟨Nat.le_of_ble_eq_true rfl, Nat.le_of_ble_eq_true rfl⟩) hP hD hS hA [] rfl rfl rfl (fun H locs hP hD hS => ?_)
    refine lv_if_ne (tgt := 36) hx hb dX3_planeOf_23 (by decide) (fun c_2 => ?_) (fun c_2 => ?_)
    · skip
      obtain ⟨w9, hw9, hwe⟩ := zW_ex (N := 3) (n := 4) (by decide) (by decide) c_2
      refine lv_aload_n hx hb dX3_planeOf_36 rfl (lv_at hl 0 rfl) ?_
      refine va_get (D := D) (ci := 3) (v := .ref (a 0)) (C := RX3) (T := TX3) (N := 4) hx hb hts hinX3 hown hK hP 0 rfl rfl 0 (by decide) fl10 (fun _ h9 => h9) rfl dX3_planeOf_37 ?_
      refine lv_iload_n hx hb dX3_planeOf_40 rfl (lv_at hl 1 rfl) ?_
      refine lv_iload_n hx hb dX3_planeOf_41 rfl (lv_at hl 2 rfl) ?_
      refine lv_eqi (y := nI w9) hwe ?_
      refine k_calli (wc := cR cI a r) (w' := cR cI a r) (wn := (cO o [.ref (a 0), .ref (a2 0), .ref s0, .ref (x 0)]) ++ (cR cI a r) ++ (cR cI a2 q) ++ (cS cQ s0 w0 (zF A n) (nI old) (nI held)) ++ (cT cI x t) ++ (cZ cI A B n)) (va_runV (As := [.int pp, .int (nI w9)]) (rest := []) ⟨hx, hb, hml, hown, hts⟩ (mX1_planeNumber l D cI cQ cJ a r pp pp.toNatClampNeg w9 (zL_in (n := 6) rfl rfl c_1) rfl (by omega) _) (cwV 2 hts gX3_planeOf_X1_planeNumber rfl rfl rfl (by decide +kernel) ⟨Nat.le_of_ble_eq_true rfl, Nat.le_of_ble_eq_true rfl⟩) (k_preV (wc := cR cI a r) hE hK hP hD [1, 2, 3, 4, 5, 6, 7, 8, 9, 10, 11, 12, 13] (by decide) rfl (ci := 1) (q0 := 1) rfl rfl [.int pp, .int (nI w9)]) rfl rfl hl.1 rfl (lv_room (Nat.le_of_ble_eq_true rfl)) dX3_planeOf_42 ⟨Nat.le_of_ble_eq_true rfl, Nat.le_of_ble_eq_true rfl⟩) hP hD hS hA [1, 2, 3, 4, 5, 6, 7, 8, 9, 10, 11, 12, 13] rfl rfl (by rw [show [1, 2, 3, 4, 5, 6, 7, 8, 9, 10, 11, 12, 13] = List.range' 1 13 from rfl, putAt_l _ _ _ _ 31, putAt_l _ _ _ _ 29, putAt_l _ _ _ _ 27, putAt_l _ _ _ _ 14, putAt_0 13 _ _ _ 1] <;> first | rfl | decide) (fun H locs hP hD hS => ?_)
      exact x_iret hx hb hr hlocks hS hP hD dX3_planeOf_45 (by simp only [cPof, if_neg c_1, if_neg c_2, ↓reduceIte]) ⟨by rw [hwe, nI_clamp (show w9 < 2 ^ 31 by omega)], rfl⟩ (Nat.le_of_ble_eq_true rfl) (Nat.le_of_ble_eq_true rfl)
    · skip
      exact x_throw (E := "java/lang/IllegalArgumentException") (kE := 2) (text := "what is not 0 to 3") (ik := 51) (is := 166) (ic := 55) (Ts := wsX3_planeOf) hfl hx hb hml hts hown hX hS hP hT hlocks rfl (by simp [eIOB, eIAE, eISE]) (by decide +kernel) (by decide +kernel) (fun _ h => List.mem_cons_of_mem _ (List.mem_append_right _ h)) bad2 hot2 (by decide +kernel) (by decide +kernel) hl.1 (by simp only [cPof, if_neg c_1, if_pos c_2, ↓reduceIte]) (by decide) dX3_planeOf_26 dX3_planeOf_29 dX3_planeOf_30 dX3_planeOf_32 dX3_planeOf_35 (Nat.le_of_ble_eq_true rfl) (Nat.le_of_ble_eq_true rfl) (Nat.le_of_ble_eq_true rfl) (Nat.le_of_ble_eq_true rfl) (Nat.le_of_ble_eq_true rfl) (Nat.le_of_ble_eq_true rfl)
  · skip
    exact x_throw (E := "java/lang/IndexOutOfBoundsException") (kE := 1) (text := "no such plane") (ik := 40) (is := 164) (ic := 44) (Ts := wsX3_planeOf) hfl hx hb hml hts hown hX hS hP hT hlocks rfl (by simp [eIOB, eIAE, eISE]) (by decide +kernel) (by decide +kernel) (fun _ h => List.mem_cons_of_mem _ (List.mem_append_left _ (List.mem_append_right _ h))) bad1 hot1 (by decide +kernel) (by decide +kernel) hl.1 (by simp only [cPof, if_pos c_1, ↓reduceIte]) (by decide) dX3_planeOf_7 dX3_planeOf_10 dX3_planeOf_11 dX3_planeOf_13 dX3_planeOf_16 (Nat.le_of_ble_eq_true rfl) (Nat.le_of_ble_eq_true rfl) (Nat.le_of_ble_eq_true rfl) (Nat.le_of_ble_eq_true rfl) (Nat.le_of_ble_eq_true rfl) (Nat.le_of_ble_eq_true rfl)
set_option maxHeartbeats 4000000 in
set_option maxRecDepth 100000 in
theorem xX3_gutterOf (l : Launch) (hfl : l.stackTraces = false) (D : va_G) (cI cQ cJ : ClassId) (o s0 w0 : Nat) (x a a2 : Nat → Nat) (A : Nat → Nat → Nat) (r q t : rB) (n old held : Nat) (B : Nat → rB) (pp rw : Int32)  : XM l D (tY cI cQ cJ) yX3_gutterOf wsX3_gutterOf ({ frames := 6, cells := 1, slots := 6, locals := 90 } : Room) [.ref o, .int pp, .int rw] (WX cI cQ o s0 w0 x a a2 A r q t n (zF A n) (nI old) (nI held) B) (cGof pp rw) (fun z w' => z = gnC r pp.toNatClampNeg rw.toNatClampNeg ∧ w' = WX cI cQ o s0 w0 x a a2 A r q t n (zF A n) (nI old) (nI held) B) := by
  refine X_of (cc := cX3_gutterOf) (maxL := 3) (ret := some .int) (by decide) rfl (Nat.le_of_ble_eq_true rfl) ?_
  intro p e s m below meth c A0 ls hB hT hE hX hP hK hD hA0 hl
  obtain ⟨hx, hb, hr, hml, hts, hown, hlocks⟩ := hB
  have hS : va_S A0 s.heap s.heap [] := va_S.rf
  have hA := hA0
  have hl : lv_has ls 3 [(0, .ref o), (1, .int pp), (2, .int rw)] := hl
  have hinX3 : ∀ w ∈ u_ws RX3 TX3 4, w ∈ wsX3_gutterOf := by decide +kernel
  have fl10 := hts (.fieldLink RX3 10 "RoofDrains" "roof" "LRoofDrains$Roof;") (by decide +kernel)
  refine lv_iload_n hx hb dX3_gutterOf_0 rfl (lv_at hl 1 rfl) ?_
  refine k_calli (wc := ([] : va_W)) (w' := ([] : va_W)) (wn := (cO o [.ref (a 0), .ref (a2 0), .ref s0, .ref (x 0)]) ++ (cR cI a r) ++ (cR cI a2 q) ++ (cS cQ s0 w0 (zF A n) (nI old) (nI held)) ++ (cT cI x t) ++ (cZ cI A B n)) (va_runS (As := [.int pp]) (rest := []) ⟨hx, hb, hml, hown, hts⟩ (mX3_isGutter l D cI cQ cJ pp _) (va_cwS 1 hts gX3_gutterOf_X3_isGutter rfl rfl rfl (by decide +kernel) ⟨Nat.le_of_ble_eq_true rfl, Nat.le_of_ble_eq_true rfl⟩) (k_preS (wc := ([] : va_W)) hE hK hP hD [] (by decide) rfl [.int pp]) rfl rfl hl.1 rfl (lv_room (Nat.le_of_ble_eq_true rfl)) dX3_gutterOf_1 ⟨Nat.le_of_ble_eq_true rfl, Nat.le_of_ble_eq_true rfl⟩) hP hD hS hA [] rfl rfl rfl (fun H locs hP hD hS => ?_)
  refine lv_if_ne (tgt := 17) hx hb dX3_gutterOf_4 (by decide) (fun c_1 => ?_) (fun c_1 => ?_)
  · skip
    refine lv_iload_n hx hb dX3_gutterOf_17 rfl (lv_at hl 2 rfl) ?_
    refine lv_iconst (v := 0) hx hb dX3_gutterOf_18 (by decide) ?_
    refine lv_bipush (v := 8) hx hb dX3_gutterOf_19 (by decide) ?_
    refine k_calli (wc := ([] : va_W)) (w' := ([] : va_W)) (wn := (cO o [.ref (a 0), .ref (a2 0), .ref s0, .ref (x 0)]) ++ (cR cI a r) ++ (cR cI a2 q) ++ (cS cQ s0 w0 (zF A n) (nI old) (nI held)) ++ (cT cI x t) ++ (cZ cI A B n)) (va_runS (As := [.int rw, .int 0, .int 8]) (rest := []) ⟨hx, hb, hml, hown, hts⟩ (mX3_isWithin l D cI cQ cJ rw 0 8 _) (va_cwS 3 hts gX3_gutterOf_X3_isWithin rfl rfl rfl (by decide +kernel) ⟨Nat.le_of_ble_eq_true rfl, Nat.le_of_ble_eq_true rfl⟩) (k_preS (wc := ([] : va_W)) hE hK hP hD [] (by decide) rfl [.int rw, .int 0, .int 8]) rfl rfl hl.1 rfl (lv_room (Nat.le_of_ble_eq_true rfl)) dX3_gutterOf_21 ⟨Nat.le_of_ble_eq_true rfl, Nat.le_of_ble_eq_true rfl⟩) hP hD hS hA [] rfl rfl rfl (fun H locs hP hD hS => ?_)
    refine lv_if_ne (tgt := 37) hx hb dX3_gutterOf_24 (by decide) (fun c_2 => ?_) (fun c_2 => ?_)
    · skip
      obtain ⟨w9, hw9, hwe⟩ := zW_ex (N := 8) (n := 9) (by decide) (by decide) c_2
      refine lv_aload_n hx hb dX3_gutterOf_37 rfl (lv_at hl 0 rfl) ?_
      refine va_get (D := D) (ci := 3) (v := .ref (a 0)) (C := RX3) (T := TX3) (N := 4) hx hb hts hinX3 hown hK hP 0 rfl rfl 0 (by decide) fl10 (fun _ h9 => h9) rfl dX3_gutterOf_38 ?_
      refine lv_iload_n hx hb dX3_gutterOf_41 rfl (lv_at hl 1 rfl) ?_
      refine lv_iload_n hx hb dX3_gutterOf_42 rfl (lv_at hl 2 rfl) ?_
      refine lv_eqi (y := nI w9) hwe ?_
      refine k_calli (wc := cR cI a r) (w' := cR cI a r) (wn := (cO o [.ref (a 0), .ref (a2 0), .ref s0, .ref (x 0)]) ++ (cR cI a r) ++ (cR cI a2 q) ++ (cS cQ s0 w0 (zF A n) (nI old) (nI held)) ++ (cT cI x t) ++ (cZ cI A B n)) (va_runV (As := [.int pp, .int (nI w9)]) (rest := []) ⟨hx, hb, hml, hown, hts⟩ (mX1_gutterNumber l D cI cQ cJ a r pp pp.toNatClampNeg w9 (zL_in (n := 6) rfl rfl c_1) rfl (by omega) _) (cwV 2 hts gX3_gutterOf_X1_gutterNumber rfl rfl rfl (by decide +kernel) ⟨Nat.le_of_ble_eq_true rfl, Nat.le_of_ble_eq_true rfl⟩) (k_preV (wc := cR cI a r) hE hK hP hD [1, 2, 3, 4, 5, 6, 7, 8, 9, 10, 11, 12, 13] (by decide) rfl (ci := 1) (q0 := 1) rfl rfl [.int pp, .int (nI w9)]) rfl rfl hl.1 rfl (lv_room (Nat.le_of_ble_eq_true rfl)) dX3_gutterOf_43 ⟨Nat.le_of_ble_eq_true rfl, Nat.le_of_ble_eq_true rfl⟩) hP hD hS hA [1, 2, 3, 4, 5, 6, 7, 8, 9, 10, 11, 12, 13] rfl rfl (by rw [show [1, 2, 3, 4, 5, 6, 7, 8, 9, 10, 11, 12, 13] = List.range' 1 13 from rfl, putAt_l _ _ _ _ 31, putAt_l _ _ _ _ 29, putAt_l _ _ _ _ 27, putAt_l _ _ _ _ 14, putAt_0 13 _ _ _ 1] <;> first | rfl | decide) (fun H locs hP hD hS => ?_)
      exact x_iret hx hb hr hlocks hS hP hD dX3_gutterOf_46 (by simp only [cGof, if_neg c_1, if_neg c_2, ↓reduceIte]) ⟨by rw [hwe, nI_clamp (show w9 < 2 ^ 31 by omega)], rfl⟩ (Nat.le_of_ble_eq_true rfl) (Nat.le_of_ble_eq_true rfl)
    · skip
      exact x_throw (E := "java/lang/IllegalArgumentException") (kE := 2) (text := "what is not 0 to 8") (ik := 51) (is := 171) (ic := 55) (Ts := wsX3_gutterOf) hfl hx hb hml hts hown hX hS hP hT hlocks rfl (by simp [eIOB, eIAE, eISE]) (by decide +kernel) (by decide +kernel) (fun _ h => List.mem_cons_of_mem _ (List.mem_append_right _ h)) bad2 hot2 (by decide +kernel) (by decide +kernel) hl.1 (by simp only [cGof, if_neg c_1, if_pos c_2, ↓reduceIte]) (by decide) dX3_gutterOf_27 dX3_gutterOf_30 dX3_gutterOf_31 dX3_gutterOf_33 dX3_gutterOf_36 (Nat.le_of_ble_eq_true rfl) (Nat.le_of_ble_eq_true rfl) (Nat.le_of_ble_eq_true rfl) (Nat.le_of_ble_eq_true rfl) (Nat.le_of_ble_eq_true rfl) (Nat.le_of_ble_eq_true rfl)
  · skip
    exact x_throw (E := "java/lang/IndexOutOfBoundsException") (kE := 1) (text := "no such gutter") (ik := 40) (is := 64) (ic := 44) (Ts := wsX3_gutterOf) hfl hx hb hml hts hown hX hS hP hT hlocks rfl (by simp [eIOB, eIAE, eISE]) (by decide +kernel) (by decide +kernel) (fun _ h => List.mem_cons_of_mem _ (List.mem_append_left _ (List.mem_append_right _ h))) bad1 hot1 (by decide +kernel) (by decide +kernel) hl.1 (by simp only [cGof, if_pos c_1, ↓reduceIte]) (by decide) dX3_gutterOf_7 dX3_gutterOf_10 dX3_gutterOf_11 dX3_gutterOf_13 dX3_gutterOf_16 (Nat.le_of_ble_eq_true rfl) (Nat.le_of_ble_eq_true rfl) (Nat.le_of_ble_eq_true rfl) (Nat.le_of_ble_eq_true rfl) (Nat.le_of_ble_eq_true rfl) (Nat.le_of_ble_eq_true rfl)
set_option maxHeartbeats 4000000 in
set_option maxRecDepth 100000 in
theorem xX3_setting (l : Launch) (hfl : l.stackTraces = false) (D : va_G) (cI cQ cJ : ClassId) (o s0 w0 : Nat) (x a a2 : Nat → Nat) (A : Nat → Nat → Nat) (r q t : rB) (n old held : Nat) (B : Nat → rB) (pp : Int32)  : XM l D (tY cI cQ cJ) yX3_setting wsX3_setting ({ frames := 6, cells := 1, slots := 6, locals := 90 } : Room) [.ref o, .int pp] (WX cI cQ o s0 w0 x a a2 A r q t n (zF A n) (nI old) (nI held) B) (cStg pp) (fun z w' => z = r 11 pp.toNatClampNeg ∧ w' = WX cI cQ o s0 w0 x a a2 A r q t n (zF A n) (nI old) (nI held) B) := by
  refine X_of (cc := cX3_setting) (maxL := 2) (ret := some .int) (by decide) rfl (Nat.le_of_ble_eq_true rfl) ?_
  intro p e s m below meth c A0 ls hB hT hE hX hP hK hD hA0 hl
  obtain ⟨hx, hb, hr, hml, hts, hown, hlocks⟩ := hB
  have hS : va_S A0 s.heap s.heap [] := va_S.rf
  have hA := hA0
  have hl : lv_has ls 2 [(0, .ref o), (1, .int pp)] := hl
  have hinX3 : ∀ w ∈ u_ws RX3 TX3 4, w ∈ wsX3_setting := by decide +kernel
  have fl10 := hts (.fieldLink RX3 10 "RoofDrains" "roof" "LRoofDrains$Roof;") (by decide +kernel)
  refine lv_iload_n hx hb dX3_setting_0 rfl (lv_at hl 1 rfl) ?_
  refine k_calli (wc := ([] : va_W)) (w' := ([] : va_W)) (wn := (cO o [.ref (a 0), .ref (a2 0), .ref s0, .ref (x 0)]) ++ (cR cI a r) ++ (cR cI a2 q) ++ (cS cQ s0 w0 (zF A n) (nI old) (nI held)) ++ (cT cI x t) ++ (cZ cI A B n)) (va_runS (As := [.int pp]) (rest := []) ⟨hx, hb, hml, hown, hts⟩ (mX3_isSetting l D cI cQ cJ pp _) (va_cwS 1 hts gX3_setting_X3_isSetting rfl rfl rfl (by decide +kernel) ⟨Nat.le_of_ble_eq_true rfl, Nat.le_of_ble_eq_true rfl⟩) (k_preS (wc := ([] : va_W)) hE hK hP hD [] (by decide) rfl [.int pp]) rfl rfl hl.1 rfl (lv_room (Nat.le_of_ble_eq_true rfl)) dX3_setting_1 ⟨Nat.le_of_ble_eq_true rfl, Nat.le_of_ble_eq_true rfl⟩) hP hD hS hA [] rfl rfl rfl (fun H locs hP hD hS => ?_)
  refine lv_if_ne (tgt := 17) hx hb dX3_setting_4 (by decide) (fun c_1 => ?_) (fun c_1 => ?_)
  · skip
    refine lv_aload_n hx hb dX3_setting_17 rfl (lv_at hl 0 rfl) ?_
    refine va_get (D := D) (ci := 3) (v := .ref (a 0)) (C := RX3) (T := TX3) (N := 4) hx hb hts hinX3 hown hK hP 0 rfl rfl 0 (by decide) fl10 (fun _ h9 => h9) rfl dX3_setting_18 ?_
    refine lv_iload_n hx hb dX3_setting_21 rfl (lv_at hl 1 rfl) ?_
    refine k_calli (wc := cR cI a r) (w' := cR cI a r) (wn := (cO o [.ref (a 0), .ref (a2 0), .ref s0, .ref (x 0)]) ++ (cR cI a r) ++ (cR cI a2 q) ++ (cS cQ s0 w0 (zF A n) (nI old) (nI held)) ++ (cT cI x t) ++ (cZ cI A B n)) (va_runV (As := [.int pp]) (rest := []) ⟨hx, hb, hml, hown, hts⟩ (mX1_settingValue l D cI cQ cJ a r pp pp.toNatClampNeg (zL_in (n := 3) rfl rfl c_1) rfl _) (cwV 1 hts gX3_setting_X1_settingValue rfl rfl rfl (by decide +kernel) ⟨Nat.le_of_ble_eq_true rfl, Nat.le_of_ble_eq_true rfl⟩) (k_preV (wc := cR cI a r) hE hK hP hD [1, 2, 3, 4, 5, 6, 7, 8, 9, 10, 11, 12, 13] (by decide) rfl (ci := 1) (q0 := 1) rfl rfl [.int pp]) rfl rfl hl.1 rfl (lv_room (Nat.le_of_ble_eq_true rfl)) dX3_setting_22 ⟨Nat.le_of_ble_eq_true rfl, Nat.le_of_ble_eq_true rfl⟩) hP hD hS hA [1, 2, 3, 4, 5, 6, 7, 8, 9, 10, 11, 12, 13] rfl rfl (by rw [show [1, 2, 3, 4, 5, 6, 7, 8, 9, 10, 11, 12, 13] = List.range' 1 13 from rfl, putAt_l _ _ _ _ 31, putAt_l _ _ _ _ 29, putAt_l _ _ _ _ 27, putAt_l _ _ _ _ 14, putAt_0 13 _ _ _ 1] <;> first | rfl | decide) (fun H locs hP hD hS => ?_)
    exact x_iret hx hb hr hlocks hS hP hD dX3_setting_25 (by simp only [cStg, if_neg c_1, ↓reduceIte]) ⟨rfl, rfl⟩ (Nat.le_of_ble_eq_true rfl) (Nat.le_of_ble_eq_true rfl)
  · skip
    exact x_throw (E := "java/lang/IndexOutOfBoundsException") (kE := 1) (text := "no such setting") (ik := 40) (is := 94) (ic := 44) (Ts := wsX3_setting) hfl hx hb hml hts hown hX hS hP hT hlocks rfl (by simp [eIOB, eIAE, eISE]) (by decide +kernel) (by decide +kernel) (fun _ h => List.mem_cons_of_mem _ (List.mem_append_right _ h)) bad1 hot1 (by decide +kernel) (by decide +kernel) hl.1 (by simp only [cStg, if_pos c_1, ↓reduceIte]) (by decide) dX3_setting_7 dX3_setting_10 dX3_setting_11 dX3_setting_13 dX3_setting_16 (Nat.le_of_ble_eq_true rfl) (Nat.le_of_ble_eq_true rfl) (Nat.le_of_ble_eq_true rfl) (Nat.le_of_ble_eq_true rfl) (Nat.le_of_ble_eq_true rfl) (Nat.le_of_ble_eq_true rfl)
