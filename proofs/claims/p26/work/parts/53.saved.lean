/-! the saved roofs: the ring -/
def kO (old held : Nat) : Nat := if held = 6 then (old + 1) % 6 else old
def kH (held : Nat) : Nat := if held = 6 then 5 else held
def kX (old held : Nat) : Nat := (kO old held + kH held) % 6
def kN (n old held : Nat) : Nat := if kX old held < n then n else n + 1
def kB (B : Nat → rB) (old held : Nat) (r : rB) : Nat → rB := fun z => if z = kX old held then r else B z
def svOk (n old held : Nat) : Prop := n ≤ 6 ∧ old < 6 ∧ held ≤ 6 ∧ (n < 6 → old = 0 ∧ held ≤ n)
theorem kX_le {n old held : Nat} (h : svOk n old held) : kX old held ≤ n ∧ kO old held < 6 ∧ kH held < 6 := by
  obtain ⟨h1, h2, h3, h4⟩ := h
  unfold kX kO kH
  by_cases h5 : held = 6
  · simp only [h5, if_true]
    have : n = 6 := by
      rcases Nat.lt_or_ge n 6 with h6 | h6
      · have := h4 h6; omega
      · omega
    omega
  · simp only [h5, if_false]
    rcases Nat.lt_or_ge n 6 with h6 | h6
    · have := h4 h6
      rw [this.1, Nat.zero_add, Nat.mod_eq_of_lt (by omega)]; omega
    · omega
theorem svOk_keep {n old held : Nat} (h : svOk n old held) : svOk (kN n old held) (kO old held) (kH held + 1) := by
  have h0 := kX_le h
  obtain ⟨h1, h2, h3, h4⟩ := h
  have h7 : kX old held < 6 := Nat.mod_lt _ (by decide)
  refine ⟨?_, h0.2.1, by omega, fun h5 => ?_⟩
  · unfold kN; split <;> omega
  · have h8 : n < 6 := by unfold kN at h5; split at h5 <;> omega
    obtain ⟨h9, h10⟩ := h4 h8
    have h6 : ¬ held = 6 := by omega
    have e1 : kO old held = old := if_neg h6
    have e2 : kH held = held := if_neg h6
    have e3 : kX old held = held := by unfold kX; rw [e1, e2, h9, Nat.zero_add, Nat.mod_eq_of_lt (by omega)]
    refine ⟨by omega, ?_⟩
    unfold kN
    rw [e2, e3]
    split <;> omega
theorem zF_up {A : Nat → Nat → Nat} {n : Nat} {u : Nat → Nat} : va_up (zF A n) n (some (u 0)) = zF (fun z => if z = n then u else A z) (n + 1) := by
  funext i
  unfold zF va_up
  by_cases h : i = n
  · subst h; simp
  · simp only [h, if_false]
    by_cases h2 : i < n
    · rw [if_pos h2, if_pos (by omega)]
    · rw [if_neg h2, if_neg (by omega)]
theorem cZ_push {cI : ClassId} {A : Nat → Nat → Nat} {B : Nat → rB} {n : Nat} {u : Nat → Nat} {r : rB} : cZ cI A B n ++ cR cI u r = cZ cI (fun z => if z = n then u else A z) (fun z => if z = n then r else B z) (n + 1) := by
  show _ = cZ cI (fun z => if z = n then u else A z) (fun z => if z = n then r else B z) n ++ cR cI (if n = n then u else A n) (if n = n then r else B n)
  rw [if_pos rfl, if_pos rfl, cZ_cong n (fun z hz => ⟨(if_neg (show ¬ z = n by omega)).symm, (if_neg (show ¬ z = n by omega)).symm⟩)]
theorem zF_up2 {A A1 : Nat → Nat → Nat} {n i : Nat} (hi : i = n) (h : ∀ z, z ≠ n → A1 z = A z) : va_up (zF A n) i (some (A1 n 0)) = zF A1 (n + 1) := by
  subst hi
  funext j
  unfold zF va_up
  by_cases hj : j = i
  · subst hj; simp
  · simp only [hj, if_false]
    by_cases h2 : j < i
    · rw [if_pos h2, if_pos (by omega), h j hj]
    · rw [if_neg h2, if_neg (by omega)]
abbrev fR (a : Nat → Nat) (r : rB) : List Value := [.ref (a 1), .ref (a 2), .ref (a 3), .ref (a 4), .ref (a 5), .ref (a 6), .ref (a 7), .ref (a 8), .ref (a 9), .ref (a 10), .ref (a 11), .ref (a 12), .int (r 12 0), .int (r 12 1), .int (r 12 2), .int (r 12 3)]
theorem cZ_at {cI : ClassId} {A : Nat → Nat → Nat} {B : Nat → rB} {w : va_W} {k i n : Nat} (hw : w.length = k) (hi : i < n) : (w ++ cZ cI A B n)[k + 13 * i]? = some (A i 0, .inr (1, fR (A i) (B i))) := by
  rw [List.getElem?_append_right (by omega), hw, show k + 13 * i - k = 13 * i + 0 by omega]
  exact (cZ_get (by decide) n hi).trans rfl
theorem nd_app {m : List Nat} : ∀ {l : List Nat}, va_nd l = true → va_nd m = true → (∀ x ∈ l, x ∉ m) → va_nd (l ++ m) = true
  | [], _, h2, _ => h2
  | a :: l, h1, h2, h => by
    simp only [va_nd, Bool.and_eq_true, decide_eq_true_eq] at h1
    show va_nd (a :: (l ++ m)) = true
    simp only [va_nd, Bool.and_eq_true, decide_eq_true_eq, List.mem_append, not_or]
    exact ⟨⟨h1.1, h a List.mem_cons_self⟩, nd_app h1.2 h2 (fun x hx => h x (List.mem_cons_of_mem _ hx))⟩
theorem nd_range : ∀ (k b : Nat), va_nd (List.range' b k) = true
  | 0, _ => rfl
  | k + 1, b => by
    show va_nd (b :: List.range' (b + 1) k) = true
    simp only [va_nd, Bool.and_eq_true, decide_eq_true_eq]
    exact ⟨fun h => by have := List.mem_range'_1.mp h; omega, nd_range k (b + 1)⟩
theorem nd_keep (i : Nat) : va_nd (List.range' (31 + 13 * i) 13 ++ [1, 2, 3, 4, 5, 6, 7, 8, 9, 10, 11, 12, 13]) = true := nd_app (nd_range _ _) (by decide) (fun x hx h2 => by
  have := List.mem_range'_1.mp hx
  simp only [List.mem_cons, List.not_mem_nil, or_false] at h2
  omega)
theorem nI_inj6 {h : Nat} (h6 : h ≤ 6) (e : nI h = 6) : h = 6 := by
  have h1 := congrArg Int32.toInt e
  rw [nI_toInt (by omega)] at h1
  have h2 : (6 : Int32).toInt = 6 := by decide
  omega
theorem nI_inj0 {h : Nat} (h6 : h < 2 ^ 31) (e : nI h = 0) : h = 0 := by
  have h1 := congrArg Int32.toInt e
  rw [nI_toInt h6] at h1
  have h2 : (0 : Int32).toInt = 0 := by decide
  omega
def kD (A : Nat → Nat → Nat) (old held : Nat) : Option Nat := if held = 0 then none else some (A ((old + (held - 1)) % 6) 0)
theorem svOk_drop {n old held : Nat} (h : svOk n old held) : svOk n old (held - 1) := by
  obtain ⟨h1, h2, h3, h4⟩ := h
  exact ⟨h1, h2, by omega, fun h5 => by have := h4 h5; omega⟩
theorem svOk_at {n old held : Nat} (h : svOk n old held) (h0 : held ≠ 0) : (old + (held - 1)) % 6 < n := by
  obtain ⟨h1, h2, h3, h4⟩ := h
  rcases Nat.lt_or_ge n 6 with h5 | h5
  · have := h4 h5
    rw [this.1, Nat.zero_add, Nat.mod_eq_of_lt (by omega)]; omega
  · have : (old + (held - 1)) % 6 < 6 := Nat.mod_lt _ (by decide)
    omega
theorem map_app2 {is js : List Nat} {w a b : va_W} (h1 : is.map (fun i => w[i]?) = a.map some) (h2 : js.map (fun i => w[i]?) = b.map some) : (is ++ js).map (fun i => w[i]?) = (a ++ b).map some := by
  rw [List.map_append, List.map_append, h1, h2]
set_option maxHeartbeats 4000000 in
set_option maxRecDepth 100000 in
theorem mX2_keep (l : Launch) (D : va_G) (cI cQ cJ : ClassId) (o s0 w0 : Nat) (x a a2 : Nat → Nat) (A : Nat → Nat → Nat) (r q t : rB) (n old held : Nat) (B : Nat → rB) (hok : svOk n old held) (sz : Nat) : Met l yX2_keep wsX2_keep ({ frames := 2, cells := 13, slots := 85, locals := 81 } : Room) (va_Pc [.ref s0, .ref (a 0)] (Prx D (tY cI cQ cJ) sz (WX cI cQ o s0 w0 x a a2 A r q t n (zF A n) (nI old) (nI held) B))) (va_Qv (fun (_ : Nat → Nat → Nat) => True) (fun u t9 => Wd D (WX cI cQ o s0 w0 x a a2 u r q t (kN n old held) (zF u (kN n old held)) (nI (kO old held)) (nI (kH held + 1)) (kB B old held r)) t9 ∧ va_D (va_A (WX cI cQ o s0 w0 x a a2 A r q t n (zF A n) (nI old) (nI held) B) sz) (WX cI cQ o s0 w0 x a a2 u r q t (kN n old held) (zF u (kN n old held)) (nI (kO old held)) (nI (kH held + 1)) (kB B old held r))) (va_A (WX cI cQ o s0 w0 x a a2 A r q t n (zF A n) (nI old) (nI held) B) sz)) 13 85 (va_A (WX cI cQ o s0 w0 x a a2 A r q t n (zF A n) (nI old) (nI held) B) sz) := by
  refine N_of (cc := cX2_keep) (maxL := 4) (ret := none) (Qc := fun A0 => va_Qv (fun (_ : Nat → Nat → Nat) => True) (fun u t9 => Wd D (WX cI cQ o s0 w0 x a a2 u r q t (kN n old held) (zF u (kN n old held)) (nI (kO old held)) (nI (kH held + 1)) (kB B old held r)) t9 ∧ va_D A0 (WX cI cQ o s0 w0 x a a2 u r q t (kN n old held) (zF u (kN n old held)) (nI (kO old held)) (nI (kH held + 1)) (kB B old held r))) A0) (by decide) rfl (Nat.le_of_ble_eq_true rfl) ?_ sz
  intro p e s m below meth c A0 ls hB hnm hE hP hK hD hA0 hl
  obtain ⟨hx, hb, hr, hml, hts, hown, hlocks⟩ := hB
  have hS : va_S A0 s.heap s.heap [] := va_S.rf
  have hl : lv_has ls 4 [(0, .ref s0), (1, .ref (a 0))] := hl
  have hinX2 : ∀ w ∈ u_ws RX2 TX2 3, w ∈ wsX2_keep := by decide +kernel
  have fl15 := hts (.fieldLink RX2 15 "RoofDrains$SavedRoofs" "held" "I") (by decide +kernel)
  have fl19 := hts (.fieldLink RX2 19 "RoofDrains$SavedRoofs" "oldest" "I") (by decide +kernel)
  have fl11 := hts (.fieldLink RX2 11 "RoofDrains$SavedRoofs" "rows" "[LRoofDrains$Roof;") (by decide +kernel)
  have hinX1 : ∀ w ∈ u_ws RX1 TX1 16, w ∈ wsX2_keep := by decide +kernel
  have ho6 := hok.2.1
  have K71 : ∀ (oo hh i n1 : Nat) (A1 : Nat → Nat → Nat) (B1 : Nat → rB), kO old held = oo → kH held = hh → kX old held = i → i < n1 → n1 = kN n old held → (∀ z, z < n1 → z ≠ i → B1 z = B z) → ∀ (H : Heap) (locs : List Loc), va_P D vwCl (WX cI cQ o s0 w0 x a a2 A1 r q t n1 (zF A1 n1) (nI oo) (nI hh) B1) H → va_D A0 (WX cI cQ o s0 w0 x a a2 A1 r q t n1 (zF A1 n1) (nI oo) (nI hh) B1) → va_S A0 s.heap H locs → ∀ (ls : Array Slot), lv_has ls 4 [(3, .ref (A1 i 0)), (2, .int (nI i)), (0, .ref s0), (1, .ref (a 0))] → W p l e ({ frames := 2, cells := 13, slots := 85, locals := 81 } : Room) s m ([.ref s0, .ref (a 0)] : List Value).toArray below meth c H locs 13 85 (MQ below (va_Qv (fun (_ : Nat → Nat → Nat) => True) (fun u t9 => Wd D (WX cI cQ o s0 w0 x a a2 u r q t (kN n old held) (zF u (kN n old held)) (nI (kO old held)) (nI (kH held + 1)) (kB B old held r)) t9 ∧ va_D A0 (WX cI cQ o s0 w0 x a a2 u r q t (kN n old held) (zF u (kN n old held)) (nI (kO old held)) (nI (kH held + 1)) (kB B old held r))) A0) ([.ref s0, .ref (a 0)] : List Value).toArray s 13 85 A0) (F0 m 71 ls []) := by
    intro oo hh i n1 A1 B1 hoo hhh hi hin hn1 hBz H locs hP hD hS ls hl
    refine lv_aload_n hx hb dX2_keep_71 rfl (lv_at hl 0 rfl) ?_
    refine lv_aload_n hx hb dX2_keep_72 rfl (lv_at hl 3 rfl) ?_
    have hC : (List.range' (31 + 13 * i) 13 ++ [1, 2, 3, 4, 5, 6, 7, 8, 9, 10, 11, 12, 13]).map (fun z => (WX cI cQ o s0 w0 x a a2 A1 r q t n1 (zF A1 n1) (nI oo) (nI hh) B1)[z]?) = (cR cI (A1 i) (B1 i) ++ cR cI a r).map some := map_app2 (cZ_map (k := 31) rfl rfl hin) rfl
    have hn9 : putAt (WX cI cQ o s0 w0 x a a2 A1 r q t n1 (zF A1 n1) (nI oo) (nI hh) B1) (List.range' (31 + 13 * i) 13 ++ [1, 2, 3, 4, 5, 6, 7, 8, 9, 10, 11, 12, 13]) (cR cI (A1 i) r ++ cR cI a r) = WX cI cQ o s0 w0 x a a2 A1 r q t n1 (zF A1 n1) (nI oo) (nI hh) (fun z => if z = i then r else B1 z) := by
      rw [putAt_cat _ _ _ _ _ (by rw [List.length_range']; rfl), cZ_put (k := 31) rfl rfl n1 hin]
      rfl
    have hnd : va_nd (List.range' (31 + 13 * i) 13 ++ [1, 2, 3, 4, 5, 6, 7, 8, 9, 10, 11, 12, 13]) = true := nd_keep i
    refine k_callv (wc := cR cI (A1 i) (B1 i) ++ cR cI a r) (w' := cR cI (A1 i) r ++ cR cI a r) (wn := WX cI cQ o s0 w0 x a a2 A1 r q t n1 (zF A1 n1) (nI oo) (nI hh) (fun z => if z = i then r else B1 z)) (va_runV (As := [.ref (a 0)]) (rest := []) ⟨hx, hb, hml, hown, hts⟩ (mX1_copyFrom l D cI cQ cJ (A1 i) (B1 i) a r _) (cwV 1 hts gX2_keep_X1_copyFrom rfl rfl rfl (by decide +kernel) ⟨Nat.le_of_ble_eq_true rfl, Nat.le_of_ble_eq_true rfl⟩) (k_preV (wc := cR cI (A1 i) (B1 i) ++ cR cI a r) hE hK hP hD (List.range' (31 + 13 * i) 13 ++ [1, 2, 3, 4, 5, 6, 7, 8, 9, 10, 11, 12, 13]) hnd hC (ci := 1) (q0 := 31 + 13 * i) rfl ((cZ_at (k := 31) rfl hin).trans rfl) [.ref (a 0)]) rfl rfl hl.1 rfl (lv_room (Nat.le_of_ble_eq_true rfl)) dX2_keep_73 ⟨Nat.le_of_ble_eq_true rfl, Nat.le_of_ble_eq_true rfl⟩) hP hD hS hA0 (List.range' (31 + 13 * i) 13 ++ [1, 2, 3, 4, 5, 6, 7, 8, 9, 10, 11, 12, 13]) hC rfl hn9 (fun H locs hP hD hS => ?_)
    refine lv_aload_n hx hb dX2_keep_76 rfl (lv_at hl 2 rfl) ?_
    refine lv_dup hx hb dX2_keep_77 rfl ?_
    refine va_get (D := D) (ci := 2) (v := .int (nI hh)) (C := RX2) (T := TX2) (N := 3) hx hb hts hinX2 hown hK hP 27 rfl rfl 2 (by decide) fl15 (fun _ h9 => h9) rfl dX2_keep_78 ?_
    refine lv_iconst (v := 1) hx hb dX2_keep_81 (by decide) ?_
    refine lv_iadd hx hb dX2_keep_82 ?_
    refine lv_eqi (y := nI (hh + 1)) (nI_add hh 1) ?_
    refine k_put (D := D) (ci := 2) (v := .int (nI (hh + 1))) (ty := .int) (C := RX2) (T := TX2) (N := 3) hx hb hts hinX2 tyX2 tyX2_ok nmX2 hown hK hP hD hS 27 rfl rfl 2 (by decide) fl15 (fun _ h9 => h9) rfl (by decide +kernel) rfl rfl (Nat.le_of_ble_eq_true rfl) (ws' := (cO o [.ref (a 0), .ref (a2 0), .ref s0, .ref (x 0)]) ++ (cR cI a r) ++ (cR cI a2 q) ++ (cS cQ s0 w0 (zF A1 n1) (nI oo) (nI (hh + 1))) ++ (cT cI x t) ++ (cZ cI A1 (fun z => if z = i then r else B1 z) n1)) rfl dX2_keep_83 (fun H locs hP hD hS => ?_)
    have eB : WX cI cQ o s0 w0 x a a2 A1 r q t n1 (zF A1 n1) (nI oo) (nI (hh + 1)) (fun z => if z = i then r else B1 z) = WX cI cQ o s0 w0 x a a2 A1 r q t (kN n old held) (zF A1 (kN n old held)) (nI (kO old held)) (nI (kH held + 1)) (kB B old held r) := by
      subst hoo; subst hhh; subst hi; subst hn1
      show _ ++ cZ cI A1 _ _ = _ ++ cZ cI A1 _ _
      rw [cZ_cong (kN n old held) (A := A1) (A1 := A1) (B := fun z => if z = kX old held then r else B1 z) (B1 := kB B old held r) (fun z hz => ⟨rfl, ?_⟩)]
      show (if z = kX old held then r else B1 z) = (if z = kX old held then r else B z)
      by_cases hzk : z = kX old held
      · rw [if_pos hzk, if_pos hzk]
      · rw [if_neg hzk, if_neg hzk, hBz z hz hzk]
    obtain ⟨hP, hD⟩ := k_eqw eB hP hD
    exact k_vretN (w' := fun (u : Nat → Nat → Nat) => WX cI cQ o s0 w0 x a a2 u r q t (kN n old held) (zF u (kN n old held)) (nI (kO old held)) (nI (kH held + 1)) (kB B old held r)) A1 hx hb hr hlocks hS hP hD dX2_keep_86
  have K32 : ∀ (oo hh : Nat), kO old held = oo → kH held = hh → oo < 6 → hh < 6 → ∀ (H : Heap) (locs : List Loc), va_P D vwCl (WX cI cQ o s0 w0 x a a2 A r q t n (zF A n) (nI oo) (nI hh) B) H → va_D A0 (WX cI cQ o s0 w0 x a a2 A r q t n (zF A n) (nI oo) (nI hh) B) → va_S A0 s.heap H locs → ∀ (ls : Array Slot), lv_has ls 4 [(0, .ref s0), (1, .ref (a 0))] → W p l e ({ frames := 2, cells := 13, slots := 85, locals := 81 } : Room) s m ([.ref s0, .ref (a 0)] : List Value).toArray below meth c H locs 0 0 (MQ below (va_Qv (fun (_ : Nat → Nat → Nat) => True) (fun u t9 => Wd D (WX cI cQ o s0 w0 x a a2 u r q t (kN n old held) (zF u (kN n old held)) (nI (kO old held)) (nI (kH held + 1)) (kB B old held r)) t9 ∧ va_D A0 (WX cI cQ o s0 w0 x a a2 u r q t (kN n old held) (zF u (kN n old held)) (nI (kO old held)) (nI (kH held + 1)) (kB B old held r))) A0) ([.ref s0, .ref (a 0)] : List Value).toArray s 13 85 A0) (F0 m 32 ls []) := by
    intro oo hh hoo hhh ho6 hh6 H locs hP hD hS ls hl
    obtain ⟨i, hi⟩ : ∃ i, i = (oo + hh) % 6 := ⟨_, rfl⟩
    have hi6 : i < 6 := by omega
    have hki : kX old held = i := by unfold kX; rw [hoo, hhh, hi]
    have hile : i ≤ n := hki ▸ (kX_le hok).1
    refine lv_aload_n hx hb dX2_keep_32 rfl (lv_at hl 0 rfl) ?_
    refine va_get (D := D) (ci := 2) (v := .int (nI oo)) (C := RX2) (T := TX2) (N := 3) hx hb hts hinX2 hown hK hP 27 rfl rfl 1 (by decide) fl19 (fun _ h9 => h9) rfl dX2_keep_33 ?_
    refine lv_aload_n hx hb dX2_keep_36 rfl (lv_at hl 0 rfl) ?_
    refine va_get (D := D) (ci := 2) (v := .int (nI hh)) (C := RX2) (T := TX2) (N := 3) hx hb hts hinX2 hown hK hP 27 rfl rfl 2 (by decide) fl15 (fun _ h9 => h9) rfl dX2_keep_37 ?_
    refine lv_iadd hx hb dX2_keep_40 ?_
    refine lv_eqi (y := nI (oo + hh)) (nI_add oo hh) ?_
    refine lv_bipush (v := 6) hx hb dX2_keep_41 (by decide) ?_
    refine lv_irem hx hb dX2_keep_43 (by decide) ?_
    refine lv_eqi (y := nI ((oo + hh) % 6)) (pk_rem (a := oo + hh) (d := 6) (by omega) (by decide) (by decide)) ?_
    refine lv_eqi (y := nI i) (congrArg nI hi.symm) ?_
    refine lv_istore_n (lv' := [(2, .int (nI i)), (0, .ref s0), (1, .ref (a 0))]) hx hb dX2_keep_44 rfl hl (by decide) rfl (fun ls hl => ?_)
    refine lv_aload_n hx hb dX2_keep_45 rfl (lv_at hl 1 rfl) ?_
    refine va_get (D := D) (ci := 2) (v := .ref w0) (C := RX2) (T := TX2) (N := 3) hx hb hts hinX2 hown hK hP 27 rfl rfl 0 (by decide) fl11 (fun _ h9 => h9) rfl dX2_keep_46 ?_
    refine lv_iload_n hx hb dX2_keep_49 rfl (lv_at hl 0 rfl) ?_
    refine va_aldq hx hb hK hP 28 1 rfl rfl (vp_in_nI (n := i) (by omega) (by omega)) dX2_keep_50 ?_
    by_cases hin : i < n
    · skip
      refine lv_eqv (y := .ref (A i 0)) (by rw [nI_clamp (show i < 2 ^ 31 by omega)]; show va_rf (zF A n i) = _; rw [show zF A n i = some (A i 0) from if_pos hin]; rfl) ?_
      refine lv_astore_n (lv' := [(3, .ref (A i 0)), (2, .int (nI i)), (0, .ref s0), (1, .ref (a 0))]) hx hb dX2_keep_51 rfl hl (by decide) rfl (fun ls hl => ?_)
      refine lv_aload_n hx hb dX2_keep_52 rfl (lv_at hl 0 rfl) ?_
      refine lv_ifnonnull (tgt := 71) hx hb dX2_keep_53 (by decide) ?_
      refine W.widen (k := 13) (n := 85) (Nat.le_of_ble_eq_true rfl) (Nat.le_of_ble_eq_true rfl) ?_
      exact K71 oo hh i n A B hoo hhh hki hin (by unfold kN; rw [hki, if_pos hin]) (fun _ _ _ => rfl) H locs hP hD hS ls hl
    · skip
      have hin2 : i = n := by omega
      refine lv_eqv (y := .null) (by rw [nI_clamp (show i < 2 ^ 31 by omega)]; show va_rf (zF A n i) = _; rw [show zF A n i = none from if_neg hin]; rfl) ?_
      refine lv_astore_nN (lv' := [(3, .null), (2, .int (nI i)), (0, .ref s0), (1, .ref (a 0))]) hx hb dX2_keep_51 rfl hl (by decide) rfl (fun ls hl => ?_)
      refine lv_aload_nN hx hb dX2_keep_52 rfl (lv_at hl 0 rfl) ?_
      refine lv_ifnonnullN hx hb dX2_keep_53 ?_
      refine va_new (D := D) (ci := 1) (fs := [.null, .null, .null, .null, .null, .null, .null, .null, .null, .null, .null, .null, .int 0, .int 0, .int 0, .int 0]) (C := RX1) (T := TX1) (N := 16) hx hb hts hinX1 tyX1 tyX1_ok hown (hts (.classLink RX2 9 RX1) (by decide +kernel)) (hts (.instantiable RX1 16) (by decide +kernel)) (hts (.initialized RX1) (by decide +kernel)) hK hP hD hS hA0 rfl (fun j hj => by rcases (show j = 0 ∨ j = 1 ∨ j = 2 ∨ j = 3 ∨ j = 4 ∨ j = 5 ∨ j = 6 ∨ j = 7 ∨ j = 8 ∨ j = 9 ∨ j = 10 ∨ j = 11 ∨ j = 12 ∨ j = 13 ∨ j = 14 ∨ j = 15 by omega) with rfl | rfl | rfl | rfl | rfl | rfl | rfl | rfl | rfl | rfl | rfl | rfl | rfl | rfl | rfl | rfl <;> rfl) (Nat.le_of_ble_eq_true rfl) (Nat.le_of_ble_eq_true rfl) dX2_keep_56 (fun qn H hP hD hS => ?_)
      refine lv_dup hx hb dX2_keep_59 rfl ?_
      refine k_calln (wr := (cO o [.ref (a 0), .ref (a2 0), .ref s0, .ref (x 0)]) ++ (cR cI a r) ++ (cR cI a2 q) ++ (cS cQ s0 w0 (zF A n) (nI oo) (nI hh)) ++ (cT cI x t) ++ (cZ cI A B n)) (wc := [(qn, .inr (1, [.null, .null, .null, .null, .null, .null, .null, .null, .null, .null, .null, .null, .int 0, .int 0, .int 0, .int 0]))]) (w' := fun u => cR cI (adF qn u) rB0) (va_runI (As := []) (rest := [.ref qn]) ⟨hx, hb, hml, hown, hts⟩ (mX1_init l D cI cQ cJ qn _) (cwI 0 hts gX2_keep_X1_init rfl rfl rfl (hts (.initialized RX1) (by decide +kernel)) (hts (.methodLink RX2 22 yX1_init) (by decide +kernel)) (hts (.instanceMethod yX1_init) (by decide +kernel)) rfl (by decide +kernel) ⟨Nat.le_of_ble_eq_true rfl, Nat.le_of_ble_eq_true rfl⟩) (k_preR (wr := (cO o [.ref (a 0), .ref (a2 0), .ref s0, .ref (x 0)]) ++ (cR cI a r) ++ (cR cI a2 q) ++ (cS cQ s0 w0 (zF A n) (nI oo) (nI hh)) ++ (cT cI x t) ++ (cZ cI A B n)) (wc := [(qn, .inr (1, [.null, .null, .null, .null, .null, .null, .null, .null, .null, .null, .null, .null, .int 0, .int 0, .int 0, .int 0]))]) hE hK hP hD [.ref qn]) rfl rfl hl.1 rfl (lv_room (Nat.le_of_ble_eq_true rfl)) dX2_keep_60 ⟨Nat.le_of_ble_eq_true rfl, Nat.le_of_ble_eq_true rfl⟩) hP hD hS hA0 (fun u H locs hP hD hS => ?_)
      obtain ⟨hP, hD⟩ := k_eqw (w' := ((cO o [.ref (a 0), .ref (a2 0), .ref s0, .ref (x 0)]) ++ (cR cI a r) ++ (cR cI a2 q) ++ (cS cQ s0 w0 (zF A n) (nI oo) (nI hh)) ++ (cT cI x t)) ++ cZ cI (fun z => if z = n then adF qn u else A z) (fun z => if z = n then rB0 else B z) (n + 1)) (by rw [← cZ_push, List.append_assoc]) hP hD
      obtain ⟨A1, hA1⟩ : ∃ A1, A1 = (fun z => if z = n then adF qn u else A z) := ⟨_, rfl⟩
      have hAn : A1 n = adF qn u := by rw [hA1]; exact if_pos rfl
      rw [← hA1] at hP hD
      refine lv_astore_n (lv' := [(3, .ref qn), (2, .int (nI i)), (0, .ref s0), (1, .ref (a 0))]) hx hb dX2_keep_63 rfl hl (by decide) rfl (fun ls hl => ?_)
      refine lv_aload_n hx hb dX2_keep_64 rfl (lv_at hl 2 rfl) ?_
      refine va_get (D := D) (ci := 2) (v := .ref w0) (C := RX2) (T := TX2) (N := 3) hx hb hts hinX2 hown hK hP 27 rfl rfl 0 (by decide) fl11 (fun _ h9 => h9) rfl dX2_keep_65 ?_
      refine lv_iload_n hx hb dX2_keep_68 rfl (lv_at hl 1 rfl) ?_
      refine lv_aload_n hx hb dX2_keep_69 rfl (lv_at hl 0 rfl) ?_
      have hAz : ∀ z, z ≠ n → A1 z = A z := fun z hz => by rw [hA1]; exact if_neg hz
      refine lv_eqv (y := .ref (A1 n 0)) (by rw [hAn]; rfl) ?_
      refine va_astq (v := A1 n 0) (vs := fR (A1 n) ((fun z => if z = n then rB0 else B z) n)) hx hb hK hP hD hS 28 1 (31 + 13 * n) 1 rfl rfl ((cZ_at (k := 31) rfl (show n < n + 1 by omega)).trans rfl) (r := (RX1, TX1, 16)) rfl (vp_in_nI (n := i) (by omega) (by omega)) dX2_keep_70 (fun H locs hP hD hS => ?_)
      obtain ⟨hP, hD⟩ := k_eqw (w' := WX cI cQ o s0 w0 x a a2 A1 r q t (n + 1) (zF A1 (n + 1)) (nI oo) (nI hh) (fun z => if z = n then rB0 else B z)) (by rw [nI_clamp (show i < 2 ^ 31 by omega), zF_up2 hin2 hAz]; rfl) hP hD
      have hl : lv_has ls 4 [(3, .ref (A1 i 0)), (2, .int (nI i)), (0, .ref s0), (1, .ref (a 0))] := by rw [hin2, hAn]; rw [hin2] at hl; exact hl
      exact K71 oo hh i (n + 1) A1 (fun z => if z = n then rB0 else B z) hoo hhh hki (by omega) (by unfold kN; rw [hki, if_neg hin]) (fun z hz hzi => if_neg (by omega)) H locs hP hD hS ls hl
  by_cases h6 : held = 6
  · skip
    subst h6
    refine lv_aload_n hx hb dX2_keep_0 rfl (lv_at hl 0 rfl) ?_
    refine va_get (D := D) (ci := 2) (v := .int (nI 6)) (C := RX2) (T := TX2) (N := 3) hx hb hts hinX2 hown hK hP 27 rfl rfl 2 (by decide) fl15 (fun _ h9 => h9) rfl dX2_keep_1 ?_
    refine lv_bipush (v := 6) hx hb dX2_keep_4 (by decide) ?_
    refine lv_icmp_ne (tgt := 32) hx hb dX2_keep_6 (by decide) (fun h9 => absurd (by decide) h9) (fun _ => ?_)
    refine lv_aload_n hx hb dX2_keep_9 rfl (lv_at hl 0 rfl) ?_
    refine lv_aload_n hx hb dX2_keep_10 rfl (lv_at hl 0 rfl) ?_
    refine va_get (D := D) (ci := 2) (v := .int (nI old)) (C := RX2) (T := TX2) (N := 3) hx hb hts hinX2 hown hK hP 27 rfl rfl 1 (by decide) fl19 (fun _ h9 => h9) rfl dX2_keep_11 ?_
    refine lv_iconst (v := 1) hx hb dX2_keep_14 (by decide) ?_
    refine lv_iadd hx hb dX2_keep_15 ?_
    refine lv_eqi (y := nI (old + 1)) (nI_add old 1) ?_
    refine lv_bipush (v := 6) hx hb dX2_keep_16 (by decide) ?_
    refine lv_irem hx hb dX2_keep_18 (by decide) ?_
    refine lv_eqi (y := nI ((old + 1) % 6)) (pk_rem (a := old + 1) (d := 6) (by omega) (by decide) (by decide)) ?_
    refine k_put (D := D) (ci := 2) (v := .int (nI ((old + 1) % 6))) (ty := .int) (C := RX2) (T := TX2) (N := 3) hx hb hts hinX2 tyX2 tyX2_ok nmX2 hown hK hP hD hS 27 rfl rfl 1 (by decide) fl19 (fun _ h9 => h9) rfl (by decide +kernel) rfl rfl (Nat.le_of_ble_eq_true rfl) (ws' := (cO o [.ref (a 0), .ref (a2 0), .ref s0, .ref (x 0)]) ++ (cR cI a r) ++ (cR cI a2 q) ++ (cS cQ s0 w0 (zF A n) (nI ((old + 1) % 6)) (nI 6)) ++ (cT cI x t) ++ (cZ cI A B n)) rfl dX2_keep_19 (fun H locs hP hD hS => ?_)
    refine lv_aload_n hx hb dX2_keep_22 rfl (lv_at hl 0 rfl) ?_
    refine lv_dup hx hb dX2_keep_23 rfl ?_
    refine va_get (D := D) (ci := 2) (v := .int (nI 6)) (C := RX2) (T := TX2) (N := 3) hx hb hts hinX2 hown hK hP 27 rfl rfl 2 (by decide) fl15 (fun _ h9 => h9) rfl dX2_keep_24 ?_
    refine lv_iconst (v := 1) hx hb dX2_keep_27 (by decide) ?_
    refine lv_isub hx hb dX2_keep_28 ?_
    refine lv_eqi (y := nI 5) (by decide) ?_
    refine k_put (D := D) (ci := 2) (v := .int (nI 5)) (ty := .int) (C := RX2) (T := TX2) (N := 3) hx hb hts hinX2 tyX2 tyX2_ok nmX2 hown hK hP hD hS 27 rfl rfl 2 (by decide) fl15 (fun _ h9 => h9) rfl (by decide +kernel) rfl rfl (Nat.le_of_ble_eq_true rfl) (ws' := (cO o [.ref (a 0), .ref (a2 0), .ref s0, .ref (x 0)]) ++ (cR cI a r) ++ (cR cI a2 q) ++ (cS cQ s0 w0 (zF A n) (nI ((old + 1) % 6)) (nI 5)) ++ (cT cI x t) ++ (cZ cI A B n)) rfl dX2_keep_29 (fun H locs hP hD hS => ?_)
    exact K32 ((old + 1) % 6) 5 (if_pos rfl) (if_pos rfl) (by omega) (by omega) H locs hP hD hS ls hl
  · skip
    have hn6 : ¬ nI held = 6 := fun h9 => h6 (nI_inj6 hok.2.2.1 h9)
    refine lv_aload_n hx hb dX2_keep_0 rfl (lv_at hl 0 rfl) ?_
    refine va_get (D := D) (ci := 2) (v := .int (nI held)) (C := RX2) (T := TX2) (N := 3) hx hb hts hinX2 hown hK hP 27 rfl rfl 2 (by decide) fl15 (fun _ h9 => h9) rfl dX2_keep_1 ?_
    refine lv_bipush (v := 6) hx hb dX2_keep_4 (by decide) ?_
    refine lv_icmp_ne (tgt := 32) hx hb dX2_keep_6 (by decide) (fun _ => ?_) (fun h9 => absurd h9 hn6)
    exact K32 old held (if_neg h6) (if_neg h6) hok.2.1 (by have := hok.2.2.1; omega) _ _ hP hD hS ls hl
set_option maxHeartbeats 4000000 in
set_option maxRecDepth 100000 in
theorem mX2_dropLatest (l : Launch) (D : va_G) (cI cQ cJ : ClassId) (o s0 w0 : Nat) (x a a2 : Nat → Nat) (A : Nat → Nat → Nat) (r q t : rB) (n old held : Nat) (B : Nat → rB) (hok : svOk n old held) (sz : Nat) : Met l yX2_dropLatest wsX2_dropLatest ({ frames := 0, cells := 0, slots := 0, locals := 0 } : Room) (va_Pc [.ref s0] (Prx D (tY cI cQ cJ) sz (WX cI cQ o s0 w0 x a a2 A r q t n (zF A n) (nI old) (nI held) B))) (va_Qq (fun (z : Option Nat) (_ : Unit) => z = kD A old held) (fun _ t9 => Wd D (WX cI cQ o s0 w0 x a a2 A r q t n (zF A n) (nI old) (nI (held - 1)) B) t9) (va_A (WX cI cQ o s0 w0 x a a2 A r q t n (zF A n) (nI old) (nI held) B) sz)) 0 0 (va_A (WX cI cQ o s0 w0 x a a2 A r q t n (zF A n) (nI old) (nI held) B) sz) := by
  refine N_of (cc := cX2_dropLatest) (maxL := 1) (ret := some (.object "RoofDrains$Roof")) (Qc := fun A0 => va_Qq (fun (z : Option Nat) (_ : Unit) => z = kD A old held) (fun _ t9 => Wd D (WX cI cQ o s0 w0 x a a2 A r q t n (zF A n) (nI old) (nI (held - 1)) B) t9) A0) (by decide) rfl (Nat.le_of_ble_eq_true rfl) ?_ sz
  intro p e s m below meth c A0 ls hB hnm hE hP hK hD hA0 hl
  obtain ⟨hx, hb, hr, hml, hts, hown, hlocks⟩ := hB
  have hS : va_S A0 s.heap s.heap [] := va_S.rf
  have hl : lv_has ls 1 [(0, .ref s0)] := hl
  have hinX2 : ∀ w ∈ u_ws RX2 TX2 3, w ∈ wsX2_dropLatest := by decide +kernel
  have fl15 := hts (.fieldLink RX2 15 "RoofDrains$SavedRoofs" "held" "I") (by decide +kernel)
  have fl11 := hts (.fieldLink RX2 11 "RoofDrains$SavedRoofs" "rows" "[LRoofDrains$Roof;") (by decide +kernel)
  have fl19 := hts (.fieldLink RX2 19 "RoofDrains$SavedRoofs" "oldest" "I") (by decide +kernel)
  have h6 := hok.2.2.1
  have ho6 := hok.2.1
  by_cases h0 : held = 0
  · skip
    subst h0
    refine lv_aload_n hx hb dX2_dropLatest_0 rfl (lv_at hl 0 rfl) ?_
    refine va_get (D := D) (ci := 2) (v := .int (nI 0)) (C := RX2) (T := TX2) (N := 3) hx hb hts hinX2 hown hK hP 27 rfl rfl 2 (by decide) fl15 (fun _ h9 => h9) rfl dX2_dropLatest_1 ?_
    refine lv_if_ne (tgt := 9) hx hb dX2_dropLatest_4 (by decide) (fun h9 => absurd (rfl : nI 0 = 0) h9) (fun _ => ?_)
    refine lv_null hx hb dX2_dropLatest_7 ?_
    refine lv_eqv (y := va_rf (kD A old 0)) rfl ?_
    exact W.aret (rt := .object "RoofDrains$Roof") hx hb hr (Or.inl ⟨_, rfl⟩) (va_rf_or _) (fun t9 ht hW => ⟨⟨_, (), rfl, rfl, by show va_P D vwCl _ t9.heap; rw [ht]; exact hP⟩, hS.F ht⟩) hS.2.2 dX2_dropLatest_8 hlocks
  · skip
    refine lv_aload_n hx hb dX2_dropLatest_0 rfl (lv_at hl 0 rfl) ?_
    refine va_get (D := D) (ci := 2) (v := .int (nI held)) (C := RX2) (T := TX2) (N := 3) hx hb hts hinX2 hown hK hP 27 rfl rfl 2 (by decide) fl15 (fun _ h9 => h9) rfl dX2_dropLatest_1 ?_
    refine lv_if_ne (tgt := 9) hx hb dX2_dropLatest_4 (by decide) (fun _ => ?_) (fun h9 => absurd h9 (fun h9 => h0 (nI_inj0 (by omega) h9)))
    refine lv_aload_n hx hb dX2_dropLatest_9 rfl (lv_at hl 0 rfl) ?_
    refine lv_dup hx hb dX2_dropLatest_10 rfl ?_
    refine va_get (D := D) (ci := 2) (v := .int (nI held)) (C := RX2) (T := TX2) (N := 3) hx hb hts hinX2 hown hK hP 27 rfl rfl 2 (by decide) fl15 (fun _ h9 => h9) rfl dX2_dropLatest_11 ?_
    refine lv_iconst (v := 1) hx hb dX2_dropLatest_14 (by decide) ?_
    refine lv_isub hx hb dX2_dropLatest_15 ?_
    refine lv_eqi (y := nI (held - 1)) (pk_sub (a := held) (b := 1) (by omega)) ?_
    refine k_put (D := D) (ci := 2) (v := .int (nI (held - 1))) (ty := .int) (C := RX2) (T := TX2) (N := 3) hx hb hts hinX2 tyX2 tyX2_ok nmX2 hown hK hP hD hS 27 rfl rfl 2 (by decide) fl15 (fun _ h9 => h9) rfl (by decide +kernel) rfl rfl (Nat.le_of_ble_eq_true rfl) (ws' := (cO o [.ref (a 0), .ref (a2 0), .ref s0, .ref (x 0)]) ++ (cR cI a r) ++ (cR cI a2 q) ++ (cS cQ s0 w0 (zF A n) (nI old) (nI (held - 1))) ++ (cT cI x t) ++ (cZ cI A B n)) rfl dX2_dropLatest_16 (fun H locs hP hD hS => ?_)
    refine lv_aload_n hx hb dX2_dropLatest_19 rfl (lv_at hl 0 rfl) ?_
    refine va_get (D := D) (ci := 2) (v := .ref w0) (C := RX2) (T := TX2) (N := 3) hx hb hts hinX2 hown hK hP 27 rfl rfl 0 (by decide) fl11 (fun _ h9 => h9) rfl dX2_dropLatest_20 ?_
    refine lv_aload_n hx hb dX2_dropLatest_23 rfl (lv_at hl 0 rfl) ?_
    refine va_get (D := D) (ci := 2) (v := .int (nI old)) (C := RX2) (T := TX2) (N := 3) hx hb hts hinX2 hown hK hP 27 rfl rfl 1 (by decide) fl19 (fun _ h9 => h9) rfl dX2_dropLatest_24 ?_
    refine lv_aload_n hx hb dX2_dropLatest_27 rfl (lv_at hl 0 rfl) ?_
    refine va_get (D := D) (ci := 2) (v := .int (nI (held - 1))) (C := RX2) (T := TX2) (N := 3) hx hb hts hinX2 hown hK hP 27 rfl rfl 2 (by decide) fl15 (fun _ h9 => h9) rfl dX2_dropLatest_28 ?_
    refine lv_iadd hx hb dX2_dropLatest_31 ?_
    refine lv_eqi (y := nI (old + (held - 1))) (nI_add old (held - 1)) ?_
    refine lv_bipush (v := 6) hx hb dX2_dropLatest_32 (by decide) ?_
    refine lv_irem hx hb dX2_dropLatest_34 (by decide) ?_
    refine lv_eqi (y := nI ((old + (held - 1)) % 6)) (pk_rem (a := old + (held - 1)) (d := 6) (by omega) (by decide) (by decide)) ?_
    refine va_aldq hx hb hK hP 28 1 rfl rfl (vp_in_nI (n := (old + (held - 1)) % 6) (by omega) (by omega)) dX2_dropLatest_35 ?_
    refine lv_eqv (y := va_rf (kD A old held)) (by rw [nI_clamp (show (old + (held - 1)) % 6 < 2 ^ 31 by omega)]; show va_rf (zF A n ((old + (held - 1)) % 6)) = _; rw [show zF A n ((old + (held - 1)) % 6) = some (A ((old + (held - 1)) % 6) 0) from if_pos (svOk_at hok h0), show kD A old held = some (A ((old + (held - 1)) % 6) 0) from if_neg h0]) ?_
    exact W.aret (rt := .object "RoofDrains$Roof") hx hb hr (Or.inl ⟨_, rfl⟩) (va_rf_or _) (fun t9 ht hW => ⟨⟨_, (), rfl, rfl, by show va_P D vwCl _ t9.heap; rw [ht]; exact hP⟩, hS.F ht⟩) hS.2.2 dX2_dropLatest_36 hlocks
set_option maxHeartbeats 4000000 in
set_option maxRecDepth 100000 in
theorem mX2_held (l : Launch) (D : va_G) (cI cQ cJ : ClassId) (s0 w0 : Nat) (f : Nat → Option Nat) (vo vh : Int32) : Mi l D (tY cI cQ cJ) yX2_held wsX2_held ({ frames := 0, cells := 0, slots := 0, locals := 0 } : Room) [.ref s0] (cS cQ s0 w0 f vo vh) (cS cQ s0 w0 f vo vh) vh := by
  refine M_of (cc := cX2_held) (maxL := 1) (ret := some .int) (Qc := fun A => va_Qi (fun (x : Int32) (_ : Unit) => x = vh) (fun _ t => Wd D (cS cQ s0 w0 f vo vh) t) A) (by decide) rfl (Nat.le_of_ble_eq_true rfl) ?_
  intro p e s m below meth c A ls hB hE hP hK hD hA hl
  obtain ⟨hx, hb, hr, hml, hts, hown, hlocks⟩ := hB
  have hS : va_S A s.heap s.heap [] := va_S.rf
  have hl : lv_has ls 1 [(0, .ref s0)] := hl
  refine lv_aload_n hx hb dX2_held_0 rfl (lv_at hl 0 rfl) ?_
  refine va_get (D := D) (ci := 2) (v := .int vh) (C := RX2) (T := TX2) (N := 3) hx hb hts (by decide +kernel) hown hK hP 0 rfl rfl 2 (by decide) (hts (.fieldLink RX2 15 "RoofDrains$SavedRoofs" "held" "I") (by decide +kernel)) (fun _ h9 => h9) rfl dX2_held_1 ?_
  exact k_iret hx hb hr hlocks hS hP dX2_held_4 rfl
