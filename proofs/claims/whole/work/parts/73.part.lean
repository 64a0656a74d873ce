theorem nI48 {j : Nat} (hj : j < 2 ^ 31) (h : nI j = 48) : j = 48 := by
  have h4 := (c_eq (c := nI j) (n := 48) (by decide)).mp h
  rw [nI_toInt hj] at h4
  omega
def dgT (b : Nat → Int32) (A p x : Nat) : Prop := (p = A + 1 ∧ b A = nI (48 + x) ∧ x ≤ 9) ∨ (p = A + 2 ∧ ∃ u v, u ≤ 9 ∧ v ≤ 9 ∧ b A = nI (48 + u) ∧ b (A + 1) = nI (48 + v) ∧ x = 10 * u + v)
/-- a part of a text, as the model keeps it -/
def PT (q : rB) (b : Nat → Int32) (A A1 P : Nat) : Prop :=
  (q 4 (2 * P) = -1 ∧ A1 = A + 1 ∧ b A = 119) ∨ (∃ g, g < 6 ∧ q 4 (2 * P) = -2 ∧ q 4 (2 * P + 1) = nI g ∧ A1 = A + 2 ∧ b A = 99 ∧ b (A + 1) = nI (48 + g)) ∨
  (∃ x y p, x ≤ 99 ∧ 1 ≤ y ∧ y ≤ 60 ∧ q 4 (2 * P) = nI x ∧ q 4 (2 * P + 1) = nI y ∧ dgT b A p x ∧ b p = 42 ∧ dgT b (p + 1) A1 y)
theorem digW_no {r : rB} {A L : Nat} {x y lo hi : Int32} (h : digW r A L x y = 0) (hw : ¬ r 5 4 = 0) (hx : 48 + x = lo) (hy : 48 + y = hi) : zW (sgn r A L) lo hi = 0 := by
  unfold digW at h
  rw [if_neg hw, hx, hy] at h
  by_cases h2 : zW (sgn r A L) lo hi = 0
  · exact h2
  · rw [if_neg h2] at h; exact absurd h (by decide)
theorem part_RS {m : rB} {A L P : Nat} (hw : ¬ m 5 4 = 0) (hA : A ≤ L) (hs : sT (m 3) A = 1) : RS (m 3) L (rpA m A L P) (rpB m A L P 5 4) ∧ (¬ rpB m A L P 5 4 = 0 → PT (rpB m A L P) (m 3) A (rpA m A L P) P) := by
  by_cases c1 : sgn m A L = 119
  · have hAL : A < L := sgn_lt (r := m) (by rw [c1]; decide)
    have hb : m 3 A = 119 := (sgn_b hAL).symm.trans c1
    have eA : rpA m A L P = A + 1 := by unfold rpA; rw [if_pos c1]
    have eB : rpB m A L P = rpF (rpW m A P) (m 5 4) P := by unfold rpB; rw [if_pos c1]
    have e5 : rpB m A L P 5 4 = m 5 4 := by rw [eB]; exact (bp_ne (by decide)).trans ((bp_rw (by decide)).trans (bp_ne (by decide)))
    have st : sT (m 3) (A + 1) = 7 := (sT_s hs).trans (by rw [hb]; decide)
    rw [e5, eA]
    refine ⟨⟨by omega, by rw [st]; decide, fun _ => ⟨by rw [st]; decide, fun _ hc => (sT_s st).trans (dA7_no hc)⟩, fun h => absurd h hw⟩, fun _ => Or.inl ⟨?_, rfl, hb⟩⟩
    rw [eB]; exact (bp_rw (by decide)).trans bp_eq
  · by_cases c2 : sgn m A L = 99
    · have hAL : A < L := sgn_lt (r := m) (by rw [c2]; decide)
      have hb : m 3 A = 99 := (sgn_b hAL).symm.trans c2
      have eA : rpA m A L P = digA (rpC1 m A P) (A + 1) L 0 5 := by unfold rpA; rw [if_neg c1, if_pos c2]
      have eB : rpB m A L P = rpF (rpC m A L P) (digB (rpC1 m A P) (A + 1) L 0 5 5 4) P := by unfold rpB; rw [if_neg c1, if_pos c2]
      have e5 : rpB m A L P 5 4 = digW (rpC1 m A P) (A + 1) L 0 5 := by rw [eB]; exact (bp_ne (by decide)).trans ((bp_rw (by decide)).trans digB_well)
      have ew : ¬ rpC1 m A P 5 4 = 0 := fun h => hw (((bp_rw (by decide)).trans (bp_ne (by decide))).symm.trans h)
      have eg : sgn (rpC1 m A P) (A + 1) L = sgn m (A + 1) L := sgn_of (Rd_C1.1 3 (by decide) (by decide))
      have st : sT (m 3) (A + 1) = 8 := (sT_s hs).trans (by rw [hb]; decide)
      rw [e5, eA]
      by_cases c3 : digW (rpC1 m A P) (A + 1) L 0 5 = 0
      · have ea : digA (rpC1 m A P) (A + 1) L 0 5 = A + 1 := by unfold digA; rw [if_pos c3]
        have hz := digW_no (lo := 48) (hi := 53) c3 ew (by decide) (by decide)
        rw [eg] at hz
        rw [ea, c3]
        refine ⟨⟨by omega, by rw [st]; decide, fun h => absurd rfl h, fun _ => ⟨fun _ => by rw [st]; decide, fun hl => ?_⟩⟩, fun h => absurd rfl h⟩
        rw [sgn_b hl] at hz
        exact (sT_s st).trans (dA8_no hz)
      · have ea : digA (rpC1 m A P) (A + 1) L 0 5 = A + 2 := by unfold digA; rw [if_neg c3]
        obtain ⟨-, j, hj1, hj2, hj⟩ := dig_ex (a := 48) (b := 53) (by decide) (by decide) (by decide) (by decide) c3
        have hv := digV_ex hj hj1
        rw [eg] at hj
        have hl2 : A + 1 < L := sgn_lt2 hj (by omega) (by omega)
        have hb2 : m 3 (A + 1) = nI j := (sgn_b hl2).symm.trans hj
        have st2 : sT (m 3) (A + 2) = 7 := (sT_s st).trans (by rw [hb2]; exact dA8_dig (fun h => by rw [zW53, nI_toInt (by omega)] at h; omega))
        rw [ea]
        refine ⟨⟨by omega, by rw [st2]; decide, fun _ => ⟨by rw [st2]; decide, fun _ hc => (sT_s st2).trans (dA7_no hc)⟩, fun h => absurd h c3⟩, fun _ => Or.inr (Or.inl ⟨j - 48, by omega, ?_, ?_, rfl, hb, by rw [hb2, show 48 + (j - 48) = j by omega]⟩)⟩
        · rw [eB]
          exact (bp_rw (by decide)).trans ((bp_ne (by omega)).trans (dig_4.trans bp_eq))
        · rw [eB]
          exact (bp_rw (by decide)).trans (bp_eq.trans hv)
    · have eA : rpA m A L P = numA (rpR2 m A L P) (rpA2 m A L P) L 1 60 := by unfold rpA; rw [if_neg c1, if_neg c2]
      have eB : rpB m A L P = rpF (rpN m A L P) (numB (rpR2 m A L P) (rpA2 m A L P) L 1 60 5 4) P := by unfold rpB; rw [if_neg c1, if_neg c2]
      have e5 : rpB m A L P 5 4 = digW (rpR2 m A L P) (rpA2 m A L P) L 1 9 := by rw [eB]; exact (bp_ne (by decide)).trans ((bp_rw (by decide)).trans numB_well)
      have eX : rpR2 m A L P 5 4 = rpX m A L P := (bp_ne (by decide)).trans bp_eq
      have eg : ∀ B, sgn (rpR2 m A L P) B L = sgn m B L := fun B => sgn_of (Rd_R2.1 3 (by decide) (by decide))
      have eg1 : ∀ B, sgn (rpR1 m A L P) B L = sgn m B L := fun B => sgn_of (Rd_R1.1 3 (by decide) (by decide))
      have bad : rpX m A L P = 0 → rpB m A L P 5 4 = 0 ∧ rpA m A L P = numA m A L 0 99 := fun h => by
        have h1 : digW (rpR2 m A L P) (rpA2 m A L P) L 1 9 = 0 := by unfold digW; rw [eX, if_pos h]
        refine ⟨e5.trans h1, ?_⟩
        rw [eA, num_no h1]
        unfold rpA2
        rw [if_pos h]; rfl
      by_cases d : digW m A L 0 9 = 0
      · have hX : rpX m A L P = 0 := by unfold rpX; rw [numB_well, if_pos d]
        obtain ⟨b1, b2⟩ := bad hX
        rw [b1, b2, num_no d]
        have hz := digW_no (lo := 48) (hi := 57) d hw (by decide) (by decide)
        refine ⟨⟨hA, by rw [hs]; decide, fun h => absurd rfl h, fun _ => ⟨fun _ => by rw [hs]; decide, fun hl => ?_⟩⟩, fun h => absurd rfl h⟩
        rw [sgn_b hl] at hz c1 c2
        exact (sT_s hs).trans (dA1_no c1 c2 hz)
      · obtain ⟨-, j, hj1, hj2, hj⟩ := dig_ex (a := 48) (b := 57) (by decide) (by decide) (by decide) (by decide) d
        have hAL : A < L := sgn_lt2 hj (by omega) (by omega)
        have hb : m 3 A = nI j := (sgn_b hAL).symm.trans hj
        have hd : ¬ zW (nI j) 48 57 = 0 := fun h => by rw [zW48, nI_toInt (by omega)] at h; omega
        have st0 : j = 48 → sT (m 3) (A + 1) = 3 := fun e => (sT_s hs).trans (by rw [hb, e]; decide)
        have st1 : ¬ j = 48 → sT (m 3) (A + 1) = 2 := fun e => (sT_s hs).trans (by rw [hb]; exact dA1_dig hd (fun h => e (nI48 (by omega) h)))
        obtain ⟨A2, x, hA2, hA2L, hx99, hxv, hxd, hst⟩ : ∃ A2 x, numA m A L 0 99 = A2 ∧ A2 ≤ L ∧ x ≤ 99 ∧ numV m A L 0 99 = nI x ∧ dgT (m 3) A A2 x ∧ (sT (m 3) A2 = 3 ∨ (sT (m 3) A2 = 2 ∧ (A2 < L → zW (m 3 A2) 48 57 = 0))) := by
          rcases num_yes (y := 99) (yn := 99) d hj hj1 hj2 rfl (by decide) with ⟨h48, ⟨k, hk1, hk2, hk, hk3, hkv⟩, hkA⟩ | ⟨hkA, hkv, hno⟩
          · have hl2 : A + 1 < L := sgn_lt2 hk (by omega) (by omega)
            have hb2 : m 3 (A + 1) = nI k := (sgn_b hl2).symm.trans hk
            refine ⟨A + 2, 10 * (j - 48) + k - 48, hkA, by omega, hk3, hkv, Or.inr ⟨rfl, j - 48, k - 48, by omega, by omega, by rw [hb, show 48 + (j - 48) = j by omega], by rw [hb2, show 48 + (k - 48) = k by omega], by omega⟩, Or.inl ?_⟩
            exact (sT_s (st1 (by omega))).trans (by rw [hb2]; exact dA2_dig (fun h => by rw [zW48, nI_toInt (by omega)] at h; omega))
          · refine ⟨A + 1, j - 48, hkA, by omega, by omega, hkv, Or.inl ⟨rfl, by rw [hb, show 48 + (j - 48) = j by omega], by omega⟩, ?_⟩
            by_cases e : j = 48
            · exact Or.inl (st0 e)
            · refine Or.inr ⟨st1 e, fun hl => ?_⟩
              by_cases hz : zW (m 3 (A + 1)) 48 57 = 0
              · exact hz
              · obtain ⟨k, hk1, hk2, hk⟩ := zW_b (a := 48) (b := 57) (by decide) (by decide) hz
                have := hno (by omega) k hk1 hk2 ((sgn_b hl).trans hk)
                omega
        by_cases s42 : sgn m A2 L = 42
        · have hX : rpX m A L P = 1 := by
            unfold rpX
            rw [numB_well, if_neg d, eg1, hA2, if_pos s42]
          have hX0 : ¬ rpX m A L P = 0 := by rw [hX]; decide
          have eA2 : rpA2 m A L P = A2 + 1 := by unfold rpA2; rw [if_neg hX0, hA2]
          have hl2 : A2 < L := sgn_lt (r := m) (by rw [s42]; decide)
          have hb2 : m 3 A2 = 42 := (sgn_b hl2).symm.trans s42
          have st4 : sT (m 3) (A2 + 1) = 4 := by
            rcases hst with h | ⟨h, -⟩
            · exact (sT_s h).trans (by rw [hb2]; decide)
            · exact (sT_s h).trans (by rw [hb2]; decide)
          have e54 : ¬ rpR2 m A L P 5 4 = 0 := by rw [eX]; exact hX0
          rw [e5, eA, eA2]
          by_cases d2 : digW (rpR2 m A L P) (A2 + 1) L 1 9 = 0
          · rw [d2, num_no d2]
            have hz := digW_no (lo := 49) (hi := 57) d2 e54 (by decide) (by decide)
            rw [eg] at hz
            refine ⟨⟨by omega, by rw [st4]; decide, fun h => absurd rfl h, fun _ => ⟨fun _ => by rw [st4]; decide, fun hl => ?_⟩⟩, fun h => absurd rfl h⟩
            rw [sgn_b hl] at hz
            exact (sT_s st4).trans (dA4_no hz)
          · obtain ⟨-, i, hi1, hi2, hi⟩ := dig_ex (a := 49) (b := 57) (by decide) (by decide) (by decide) (by decide) d2
            have hi' := hi
            rw [eg] at hi'
            have hl3 : A2 + 1 < L := sgn_lt2 hi' (by omega) (by omega)
            have hb3 : m 3 (A2 + 1) = nI i := (sgn_b hl3).symm.trans hi'
            have s5 : i ≤ 53 → sT (m 3) (A2 + 2) = 5 := fun h => (sT_s st4).trans (by rw [hb3]; exact dA4_15 (fun h9 => by rw [zW95, nI_toInt (by omega)] at h9; omega))
            have s6 : i = 54 → sT (m 3) (A2 + 2) = 6 := fun h => (sT_s st4).trans (by rw [hb3, h]; decide)
            have s7 : 55 ≤ i → sT (m 3) (A2 + 2) = 7 := fun h => (sT_s st4).trans (by rw [hb3]; exact dA4_79 (fun h9 => by rw [zW55, nI_toInt (by omega)] at h9; omega))
            have hpx : rpB m A L P 4 (2 * P) = nI x := by
              rw [eB]
              exact (bp_rw (by decide)).trans ((bp_ne (by omega)).trans (num_4.trans (rpR2_4e.trans hxv)))
            have hpy : rpB m A L P 4 (2 * P + 1) = numV (rpR2 m A L P) (A2 + 1) L 1 60 := by
              rw [eB, ← eA2]
              exact (bp_rw (by decide)).trans bp_eq
            rcases num_yes (y := 60) (yn := 60) d2 hi (by omega) hi2 rfl (by decide) with ⟨h48, ⟨k, hk1, hk2, hk, hk3, hkv⟩, hkA⟩ | ⟨hkA, hkv, hno⟩
            · rw [eg] at hk
              have hl4 : A2 + 2 < L := sgn_lt2 hk (by omega) (by omega)
              have hb4 : m 3 (A2 + 2) = nI k := (sgn_b hl4).symm.trans hk
              have st7 : sT (m 3) (A2 + 3) = 7 := by
                rcases Nat.lt_or_ge i 54 with h | h
                · exact (sT_s (s5 (by omega))).trans (by rw [hb4]; exact dA5_dig (fun h9 => by rw [zW48, nI_toInt (by omega)] at h9; omega))
                · have hk48 : k = 48 := by omega
                  exact (sT_s (s6 (by omega))).trans (by rw [hb4, hk48]; decide)
              rw [hkA, show A2 + 1 + 2 = A2 + 3 by omega]
              refine ⟨⟨by omega, by rw [st7]; decide, fun _ => ⟨by rw [st7]; decide, fun _ hc => (sT_s st7).trans (dA7_no hc)⟩, fun h => absurd h d2⟩, fun _ => Or.inr (Or.inr ⟨x, 10 * (i - 48) + k - 48, A2, hx99, by omega, hk3, hpx, hpy.trans hkv, hxd, hb2, Or.inr ⟨by omega, i - 48, k - 48, by omega, by omega, by rw [hb3, show 48 + (i - 48) = i by omega], by rw [hb4, show 48 + (k - 48) = k by omega], by omega⟩⟩)⟩
            · rw [hkA, show A2 + 1 + 1 = A2 + 2 by omega]
              have hnd : i ≤ 53 → A2 + 2 < L → zW (m 3 (A2 + 2)) 48 57 = 0 := fun h hl => by
                by_cases hz : zW (m 3 (A2 + 2)) 48 57 = 0
                · exact hz
                · obtain ⟨k, hk1, hk2, hk⟩ := zW_b (a := 48) (b := 57) (by decide) (by decide) hz
                  have := hno (by omega) k hk1 hk2 (by rw [eg]; exact (sgn_b hl).trans hk)
                  omega
              have hn6 : i = 54 → A2 + 2 < L → ¬ m 3 (A2 + 2) = 48 := fun h hl e => by
                have := hno (by omega) 48 (by omega) (by omega) (by rw [eg]; exact (sgn_b hl).trans e)
                omega
              have hs3 : (sT (m 3) (A2 + 2) = 5 ∧ i ≤ 53) ∨ (sT (m 3) (A2 + 2) = 6 ∧ i = 54) ∨ (sT (m 3) (A2 + 2) = 7 ∧ 55 ≤ i) := by
                rcases Nat.lt_or_ge i 54 with h | h
                · exact Or.inl ⟨s5 (by omega), by omega⟩
                · rcases Nat.lt_or_ge i 55 with h2 | h2
                  · exact Or.inr (Or.inl ⟨s6 (by omega), by omega⟩)
                  · exact Or.inr (Or.inr ⟨s7 h2, h2⟩)
              refine ⟨⟨by omega, ?_, fun _ => ⟨?_, fun hl hc => ?_⟩, fun h => absurd h d2⟩, fun _ => Or.inr (Or.inr ⟨x, i - 48, A2, hx99, by omega, by omega, hpx, hpy.trans hkv, hxd, hb2, Or.inl ⟨by omega, by rw [hb3, show 48 + (i - 48) = i by omega], by omega⟩⟩)⟩
              · rcases hs3 with ⟨h, -⟩ | ⟨h, -⟩ | ⟨h, -⟩ <;> rw [h] <;> decide
              · rcases hs3 with ⟨h, -⟩ | ⟨h, -⟩ | ⟨h, -⟩ <;> rw [h] <;> decide
              · rcases hs3 with ⟨h, h9⟩ | ⟨h, h9⟩ | ⟨h, h9⟩
                · exact (sT_s h).trans (dA5_no hc (hnd h9 hl))
                · exact (sT_s h).trans (dA6_no hc (hn6 h9 hl))
                · exact (sT_s h).trans (dA7_no hc)
        · have hX : rpX m A L P = 0 := by
            unfold rpX
            rw [numB_well, if_neg d, eg1, hA2, if_neg s42]
          obtain ⟨b1, b2⟩ := bad hX
          rw [b1, b2, hA2]
          refine ⟨⟨hA2L, ?_, fun h => absurd rfl h, fun _ => ⟨fun _ => ?_, fun hl => ?_⟩⟩, fun h => absurd rfl h⟩
          · rcases hst with h | ⟨h, -⟩ <;> rw [h] <;> decide
          · rcases hst with h | ⟨h, -⟩ <;> rw [h] <;> decide
          · rw [sgn_b hl] at s42
            rcases hst with h | ⟨h, hz⟩
            · exact (sT_s h).trans (dA3_no s42)
            · exact (sT_s h).trans (dA2_no (hz hl) s42)
