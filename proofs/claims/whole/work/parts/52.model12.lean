set_option maxHeartbeats 1000000 in
set_option maxRecDepth 100000 in
theorem c_X9_fault (l : Launch) (G : kG) (h : Nat) (a : Nat → Nat) (σ : kS) (L : Nat) (gx : Nat → Int32) (gk : Nat → Int32) (gf : Nat → Int32) (gs : Nat → Int32) (hL : σ 36 0 = nI L) (lL : L ≤ 200) (h5 : gx 5 = nI 0) : kM G l yX9_fault wsX9_fault ({ frames := 4, cells := 0, slots := 0, locals := 94 }) [.ref h] (mW G h a σ) (kQi G (fun (rr : Int32) (uu : kS) => (rr = mfltR (kread (σ 35) L 24 0 0 (gx, gk, gf, gs))) ∧ (∃ b1 b2 b3 b4 b5 : Int32, uu = mrw σ b1 b2 b3 b4 b5)) (fun (uu : kS) => mW G h a uu)) := by
  refine kStart (cc := cX9_fault) (maxL := 2) (ret := (some .int)) (by decide) rfl (Nat.le_of_ble_eq_true rfl) (fun pg ev st mi bl mt cd A ls0 F hr hlocks hin hK hP0 hD0 hA hS0 hl0 => ?_)
  obtain ⟨hx, hb, hml, hown, hts⟩ := id F
  have hl0 : lv_has ls0 2 [(0, .ref h)] := hl0
  refine lv_aload_n hx hb dX9_fault_0 rfl (lv_at hl0 0 rfl) ?_
  refine lv_iconst (v := 0) hx hb dX9_fault_1 (by decide) ?_
  refine kWVi F hK hP0 hD0 hS0 hA hl0.1 (c_X9_goesThrough0 l G h a σ L gx gk gf gs hL lL h5) 9 0 gX9_fault_X9_goesThrough rfl 1 rfl (by decide +kernel) ⟨Nat.le_of_ble_eq_true rfl, Nat.le_of_ble_eq_true rfl⟩ ⟨Nat.zero_le _, Nat.zero_le _⟩ rfl rfl (Nat.le_of_ble_eq_true rfl) rfl dX9_fault_2 (fun r1 σ_1 H2 locs2 hw1 (hP2 : va_P G.1 vwCl (mW G h a σ_1) H2) (hD2 : va_D A (mW G h a σ_1)) hS2 => ?_)
  clear hP0 hD0 hS0
  have w1_0 : r1 = mgoR (kread (σ 35) L 24 0 0 (gx, gk, gf, gs)) := hw1.1
  have w1_1 : ∃ b1 b2 b3 b4 b5 : Int32, σ_1 = mrw σ b1 b2 b3 b4 b5 := hw1.2
  refine lv_istore_n (lv' := [(1, .int r1), (0, .ref h)]) hx hb dX9_fault_5 rfl hl0 (by decide) rfl (fun ls3 hl3 => ?_)
  clear hl0
  refine lv_iload_n hx hb dX9_fault_6 rfl (lv_at hl3 0 rfl) ?_
  refine lv_if_ge (tgt := 16) hx hb dX9_fault_7 (by decide) (fun c4 => ?_) (fun c4 => ?_)
  · refine lv_iconst (v := (-1)) hx hb dX9_fault_16 (by decide) ?_
    have q5 : ((-1) = mfltR (kread (σ 35) L 24 0 0 (gx, gk, gf, gs))) ∧ (∃ b1 b2 b3 b4 b5 : Int32, σ_1 = mrw σ b1 b2 b3 b4 b5) := by
      subst w1_0
      refine ⟨?_, w1_1⟩
      simp only [mfltR, eq_true c4, ↓reduceIte]
    exact kRi F hr hlocks hS2 dX9_fault_17 σ_1 q5 hP2 hD2
  · refine lv_iconst (v := (-1)) hx hb dX9_fault_10 (by decide) ?_
    refine lv_iload_n hx hb dX9_fault_11 rfl (lv_at hl3 0 rfl) ?_
    refine lv_isub hx hb dX9_fault_12 ?_
    refine lv_goto (tgt := 17) hx hb dX9_fault_13 (by decide) ?_
    have q6 : (((-1) - r1) = mfltR (kread (σ 35) L 24 0 0 (gx, gk, gf, gs))) ∧ (∃ b1 b2 b3 b4 b5 : Int32, σ_1 = mrw σ b1 b2 b3 b4 b5) := by
      subst w1_0
      refine ⟨?_, w1_1⟩
      simp only [mfltR, c4, ↓reduceIte]
    exact kRi F hr hlocks hS2 dX9_fault_17 σ_1 q6 hP2 hD2
set_option maxHeartbeats 1000000 in
set_option maxRecDepth 100000 in
theorem c_X9_settingsN (l : Launch) (G : kG) (h : Nat) (a : Nat → Nat) (σ : kS) (L : Nat) (gx : Nat → Int32) (gk : Nat → Int32) (gf : Nat → Int32) (gs : Nat → Int32) (hL : σ 36 0 = nI L) (lL : L ≤ 200) (h5 : gx 5 = nI 0) (hno : mgoR (kread (σ 35) L 24 0 0 (gx, gk, gf, gs)) < 0) : kM G l yX9_settings wsX9_settings ({ frames := 4, cells := 0, slots := 0, locals := 94 }) [.ref h] (mW G h a σ) (kQi G (fun (rr : Int32) (uu : kS) => (rr = (-4 : Int32)) ∧ (∃ b1 b2 b3 b4 b5 : Int32, uu = mrw σ b1 b2 b3 b4 b5)) (fun (uu : kS) => mW G h a uu)) := by
  refine kStart (cc := cX9_settings) (maxL := 2) (ret := (some .int)) (by decide) rfl (Nat.le_of_ble_eq_true rfl) (fun pg ev st mi bl mt cd A ls0 F hr hlocks hin hK hP0 hD0 hA hS0 hl0 => ?_)
  obtain ⟨hx, hb, hml, hown, hts⟩ := id F
  have hl0 : lv_has ls0 2 [(0, .ref h)] := hl0
  refine lv_aload_n hx hb dX9_settings_0 rfl (lv_at hl0 0 rfl) ?_
  refine lv_iconst (v := 0) hx hb dX9_settings_1 (by decide) ?_
  refine kWVi F hK hP0 hD0 hS0 hA hl0.1 (c_X9_goesThrough0 l G h a σ L gx gk gf gs hL lL h5) 9 0 gX9_settings_X9_goesThrough rfl 1 rfl (by decide +kernel) ⟨Nat.le_of_ble_eq_true rfl, Nat.le_of_ble_eq_true rfl⟩ ⟨Nat.zero_le _, Nat.zero_le _⟩ rfl rfl (Nat.le_of_ble_eq_true rfl) rfl dX9_settings_2 (fun r1 σ_1 H2 locs2 hw1 (hP2 : va_P G.1 vwCl (mW G h a σ_1) H2) (hD2 : va_D A (mW G h a σ_1)) hS2 => ?_)
  clear hP0 hD0 hS0
  have w1_0 : r1 = mgoR (kread (σ 35) L 24 0 0 (gx, gk, gf, gs)) := hw1.1
  have w1_1 : ∃ b1 b2 b3 b4 b5 : Int32, σ_1 = mrw σ b1 b2 b3 b4 b5 := hw1.2
  refine lv_if_ge (tgt := 11) hx hb dX9_settings_5 (by decide) (fun c3 => ?_) (fun c3 => ?_)
  · exact absurd (show mgoR (kread (σ 35) L 24 0 0 (gx, gk, gf, gs)) < 0 from hno) (Int32.not_lt.mpr (by rw [← w1_0]; exact c3))
  · refine lv_bipush (v := (-4)) hx hb dX9_settings_8 (by decide) ?_
    have q4 : ((-4) = (-4 : Int32)) ∧ (∃ b1 b2 b3 b4 b5 : Int32, σ_1 = mrw σ b1 b2 b3 b4 b5) := by
      subst w1_0
      exact ⟨rfl, w1_1⟩
    exact kRi F hr hlocks hS2 dX9_settings_10 σ_1 q4 hP2 hD2
set_option maxHeartbeats 1000000 in
set_option maxRecDepth 100000 in
theorem c_X9_settingsA (l : Launch) (G : kG) (h : Nat) (a : Nat → Nat) (σ : kS) (L : Nat) (gx : Nat → Int32) (gk : Nat → Int32) (gf : Nat → Int32) (gs : Nat → Int32) (N : Nat) (hL : σ 36 0 = nI L) (lL : L ≤ 200) (h5 : gx 5 = nI 0) (hyes : (kread (σ 35) L 24 0 0 (gx, gk, gf, gs)).1 = -1) (hN : (kread (σ 35) L 24 0 0 (gx, gk, gf, gs)).2.1 5 = nI N) (hN24 : N ≤ 24) : kM G l yX9_settings wsX9_settings ({ frames := 4, cells := 0, slots := 0, locals := 94 }) [.ref h] (mW G h a σ) (kQi G (fun (rr : Int32) (uu : kS) => (rr = nI N) ∧ (∃ b1 b2 b3 b4 b5 : Int32, uu = su (mrw (mdo (kread (σ 35) L 24 0 0 (gx, gk, gf, gs)).2.2.1 (kread (σ 35) L 24 0 0 (gx, gk, gf, gs)).2.2.2.1 (kread (σ 35) L 24 0 0 (gx, gk, gf, gs)).2.2.2.2 N σ) b1 b2 b3 b4 b5) 36 0 0)) (fun (uu : kS) => mW G h a uu)) := by
  refine kStart (cc := cX9_settings) (maxL := 2) (ret := (some .int)) (by decide) rfl (Nat.le_of_ble_eq_true rfl) (fun pg ev st mi bl mt cd A ls0 F hr hlocks hin hK hP0 hD0 hA hS0 hl0 => ?_)
  obtain ⟨hx, hb, hml, hown, hts⟩ := id F
  have hl0 : lv_has ls0 2 [(0, .ref h)] := hl0
  have iX9 : ∀ w ∈ u_ws RX9 TX9 43, w ∈ wsX9_settings := fun w h => List.mem_cons_of_mem _ (List.mem_append_right _ h)
  refine lv_aload_n hx hb dX9_settings_0 rfl (lv_at hl0 0 rfl) ?_
  refine lv_iconst (v := 0) hx hb dX9_settings_1 (by decide) ?_
  refine kWVi F hK hP0 hD0 hS0 hA hl0.1 (c_X9_goesThrough0 l G h a σ L gx gk gf gs hL lL h5) 9 0 gX9_settings_X9_goesThrough rfl 1 rfl (by decide +kernel) ⟨Nat.le_of_ble_eq_true rfl, Nat.le_of_ble_eq_true rfl⟩ ⟨Nat.zero_le _, Nat.zero_le _⟩ rfl rfl (Nat.le_of_ble_eq_true rfl) rfl dX9_settings_2 (fun r1 σ_1 H2 locs2 hw1 (hP2 : va_P G.1 vwCl (mW G h a σ_1) H2) (hD2 : va_D A (mW G h a σ_1)) hS2 => ?_)
  clear hP0 hD0 hS0
  have w1_0 : r1 = mgoR (kread (σ 35) L 24 0 0 (gx, gk, gf, gs)) := hw1.1
  have w1_1 : ∃ b1 b2 b3 b4 b5 : Int32, σ_1 = mrw σ b1 b2 b3 b4 b5 := hw1.2
  have g1 : r1 = nI N := w1_0.trans (by unfold mgoR; rw [if_pos hyes, hN])
  clear w1_0
  subst g1
  obtain ⟨a1, a2, a3, a4, a5, eσ_1⟩ := w1_1
  refine lv_if_ge (tgt := 11) hx hb dX9_settings_5 (by decide) (fun c3 => ?_) (fun c3 => ?_)
  · refine lv_aload_n hx hb dX9_settings_11 rfl (lv_at hl0 0 rfl) ?_
    refine lv_iconst (v := 1) hx hb dX9_settings_12 (by decide) ?_
    refine kWVi F hK hP2 hD2 hS2 hA hl0.1 (c_X9_goesThrough1 l G h a σ_1 L gx gk gf gs N (by subst eσ_1; exact hL) lL h5 (by subst eσ_1; exact hyes) (by subst eσ_1; exact hN) hN24) 9 0 gX9_settings_X9_goesThrough rfl 1 rfl (by decide +kernel) ⟨Nat.le_of_ble_eq_true rfl, Nat.le_of_ble_eq_true rfl⟩ ⟨Nat.zero_le _, Nat.zero_le _⟩ rfl rfl (Nat.le_of_ble_eq_true rfl) rfl dX9_settings_13 (fun r4 σ_4 H5 locs5 hw4 (hP5 : va_P G.1 vwCl (mW G h a σ_4) H5) (hD5 : va_D A (mW G h a σ_4)) hS5 => ?_)
    clear hP2 hD2 hS2
    have w4_0 : r4 = nI N := hw4.1
    have w4_1 : ∃ b1 b2 b3 b4 b5 : Int32, σ_4 = mrw (mdo (kread (σ_1 35) L 24 0 0 (gx, gk, gf, gs)).2.2.1 (kread (σ_1 35) L 24 0 0 (gx, gk, gf, gs)).2.2.2.1 (kread (σ_1 35) L 24 0 0 (gx, gk, gf, gs)).2.2.2.2 N σ_1) b1 b2 b3 b4 b5 := hw4.2
    have g4 : r4 = nI N := w4_0
    clear w4_0
    subst g4
    refine lv_istore_n (lv' := [(1, .int (nI N)), (0, .ref h)]) hx hb dX9_settings_16 rfl hl0 (by decide) rfl (fun ls6 hl6 => ?_)
    clear hl0
    refine lv_aload_n hx hb dX9_settings_17 rfl (lv_at hl6 1 rfl) ?_
    refine lv_iconst (v := 0) hx hb dX9_settings_18 (by decide) ?_
    refine kMput F hK hP5 hD5 hS5 36 iX9 rfl (by decide) (List.mem_of_getElem? (i := 1) rfl) rfl rfl rfl (Nat.le_of_ble_eq_true rfl) rfl dX9_settings_19 (fun H7 locs7 σ7 eσ7 hP7 hD7 hS7 => ?_)
    clear hP5 hD5 hS5
    refine lv_iload_n hx hb dX9_settings_22 rfl (lv_at hl6 0 rfl) ?_
    have q8 : ((nI N) = nI N) ∧ (∃ b1 b2 b3 b4 b5 : Int32, σ7 = su (mrw (mdo (kread (σ 35) L 24 0 0 (gx, gk, gf, gs)).2.2.1 (kread (σ 35) L 24 0 0 (gx, gk, gf, gs)).2.2.2.1 (kread (σ 35) L 24 0 0 (gx, gk, gf, gs)).2.2.2.2 N σ) b1 b2 b3 b4 b5) 36 0 0) := by
      subst eσ7
      subst eσ_1
      obtain ⟨d1, d2, d3, d4, d5, ee⟩ := w4_1
      refine ⟨rfl, d1, d2, d3, d4, d5, ?_⟩
      rw [ee, mdo_mrw, mrw_mrw]
      rfl
    exact kRi F hr hlocks hS7 dX9_settings_23 σ7 q8 hP7 hD7
  · exact absurd (nI_pos' (n := N) (by omega)) c3
