set_option maxHeartbeats 1000000 in
set_option maxRecDepth 100000 in
theorem c_X9_offer (l : Launch) (G : kG) (h : Nat) (a : Nat → Nat) (σ : kS) (s : Int32) (v : Int32) (g : Int32) : kM G l yX9_offer wsX9_offer ({ frames := 2, cells := 0, slots := 0, locals := 45 }) [.ref h, .int s, .int v, .int g] (mW G h a σ) (kQi G (fun (rr : Int32) (uu : kS) => (rr = (moffer σ s v g).1) ∧ (uu = (moffer σ s v g).2)) (fun (uu : kS) => mW G h a uu)) := by
  refine kStart (cc := cX9_offer) (maxL := 5) (ret := (some .int)) (by decide) rfl (Nat.le_of_ble_eq_true rfl) (fun pg ev st mi bl mt cd A ls0 F hr hlocks hin hK hP0 hD0 hA hS0 hl0 => ?_)
  obtain ⟨hx, hb, hml, hown, hts⟩ := id F
  have hl0 : lv_has ls0 5 [(0, .ref h), (1, .int s), (2, .int v), (3, .int g)] := hl0
  have iX9 : ∀ w ∈ u_ws RX9 TX9 43, w ∈ wsX9_offer := fun w h => List.mem_cons_of_mem _ (List.mem_append_right _ h)
  rcases k_sides s with rfl | rfl | ⟨hs0, hs1⟩
  · skip
    refine lv_iload_n hx hb dX9_offer_0 rfl (lv_at hl0 1 rfl) ?_
    refine kPSi F hK hP0 hD0 hS0 hA hl0.1 (c_X9_isSide l G 0) (fun _ => rfl) gX9_offer_X9_isSide rfl 1 rfl (by decide +kernel) ⟨Nat.le_of_ble_eq_true rfl, Nat.le_of_ble_eq_true rfl⟩ ⟨Nat.zero_le _, Nat.zero_le _⟩ (Nat.le_of_ble_eq_true rfl) rfl dX9_offer_1 (fun r1 u1 H2 locs2 hw1 (hP2 : va_P G.1 vwCl (mW G h a σ) H2) (hD2 : va_D A (mW G h a σ)) hS2 => ?_)
    clear hP0 hD0 hS0
    have w1_0 : r1 = kinL (0 : Int32).toInt64 0 1 := hw1
    have g1 : r1 = 1 := w1_0.trans kside_0
    clear w1_0
    subst g1
    refine lv_if_ne (tgt := 10) hx hb dX9_offer_4 (by decide) (fun c3 => ?_) (fun c3 => ?_)
    · refine lv_iload_n hx hb dX9_offer_10 rfl (lv_at hl0 2 rfl) ?_
      refine lv_i2l (v := v.toInt64) hx hb dX9_offer_11 rfl ?_
      refine lv_lconst (v := 1) hx hb dX9_offer_12 (by decide) ?_
      refine lv_ldc2 (v := 7) hx hb hown (hts _ (List.mem_of_getElem? (i := 1) rfl)) dX9_offer_13 ?_
      refine kPSi F hK hP2 hD2 hS2 hA hl0.1 (c_X9_in l G v.toInt64 1 7) (fun _ => rfl) gX9_offer_X9_in rfl 3 rfl (by decide +kernel) ⟨Nat.le_of_ble_eq_true rfl, Nat.le_of_ble_eq_true rfl⟩ ⟨Nat.zero_le _, Nat.zero_le _⟩ (Nat.le_of_ble_eq_true rfl) rfl dX9_offer_16 (fun r4 u4 H5 locs5 hw4 (hP5 : va_P G.1 vwCl (mW G h a σ) H5) (hD5 : va_D A (mW G h a σ)) hS5 => ?_)
      clear hP2 hD2 hS2
      have w4_0 : r4 = kinL v.toInt64 1 7 := hw4
      refine lv_if_eq (tgt := 34) hx hb dX9_offer_19 (by decide) (fun c6 => ?_) (fun c6 => ?_)
      · refine lv_bipush (v := (-3)) hx hb dX9_offer_34 (by decide) ?_
        have q7 : ((-3) = (moffer σ 0 v g).1) ∧ (σ = (moffer σ 0 v g).2) := by
          subst w4_0
          first | (simp only [moffer, m3, kd10, c3, eq_true c6, eq_self, ↓reduceIte, and_self, and_true, true_and]; done) | (simp only [moffer, m3, kd10, c3, eq_true c6, eq_self, ↓reduceIte, and_self, and_true, true_and]; (try and_intros) <;> rfl)
        exact kRi F hr hlocks hS5 dX9_offer_36 σ q7 hP5 hD5
      · refine lv_iload_n hx hb dX9_offer_22 rfl (lv_at hl0 3 rfl) ?_
        refine lv_i2l (v := g.toInt64) hx hb dX9_offer_23 rfl ?_
        refine lv_lconst (v := 1) hx hb dX9_offer_24 (by decide) ?_
        refine lv_ldc2 (v := 15) hx hb hown (hts _ (List.mem_of_getElem? (i := 2) rfl)) dX9_offer_25 ?_
        refine kPSi F hK hP5 hD5 hS5 hA hl0.1 (c_X9_in l G g.toInt64 1 15) (fun _ => rfl) gX9_offer_X9_in rfl 3 rfl (by decide +kernel) ⟨Nat.le_of_ble_eq_true rfl, Nat.le_of_ble_eq_true rfl⟩ ⟨Nat.zero_le _, Nat.zero_le _⟩ (Nat.le_of_ble_eq_true rfl) rfl dX9_offer_28 (fun r8 u8 H9 locs9 hw8 (hP9 : va_P G.1 vwCl (mW G h a σ) H9) (hD9 : va_D A (mW G h a σ)) hS9 => ?_)
        clear hP5 hD5 hS5
        have w8_0 : r8 = kinL g.toInt64 1 15 := hw8
        refine lv_if_ne (tgt := 37) hx hb dX9_offer_31 (by decide) (fun c10 => ?_) (fun c10 => ?_)
        · refine lv_aload_n hx hb dX9_offer_37 rfl (lv_at hl0 0 rfl) ?_
          refine kget F hK hP9 9 0 0 iX9 rfl rfl (by decide) (List.mem_of_getElem? (i := 3) rfl) rfl dX9_offer_38 ?_
          refine lv_iload_n hx hb dX9_offer_41 rfl (lv_at hl0 1 rfl) ?_
          refine kild F hK hP9 1 0 rfl rfl (by decide) (Nat.le_of_ble_eq_true rfl) dX9_offer_42 ?_
          refine lv_istore (lv' := [(4, .int (σ 0 0)), (0, .ref h), (1, .int 0), (2, .int v), (3, .int g)]) hx hb dX9_offer_43 hl0 (by decide) rfl (fun ls11 hl11 => ?_)
          clear hl0
          refine lv_aload_n hx hb dX9_offer_45 rfl (lv_at hl11 1 rfl) ?_
          refine kget F hK hP9 9 0 0 iX9 rfl rfl (by decide) (List.mem_of_getElem? (i := 3) rfl) rfl dX9_offer_46 ?_
          refine lv_iload_n hx hb dX9_offer_49 rfl (lv_at hl11 2 rfl) ?_
          refine lv_iload_n hx hb dX9_offer_50 rfl (lv_at hl11 3 rfl) ?_
          refine kMst F hK hP9 hD9 hS9 0 1 0 rfl rfl (by decide) (Nat.le_of_ble_eq_true rfl) rfl dX9_offer_51 (fun H12 locs12 σ12 eσ12 hP12 hD12 hS12 => ?_)
          clear hP9 hD9 hS9
          refine lv_aload_n hx hb dX9_offer_52 rfl (lv_at hl11 1 rfl) ?_
          refine kget F hK hP12 9 0 1 iX9 rfl rfl (by decide) (List.mem_of_getElem? (i := 4) rfl) rfl dX9_offer_53 ?_
          refine lv_iload_n hx hb dX9_offer_56 rfl (lv_at hl11 2 rfl) ?_
          refine lv_iload_n hx hb dX9_offer_57 rfl (lv_at hl11 4 rfl) ?_
          refine kMst F hK hP12 hD12 hS12 1 2 0 rfl rfl (by decide) (Nat.le_of_ble_eq_true rfl) rfl dX9_offer_58 (fun H13 locs13 σ13 eσ13 hP13 hD13 hS13 => ?_)
          clear hP12 hD12 hS12
          refine lv_iload hx hb dX9_offer_59 (lv_at hl11 0 rfl) ?_
          have q14 : ((σ 0 0) = (moffer σ 0 v g).1) ∧ (σ13 = (moffer σ 0 v g).2) := by
            subst eσ13
            subst eσ12
            subst w8_0
            subst w4_0
            first | (simp only [moffer, m3, kd10, c3, c6, c10, eq_self, ↓reduceIte, and_self, and_true, true_and]; done) | (simp only [moffer, m3, kd10, c3, c6, c10, eq_self, ↓reduceIte, and_self, and_true, true_and]; (try and_intros) <;> rfl)
          exact kRi F hr hlocks hS13 dX9_offer_61 σ13 q14 hP13 hD13
        · refine lv_bipush (v := (-3)) hx hb dX9_offer_34 (by decide) ?_
          have q15 : ((-3) = (moffer σ 0 v g).1) ∧ (σ = (moffer σ 0 v g).2) := by
            subst w8_0
            subst w4_0
            first | (simp only [moffer, m3, kd10, c3, c6, eq_true c10, eq_self, ↓reduceIte, and_self, and_true, true_and]; done) | (simp only [moffer, m3, kd10, c3, c6, eq_true c10, eq_self, ↓reduceIte, and_self, and_true, true_and]; (try and_intros) <;> rfl)
          exact kRi F hr hlocks hS9 dX9_offer_36 σ q15 hP9 hD9
    · exact absurd c3 (by decide)
  · skip
    refine lv_iload_n hx hb dX9_offer_0 rfl (lv_at hl0 1 rfl) ?_
    refine kPSi F hK hP0 hD0 hS0 hA hl0.1 (c_X9_isSide l G 1) (fun _ => rfl) gX9_offer_X9_isSide rfl 1 rfl (by decide +kernel) ⟨Nat.le_of_ble_eq_true rfl, Nat.le_of_ble_eq_true rfl⟩ ⟨Nat.zero_le _, Nat.zero_le _⟩ (Nat.le_of_ble_eq_true rfl) rfl dX9_offer_1 (fun r16 u16 H17 locs17 hw16 (hP17 : va_P G.1 vwCl (mW G h a σ) H17) (hD17 : va_D A (mW G h a σ)) hS17 => ?_)
    clear hP0 hD0 hS0
    have w16_0 : r16 = kinL (1 : Int32).toInt64 0 1 := hw16
    have g16 : r16 = 1 := w16_0.trans kside_1
    clear w16_0
    subst g16
    refine lv_if_ne (tgt := 10) hx hb dX9_offer_4 (by decide) (fun c18 => ?_) (fun c18 => ?_)
    · refine lv_iload_n hx hb dX9_offer_10 rfl (lv_at hl0 2 rfl) ?_
      refine lv_i2l (v := v.toInt64) hx hb dX9_offer_11 rfl ?_
      refine lv_lconst (v := 1) hx hb dX9_offer_12 (by decide) ?_
      refine lv_ldc2 (v := 7) hx hb hown (hts _ (List.mem_of_getElem? (i := 1) rfl)) dX9_offer_13 ?_
      refine kPSi F hK hP17 hD17 hS17 hA hl0.1 (c_X9_in l G v.toInt64 1 7) (fun _ => rfl) gX9_offer_X9_in rfl 3 rfl (by decide +kernel) ⟨Nat.le_of_ble_eq_true rfl, Nat.le_of_ble_eq_true rfl⟩ ⟨Nat.zero_le _, Nat.zero_le _⟩ (Nat.le_of_ble_eq_true rfl) rfl dX9_offer_16 (fun r19 u19 H20 locs20 hw19 (hP20 : va_P G.1 vwCl (mW G h a σ) H20) (hD20 : va_D A (mW G h a σ)) hS20 => ?_)
      clear hP17 hD17 hS17
      have w19_0 : r19 = kinL v.toInt64 1 7 := hw19
      refine lv_if_eq (tgt := 34) hx hb dX9_offer_19 (by decide) (fun c21 => ?_) (fun c21 => ?_)
      · refine lv_bipush (v := (-3)) hx hb dX9_offer_34 (by decide) ?_
        have q22 : ((-3) = (moffer σ 1 v g).1) ∧ (σ = (moffer σ 1 v g).2) := by
          subst w19_0
          first | (simp only [moffer, m3, kd10, c18, eq_true c21, eq_self, ↓reduceIte, and_self, and_true, true_and]; done) | (simp only [moffer, m3, kd10, c18, eq_true c21, eq_self, ↓reduceIte, and_self, and_true, true_and]; (try and_intros) <;> rfl)
        exact kRi F hr hlocks hS20 dX9_offer_36 σ q22 hP20 hD20
      · refine lv_iload_n hx hb dX9_offer_22 rfl (lv_at hl0 3 rfl) ?_
        refine lv_i2l (v := g.toInt64) hx hb dX9_offer_23 rfl ?_
        refine lv_lconst (v := 1) hx hb dX9_offer_24 (by decide) ?_
        refine lv_ldc2 (v := 15) hx hb hown (hts _ (List.mem_of_getElem? (i := 2) rfl)) dX9_offer_25 ?_
        refine kPSi F hK hP20 hD20 hS20 hA hl0.1 (c_X9_in l G g.toInt64 1 15) (fun _ => rfl) gX9_offer_X9_in rfl 3 rfl (by decide +kernel) ⟨Nat.le_of_ble_eq_true rfl, Nat.le_of_ble_eq_true rfl⟩ ⟨Nat.zero_le _, Nat.zero_le _⟩ (Nat.le_of_ble_eq_true rfl) rfl dX9_offer_28 (fun r23 u23 H24 locs24 hw23 (hP24 : va_P G.1 vwCl (mW G h a σ) H24) (hD24 : va_D A (mW G h a σ)) hS24 => ?_)
        clear hP20 hD20 hS20
        have w23_0 : r23 = kinL g.toInt64 1 15 := hw23
        refine lv_if_ne (tgt := 37) hx hb dX9_offer_31 (by decide) (fun c25 => ?_) (fun c25 => ?_)
        · refine lv_aload_n hx hb dX9_offer_37 rfl (lv_at hl0 0 rfl) ?_
          refine kget F hK hP24 9 0 0 iX9 rfl rfl (by decide) (List.mem_of_getElem? (i := 3) rfl) rfl dX9_offer_38 ?_
          refine lv_iload_n hx hb dX9_offer_41 rfl (lv_at hl0 1 rfl) ?_
          refine kild F hK hP24 1 1 rfl rfl (by decide) (Nat.le_of_ble_eq_true rfl) dX9_offer_42 ?_
          refine lv_istore (lv' := [(4, .int (σ 0 1)), (0, .ref h), (1, .int 1), (2, .int v), (3, .int g)]) hx hb dX9_offer_43 hl0 (by decide) rfl (fun ls26 hl26 => ?_)
          clear hl0
          refine lv_aload_n hx hb dX9_offer_45 rfl (lv_at hl26 1 rfl) ?_
          refine kget F hK hP24 9 0 0 iX9 rfl rfl (by decide) (List.mem_of_getElem? (i := 3) rfl) rfl dX9_offer_46 ?_
          refine lv_iload_n hx hb dX9_offer_49 rfl (lv_at hl26 2 rfl) ?_
          refine lv_iload_n hx hb dX9_offer_50 rfl (lv_at hl26 3 rfl) ?_
          refine kMst F hK hP24 hD24 hS24 0 1 1 rfl rfl (by decide) (Nat.le_of_ble_eq_true rfl) rfl dX9_offer_51 (fun H27 locs27 σ27 eσ27 hP27 hD27 hS27 => ?_)
          clear hP24 hD24 hS24
          refine lv_aload_n hx hb dX9_offer_52 rfl (lv_at hl26 1 rfl) ?_
          refine kget F hK hP27 9 0 1 iX9 rfl rfl (by decide) (List.mem_of_getElem? (i := 4) rfl) rfl dX9_offer_53 ?_
          refine lv_iload_n hx hb dX9_offer_56 rfl (lv_at hl26 2 rfl) ?_
          refine lv_iload_n hx hb dX9_offer_57 rfl (lv_at hl26 4 rfl) ?_
          refine kMst F hK hP27 hD27 hS27 1 2 1 rfl rfl (by decide) (Nat.le_of_ble_eq_true rfl) rfl dX9_offer_58 (fun H28 locs28 σ28 eσ28 hP28 hD28 hS28 => ?_)
          clear hP27 hD27 hS27
          refine lv_iload hx hb dX9_offer_59 (lv_at hl26 0 rfl) ?_
          have q29 : ((σ 0 1) = (moffer σ 1 v g).1) ∧ (σ28 = (moffer σ 1 v g).2) := by
            subst eσ28
            subst eσ27
            subst w23_0
            subst w19_0
            first | (simp only [moffer, m3, kd10, c18, c21, c25, eq_self, ↓reduceIte, and_self, and_true, true_and]; done) | (simp only [moffer, m3, kd10, c18, c21, c25, eq_self, ↓reduceIte, and_self, and_true, true_and]; (try and_intros) <;> rfl)
          exact kRi F hr hlocks hS28 dX9_offer_61 σ28 q29 hP28 hD28
        · refine lv_bipush (v := (-3)) hx hb dX9_offer_34 (by decide) ?_
          have q30 : ((-3) = (moffer σ 1 v g).1) ∧ (σ = (moffer σ 1 v g).2) := by
            subst w23_0
            subst w19_0
            first | (simp only [moffer, m3, kd10, c18, c21, eq_true c25, eq_self, ↓reduceIte, and_self, and_true, true_and]; done) | (simp only [moffer, m3, kd10, c18, c21, eq_true c25, eq_self, ↓reduceIte, and_self, and_true, true_and]; (try and_intros) <;> rfl)
          exact kRi F hr hlocks hS24 dX9_offer_36 σ q30 hP24 hD24
    · exact absurd c18 (by decide)
  · skip
    refine lv_iload_n hx hb dX9_offer_0 rfl (lv_at hl0 1 rfl) ?_
    refine kPSi F hK hP0 hD0 hS0 hA hl0.1 (c_X9_isSide l G s) (fun _ => rfl) gX9_offer_X9_isSide rfl 1 rfl (by decide +kernel) ⟨Nat.le_of_ble_eq_true rfl, Nat.le_of_ble_eq_true rfl⟩ ⟨Nat.zero_le _, Nat.zero_le _⟩ (Nat.le_of_ble_eq_true rfl) rfl dX9_offer_1 (fun r31 u31 H32 locs32 hw31 (hP32 : va_P G.1 vwCl (mW G h a σ) H32) (hD32 : va_D A (mW G h a σ)) hS32 => ?_)
    clear hP0 hD0 hS0
    have w31_0 : r31 = kinL s.toInt64 0 1 := hw31
    have g31 : r31 = 0 := w31_0.trans (kside_no hs0 hs1)
    clear w31_0
    subst g31
    refine lv_if_ne (tgt := 10) hx hb dX9_offer_4 (by decide) (fun c33 => ?_) (fun c33 => ?_)
    · exact absurd (by decide) c33
    · refine lv_bipush (v := (-2)) hx hb dX9_offer_7 (by decide) ?_
      have q34 : ((-2) = (moffer σ s v g).1) ∧ (σ = (moffer σ s v g).2) := by
        first | (simp only [moffer, m3, kd10, hs0, hs1, eq_true c33, eq_self, ↓reduceIte, and_self, and_true, true_and]; done) | (simp only [moffer, m3, kd10, hs0, hs1, eq_true c33, eq_self, ↓reduceIte, and_self, and_true, true_and]; (try and_intros) <;> rfl)
      exact kRi F hr hlocks hS32 dX9_offer_9 σ q34 hP32 hD32
set_option maxHeartbeats 1000000 in
set_option maxRecDepth 100000 in
theorem c_X9_secret (l : Launch) (G : kG) (h : Nat) (a : Nat → Nat) (σ : kS) (s : Int32) (v : Int32) : kM G l yX9_secret wsX9_secret ({ frames := 2, cells := 0, slots := 0, locals := 45 }) [.ref h, .int s, .int v] (mW G h a σ) (kQi G (fun (rr : Int32) (uu : kS) => (rr = (msecret σ s v).1) ∧ (uu = (msecret σ s v).2)) (fun (uu : kS) => mW G h a uu)) := by
  refine kStart (cc := cX9_secret) (maxL := 4) (ret := (some .int)) (by decide) rfl (Nat.le_of_ble_eq_true rfl) (fun pg ev st mi bl mt cd A ls0 F hr hlocks hin hK hP0 hD0 hA hS0 hl0 => ?_)
  obtain ⟨hx, hb, hml, hown, hts⟩ := id F
  have hl0 : lv_has ls0 4 [(0, .ref h), (1, .int s), (2, .int v)] := hl0
  have iX9 : ∀ w ∈ u_ws RX9 TX9 43, w ∈ wsX9_secret := fun w h => List.mem_cons_of_mem _ (List.mem_append_right _ h)
  rcases k_sides s with rfl | rfl | ⟨hs0, hs1⟩
  · skip
    refine lv_iload_n hx hb dX9_secret_0 rfl (lv_at hl0 1 rfl) ?_
    refine kPSi F hK hP0 hD0 hS0 hA hl0.1 (c_X9_isSide l G 0) (fun _ => rfl) gX9_secret_X9_isSide rfl 1 rfl (by decide +kernel) ⟨Nat.le_of_ble_eq_true rfl, Nat.le_of_ble_eq_true rfl⟩ ⟨Nat.zero_le _, Nat.zero_le _⟩ (Nat.le_of_ble_eq_true rfl) rfl dX9_secret_1 (fun r1 u1 H2 locs2 hw1 (hP2 : va_P G.1 vwCl (mW G h a σ) H2) (hD2 : va_D A (mW G h a σ)) hS2 => ?_)
    clear hP0 hD0 hS0
    have w1_0 : r1 = kinL (0 : Int32).toInt64 0 1 := hw1
    have g1 : r1 = 1 := w1_0.trans kside_0
    clear w1_0
    subst g1
    refine lv_if_ne (tgt := 10) hx hb dX9_secret_4 (by decide) (fun c3 => ?_) (fun c3 => ?_)
    · refine lv_iload_n hx hb dX9_secret_10 rfl (lv_at hl0 2 rfl) ?_
      refine lv_i2l (v := v.toInt64) hx hb dX9_secret_11 rfl ?_
      refine lv_lconst (v := 1) hx hb dX9_secret_12 (by decide) ?_
      refine lv_ldc2 (v := 999) hx hb hown (hts _ (List.mem_of_getElem? (i := 1) rfl)) dX9_secret_13 ?_
      refine kPSi F hK hP2 hD2 hS2 hA hl0.1 (c_X9_in l G v.toInt64 1 999) (fun _ => rfl) gX9_secret_X9_in rfl 3 rfl (by decide +kernel) ⟨Nat.le_of_ble_eq_true rfl, Nat.le_of_ble_eq_true rfl⟩ ⟨Nat.zero_le _, Nat.zero_le _⟩ (Nat.le_of_ble_eq_true rfl) rfl dX9_secret_16 (fun r4 u4 H5 locs5 hw4 (hP5 : va_P G.1 vwCl (mW G h a σ) H5) (hD5 : va_D A (mW G h a σ)) hS5 => ?_)
      clear hP2 hD2 hS2
      have w4_0 : r4 = kinL v.toInt64 1 999 := hw4
      refine lv_if_ne (tgt := 25) hx hb dX9_secret_19 (by decide) (fun c6 => ?_) (fun c6 => ?_)
      · refine lv_aload_n hx hb dX9_secret_25 rfl (lv_at hl0 0 rfl) ?_
        refine kget F hK hP5 9 0 2 iX9 rfl rfl (by decide) (List.mem_of_getElem? (i := 2) rfl) rfl dX9_secret_26 ?_
        refine lv_iload_n hx hb dX9_secret_29 rfl (lv_at hl0 1 rfl) ?_
        refine kild F hK hP5 3 0 rfl rfl (by decide) (Nat.le_of_ble_eq_true rfl) dX9_secret_30 ?_
        refine lv_istore_n (lv' := [(3, .int (σ 2 0)), (0, .ref h), (1, .int 0), (2, .int v)]) hx hb dX9_secret_31 rfl hl0 (by decide) rfl (fun ls7 hl7 => ?_)
        clear hl0
        refine lv_aload_n hx hb dX9_secret_32 rfl (lv_at hl7 1 rfl) ?_
        refine kget F hK hP5 9 0 2 iX9 rfl rfl (by decide) (List.mem_of_getElem? (i := 2) rfl) rfl dX9_secret_33 ?_
        refine lv_iload_n hx hb dX9_secret_36 rfl (lv_at hl7 2 rfl) ?_
        refine lv_iload_n hx hb dX9_secret_37 rfl (lv_at hl7 3 rfl) ?_
        refine kMst F hK hP5 hD5 hS5 2 3 0 rfl rfl (by decide) (Nat.le_of_ble_eq_true rfl) rfl dX9_secret_38 (fun H8 locs8 σ8 eσ8 hP8 hD8 hS8 => ?_)
        clear hP5 hD5 hS5
        refine lv_iload_n hx hb dX9_secret_39 rfl (lv_at hl7 0 rfl) ?_
        have q9 : ((σ 2 0) = (msecret σ 0 v).1) ∧ (σ8 = (msecret σ 0 v).2) := by
          subst eσ8
          subst w4_0
          first | (simp only [msecret, m3, kd10, c3, c6, eq_self, ↓reduceIte, and_self, and_true, true_and]; done) | (simp only [msecret, m3, kd10, c3, c6, eq_self, ↓reduceIte, and_self, and_true, true_and]; (try and_intros) <;> rfl)
        exact kRi F hr hlocks hS8 dX9_secret_40 σ8 q9 hP8 hD8
      · refine lv_bipush (v := (-3)) hx hb dX9_secret_22 (by decide) ?_
        have q10 : ((-3) = (msecret σ 0 v).1) ∧ (σ = (msecret σ 0 v).2) := by
          subst w4_0
          first | (simp only [msecret, m3, kd10, c3, eq_true c6, eq_self, ↓reduceIte, and_self, and_true, true_and]; done) | (simp only [msecret, m3, kd10, c3, eq_true c6, eq_self, ↓reduceIte, and_self, and_true, true_and]; (try and_intros) <;> rfl)
        exact kRi F hr hlocks hS5 dX9_secret_24 σ q10 hP5 hD5
    · exact absurd c3 (by decide)
  · skip
    refine lv_iload_n hx hb dX9_secret_0 rfl (lv_at hl0 1 rfl) ?_
    refine kPSi F hK hP0 hD0 hS0 hA hl0.1 (c_X9_isSide l G 1) (fun _ => rfl) gX9_secret_X9_isSide rfl 1 rfl (by decide +kernel) ⟨Nat.le_of_ble_eq_true rfl, Nat.le_of_ble_eq_true rfl⟩ ⟨Nat.zero_le _, Nat.zero_le _⟩ (Nat.le_of_ble_eq_true rfl) rfl dX9_secret_1 (fun r11 u11 H12 locs12 hw11 (hP12 : va_P G.1 vwCl (mW G h a σ) H12) (hD12 : va_D A (mW G h a σ)) hS12 => ?_)
    clear hP0 hD0 hS0
    have w11_0 : r11 = kinL (1 : Int32).toInt64 0 1 := hw11
    have g11 : r11 = 1 := w11_0.trans kside_1
    clear w11_0
    subst g11
    refine lv_if_ne (tgt := 10) hx hb dX9_secret_4 (by decide) (fun c13 => ?_) (fun c13 => ?_)
    · refine lv_iload_n hx hb dX9_secret_10 rfl (lv_at hl0 2 rfl) ?_
      refine lv_i2l (v := v.toInt64) hx hb dX9_secret_11 rfl ?_
      refine lv_lconst (v := 1) hx hb dX9_secret_12 (by decide) ?_
      refine lv_ldc2 (v := 999) hx hb hown (hts _ (List.mem_of_getElem? (i := 1) rfl)) dX9_secret_13 ?_
      refine kPSi F hK hP12 hD12 hS12 hA hl0.1 (c_X9_in l G v.toInt64 1 999) (fun _ => rfl) gX9_secret_X9_in rfl 3 rfl (by decide +kernel) ⟨Nat.le_of_ble_eq_true rfl, Nat.le_of_ble_eq_true rfl⟩ ⟨Nat.zero_le _, Nat.zero_le _⟩ (Nat.le_of_ble_eq_true rfl) rfl dX9_secret_16 (fun r14 u14 H15 locs15 hw14 (hP15 : va_P G.1 vwCl (mW G h a σ) H15) (hD15 : va_D A (mW G h a σ)) hS15 => ?_)
      clear hP12 hD12 hS12
      have w14_0 : r14 = kinL v.toInt64 1 999 := hw14
      refine lv_if_ne (tgt := 25) hx hb dX9_secret_19 (by decide) (fun c16 => ?_) (fun c16 => ?_)
      · refine lv_aload_n hx hb dX9_secret_25 rfl (lv_at hl0 0 rfl) ?_
        refine kget F hK hP15 9 0 2 iX9 rfl rfl (by decide) (List.mem_of_getElem? (i := 2) rfl) rfl dX9_secret_26 ?_
        refine lv_iload_n hx hb dX9_secret_29 rfl (lv_at hl0 1 rfl) ?_
        refine kild F hK hP15 3 1 rfl rfl (by decide) (Nat.le_of_ble_eq_true rfl) dX9_secret_30 ?_
        refine lv_istore_n (lv' := [(3, .int (σ 2 1)), (0, .ref h), (1, .int 1), (2, .int v)]) hx hb dX9_secret_31 rfl hl0 (by decide) rfl (fun ls17 hl17 => ?_)
        clear hl0
        refine lv_aload_n hx hb dX9_secret_32 rfl (lv_at hl17 1 rfl) ?_
        refine kget F hK hP15 9 0 2 iX9 rfl rfl (by decide) (List.mem_of_getElem? (i := 2) rfl) rfl dX9_secret_33 ?_
        refine lv_iload_n hx hb dX9_secret_36 rfl (lv_at hl17 2 rfl) ?_
        refine lv_iload_n hx hb dX9_secret_37 rfl (lv_at hl17 3 rfl) ?_
        refine kMst F hK hP15 hD15 hS15 2 3 1 rfl rfl (by decide) (Nat.le_of_ble_eq_true rfl) rfl dX9_secret_38 (fun H18 locs18 σ18 eσ18 hP18 hD18 hS18 => ?_)
        clear hP15 hD15 hS15
        refine lv_iload_n hx hb dX9_secret_39 rfl (lv_at hl17 0 rfl) ?_
        have q19 : ((σ 2 1) = (msecret σ 1 v).1) ∧ (σ18 = (msecret σ 1 v).2) := by
          subst eσ18
          subst w14_0
          first | (simp only [msecret, m3, kd10, c13, c16, eq_self, ↓reduceIte, and_self, and_true, true_and]; done) | (simp only [msecret, m3, kd10, c13, c16, eq_self, ↓reduceIte, and_self, and_true, true_and]; (try and_intros) <;> rfl)
        exact kRi F hr hlocks hS18 dX9_secret_40 σ18 q19 hP18 hD18
      · refine lv_bipush (v := (-3)) hx hb dX9_secret_22 (by decide) ?_
        have q20 : ((-3) = (msecret σ 1 v).1) ∧ (σ = (msecret σ 1 v).2) := by
          subst w14_0
          first | (simp only [msecret, m3, kd10, c13, eq_true c16, eq_self, ↓reduceIte, and_self, and_true, true_and]; done) | (simp only [msecret, m3, kd10, c13, eq_true c16, eq_self, ↓reduceIte, and_self, and_true, true_and]; (try and_intros) <;> rfl)
        exact kRi F hr hlocks hS15 dX9_secret_24 σ q20 hP15 hD15
    · exact absurd c13 (by decide)
  · skip
    refine lv_iload_n hx hb dX9_secret_0 rfl (lv_at hl0 1 rfl) ?_
    refine kPSi F hK hP0 hD0 hS0 hA hl0.1 (c_X9_isSide l G s) (fun _ => rfl) gX9_secret_X9_isSide rfl 1 rfl (by decide +kernel) ⟨Nat.le_of_ble_eq_true rfl, Nat.le_of_ble_eq_true rfl⟩ ⟨Nat.zero_le _, Nat.zero_le _⟩ (Nat.le_of_ble_eq_true rfl) rfl dX9_secret_1 (fun r21 u21 H22 locs22 hw21 (hP22 : va_P G.1 vwCl (mW G h a σ) H22) (hD22 : va_D A (mW G h a σ)) hS22 => ?_)
    clear hP0 hD0 hS0
    have w21_0 : r21 = kinL s.toInt64 0 1 := hw21
    have g21 : r21 = 0 := w21_0.trans (kside_no hs0 hs1)
    clear w21_0
    subst g21
    refine lv_if_ne (tgt := 10) hx hb dX9_secret_4 (by decide) (fun c23 => ?_) (fun c23 => ?_)
    · exact absurd (by decide) c23
    · refine lv_bipush (v := (-2)) hx hb dX9_secret_7 (by decide) ?_
      have q24 : ((-2) = (msecret σ s v).1) ∧ (σ = (msecret σ s v).2) := by
        first | (simp only [msecret, m3, kd10, hs0, hs1, eq_true c23, eq_self, ↓reduceIte, and_self, and_true, true_and]; done) | (simp only [msecret, m3, kd10, hs0, hs1, eq_true c23, eq_self, ↓reduceIte, and_self, and_true, true_and]; (try and_intros) <;> rfl)
      exact kRi F hr hlocks hS22 dX9_secret_9 σ q24 hP22 hD22
set_option maxHeartbeats 1000000 in
set_option maxRecDepth 100000 in
theorem c_X9_guess (l : Launch) (G : kG) (h : Nat) (a : Nat → Nat) (σ : kS) (g : Int32) : kM G l yX9_guess wsX9_guess ({ frames := 1, cells := 0, slots := 0, locals := 25 }) [.ref h, .int g] (mW G h a σ) (kQi G (fun (rr : Int32) (uu : kS) => (rr = (mguess σ g).1) ∧ (uu = (mguess σ g).2)) (fun (uu : kS) => mW G h a uu)) := by
  refine kStart (cc := cX9_guess) (maxL := 3) (ret := (some .int)) (by decide) rfl (Nat.le_of_ble_eq_true rfl) (fun pg ev st mi bl mt cd A ls0 F hr hlocks hin hK hP0 hD0 hA hS0 hl0 => ?_)
  obtain ⟨hx, hb, hml, hown, hts⟩ := id F
  have hl0 : lv_has ls0 3 [(0, .ref h), (1, .int g)] := hl0
  have iX9 : ∀ w ∈ u_ws RX9 TX9 43, w ∈ wsX9_guess := fun w h => List.mem_cons_of_mem _ (List.mem_append_right _ h)
  refine lv_iload_n hx hb dX9_guess_0 rfl (lv_at hl0 1 rfl) ?_
  refine lv_i2l (v := g.toInt64) hx hb dX9_guess_1 rfl ?_
  refine lv_lconst (v := 0) hx hb dX9_guess_2 (by decide) ?_
  refine lv_ldc2 (v := 3) hx hb hown (hts _ (List.mem_of_getElem? (i := 1) rfl)) dX9_guess_3 ?_
  refine kPSi F hK hP0 hD0 hS0 hA hl0.1 (c_X9_in l G g.toInt64 0 3) (fun _ => rfl) gX9_guess_X9_in rfl 3 rfl (by decide +kernel) ⟨Nat.le_of_ble_eq_true rfl, Nat.le_of_ble_eq_true rfl⟩ ⟨Nat.zero_le _, Nat.zero_le _⟩ (Nat.le_of_ble_eq_true rfl) rfl dX9_guess_6 (fun r1 u1 H2 locs2 hw1 (hP2 : va_P G.1 vwCl (mW G h a σ) H2) (hD2 : va_D A (mW G h a σ)) hS2 => ?_)
  clear hP0 hD0 hS0
  have w1_0 : r1 = kinL g.toInt64 0 3 := hw1
  refine lv_if_ne (tgt := 15) hx hb dX9_guess_9 (by decide) (fun c3 => ?_) (fun c3 => ?_)
  · refine lv_aload_n hx hb dX9_guess_15 rfl (lv_at hl0 0 rfl) ?_
    refine kget F hK hP2 9 0 12 iX9 rfl rfl (by decide) (List.mem_of_getElem? (i := 2) rfl) rfl dX9_guess_16 ?_
    refine lv_istore_n (lv' := [(2, .int (σ 12 0)), (0, .ref h), (1, .int g)]) hx hb dX9_guess_19 rfl hl0 (by decide) rfl (fun ls4 hl4 => ?_)
    clear hl0
    refine lv_aload_n hx hb dX9_guess_20 rfl (lv_at hl4 1 rfl) ?_
    refine lv_iload_n hx hb dX9_guess_21 rfl (lv_at hl4 2 rfl) ?_
    refine kMput F hK hP2 hD2 hS2 12 iX9 rfl (by decide) (List.mem_of_getElem? (i := 2) rfl) rfl rfl rfl (Nat.le_of_ble_eq_true rfl) rfl dX9_guess_22 (fun H5 locs5 σ5 eσ5 hP5 hD5 hS5 => ?_)
    clear hP2 hD2 hS2
    refine lv_iload_n hx hb dX9_guess_25 rfl (lv_at hl4 0 rfl) ?_
    have q6 : ((σ 12 0) = (mguess σ g).1) ∧ (σ5 = (mguess σ g).2) := by
      subst eσ5
      subst w1_0
      first | (simp only [mguess, c3, eq_self, ↓reduceIte, and_self, and_true, true_and]; done) | (simp only [mguess, c3, eq_self, ↓reduceIte, and_self, and_true, true_and]; (try and_intros) <;> rfl)
    exact kRi F hr hlocks hS5 dX9_guess_26 σ5 q6 hP5 hD5
  · refine lv_bipush (v := (-3)) hx hb dX9_guess_12 (by decide) ?_
    have q7 : ((-3) = (mguess σ g).1) ∧ (σ = (mguess σ g).2) := by
      subst w1_0
      first | (simp only [mguess, eq_true c3, eq_self, ↓reduceIte, and_self, and_true, true_and]; done) | (simp only [mguess, eq_true c3, eq_self, ↓reduceIte, and_self, and_true, true_and]; (try and_intros) <;> rfl)
    exact kRi F hr hlocks hS2 dX9_guess_14 σ q7 hP2 hD2
set_option maxHeartbeats 1000000 in
set_option maxRecDepth 100000 in
theorem c_X9_early (l : Launch) (G : kG) (h : Nat) (a : Nat → Nat) (σ : kS) (v : Int32) : kM G l yX9_early wsX9_early ({ frames := 1, cells := 0, slots := 0, locals := 25 }) [.ref h, .int v] (mW G h a σ) (kQi G (fun (rr : Int32) (uu : kS) => (rr = (mearly σ v).1) ∧ (uu = (mearly σ v).2)) (fun (uu : kS) => mW G h a uu)) := by
  refine kStart (cc := cX9_early) (maxL := 3) (ret := (some .int)) (by decide) rfl (Nat.le_of_ble_eq_true rfl) (fun pg ev st mi bl mt cd A ls0 F hr hlocks hin hK hP0 hD0 hA hS0 hl0 => ?_)
  obtain ⟨hx, hb, hml, hown, hts⟩ := id F
  have hl0 : lv_has ls0 3 [(0, .ref h), (1, .int v)] := hl0
  have iX9 : ∀ w ∈ u_ws RX9 TX9 43, w ∈ wsX9_early := fun w h => List.mem_cons_of_mem _ (List.mem_append_right _ h)
  refine lv_iload_n hx hb dX9_early_0 rfl (lv_at hl0 1 rfl) ?_
  refine lv_i2l (v := v.toInt64) hx hb dX9_early_1 rfl ?_
  refine lv_ldc2 (v := (-1)) hx hb hown (hts _ (List.mem_of_getElem? (i := 1) rfl)) dX9_early_2 ?_
  refine lv_ldc2 (v := 999) hx hb hown (hts _ (List.mem_of_getElem? (i := 2) rfl)) dX9_early_5 ?_
  refine kPSi F hK hP0 hD0 hS0 hA hl0.1 (c_X9_in l G v.toInt64 (-1) 999) (fun _ => rfl) gX9_early_X9_in rfl 3 rfl (by decide +kernel) ⟨Nat.le_of_ble_eq_true rfl, Nat.le_of_ble_eq_true rfl⟩ ⟨Nat.zero_le _, Nat.zero_le _⟩ (Nat.le_of_ble_eq_true rfl) rfl dX9_early_8 (fun r1 u1 H2 locs2 hw1 (hP2 : va_P G.1 vwCl (mW G h a σ) H2) (hD2 : va_D A (mW G h a σ)) hS2 => ?_)
  clear hP0 hD0 hS0
  have w1_0 : r1 = kinL v.toInt64 (-1) 999 := hw1
  refine lv_if_ne (tgt := 17) hx hb dX9_early_11 (by decide) (fun c3 => ?_) (fun c3 => ?_)
  · refine lv_aload_n hx hb dX9_early_17 rfl (lv_at hl0 0 rfl) ?_
    refine kget F hK hP2 9 0 13 iX9 rfl rfl (by decide) (List.mem_of_getElem? (i := 3) rfl) rfl dX9_early_18 ?_
    refine lv_istore_n (lv' := [(2, .int (σ 13 0)), (0, .ref h), (1, .int v)]) hx hb dX9_early_21 rfl hl0 (by decide) rfl (fun ls4 hl4 => ?_)
    clear hl0
    refine lv_aload_n hx hb dX9_early_22 rfl (lv_at hl4 1 rfl) ?_
    refine lv_iload_n hx hb dX9_early_23 rfl (lv_at hl4 2 rfl) ?_
    refine kMput F hK hP2 hD2 hS2 13 iX9 rfl (by decide) (List.mem_of_getElem? (i := 3) rfl) rfl rfl rfl (Nat.le_of_ble_eq_true rfl) rfl dX9_early_24 (fun H5 locs5 σ5 eσ5 hP5 hD5 hS5 => ?_)
    clear hP2 hD2 hS2
    refine lv_iload_n hx hb dX9_early_27 rfl (lv_at hl4 0 rfl) ?_
    have q6 : ((σ 13 0) = (mearly σ v).1) ∧ (σ5 = (mearly σ v).2) := by
      subst eσ5
      subst w1_0
      first | (simp only [mearly, c3, eq_self, ↓reduceIte, and_self, and_true, true_and]; done) | (simp only [mearly, c3, eq_self, ↓reduceIte, and_self, and_true, true_and]; (try and_intros) <;> rfl)
    exact kRi F hr hlocks hS5 dX9_early_28 σ5 q6 hP5 hD5
  · refine lv_bipush (v := (-3)) hx hb dX9_early_14 (by decide) ?_
    have q7 : ((-3) = (mearly σ v).1) ∧ (σ = (mearly σ v).2) := by
      subst w1_0
      first | (simp only [mearly, eq_true c3, eq_self, ↓reduceIte, and_self, and_true, true_and]; done) | (simp only [mearly, eq_true c3, eq_self, ↓reduceIte, and_self, and_true, true_and]; (try and_intros) <;> rfl)
    exact kRi F hr hlocks hS2 dX9_early_16 σ q7 hP2 hD2
set_option maxHeartbeats 1000000 in
set_option maxRecDepth 100000 in
theorem c_X9_hello (l : Launch) (G : kG) (h : Nat) (a : Nat → Nat) (σ : kS) (S : Nat → Nat) (Mn : Nat → Nat) (E : Nat) (K : Nat) (ok : mOK σ S Mn E K) : kM G l yX9_hello wsX9_hello ({ frames := 3, cells := 0, slots := 0, locals := 67 }) [.ref h] (mW G h a σ) (kQi G (fun (rr : Int32) (uu : kS) => (rr = (mhellR σ S Mn).1) ∧ (uu = (mhellR σ S Mn).2)) (fun (uu : kS) => mW G h a uu)) := by
  refine kStart (cc := cX9_hello) (maxL := 1) (ret := (some .int)) (by decide) rfl (Nat.le_of_ble_eq_true rfl) (fun pg ev st mi bl mt cd A ls0 F hr hlocks hin hK hP0 hD0 hA hS0 hl0 => ?_)
  obtain ⟨hx, hb, hml, hown, hts⟩ := id F
  have hl0 : lv_has ls0 1 [(0, .ref h)] := hl0
  have iX9 : ∀ w ∈ u_ws RX9 TX9 43, w ∈ wsX9_hello := fun w h => List.mem_cons_of_mem _ (List.mem_append_right _ h)
  refine lv_aload_n hx hb dX9_hello_0 rfl (lv_at hl0 0 rfl) ?_
  refine kget F hK hP0 9 0 3 iX9 rfl rfl (by decide) (List.mem_of_getElem? (i := 1) rfl) rfl dX9_hello_1 ?_
  refine lv_iconst (v := 0) hx hb dX9_hello_4 (by decide) ?_
  refine kild F hK hP0 4 0 rfl rfl (by decide) (Nat.le_of_ble_eq_true rfl) dX9_hello_5 ?_
  refine lv_if_eq (tgt := 12) hx hb dX9_hello_6 (by decide) (fun c1 => ?_) (fun c1 => ?_)
  · refine lv_aload_n hx hb dX9_hello_12 rfl (lv_at hl0 0 rfl) ?_
    refine kget F hK hP0 9 0 3 iX9 rfl rfl (by decide) (List.mem_of_getElem? (i := 1) rfl) rfl dX9_hello_13 ?_
    refine lv_iconst (v := 0) hx hb dX9_hello_16 (by decide) ?_
    refine lv_iconst (v := 1) hx hb dX9_hello_17 (by decide) ?_
    refine kMst F hK hP0 hD0 hS0 3 4 0 rfl rfl (by decide) (Nat.le_of_ble_eq_true rfl) rfl dX9_hello_18 (fun H2 locs2 σ2 eσ2 hP2 hD2 hS2 => ?_)
    clear hP0 hD0 hS0
    refine lv_aload_n hx hb dX9_hello_19 rfl (lv_at hl0 0 rfl) ?_
    refine lv_iconst (v := 0) hx hb dX9_hello_20 (by decide) ?_
    refine kMput F hK hP2 hD2 hS2 19 iX9 rfl (by decide) (List.mem_of_getElem? (i := 2) rfl) rfl rfl rfl (Nat.le_of_ble_eq_true rfl) rfl dX9_hello_21 (fun H3 locs3 σ3 eσ3 hP3 hD3 hS3 => ?_)
    clear hP2 hD2 hS2
    refine lv_aload_n hx hb dX9_hello_24 rfl (lv_at hl0 0 rfl) ?_
    refine lv_aload_n hx hb dX9_hello_25 rfl (lv_at hl0 0 rfl) ?_
    refine kget F hK hP3 9 0 1 iX9 rfl rfl (by decide) (List.mem_of_getElem? (i := 3) rfl) rfl dX9_hello_26 ?_
    refine lv_iconst (v := 0) hx hb dX9_hello_29 (by decide) ?_
    refine kild F hK hP3 2 0 rfl rfl (by decide) (Nat.le_of_ble_eq_true rfl) dX9_hello_30 ?_
    rw [show (σ3 1 0) = (σ 1 0) from by subst eσ3; subst eσ2; first | rfl | (simp only [msend]; (repeat' split) <;> rfl)]
    refine lv_aload_n hx hb dX9_hello_31 rfl (lv_at hl0 0 rfl) ?_
    refine kget F hK hP3 9 0 12 iX9 rfl rfl (by decide) (List.mem_of_getElem? (i := 4) rfl) rfl dX9_hello_32 ?_
    rw [show (σ3 12 0) = (σ 12 0) from by subst eσ3; subst eσ2; first | rfl | (simp only [msend]; (repeat' split) <;> rfl)]
    refine kPSi F hK hP3 hD3 hS3 hA hl0.1 (c_X9_has l G (σ 1 0) (σ 12 0)) (fun _ => rfl) gX9_hello_X9_has rfl 2 rfl (by decide +kernel) ⟨Nat.le_of_ble_eq_true rfl, Nat.le_of_ble_eq_true rfl⟩ ⟨Nat.zero_le _, Nat.zero_le _⟩ (Nat.le_of_ble_eq_true rfl) rfl dX9_hello_35 (fun r4 u4 H5 locs5 hw4 (hP5 : va_P G.1 vwCl (mW G h a σ3) H5) (hD5 : va_D A (mW G h a σ3)) hS5 => ?_)
    clear hP3 hD3 hS3
    have w4_0 : r4 = mhas (σ 1 0) (σ 12 0) := hw4
    refine lv_if_eq (tgt := 48) hx hb dX9_hello_38 (by decide) (fun c6 => ?_) (fun c6 => ?_)
    · refine lv_aload_n hx hb dX9_hello_48 rfl (lv_at hl0 0 rfl) ?_
      refine kget F hK hP5 9 0 1 iX9 rfl rfl (by decide) (List.mem_of_getElem? (i := 3) rfl) rfl dX9_hello_49 ?_
      refine lv_iconst (v := 0) hx hb dX9_hello_52 (by decide) ?_
      refine kild F hK hP5 2 0 rfl rfl (by decide) (Nat.le_of_ble_eq_true rfl) dX9_hello_53 ?_
      rw [show (σ3 1 0) = (σ 1 0) from by subst eσ3; subst eσ2; first | rfl | (simp only [msend]; (repeat' split) <;> rfl)]
      refine kPSi F hK hP5 hD5 hS5 hA hl0.1 (c_X9_leastOf l G (σ 1 0)) (fun _ => rfl) gX9_hello_X9_leastOf rfl 1 rfl (by decide +kernel) ⟨Nat.le_of_ble_eq_true rfl, Nat.le_of_ble_eq_true rfl⟩ ⟨Nat.zero_le _, Nat.zero_le _⟩ (Nat.le_of_ble_eq_true rfl) rfl dX9_hello_54 (fun r7 u7 H8 locs8 hw7 (hP8 : va_P G.1 vwCl (mW G h a σ3) H8) (hD8 : va_D A (mW G h a σ3)) hS8 => ?_)
      clear hP5 hD5 hS5
      have w7_0 : r7 = mleast (σ 1 0) := hw7
      refine kWVv F hK hP8 hD8 hS8 hA hl0.1 (c_X9_makesHello l G h a σ3 r7 (S 0) (Mn 1) (by subst w7_0; subst w4_0; subst eσ3; subst eσ2; exact (ok.1 0 (by decide)).1) (Nat.le_trans (ok.1 0 (by decide)).2 (by decide)) (by subst w7_0; subst w4_0; subst eσ3; subst eσ2; exact (ok.2.1 1 (by decide)).1) ((ok.2.1 1 (by decide)).2)) 9 0 gX9_hello_X9_makesHello rfl 1 rfl (by decide +kernel) ⟨Nat.le_of_ble_eq_true rfl, Nat.le_of_ble_eq_true rfl⟩ ⟨Nat.zero_le _, Nat.zero_le _⟩ rfl rfl (Nat.le_of_ble_eq_true rfl) rfl dX9_hello_57 (fun σ_9 H10 locs10 hw9 (hP10 : va_P G.1 vwCl (mW G h a σ_9) H10) (hD10 : va_D A (mW G h a σ_9)) hS10 => ?_)
      clear hP8 hD8 hS8
      have w9_0 : σ_9 = mhello σ3 r7 (S 0) (Mn 1) := hw9
      refine lv_aload_n hx hb dX9_hello_60 rfl (lv_at hl0 0 rfl) ?_
      refine kget F hK hP10 9 0 26 iX9 rfl rfl (by decide) (List.mem_of_getElem? (i := 5) rfl) rfl dX9_hello_61 ?_
      refine lv_iconst (v := 1) hx hb dX9_hello_64 (by decide) ?_
      refine kild F hK hP10 17 1 rfl rfl (by decide) (Nat.le_of_ble_eq_true rfl) dX9_hello_65 ?_
      have q11 : ((σ_9 26 1) = (mhellR σ S Mn).1) ∧ (σ_9 = (mhellR σ S Mn).2) := by
        subst w9_0
        subst w7_0
        subst w4_0
        subst eσ3
        subst eσ2
        first | (simp only [mhellR, mhe0, eq_true c1, eq_true c6, eq_self, ↓reduceIte, and_self, and_true, true_and]; done) | (simp only [mhellR, mhe0, eq_true c1, eq_true c6, eq_self, ↓reduceIte, and_self, and_true, true_and]; (try and_intros) <;> rfl)
      exact kRi F hr hlocks hS10 dX9_hello_66 σ_9 q11 hP10 hD10
    · refine lv_aload_n hx hb dX9_hello_41 rfl (lv_at hl0 0 rfl) ?_
      refine kget F hK hP5 9 0 12 iX9 rfl rfl (by decide) (List.mem_of_getElem? (i := 4) rfl) rfl dX9_hello_42 ?_
      rw [show (σ3 12 0) = (σ 12 0) from by subst eσ3; subst eσ2; first | rfl | (simp only [msend]; (repeat' split) <;> rfl)]
      refine lv_goto (tgt := 57) hx hb dX9_hello_45 (by decide) ?_
      refine kWVv F hK hP5 hD5 hS5 hA hl0.1 (c_X9_makesHello l G h a σ3 (σ 12 0) (S 0) (Mn 1) (by subst w4_0; subst eσ3; subst eσ2; exact (ok.1 0 (by decide)).1) (Nat.le_trans (ok.1 0 (by decide)).2 (by decide)) (by subst w4_0; subst eσ3; subst eσ2; exact (ok.2.1 1 (by decide)).1) ((ok.2.1 1 (by decide)).2)) 9 0 gX9_hello_X9_makesHello rfl 1 rfl (by decide +kernel) ⟨Nat.le_of_ble_eq_true rfl, Nat.le_of_ble_eq_true rfl⟩ ⟨Nat.zero_le _, Nat.zero_le _⟩ rfl rfl (Nat.le_of_ble_eq_true rfl) rfl dX9_hello_57 (fun σ_12 H13 locs13 hw12 (hP13 : va_P G.1 vwCl (mW G h a σ_12) H13) (hD13 : va_D A (mW G h a σ_12)) hS13 => ?_)
      clear hP5 hD5 hS5
      have w12_0 : σ_12 = mhello σ3 (σ 12 0) (S 0) (Mn 1) := hw12
      refine lv_aload_n hx hb dX9_hello_60 rfl (lv_at hl0 0 rfl) ?_
      refine kget F hK hP13 9 0 26 iX9 rfl rfl (by decide) (List.mem_of_getElem? (i := 5) rfl) rfl dX9_hello_61 ?_
      refine lv_iconst (v := 1) hx hb dX9_hello_64 (by decide) ?_
      refine kild F hK hP13 17 1 rfl rfl (by decide) (Nat.le_of_ble_eq_true rfl) dX9_hello_65 ?_
      have q14 : ((σ_12 26 1) = (mhellR σ S Mn).1) ∧ (σ_12 = (mhellR σ S Mn).2) := by
        subst w12_0
        subst w4_0
        subst eσ3
        subst eσ2
        first | (simp only [mhellR, mhe0, eq_true c1, c6, eq_self, ↓reduceIte, and_self, and_true, true_and]; done) | (simp only [mhellR, mhe0, eq_true c1, c6, eq_self, ↓reduceIte, and_self, and_true, true_and]; (try and_intros) <;> rfl)
      exact kRi F hr hlocks hS13 dX9_hello_66 σ_12 q14 hP13 hD13
  · refine lv_bipush (v := (-4)) hx hb dX9_hello_9 (by decide) ?_
    have q15 : ((-4) = (mhellR σ S Mn).1) ∧ (σ = (mhellR σ S Mn).2) := by
      first | (simp only [mhellR, mhe0, c1, eq_self, ↓reduceIte, and_self, and_true, true_and]; done) | (simp only [mhellR, mhe0, c1, eq_self, ↓reduceIte, and_self, and_true, true_and]; (try and_intros) <;> rfl)
    exact kRi F hr hlocks hS0 dX9_hello_11 σ q15 hP0 hD0
set_option maxHeartbeats 1000000 in
set_option maxRecDepth 100000 in
theorem c_X9_forget (l : Launch) (G : kG) (h : Nat) (a : Nat → Nat) (σ : kS) : kM G l yX9_forget wsX9_forget ({ frames := 0, cells := 0, slots := 0, locals := 0 }) [.ref h] (mW G h a σ) (kQi G (fun (rr : Int32) (uu : kS) => (rr = (mforget σ).1) ∧ (uu = (mforget σ).2)) (fun (uu : kS) => mW G h a uu)) := by
  refine kStart (cc := cX9_forget) (maxL := 1) (ret := (some .int)) (by decide) rfl (Nat.le_of_ble_eq_true rfl) (fun pg ev st mi bl mt cd A ls0 F hr hlocks hin hK hP0 hD0 hA hS0 hl0 => ?_)
  obtain ⟨hx, hb, hml, hown, hts⟩ := id F
  have hl0 : lv_has ls0 1 [(0, .ref h)] := hl0
  have iX9 : ∀ w ∈ u_ws RX9 TX9 43, w ∈ wsX9_forget := fun w h => List.mem_cons_of_mem _ (List.mem_append_right _ h)
  refine lv_aload_n hx hb dX9_forget_0 rfl (lv_at hl0 0 rfl) ?_
  refine kget F hK hP0 9 0 15 iX9 rfl rfl (by decide) (List.mem_of_getElem? (i := 1) rfl) rfl dX9_forget_1 ?_
  refine lv_iconst (v := 0) hx hb dX9_forget_4 (by decide) ?_
  refine kild F hK hP0 13 0 rfl rfl (by decide) (Nat.le_of_ble_eq_true rfl) dX9_forget_5 ?_
  refine lv_if_ne (tgt := 12) hx hb dX9_forget_6 (by decide) (fun c1 => ?_) (fun c1 => ?_)
  · refine lv_aload_n hx hb dX9_forget_12 rfl (lv_at hl0 0 rfl) ?_
    refine kget F hK hP0 9 0 15 iX9 rfl rfl (by decide) (List.mem_of_getElem? (i := 1) rfl) rfl dX9_forget_13 ?_
    refine lv_iconst (v := 0) hx hb dX9_forget_16 (by decide) ?_
    refine lv_iconst (v := 0) hx hb dX9_forget_17 (by decide) ?_
    refine kMst F hK hP0 hD0 hS0 15 13 0 rfl rfl (by decide) (Nat.le_of_ble_eq_true rfl) rfl dX9_forget_18 (fun H2 locs2 σ2 eσ2 hP2 hD2 hS2 => ?_)
    clear hP0 hD0 hS0
    refine lv_aload_n hx hb dX9_forget_19 rfl (lv_at hl0 0 rfl) ?_
    refine kget F hK hP2 9 0 15 iX9 rfl rfl (by decide) (List.mem_of_getElem? (i := 1) rfl) rfl dX9_forget_20 ?_
    refine lv_iconst (v := 1) hx hb dX9_forget_23 (by decide) ?_
    refine kild F hK hP2 13 1 rfl rfl (by decide) (Nat.le_of_ble_eq_true rfl) dX9_forget_24 ?_
    rw [show (σ2 15 1) = (σ 15 1) from by subst eσ2; first | rfl | (simp only [msend]; (repeat' split) <;> rfl)]
    have q3 : ((σ 15 1) = (mforget σ).1) ∧ (σ2 = (mforget σ).2) := by
      subst eσ2
      first | (simp only [mforget, c1, eq_self, ↓reduceIte, and_self, and_true, true_and]; done) | (simp only [mforget, c1, eq_self, ↓reduceIte, and_self, and_true, true_and]; (try and_intros) <;> rfl)
    exact kRi F hr hlocks hS2 dX9_forget_25 σ2 q3 hP2 hD2
  · refine lv_bipush (v := (-4)) hx hb dX9_forget_9 (by decide) ?_
    have q4 : ((-4) = (mforget σ).1) ∧ (σ = (mforget σ).2) := by
      first | (simp only [mforget, eq_true c1, eq_self, ↓reduceIte, and_self, and_true, true_and]; done) | (simp only [mforget, eq_true c1, eq_self, ↓reduceIte, and_self, and_true, true_and]; (try and_intros) <;> rfl)
    exact kRi F hr hlocks hS0 dX9_forget_11 σ q4 hP0 hD0
set_option maxHeartbeats 1000000 in
set_option maxRecDepth 100000 in
theorem c_X9_fresh (l : Launch) (G : kG) (h : Nat) (a : Nat → Nat) (σ : kS) (s : Int32) : kM G l yX9_fresh wsX9_fresh ({ frames := 2, cells := 0, slots := 0, locals := 45 }) [.ref h, .int s] (mW G h a σ) (kQi G (fun (rr : Int32) (uu : kS) => (rr = (mfresh σ s).1) ∧ (uu = (mfresh σ s).2)) (fun (uu : kS) => mW G h a uu)) := by
  refine kStart (cc := cX9_fresh) (maxL := 3) (ret := (some .int)) (by decide) rfl (Nat.le_of_ble_eq_true rfl) (fun pg ev st mi bl mt cd A ls0 F hr hlocks hin hK hP0 hD0 hA hS0 hl0 => ?_)
  obtain ⟨hx, hb, hml, hown, hts⟩ := id F
  have hl0 : lv_has ls0 3 [(0, .ref h), (1, .int s)] := hl0
  have iX9 : ∀ w ∈ u_ws RX9 TX9 43, w ∈ wsX9_fresh := fun w h => List.mem_cons_of_mem _ (List.mem_append_right _ h)
  rcases k_sides s with rfl | rfl | ⟨hs0, hs1⟩
  · skip
    refine lv_iload_n hx hb dX9_fresh_0 rfl (lv_at hl0 1 rfl) ?_
    refine kPSi F hK hP0 hD0 hS0 hA hl0.1 (c_X9_isSide l G 0) (fun _ => rfl) gX9_fresh_X9_isSide rfl 1 rfl (by decide +kernel) ⟨Nat.le_of_ble_eq_true rfl, Nat.le_of_ble_eq_true rfl⟩ ⟨Nat.zero_le _, Nat.zero_le _⟩ (Nat.le_of_ble_eq_true rfl) rfl dX9_fresh_1 (fun r1 u1 H2 locs2 hw1 (hP2 : va_P G.1 vwCl (mW G h a σ) H2) (hD2 : va_D A (mW G h a σ)) hS2 => ?_)
    clear hP0 hD0 hS0
    have w1_0 : r1 = kinL (0 : Int32).toInt64 0 1 := hw1
    have g1 : r1 = 1 := w1_0.trans kside_0
    clear w1_0
    subst g1
    refine lv_if_ne (tgt := 10) hx hb dX9_fresh_4 (by decide) (fun c3 => ?_) (fun c3 => ?_)
    · refine lv_aload_n hx hb dX9_fresh_10 rfl (lv_at hl0 0 rfl) ?_
      refine kget F hK hP2 9 0 3 iX9 rfl rfl (by decide) (List.mem_of_getElem? (i := 1) rfl) rfl dX9_fresh_11 ?_
      refine lv_iload_n hx hb dX9_fresh_14 rfl (lv_at hl0 1 rfl) ?_
      refine kild F hK hP2 4 0 rfl rfl (by decide) (Nat.le_of_ble_eq_true rfl) dX9_fresh_15 ?_
      refine lv_istore_n (lv' := [(2, .int (σ 3 0)), (0, .ref h), (1, .int 0)]) hx hb dX9_fresh_16 rfl hl0 (by decide) rfl (fun ls4 hl4 => ?_)
      clear hl0
      refine lv_aload_n hx hb dX9_fresh_17 rfl (lv_at hl4 1 rfl) ?_
      refine kget F hK hP2 9 0 3 iX9 rfl rfl (by decide) (List.mem_of_getElem? (i := 1) rfl) rfl dX9_fresh_18 ?_
      refine lv_iload_n hx hb dX9_fresh_21 rfl (lv_at hl4 2 rfl) ?_
      refine lv_iconst (v := 0) hx hb dX9_fresh_22 (by decide) ?_
      refine kMst F hK hP2 hD2 hS2 3 4 0 rfl rfl (by decide) (Nat.le_of_ble_eq_true rfl) rfl dX9_fresh_23 (fun H5 locs5 σ5 eσ5 hP5 hD5 hS5 => ?_)
      clear hP2 hD2 hS2
      refine lv_aload_n hx hb dX9_fresh_24 rfl (lv_at hl4 1 rfl) ?_
      refine kget F hK hP5 9 0 4 iX9 rfl rfl (by decide) (List.mem_of_getElem? (i := 2) rfl) rfl dX9_fresh_25 ?_
      refine lv_iload_n hx hb dX9_fresh_28 rfl (lv_at hl4 2 rfl) ?_
      refine lv_iconst (v := 0) hx hb dX9_fresh_29 (by decide) ?_
      refine kMst F hK hP5 hD5 hS5 4 5 0 rfl rfl (by decide) (Nat.le_of_ble_eq_true rfl) rfl dX9_fresh_30 (fun H6 locs6 σ6 eσ6 hP6 hD6 hS6 => ?_)
      clear hP5 hD5 hS5
      refine lv_aload_n hx hb dX9_fresh_31 rfl (lv_at hl4 1 rfl) ?_
      refine kget F hK hP6 9 0 5 iX9 rfl rfl (by decide) (List.mem_of_getElem? (i := 3) rfl) rfl dX9_fresh_32 ?_
      refine lv_iload_n hx hb dX9_fresh_35 rfl (lv_at hl4 2 rfl) ?_
      refine lv_iconst (v := 1) hx hb dX9_fresh_36 (by decide) ?_
      refine kMst F hK hP6 hD6 hS6 5 6 0 rfl rfl (by decide) (Nat.le_of_ble_eq_true rfl) rfl dX9_fresh_37 (fun H7 locs7 σ7 eσ7 hP7 hD7 hS7 => ?_)
      clear hP6 hD6 hS6
      refine lv_iload_n hx hb dX9_fresh_38 rfl (lv_at hl4 0 rfl) ?_
      have q8 : ((σ 3 0) = (mfresh σ 0).1) ∧ (σ7 = (mfresh σ 0).2) := by
        subst eσ7
        subst eσ6
        subst eσ5
        first | (simp only [mfresh, m3, kd10, c3, eq_self, ↓reduceIte, and_self, and_true, true_and]; done) | (simp only [mfresh, m3, kd10, c3, eq_self, ↓reduceIte, and_self, and_true, true_and]; (try and_intros) <;> rfl)
      exact kRi F hr hlocks hS7 dX9_fresh_39 σ7 q8 hP7 hD7
    · exact absurd c3 (by decide)
  · skip
    refine lv_iload_n hx hb dX9_fresh_0 rfl (lv_at hl0 1 rfl) ?_
    refine kPSi F hK hP0 hD0 hS0 hA hl0.1 (c_X9_isSide l G 1) (fun _ => rfl) gX9_fresh_X9_isSide rfl 1 rfl (by decide +kernel) ⟨Nat.le_of_ble_eq_true rfl, Nat.le_of_ble_eq_true rfl⟩ ⟨Nat.zero_le _, Nat.zero_le _⟩ (Nat.le_of_ble_eq_true rfl) rfl dX9_fresh_1 (fun r9 u9 H10 locs10 hw9 (hP10 : va_P G.1 vwCl (mW G h a σ) H10) (hD10 : va_D A (mW G h a σ)) hS10 => ?_)
    clear hP0 hD0 hS0
    have w9_0 : r9 = kinL (1 : Int32).toInt64 0 1 := hw9
    have g9 : r9 = 1 := w9_0.trans kside_1
    clear w9_0
    subst g9
    refine lv_if_ne (tgt := 10) hx hb dX9_fresh_4 (by decide) (fun c11 => ?_) (fun c11 => ?_)
    · refine lv_aload_n hx hb dX9_fresh_10 rfl (lv_at hl0 0 rfl) ?_
      refine kget F hK hP10 9 0 3 iX9 rfl rfl (by decide) (List.mem_of_getElem? (i := 1) rfl) rfl dX9_fresh_11 ?_
      refine lv_iload_n hx hb dX9_fresh_14 rfl (lv_at hl0 1 rfl) ?_
      refine kild F hK hP10 4 1 rfl rfl (by decide) (Nat.le_of_ble_eq_true rfl) dX9_fresh_15 ?_
      refine lv_istore_n (lv' := [(2, .int (σ 3 1)), (0, .ref h), (1, .int 1)]) hx hb dX9_fresh_16 rfl hl0 (by decide) rfl (fun ls12 hl12 => ?_)
      clear hl0
      refine lv_aload_n hx hb dX9_fresh_17 rfl (lv_at hl12 1 rfl) ?_
      refine kget F hK hP10 9 0 3 iX9 rfl rfl (by decide) (List.mem_of_getElem? (i := 1) rfl) rfl dX9_fresh_18 ?_
      refine lv_iload_n hx hb dX9_fresh_21 rfl (lv_at hl12 2 rfl) ?_
      refine lv_iconst (v := 0) hx hb dX9_fresh_22 (by decide) ?_
      refine kMst F hK hP10 hD10 hS10 3 4 1 rfl rfl (by decide) (Nat.le_of_ble_eq_true rfl) rfl dX9_fresh_23 (fun H13 locs13 σ13 eσ13 hP13 hD13 hS13 => ?_)
      clear hP10 hD10 hS10
      refine lv_aload_n hx hb dX9_fresh_24 rfl (lv_at hl12 1 rfl) ?_
      refine kget F hK hP13 9 0 4 iX9 rfl rfl (by decide) (List.mem_of_getElem? (i := 2) rfl) rfl dX9_fresh_25 ?_
      refine lv_iload_n hx hb dX9_fresh_28 rfl (lv_at hl12 2 rfl) ?_
      refine lv_iconst (v := 0) hx hb dX9_fresh_29 (by decide) ?_
      refine kMst F hK hP13 hD13 hS13 4 5 1 rfl rfl (by decide) (Nat.le_of_ble_eq_true rfl) rfl dX9_fresh_30 (fun H14 locs14 σ14 eσ14 hP14 hD14 hS14 => ?_)
      clear hP13 hD13 hS13
      refine lv_aload_n hx hb dX9_fresh_31 rfl (lv_at hl12 1 rfl) ?_
      refine kget F hK hP14 9 0 5 iX9 rfl rfl (by decide) (List.mem_of_getElem? (i := 3) rfl) rfl dX9_fresh_32 ?_
      refine lv_iload_n hx hb dX9_fresh_35 rfl (lv_at hl12 2 rfl) ?_
      refine lv_iconst (v := 1) hx hb dX9_fresh_36 (by decide) ?_
      refine kMst F hK hP14 hD14 hS14 5 6 1 rfl rfl (by decide) (Nat.le_of_ble_eq_true rfl) rfl dX9_fresh_37 (fun H15 locs15 σ15 eσ15 hP15 hD15 hS15 => ?_)
      clear hP14 hD14 hS14
      refine lv_iload_n hx hb dX9_fresh_38 rfl (lv_at hl12 0 rfl) ?_
      have q16 : ((σ 3 1) = (mfresh σ 1).1) ∧ (σ15 = (mfresh σ 1).2) := by
        subst eσ15
        subst eσ14
        subst eσ13
        first | (simp only [mfresh, m3, kd10, c11, eq_self, ↓reduceIte, and_self, and_true, true_and]; done) | (simp only [mfresh, m3, kd10, c11, eq_self, ↓reduceIte, and_self, and_true, true_and]; (try and_intros) <;> rfl)
      exact kRi F hr hlocks hS15 dX9_fresh_39 σ15 q16 hP15 hD15
    · exact absurd c11 (by decide)
  · skip
    refine lv_iload_n hx hb dX9_fresh_0 rfl (lv_at hl0 1 rfl) ?_
    refine kPSi F hK hP0 hD0 hS0 hA hl0.1 (c_X9_isSide l G s) (fun _ => rfl) gX9_fresh_X9_isSide rfl 1 rfl (by decide +kernel) ⟨Nat.le_of_ble_eq_true rfl, Nat.le_of_ble_eq_true rfl⟩ ⟨Nat.zero_le _, Nat.zero_le _⟩ (Nat.le_of_ble_eq_true rfl) rfl dX9_fresh_1 (fun r17 u17 H18 locs18 hw17 (hP18 : va_P G.1 vwCl (mW G h a σ) H18) (hD18 : va_D A (mW G h a σ)) hS18 => ?_)
    clear hP0 hD0 hS0
    have w17_0 : r17 = kinL s.toInt64 0 1 := hw17
    have g17 : r17 = 0 := w17_0.trans (kside_no hs0 hs1)
    clear w17_0
    subst g17
    refine lv_if_ne (tgt := 10) hx hb dX9_fresh_4 (by decide) (fun c19 => ?_) (fun c19 => ?_)
    · exact absurd (by decide) c19
    · refine lv_bipush (v := (-2)) hx hb dX9_fresh_7 (by decide) ?_
      have q20 : ((-2) = (mfresh σ s).1) ∧ (σ = (mfresh σ s).2) := by
        first | (simp only [mfresh, m3, kd10, hs0, hs1, eq_true c19, eq_self, ↓reduceIte, and_self, and_true, true_and]; done) | (simp only [mfresh, m3, kd10, hs0, hs1, eq_true c19, eq_self, ↓reduceIte, and_self, and_true, true_and]; (try and_intros) <;> rfl)
      exact kRi F hr hlocks hS18 dX9_fresh_9 σ q20 hP18 hD18
set_option maxHeartbeats 1000000 in
set_option maxRecDepth 100000 in
theorem c_X9_pass (l : Launch) (G : kG) (h : Nat) (a : Nat → Nat) (σ : kS) (n : Int32) : kM G l yX9_pass wsX9_pass ({ frames := 1, cells := 0, slots := 0, locals := 25 }) [.ref h, .int n] (mW G h a σ) (kQi G (fun (rr : Int32) (uu : kS) => (rr = (mpass σ n).1) ∧ (uu = (mpass σ n).2)) (fun (uu : kS) => mW G h a uu)) := by
  refine kStart (cc := cX9_pass) (maxL := 2) (ret := (some .int)) (by decide) rfl (Nat.le_of_ble_eq_true rfl) (fun pg ev st mi bl mt cd A ls0 F hr hlocks hin hK hP0 hD0 hA hS0 hl0 => ?_)
  obtain ⟨hx, hb, hml, hown, hts⟩ := id F
  have hl0 : lv_has ls0 2 [(0, .ref h), (1, .int n)] := hl0
  have iX9 : ∀ w ∈ u_ws RX9 TX9 43, w ∈ wsX9_pass := fun w h => List.mem_cons_of_mem _ (List.mem_append_right _ h)
  refine lv_iload_n hx hb dX9_pass_0 rfl (lv_at hl0 1 rfl) ?_
  refine lv_i2l (v := n.toInt64) hx hb dX9_pass_1 rfl ?_
  refine lv_lconst (v := 1) hx hb dX9_pass_2 (by decide) ?_
  refine lv_ldc2 (v := 99) hx hb hown (hts _ (List.mem_of_getElem? (i := 1) rfl)) dX9_pass_3 ?_
  refine kPSi F hK hP0 hD0 hS0 hA hl0.1 (c_X9_in l G n.toInt64 1 99) (fun _ => rfl) gX9_pass_X9_in rfl 3 rfl (by decide +kernel) ⟨Nat.le_of_ble_eq_true rfl, Nat.le_of_ble_eq_true rfl⟩ ⟨Nat.zero_le _, Nat.zero_le _⟩ (Nat.le_of_ble_eq_true rfl) rfl dX9_pass_6 (fun r1 u1 H2 locs2 hw1 (hP2 : va_P G.1 vwCl (mW G h a σ) H2) (hD2 : va_D A (mW G h a σ)) hS2 => ?_)
  clear hP0 hD0 hS0
  have w1_0 : r1 = kinL n.toInt64 1 99 := hw1
  refine lv_if_ne (tgt := 15) hx hb dX9_pass_9 (by decide) (fun c3 => ?_) (fun c3 => ?_)
  · refine lv_aload_n hx hb dX9_pass_15 rfl (lv_at hl0 0 rfl) ?_
    refine lv_dup hx hb dX9_pass_16 rfl ?_
    refine kget F hK hP2 9 0 14 iX9 rfl rfl (by decide) (List.mem_of_getElem? (i := 2) rfl) rfl dX9_pass_17 ?_
    refine lv_iload_n hx hb dX9_pass_20 rfl (lv_at hl0 1 rfl) ?_
    refine lv_iadd hx hb dX9_pass_21 ?_
    refine kMput F hK hP2 hD2 hS2 14 iX9 rfl (by decide) (List.mem_of_getElem? (i := 2) rfl) rfl rfl rfl (Nat.le_of_ble_eq_true rfl) rfl dX9_pass_22 (fun H4 locs4 σ4 eσ4 hP4 hD4 hS4 => ?_)
    clear hP2 hD2 hS2
    refine lv_aload_n hx hb dX9_pass_25 rfl (lv_at hl0 0 rfl) ?_
    refine kget F hK hP4 9 0 14 iX9 rfl rfl (by decide) (List.mem_of_getElem? (i := 2) rfl) rfl dX9_pass_26 ?_
    rw [show (σ4 14 0) = ((σ 14 0) + n) from by subst eσ4; first | rfl | (simp only [msend]; (repeat' split) <;> rfl)]
    have q5 : (((σ 14 0) + n) = (mpass σ n).1) ∧ (σ4 = (mpass σ n).2) := by
      subst eσ4
      subst w1_0
      first | (simp only [mpass, c3, eq_self, ↓reduceIte, and_self, and_true, true_and]; done) | (simp only [mpass, c3, eq_self, ↓reduceIte, and_self, and_true, true_and]; (try and_intros) <;> rfl)
    exact kRi F hr hlocks hS4 dX9_pass_29 σ4 q5 hP4 hD4
  · refine lv_bipush (v := (-3)) hx hb dX9_pass_12 (by decide) ?_
    have q6 : ((-3) = (mpass σ n).1) ∧ (σ = (mpass σ n).2) := by
      subst w1_0
      first | (simp only [mpass, eq_true c3, eq_self, ↓reduceIte, and_self, and_true, true_and]; done) | (simp only [mpass, eq_true c3, eq_self, ↓reduceIte, and_self, and_true, true_and]; (try and_intros) <;> rfl)
    exact kRi F hr hlocks hS2 dX9_pass_14 σ q6 hP2 hD2
set_option maxHeartbeats 1000000 in
set_option maxRecDepth 100000 in
theorem c_X9_drop (l : Launch) (G : kG) (h : Nat) (a : Nat → Nat) (σ : kS) (s : Int32) : kM G l yX9_drop wsX9_drop ({ frames := 2, cells := 0, slots := 0, locals := 45 }) [.ref h, .int s] (mW G h a σ) (kQi G (fun (rr : Int32) (uu : kS) => (rr = (mdropR σ s).1) ∧ (uu = (mdropR σ s).2)) (fun (uu : kS) => mW G h a uu)) := by
  refine kStart (cc := cX9_drop) (maxL := 2) (ret := (some .int)) (by decide) rfl (Nat.le_of_ble_eq_true rfl) (fun pg ev st mi bl mt cd A ls0 F hr hlocks hin hK hP0 hD0 hA hS0 hl0 => ?_)
  obtain ⟨hx, hb, hml, hown, hts⟩ := id F
  have hl0 : lv_has ls0 2 [(0, .ref h), (1, .int s)] := hl0
  have iX9 : ∀ w ∈ u_ws RX9 TX9 43, w ∈ wsX9_drop := fun w h => List.mem_cons_of_mem _ (List.mem_append_right _ h)
  rcases k_sides s with rfl | rfl | ⟨hs0, hs1⟩
  · skip
    refine lv_iload_n hx hb dX9_drop_0 rfl (lv_at hl0 1 rfl) ?_
    refine kPSi F hK hP0 hD0 hS0 hA hl0.1 (c_X9_isSide l G 0) (fun _ => rfl) gX9_drop_X9_isSide rfl 1 rfl (by decide +kernel) ⟨Nat.le_of_ble_eq_true rfl, Nat.le_of_ble_eq_true rfl⟩ ⟨Nat.zero_le _, Nat.zero_le _⟩ (Nat.le_of_ble_eq_true rfl) rfl dX9_drop_1 (fun r1 u1 H2 locs2 hw1 (hP2 : va_P G.1 vwCl (mW G h a σ) H2) (hD2 : va_D A (mW G h a σ)) hS2 => ?_)
    clear hP0 hD0 hS0
    have w1_0 : r1 = kinL (0 : Int32).toInt64 0 1 := hw1
    have g1 : r1 = 1 := w1_0.trans kside_0
    clear w1_0
    subst g1
    refine lv_if_ne (tgt := 10) hx hb dX9_drop_4 (by decide) (fun c3 => ?_) (fun c3 => ?_)
    · refine lv_aload_n hx hb dX9_drop_10 rfl (lv_at hl0 0 rfl) ?_
      refine kget F hK hP2 9 0 26 iX9 rfl rfl (by decide) (List.mem_of_getElem? (i := 1) rfl) rfl dX9_drop_11 ?_
      refine lv_iload_n hx hb dX9_drop_14 rfl (lv_at hl0 1 rfl) ?_
      refine kild F hK hP2 17 0 rfl rfl (by decide) (Nat.le_of_ble_eq_true rfl) dX9_drop_15 ?_
      refine lv_if_ne (tgt := 22) hx hb dX9_drop_16 (by decide) (fun c4 => ?_) (fun c4 => ?_)
      · refine lv_aload_n hx hb dX9_drop_22 rfl (lv_at hl0 0 rfl) ?_
        refine lv_iload_n hx hb dX9_drop_23 rfl (lv_at hl0 1 rfl) ?_
        refine kWVv F hK hP2 hD2 hS2 hA hl0.1 (c_X9_drops l G h a σ 0 (by first | assumption | decide | omega)) 9 0 gX9_drop_X9_drops rfl 1 rfl (by decide +kernel) ⟨Nat.le_of_ble_eq_true rfl, Nat.le_of_ble_eq_true rfl⟩ ⟨Nat.zero_le _, Nat.zero_le _⟩ rfl rfl (Nat.le_of_ble_eq_true rfl) rfl dX9_drop_24 (fun σ_5 H6 locs6 hw5 (hP6 : va_P G.1 vwCl (mW G h a σ_5) H6) (hD6 : va_D A (mW G h a σ_5)) hS6 => ?_)
        clear hP2 hD2 hS2
        have w5_0 : σ_5 = mdrop σ 0 := hw5
        refine lv_aload_n hx hb dX9_drop_27 rfl (lv_at hl0 0 rfl) ?_
        refine kget F hK hP6 9 0 26 iX9 rfl rfl (by decide) (List.mem_of_getElem? (i := 1) rfl) rfl dX9_drop_28 ?_
        refine lv_iload_n hx hb dX9_drop_31 rfl (lv_at hl0 1 rfl) ?_
        refine kild F hK hP6 17 0 rfl rfl (by decide) (Nat.le_of_ble_eq_true rfl) dX9_drop_32 ?_
        have q7 : ((σ_5 26 0) = (mdropR σ 0).1) ∧ (σ_5 = (mdropR σ 0).2) := by
          subst w5_0
          first | (simp only [mdropR, m3, kd10, c3, c4, eq_self, ↓reduceIte, and_self, and_true, true_and]; done) | (simp only [mdropR, m3, kd10, c3, c4, eq_self, ↓reduceIte, and_self, and_true, true_and]; (try and_intros) <;> rfl)
        exact kRi F hr hlocks hS6 dX9_drop_33 σ_5 q7 hP6 hD6
      · refine lv_bipush (v := (-4)) hx hb dX9_drop_19 (by decide) ?_
        have q8 : ((-4) = (mdropR σ 0).1) ∧ (σ = (mdropR σ 0).2) := by
          first | (simp only [mdropR, m3, kd10, c3, eq_true c4, eq_self, ↓reduceIte, and_self, and_true, true_and]; done) | (simp only [mdropR, m3, kd10, c3, eq_true c4, eq_self, ↓reduceIte, and_self, and_true, true_and]; (try and_intros) <;> rfl)
        exact kRi F hr hlocks hS2 dX9_drop_21 σ q8 hP2 hD2
    · exact absurd c3 (by decide)
  · skip
    refine lv_iload_n hx hb dX9_drop_0 rfl (lv_at hl0 1 rfl) ?_
    refine kPSi F hK hP0 hD0 hS0 hA hl0.1 (c_X9_isSide l G 1) (fun _ => rfl) gX9_drop_X9_isSide rfl 1 rfl (by decide +kernel) ⟨Nat.le_of_ble_eq_true rfl, Nat.le_of_ble_eq_true rfl⟩ ⟨Nat.zero_le _, Nat.zero_le _⟩ (Nat.le_of_ble_eq_true rfl) rfl dX9_drop_1 (fun r9 u9 H10 locs10 hw9 (hP10 : va_P G.1 vwCl (mW G h a σ) H10) (hD10 : va_D A (mW G h a σ)) hS10 => ?_)
    clear hP0 hD0 hS0
    have w9_0 : r9 = kinL (1 : Int32).toInt64 0 1 := hw9
    have g9 : r9 = 1 := w9_0.trans kside_1
    clear w9_0
    subst g9
    refine lv_if_ne (tgt := 10) hx hb dX9_drop_4 (by decide) (fun c11 => ?_) (fun c11 => ?_)
    · refine lv_aload_n hx hb dX9_drop_10 rfl (lv_at hl0 0 rfl) ?_
      refine kget F hK hP10 9 0 26 iX9 rfl rfl (by decide) (List.mem_of_getElem? (i := 1) rfl) rfl dX9_drop_11 ?_
      refine lv_iload_n hx hb dX9_drop_14 rfl (lv_at hl0 1 rfl) ?_
      refine kild F hK hP10 17 1 rfl rfl (by decide) (Nat.le_of_ble_eq_true rfl) dX9_drop_15 ?_
      refine lv_if_ne (tgt := 22) hx hb dX9_drop_16 (by decide) (fun c12 => ?_) (fun c12 => ?_)
      · refine lv_aload_n hx hb dX9_drop_22 rfl (lv_at hl0 0 rfl) ?_
        refine lv_iload_n hx hb dX9_drop_23 rfl (lv_at hl0 1 rfl) ?_
        refine kWVv F hK hP10 hD10 hS10 hA hl0.1 (c_X9_drops l G h a σ 1 (by first | assumption | decide | omega)) 9 0 gX9_drop_X9_drops rfl 1 rfl (by decide +kernel) ⟨Nat.le_of_ble_eq_true rfl, Nat.le_of_ble_eq_true rfl⟩ ⟨Nat.zero_le _, Nat.zero_le _⟩ rfl rfl (Nat.le_of_ble_eq_true rfl) rfl dX9_drop_24 (fun σ_13 H14 locs14 hw13 (hP14 : va_P G.1 vwCl (mW G h a σ_13) H14) (hD14 : va_D A (mW G h a σ_13)) hS14 => ?_)
        clear hP10 hD10 hS10
        have w13_0 : σ_13 = mdrop σ 1 := hw13
        refine lv_aload_n hx hb dX9_drop_27 rfl (lv_at hl0 0 rfl) ?_
        refine kget F hK hP14 9 0 26 iX9 rfl rfl (by decide) (List.mem_of_getElem? (i := 1) rfl) rfl dX9_drop_28 ?_
        refine lv_iload_n hx hb dX9_drop_31 rfl (lv_at hl0 1 rfl) ?_
        refine kild F hK hP14 17 1 rfl rfl (by decide) (Nat.le_of_ble_eq_true rfl) dX9_drop_32 ?_
        have q15 : ((σ_13 26 1) = (mdropR σ 1).1) ∧ (σ_13 = (mdropR σ 1).2) := by
          subst w13_0
          first | (simp only [mdropR, m3, kd10, c11, c12, eq_self, ↓reduceIte, and_self, and_true, true_and]; done) | (simp only [mdropR, m3, kd10, c11, c12, eq_self, ↓reduceIte, and_self, and_true, true_and]; (try and_intros) <;> rfl)
        exact kRi F hr hlocks hS14 dX9_drop_33 σ_13 q15 hP14 hD14
      · refine lv_bipush (v := (-4)) hx hb dX9_drop_19 (by decide) ?_
        have q16 : ((-4) = (mdropR σ 1).1) ∧ (σ = (mdropR σ 1).2) := by
          first | (simp only [mdropR, m3, kd10, c11, eq_true c12, eq_self, ↓reduceIte, and_self, and_true, true_and]; done) | (simp only [mdropR, m3, kd10, c11, eq_true c12, eq_self, ↓reduceIte, and_self, and_true, true_and]; (try and_intros) <;> rfl)
        exact kRi F hr hlocks hS10 dX9_drop_21 σ q16 hP10 hD10
    · exact absurd c11 (by decide)
  · skip
    refine lv_iload_n hx hb dX9_drop_0 rfl (lv_at hl0 1 rfl) ?_
    refine kPSi F hK hP0 hD0 hS0 hA hl0.1 (c_X9_isSide l G s) (fun _ => rfl) gX9_drop_X9_isSide rfl 1 rfl (by decide +kernel) ⟨Nat.le_of_ble_eq_true rfl, Nat.le_of_ble_eq_true rfl⟩ ⟨Nat.zero_le _, Nat.zero_le _⟩ (Nat.le_of_ble_eq_true rfl) rfl dX9_drop_1 (fun r17 u17 H18 locs18 hw17 (hP18 : va_P G.1 vwCl (mW G h a σ) H18) (hD18 : va_D A (mW G h a σ)) hS18 => ?_)
    clear hP0 hD0 hS0
    have w17_0 : r17 = kinL s.toInt64 0 1 := hw17
    have g17 : r17 = 0 := w17_0.trans (kside_no hs0 hs1)
    clear w17_0
    subst g17
    refine lv_if_ne (tgt := 10) hx hb dX9_drop_4 (by decide) (fun c19 => ?_) (fun c19 => ?_)
    · exact absurd (by decide) c19
    · refine lv_bipush (v := (-2)) hx hb dX9_drop_7 (by decide) ?_
      have q20 : ((-2) = (mdropR σ s).1) ∧ (σ = (mdropR σ s).2) := by
        first | (simp only [mdropR, m3, kd10, hs0, hs1, eq_true c19, eq_self, ↓reduceIte, and_self, and_true, true_and]; done) | (simp only [mdropR, m3, kd10, hs0, hs1, eq_true c19, eq_self, ↓reduceIte, and_self, and_true, true_and]; (try and_intros) <;> rfl)
      exact kRi F hr hlocks hS18 dX9_drop_9 σ q20 hP18 hD18
