set_option maxHeartbeats 1000000 in
set_option maxRecDepth 100000 in
theorem c_X9_fetches (l : Launch) (G : kG) (h : Nat) (a : Nat → Nat) (σ : kS) (sd : Nat) (hsd : sd < 2) : kM G l yX9_fetches wsX9_fetches ({ frames := 0, cells := 0, slots := 0, locals := 0 }) [.ref h, .int (nI sd)] (mW G h a σ) (kQv G (fun (uu : kS) => uu = mfetch σ sd) (fun (uu : kS) => mW G h a uu)) := by
  refine kStart (cc := cX9_fetches) (maxL := 3) (ret := none) (by decide) rfl (Nat.le_of_ble_eq_true rfl) (fun pg ev st mi bl mt cd A ls0 F hr hlocks hin hK hP0 hD0 hA hS0 hl0 => ?_)
  obtain ⟨hx, hb, hml, hown, hts⟩ := id F
  have hl0 : lv_has ls0 3 [(0, .ref h), (1, .int (nI sd))] := hl0
  have iX9 : ∀ w ∈ u_ws RX9 TX9 43, w ∈ wsX9_fetches := fun w h => List.mem_cons_of_mem _ (List.mem_append_right _ h)
  refine lv_iconst (v := 0) hx hb dX9_fetches_0 (by decide) ?_
  refine lv_istore_n (lv' := [(2, .int 0), (0, .ref h), (1, .int (nI sd))]) hx hb dX9_fetches_1 rfl hl0 (by decide) rfl (fun ls1 hl1 => ?_)
  clear hl0
  have LOOP2 : ∀ (fu k : Nat), k ≤ 9 → 9 + 1 ≤ k + fu → ∀ σ2 : kS, σ2 = va_up σ 29 (kcpy (σ 29) (fun k => σ 27 (72 * sd + k)) k) → ∀ (H2 : Heap) (locs2 : List Loc) (ls2 : Array Slot), lv_has ls2 3 [(2, .int (nI k)), (0, .ref h), (1, .int (nI sd))] → va_P G.1 vwCl (mW G h a σ2) H2 → va_D A (mW G h a σ2) → va_S A st.heap H2 locs2 → W pg l ev ({ frames := 0, cells := 0, slots := 0, locals := 0 }) st mi ([.ref h, .int (nI sd)] : List Value).toArray bl mt cd H2 locs2 0 0 (MQ bl (kQv G (fun (uu : kS) => uu = mfetch σ sd) (fun (uu : kS) => mW G h a uu) A) ([.ref h, .int (nI sd)] : List Value).toArray st 0 0 A) (F0 mi 2 ls2 []) := by
    intro fu
    induction fu with
    | zero => intro k h1 h2; exact absurd h2 (by omega)
    | succ fu ih =>
      intro k hk hnk σ2 eσ2 H2 locs2 ls2 hl2 hP2 hD2 hS2
      refine lv_iload_n hx hb dX9_fetches_2 rfl (lv_at hl2 0 rfl) ?_
      refine lv_bipush (v := 9) hx hb dX9_fetches_3 (by decide) ?_
      refine lv_icmp_ge (tgt := 31) hx hb dX9_fetches_5 (by decide) (fun c3 => ?_) (fun c3 => ?_)
      · have xk : k = 9 := k_exit (N := 9) hk (by decide) c3
        subst xk
        clear c3
        have q4 : σ2 = mfetch σ sd := by
          subst eσ2
          first | rfl | (simp only [↓reduceIte]; done) | (simp []; done)
        exact kRv F hr hlocks hS2 dX9_fetches_31 σ2 q4 hP2 hD2
      · have lk : k < 9 := k_body (N := 9) hk (by decide) c3
        refine lv_aload_n hx hb dX9_fetches_8 rfl (lv_at hl2 1 rfl) ?_
        refine kget F hK hP2 9 0 29 iX9 rfl rfl (by decide) (List.mem_of_getElem? (i := 1) rfl) rfl dX9_fetches_9 ?_
        refine lv_iload_n hx hb dX9_fetches_12 rfl (lv_at hl2 0 rfl) ?_
        refine lv_aload_n hx hb dX9_fetches_13 rfl (lv_at hl2 1 rfl) ?_
        refine kget F hK hP2 9 0 27 iX9 rfl rfl (by decide) (List.mem_of_getElem? (i := 2) rfl) rfl dX9_fetches_14 ?_
        refine lv_bipush (v := 72) hx hb dX9_fetches_17 (by decide) ?_
        refine lv_iload_n hx hb dX9_fetches_19 rfl (lv_at hl2 2 rfl) ?_
        refine lv_imul hx hb dX9_fetches_20 ?_
        refine lv_iload_n hx hb dX9_fetches_21 rfl (lv_at hl2 0 rfl) ?_
        refine lv_iadd hx hb dX9_fetches_22 ?_
        refine kild F hK hP2 18 (72 * sd + k) rfl mix_w (by omega) (Nat.le_of_ble_eq_true rfl) dX9_fetches_23 ?_
        refine kMst F hK hP2 hD2 hS2 29 20 k rfl rfl (by omega) (Nat.le_of_ble_eq_true rfl) rfl dX9_fetches_24 (fun H5 locs5 σ5 eσ5 hP5 hD5 hS5 => ?_)
        clear hP2 hD2 hS2
        refine lv_iinc (v := nI (k + 1)) (lv' := [(2, .int (nI (k + 1))), (0, .ref h), (1, .int (nI sd))]) hx hb dX9_fetches_25 hl2 (k := 0) rfl (nI_1 _) (by decide) rfl (fun ls6 hl6 => ?_)
        clear hl2
        refine lv_goto (tgt := 2) hx hb dX9_fetches_28 (by decide) ?_
        exact ih (k + 1) (by omega) (by omega) σ5 (by subst eσ5; subst eσ2; exact su_up _ _ _ _ _)  _ _ _ hl6 hP5 hD5 hS5
  exact LOOP2 (9 + 1) 0 (by omega) (by omega) σ (va_upid _ _).symm  _ _ _ hl1 hP0 hD0 hS0
set_option maxHeartbeats 1000000 in
set_option maxRecDepth 100000 in
theorem c_X9_step (l : Launch) (G : kG) (h : Nat) (a : Nat → Nat) (σ : kS) (s : Int32) (S : Nat → Nat) (Mn : Nat → Nat) (E : Nat) (K : Nat) (ok : mOK σ S Mn E K) : kM G l yX9_step wsX9_step ({ frames := 6, cells := 0, slots := 0, locals := 143 }) [.ref h, .int s] (mW G h a σ) (kQi G (fun (rr : Int32) (uu : kS) => (rr = (mstep σ s S Mn E K).1) ∧ (uu = (mstep σ s S Mn E K).2)) (fun (uu : kS) => mW G h a uu)) := by
  refine kStart (cc := cX9_step) (maxL := 3) (ret := (some .int)) (by decide) rfl (Nat.le_of_ble_eq_true rfl) (fun pg ev st mi bl mt cd A ls0 F hr hlocks hin hK hP0 hD0 hA hS0 hl0 => ?_)
  obtain ⟨hx, hb, hml, hown, hts⟩ := id F
  have hl0 : lv_has ls0 3 [(0, .ref h), (1, .int s)] := hl0
  have iX9 : ∀ w ∈ u_ws RX9 TX9 43, w ∈ wsX9_step := fun w h => List.mem_cons_of_mem _ (List.mem_append_right _ h)
  rcases k_sides s with rfl | rfl | ⟨hs0, hs1⟩
  · skip
    refine lv_iload_n hx hb dX9_step_0 rfl (lv_at hl0 1 rfl) ?_
    refine kPSi F hK hP0 hD0 hS0 hA hl0.1 (c_X9_isSide l G 0) (fun _ => rfl) gX9_step_X9_isSide rfl 1 rfl (by decide +kernel) ⟨Nat.le_of_ble_eq_true rfl, Nat.le_of_ble_eq_true rfl⟩ ⟨Nat.zero_le _, Nat.zero_le _⟩ (Nat.le_of_ble_eq_true rfl) rfl dX9_step_1 (fun r1 u1 H2 locs2 hw1 (hP2 : va_P G.1 vwCl (mW G h a σ) H2) (hD2 : va_D A (mW G h a σ)) hS2 => ?_)
    clear hP0 hD0 hS0
    have w1_0 : r1 = kinL (0 : Int32).toInt64 0 1 := hw1
    have g1 : r1 = 1 := w1_0.trans kside_0
    clear w1_0
    subst g1
    refine lv_if_ne (tgt := 10) hx hb dX9_step_4 (by decide) (fun c3 => ?_) (fun c3 => ?_)
    · refine lv_aload_n hx hb dX9_step_10 rfl (lv_at hl0 0 rfl) ?_
      refine kget F hK hP2 9 0 26 iX9 rfl rfl (by decide) (List.mem_of_getElem? (i := 1) rfl) rfl dX9_step_11 ?_
      refine lv_iload_n hx hb dX9_step_14 rfl (lv_at hl0 1 rfl) ?_
      refine kild F hK hP2 17 0 rfl rfl (by decide) (Nat.le_of_ble_eq_true rfl) dX9_step_15 ?_
      refine lv_if_ne (tgt := 22) hx hb dX9_step_16 (by decide) (fun c4 => ?_) (fun c4 => ?_)
      · refine lv_aload_n hx hb dX9_step_22 rfl (lv_at hl0 0 rfl) ?_
        refine lv_iload_n hx hb dX9_step_23 rfl (lv_at hl0 1 rfl) ?_
        refine kWVv F hK hP2 hD2 hS2 hA hl0.1 (c_X9_fetches l G h a σ 0 (by first | assumption | decide | omega)) 9 0 gX9_step_X9_fetches rfl 1 rfl (by decide +kernel) ⟨Nat.le_of_ble_eq_true rfl, Nat.le_of_ble_eq_true rfl⟩ ⟨Nat.zero_le _, Nat.zero_le _⟩ rfl rfl (Nat.le_of_ble_eq_true rfl) rfl dX9_step_24 (fun σ_5 H6 locs6 hw5 (hP6 : va_P G.1 vwCl (mW G h a σ_5) H6) (hD6 : va_D A (mW G h a σ_5)) hS6 => ?_)
        clear hP2 hD2 hS2
        have w5_0 : σ_5 = mfetch σ 0 := hw5
        refine lv_aload_n hx hb dX9_step_27 rfl (lv_at hl0 0 rfl) ?_
        refine lv_iload_n hx hb dX9_step_28 rfl (lv_at hl0 1 rfl) ?_
        refine kWVv F hK hP6 hD6 hS6 hA hl0.1 (c_X9_drops l G h a σ_5 0 (by first | assumption | decide | omega)) 9 0 gX9_step_X9_drops rfl 1 rfl (by decide +kernel) ⟨Nat.le_of_ble_eq_true rfl, Nat.le_of_ble_eq_true rfl⟩ ⟨Nat.zero_le _, Nat.zero_le _⟩ rfl rfl (Nat.le_of_ble_eq_true rfl) rfl dX9_step_29 (fun σ_7 H8 locs8 hw7 (hP8 : va_P G.1 vwCl (mW G h a σ_7) H8) (hD8 : va_D A (mW G h a σ_7)) hS8 => ?_)
        clear hP6 hD6 hS6
        have w7_0 : σ_7 = mdrop σ_5 0 := hw7
        refine lv_aload_n hx hb dX9_step_32 rfl (lv_at hl0 0 rfl) ?_
        refine kget F hK hP8 9 0 29 iX9 rfl rfl (by decide) (List.mem_of_getElem? (i := 2) rfl) rfl dX9_step_33 ?_
        refine lv_iconst (v := 0) hx hb dX9_step_36 (by decide) ?_
        refine kild F hK hP8 20 0 rfl rfl (by decide) (Nat.le_of_ble_eq_true rfl) dX9_step_37 ?_
        rw [show (σ_7 29 0) = (σ_5 29 0) from by subst w7_0; subst w5_0; first | rfl | (simp only [msend]; (repeat' split) <;> rfl)]
        refine lv_istore_n (lv' := [(2, .int (σ_5 29 0)), (0, .ref h), (1, .int 0)]) hx hb dX9_step_38 rfl hl0 (by decide) rfl (fun ls9 hl9 => ?_)
        clear hl0
        refine lv_aload_n hx hb dX9_step_39 rfl (lv_at hl9 1 rfl) ?_
        refine lv_iload_n hx hb dX9_step_40 rfl (lv_at hl9 2 rfl) ?_
        refine kWVv F hK hP8 hD8 hS8 hA hl9.1 (c_X9_comes0 l G h a σ_7 (S 0) (Mn 1) (by subst w7_0; subst w5_0; exact (ok.1 0 (by decide)).1) (Nat.le_trans (ok.1 0 (by decide)).2 (by decide)) (by subst w7_0; subst w5_0; exact (ok.2.1 1 (by decide)).1) ((ok.2.1 1 (by decide)).2)) 9 0 gX9_step_X9_comes rfl 1 rfl (by decide +kernel) ⟨Nat.le_of_ble_eq_true rfl, Nat.le_of_ble_eq_true rfl⟩ ⟨Nat.zero_le _, Nat.zero_le _⟩ rfl rfl (Nat.le_of_ble_eq_true rfl) rfl dX9_step_41 (fun σ_10 H11 locs11 hw10 (hP11 : va_P G.1 vwCl (mW G h a σ_10) H11) (hD11 : va_D A (mW G h a σ_10)) hS11 => ?_)
        clear hP8 hD8 hS8
        have w10_0 : σ_10 = mcomes0 σ_7 (S 0) (Mn 1) := hw10
        refine lv_iload_n hx hb dX9_step_44 rfl (lv_at hl9 0 rfl) ?_
        have q12 : ((σ_5 29 0) = (mstep σ 0 S Mn E K).1) ∧ (σ_10 = (mstep σ 0 S Mn E K).2) := by
          subst w10_0
          subst w7_0
          subst w5_0
          first | (simp only [mstep, kd10, c3, c4, eq_self, ↓reduceIte, and_self, and_true, true_and]; done) | (simp only [mstep, kd10, c3, c4, eq_self, ↓reduceIte, and_self, and_true, true_and]; (try and_intros) <;> rfl)
        exact kRi F hr hlocks hS11 dX9_step_45 σ_10 q12 hP11 hD11
      · refine lv_bipush (v := (-4)) hx hb dX9_step_19 (by decide) ?_
        have q13 : ((-4) = (mstep σ 0 S Mn E K).1) ∧ (σ = (mstep σ 0 S Mn E K).2) := by
          first | (simp only [mstep, kd10, c3, eq_true c4, eq_self, ↓reduceIte, and_self, and_true, true_and]; done) | (simp only [mstep, kd10, c3, eq_true c4, eq_self, ↓reduceIte, and_self, and_true, true_and]; (try and_intros) <;> rfl)
        exact kRi F hr hlocks hS2 dX9_step_21 σ q13 hP2 hD2
    · exact absurd c3 (by decide)
  · skip
    refine lv_iload_n hx hb dX9_step_0 rfl (lv_at hl0 1 rfl) ?_
    refine kPSi F hK hP0 hD0 hS0 hA hl0.1 (c_X9_isSide l G 1) (fun _ => rfl) gX9_step_X9_isSide rfl 1 rfl (by decide +kernel) ⟨Nat.le_of_ble_eq_true rfl, Nat.le_of_ble_eq_true rfl⟩ ⟨Nat.zero_le _, Nat.zero_le _⟩ (Nat.le_of_ble_eq_true rfl) rfl dX9_step_1 (fun r14 u14 H15 locs15 hw14 (hP15 : va_P G.1 vwCl (mW G h a σ) H15) (hD15 : va_D A (mW G h a σ)) hS15 => ?_)
    clear hP0 hD0 hS0
    have w14_0 : r14 = kinL (1 : Int32).toInt64 0 1 := hw14
    have g14 : r14 = 1 := w14_0.trans kside_1
    clear w14_0
    subst g14
    refine lv_if_ne (tgt := 10) hx hb dX9_step_4 (by decide) (fun c16 => ?_) (fun c16 => ?_)
    · refine lv_aload_n hx hb dX9_step_10 rfl (lv_at hl0 0 rfl) ?_
      refine kget F hK hP15 9 0 26 iX9 rfl rfl (by decide) (List.mem_of_getElem? (i := 1) rfl) rfl dX9_step_11 ?_
      refine lv_iload_n hx hb dX9_step_14 rfl (lv_at hl0 1 rfl) ?_
      refine kild F hK hP15 17 1 rfl rfl (by decide) (Nat.le_of_ble_eq_true rfl) dX9_step_15 ?_
      refine lv_if_ne (tgt := 22) hx hb dX9_step_16 (by decide) (fun c17 => ?_) (fun c17 => ?_)
      · refine lv_aload_n hx hb dX9_step_22 rfl (lv_at hl0 0 rfl) ?_
        refine lv_iload_n hx hb dX9_step_23 rfl (lv_at hl0 1 rfl) ?_
        refine kWVv F hK hP15 hD15 hS15 hA hl0.1 (c_X9_fetches l G h a σ 1 (by first | assumption | decide | omega)) 9 0 gX9_step_X9_fetches rfl 1 rfl (by decide +kernel) ⟨Nat.le_of_ble_eq_true rfl, Nat.le_of_ble_eq_true rfl⟩ ⟨Nat.zero_le _, Nat.zero_le _⟩ rfl rfl (Nat.le_of_ble_eq_true rfl) rfl dX9_step_24 (fun σ_18 H19 locs19 hw18 (hP19 : va_P G.1 vwCl (mW G h a σ_18) H19) (hD19 : va_D A (mW G h a σ_18)) hS19 => ?_)
        clear hP15 hD15 hS15
        have w18_0 : σ_18 = mfetch σ 1 := hw18
        refine lv_aload_n hx hb dX9_step_27 rfl (lv_at hl0 0 rfl) ?_
        refine lv_iload_n hx hb dX9_step_28 rfl (lv_at hl0 1 rfl) ?_
        refine kWVv F hK hP19 hD19 hS19 hA hl0.1 (c_X9_drops l G h a σ_18 1 (by first | assumption | decide | omega)) 9 0 gX9_step_X9_drops rfl 1 rfl (by decide +kernel) ⟨Nat.le_of_ble_eq_true rfl, Nat.le_of_ble_eq_true rfl⟩ ⟨Nat.zero_le _, Nat.zero_le _⟩ rfl rfl (Nat.le_of_ble_eq_true rfl) rfl dX9_step_29 (fun σ_20 H21 locs21 hw20 (hP21 : va_P G.1 vwCl (mW G h a σ_20) H21) (hD21 : va_D A (mW G h a σ_20)) hS21 => ?_)
        clear hP19 hD19 hS19
        have w20_0 : σ_20 = mdrop σ_18 1 := hw20
        refine lv_aload_n hx hb dX9_step_32 rfl (lv_at hl0 0 rfl) ?_
        refine kget F hK hP21 9 0 29 iX9 rfl rfl (by decide) (List.mem_of_getElem? (i := 2) rfl) rfl dX9_step_33 ?_
        refine lv_iconst (v := 0) hx hb dX9_step_36 (by decide) ?_
        refine kild F hK hP21 20 0 rfl rfl (by decide) (Nat.le_of_ble_eq_true rfl) dX9_step_37 ?_
        rw [show (σ_20 29 0) = (σ_18 29 0) from by subst w20_0; subst w18_0; first | rfl | (simp only [msend]; (repeat' split) <;> rfl)]
        refine lv_istore_n (lv' := [(2, .int (σ_18 29 0)), (0, .ref h), (1, .int 1)]) hx hb dX9_step_38 rfl hl0 (by decide) rfl (fun ls22 hl22 => ?_)
        clear hl0
        refine lv_aload_n hx hb dX9_step_39 rfl (lv_at hl22 1 rfl) ?_
        refine lv_iload_n hx hb dX9_step_40 rfl (lv_at hl22 2 rfl) ?_
        refine kWVv F hK hP21 hD21 hS21 hA hl22.1 (c_X9_comes1 l G h a σ_20 (S 1) (Mn 0) E K (by subst w20_0; subst w18_0; exact ok.2.2.2.1.1) ok.2.2.2.1.2 (by subst w20_0; subst w18_0; exact ok.2.2.1.1) ok.2.2.1.2 (by subst w20_0; subst w18_0; exact (ok.1 1 (by decide)).1) (Nat.le_trans (ok.1 1 (by decide)).2 (by decide)) (by subst w20_0; subst w18_0; exact (ok.2.1 0 (by decide)).1) ((ok.2.1 0 (by decide)).2) (by subst w20_0; subst w18_0; exact ok.2.2.2.2)) 9 0 gX9_step_X9_comes rfl 1 rfl (by decide +kernel) ⟨Nat.le_of_ble_eq_true rfl, Nat.le_of_ble_eq_true rfl⟩ ⟨Nat.zero_le _, Nat.zero_le _⟩ rfl rfl (Nat.le_of_ble_eq_true rfl) rfl dX9_step_41 (fun σ_23 H24 locs24 hw23 (hP24 : va_P G.1 vwCl (mW G h a σ_23) H24) (hD24 : va_D A (mW G h a σ_23)) hS24 => ?_)
        clear hP21 hD21 hS21
        have w23_0 : σ_23 = mcomes1 σ_20 (S 1) (Mn 0) E K := hw23
        refine lv_iload_n hx hb dX9_step_44 rfl (lv_at hl22 0 rfl) ?_
        have q25 : ((σ_18 29 0) = (mstep σ 1 S Mn E K).1) ∧ (σ_23 = (mstep σ 1 S Mn E K).2) := by
          subst w23_0
          subst w20_0
          subst w18_0
          first | (simp only [mstep, kd10, c16, c17, eq_self, ↓reduceIte, and_self, and_true, true_and]; done) | (simp only [mstep, kd10, c16, c17, eq_self, ↓reduceIte, and_self, and_true, true_and]; (try and_intros) <;> rfl)
        exact kRi F hr hlocks hS24 dX9_step_45 σ_23 q25 hP24 hD24
      · refine lv_bipush (v := (-4)) hx hb dX9_step_19 (by decide) ?_
        have q26 : ((-4) = (mstep σ 1 S Mn E K).1) ∧ (σ = (mstep σ 1 S Mn E K).2) := by
          first | (simp only [mstep, kd10, c16, eq_true c17, eq_self, ↓reduceIte, and_self, and_true, true_and]; done) | (simp only [mstep, kd10, c16, eq_true c17, eq_self, ↓reduceIte, and_self, and_true, true_and]; (try and_intros) <;> rfl)
        exact kRi F hr hlocks hS15 dX9_step_21 σ q26 hP15 hD15
    · exact absurd c16 (by decide)
  · skip
    refine lv_iload_n hx hb dX9_step_0 rfl (lv_at hl0 1 rfl) ?_
    refine kPSi F hK hP0 hD0 hS0 hA hl0.1 (c_X9_isSide l G s) (fun _ => rfl) gX9_step_X9_isSide rfl 1 rfl (by decide +kernel) ⟨Nat.le_of_ble_eq_true rfl, Nat.le_of_ble_eq_true rfl⟩ ⟨Nat.zero_le _, Nat.zero_le _⟩ (Nat.le_of_ble_eq_true rfl) rfl dX9_step_1 (fun r27 u27 H28 locs28 hw27 (hP28 : va_P G.1 vwCl (mW G h a σ) H28) (hD28 : va_D A (mW G h a σ)) hS28 => ?_)
    clear hP0 hD0 hS0
    have w27_0 : r27 = kinL s.toInt64 0 1 := hw27
    have g27 : r27 = 0 := w27_0.trans (kside_no hs0 hs1)
    clear w27_0
    subst g27
    refine lv_if_ne (tgt := 10) hx hb dX9_step_4 (by decide) (fun c29 => ?_) (fun c29 => ?_)
    · exact absurd (by decide) c29
    · refine lv_bipush (v := (-2)) hx hb dX9_step_7 (by decide) ?_
      have q30 : ((-2) = (mstep σ s S Mn E K).1) ∧ (σ = (mstep σ s S Mn E K).2) := by
        first | (simp only [mstep, kd10, hs0, hs1, eq_true c29, eq_self, ↓reduceIte, and_self, and_true, true_and]; done) | (simp only [mstep, kd10, hs0, hs1, eq_true c29, eq_self, ↓reduceIte, and_self, and_true, true_and]; (try and_intros) <;> rfl)
      exact kRi F hr hlocks hS28 dX9_step_9 σ q30 hP28 hD28
set_option maxHeartbeats 1000000 in
set_option maxRecDepth 100000 in
theorem c_X9_say (l : Launch) (G : kG) (h : Nat) (a : Nat → Nat) (σ : kS) (s : Int32) (v : Int32) (S : Nat → Nat) (Mn : Nat → Nat) (E : Nat) (K : Nat) (ok : mOK σ S Mn E K) : kM G l yX9_say wsX9_say ({ frames := 3, cells := 0, slots := 0, locals := 65 }) [.ref h, .int s, .int v] (mW G h a σ) (kQi G (fun (rr : Int32) (uu : kS) => (rr = (msay σ s v Mn).1) ∧ (uu = (msay σ s v Mn).2)) (fun (uu : kS) => mW G h a uu)) := by
  refine kStart (cc := cX9_say) (maxL := 7) (ret := (some .int)) (by decide) rfl (Nat.le_of_ble_eq_true rfl) (fun pg ev st mi bl mt cd A ls0 F hr hlocks hin hK hP0 hD0 hA hS0 hl0 => ?_)
  obtain ⟨hx, hb, hml, hown, hts⟩ := id F
  have hl0 : lv_has ls0 7 [(0, .ref h), (1, .int s), (2, .int v)] := hl0
  have iX9 : ∀ w ∈ u_ws RX9 TX9 43, w ∈ wsX9_say := fun w h => List.mem_cons_of_mem _ (List.mem_append_right _ h)
  rcases k_sides s with rfl | rfl | ⟨hs0, hs1⟩
  · skip
    refine lv_iload_n hx hb dX9_say_0 rfl (lv_at hl0 1 rfl) ?_
    refine kPSi F hK hP0 hD0 hS0 hA hl0.1 (c_X9_isSide l G 0) (fun _ => rfl) gX9_say_X9_isSide rfl 1 rfl (by decide +kernel) ⟨Nat.le_of_ble_eq_true rfl, Nat.le_of_ble_eq_true rfl⟩ ⟨Nat.zero_le _, Nat.zero_le _⟩ (Nat.le_of_ble_eq_true rfl) rfl dX9_say_1 (fun r1 u1 H2 locs2 hw1 (hP2 : va_P G.1 vwCl (mW G h a σ) H2) (hD2 : va_D A (mW G h a σ)) hS2 => ?_)
    clear hP0 hD0 hS0
    have w1_0 : r1 = kinL (0 : Int32).toInt64 0 1 := hw1
    have g1 : r1 = 1 := w1_0.trans kside_0
    clear w1_0
    subst g1
    refine lv_if_ne (tgt := 10) hx hb dX9_say_4 (by decide) (fun c3 => ?_) (fun c3 => ?_)
    · refine lv_iload_n hx hb dX9_say_10 rfl (lv_at hl0 2 rfl) ?_
      refine lv_i2l (v := v.toInt64) hx hb dX9_say_11 rfl ?_
      refine lv_lconst (v := 0) hx hb dX9_say_12 (by decide) ?_
      refine lv_ldc2 (v := 999) hx hb hown (hts _ (List.mem_of_getElem? (i := 1) rfl)) dX9_say_13 ?_
      refine kPSi F hK hP2 hD2 hS2 hA hl0.1 (c_X9_in l G v.toInt64 0 999) (fun _ => rfl) gX9_say_X9_in rfl 3 rfl (by decide +kernel) ⟨Nat.le_of_ble_eq_true rfl, Nat.le_of_ble_eq_true rfl⟩ ⟨Nat.zero_le _, Nat.zero_le _⟩ (Nat.le_of_ble_eq_true rfl) rfl dX9_say_16 (fun r4 u4 H5 locs5 hw4 (hP5 : va_P G.1 vwCl (mW G h a σ) H5) (hD5 : va_D A (mW G h a σ)) hS5 => ?_)
      clear hP2 hD2 hS2
      have w4_0 : r4 = kinL v.toInt64 0 999 := hw4
      refine lv_if_ne (tgt := 25) hx hb dX9_say_19 (by decide) (fun c6 => ?_) (fun c6 => ?_)
      · refine lv_aload_n hx hb dX9_say_25 rfl (lv_at hl0 0 rfl) ?_
        refine kget F hK hP5 9 0 3 iX9 rfl rfl (by decide) (List.mem_of_getElem? (i := 2) rfl) rfl dX9_say_26 ?_
        refine lv_iload_n hx hb dX9_say_29 rfl (lv_at hl0 1 rfl) ?_
        refine kild F hK hP5 4 0 rfl rfl (by decide) (Nat.le_of_ble_eq_true rfl) dX9_say_30 ?_
        refine lv_iconst (v := 4) hx hb dX9_say_31 (by decide) ?_
        refine lv_icmp_eq (tgt := 38) hx hb dX9_say_32 (by decide) (fun c7 => ?_) (fun c7 => ?_)
        · refine lv_iconst (v := 1) hx hb dX9_say_38 (by decide) ?_
          refine lv_iload_n hx hb dX9_say_39 rfl (lv_at hl0 1 rfl) ?_
          refine lv_isub hx hb dX9_say_40 ?_
          rw [show (1 - 0 : Int32) = 1 from by decide]
          refine lv_istore_n (lv' := [(3, .int 1), (0, .ref h), (1, .int 0), (2, .int v)]) hx hb dX9_say_41 rfl hl0 (by decide) rfl (fun ls9 hl9 => ?_)
          clear hl0
          refine lv_aload_n hx hb dX9_say_42 rfl (lv_at hl9 1 rfl) ?_
          refine lv_iload_n hx hb dX9_say_43 rfl (lv_at hl9 2 rfl) ?_
          refine lv_iload_n hx hb dX9_say_44 rfl (lv_at hl9 0 rfl) ?_
          refine kWVi F hK hP5 hD5 hS5 hA hl9.1 (c_X9_lock l G h a σ 0 1 (by first | assumption | decide | omega) (by first | assumption | decide | omega)) 9 0 gX9_say_X9_lock rfl 2 rfl (by decide +kernel) ⟨Nat.le_of_ble_eq_true rfl, Nat.le_of_ble_eq_true rfl⟩ ⟨Nat.zero_le _, Nat.zero_le _⟩ rfl rfl (Nat.le_of_ble_eq_true rfl) rfl dX9_say_45 (fun r10 u10 H11 locs11 hw10 (hP11 : va_P G.1 vwCl (mW G h a σ) H11) (hD11 : va_D A (mW G h a σ)) hS11 => ?_)
          clear hP5 hD5 hS5
          have w10_0 : r10 = mlock σ 0 1 := hw10
          refine lv_istore (lv' := [(4, .int r10), (3, .int 1), (0, .ref h), (1, .int 0), (2, .int v)]) hx hb dX9_say_48 hl9 (by decide) rfl (fun ls12 hl12 => ?_)
          clear hl9
          refine lv_aload_n hx hb dX9_say_50 rfl (lv_at hl12 2 rfl) ?_
          refine kget F hK hP11 9 0 11 iX9 rfl rfl (by decide) (List.mem_of_getElem? (i := 3) rfl) rfl dX9_say_51 ?_
          refine lv_iconst (v := 2) hx hb dX9_say_54 (by decide) ?_
          refine lv_iload_n hx hb dX9_say_55 rfl (lv_at hl12 3 rfl) ?_
          refine lv_imul hx hb dX9_say_56 ?_
          rw [show (2 * 0 : Int32) = 0 from by decide]
          refine lv_iload_n hx hb dX9_say_57 rfl (lv_at hl12 1 rfl) ?_
          refine lv_iadd hx hb dX9_say_58 ?_
          rw [show (0 + 1 : Int32) = 1 from by decide]
          refine kild F hK hP11 12 1 rfl rfl (by decide) (Nat.le_of_ble_eq_true rfl) dX9_say_59 ?_
          refine lv_istore (lv' := [(5, .int (σ 11 1)), (4, .int r10), (3, .int 1), (0, .ref h), (1, .int 0), (2, .int v)]) hx hb dX9_say_60 hl12 (by decide) rfl (fun ls15 hl15 => ?_)
          clear hl12
          refine lv_aload_n hx hb dX9_say_62 rfl (lv_at hl15 3 rfl) ?_
          refine lv_bipush (v := 6) hx hb dX9_say_63 (by decide) ?_
          refine kWVv F hK hP11 hD11 hS11 hA hl15.1 (c_X9_clears l G h a σ 6) 9 0 gX9_say_X9_clears rfl 1 rfl (by decide +kernel) ⟨Nat.le_of_ble_eq_true rfl, Nat.le_of_ble_eq_true rfl⟩ ⟨Nat.zero_le _, Nat.zero_le _⟩ rfl rfl (Nat.le_of_ble_eq_true rfl) rfl dX9_say_65 (fun σ_16 H17 locs17 hw16 (hP17 : va_P G.1 vwCl (mW G h a σ_16) H17) (hD17 : va_D A (mW G h a σ_16)) hS17 => ?_)
          clear hP11 hD11 hS11
          have w16_0 : σ_16 = mclr σ 6 := hw16
          refine lv_aload_n hx hb dX9_say_68 rfl (lv_at hl15 3 rfl) ?_
          refine kget F hK hP17 9 0 29 iX9 rfl rfl (by decide) (List.mem_of_getElem? (i := 4) rfl) rfl dX9_say_69 ?_
          refine lv_iconst (v := 1) hx hb dX9_say_72 (by decide) ?_
          refine lv_iload_n hx hb dX9_say_73 rfl (lv_at hl15 5 rfl) ?_
          refine lv_iload hx hb dX9_say_74 (lv_at hl15 1 rfl) ?_
          refine lv_iload hx hb dX9_say_76 (lv_at hl15 0 rfl) ?_
          refine kPSi F hK hP17 hD17 hS17 hA hl15.1 (c_X9_mix l G r10 (σ 11 1)) (fun _ => rfl) gX9_say_X9_mix rfl 2 rfl (by decide +kernel) ⟨Nat.le_of_ble_eq_true rfl, Nat.le_of_ble_eq_true rfl⟩ ⟨Nat.zero_le _, Nat.zero_le _⟩ (Nat.le_of_ble_eq_true rfl) rfl dX9_say_78 (fun r18 u18 H19 locs19 hw18 (hP19 : va_P G.1 vwCl (mW G h a σ_16) H19) (hD19 : va_D A (mW G h a σ_16)) hS19 => ?_)
          clear hP17 hD17 hS17
          have w18_0 : r18 = kmix r10 (σ 11 1) := hw18
          refine lv_sipush (v := 1023) hx hb dX9_say_81 (by decide) ?_
          refine lv_iand hx hb dX9_say_84 ?_
          refine lv_ixor hx hb dX9_say_85 ?_
          refine kMst F hK hP19 hD19 hS19 29 20 1 rfl rfl (by decide) (Nat.le_of_ble_eq_true rfl) rfl dX9_say_86 (fun H20 locs20 σ20 eσ20 hP20 hD20 hS20 => ?_)
          clear hP19 hD19 hS19
          refine lv_aload_n hx hb dX9_say_87 rfl (lv_at hl15 3 rfl) ?_
          refine kget F hK hP20 9 0 29 iX9 rfl rfl (by decide) (List.mem_of_getElem? (i := 4) rfl) rfl dX9_say_88 ?_
          refine lv_iconst (v := 2) hx hb dX9_say_91 (by decide) ?_
          refine lv_iload hx hb dX9_say_92 (lv_at hl15 1 rfl) ?_
          refine lv_aload_n hx hb dX9_say_94 rfl (lv_at hl15 3 rfl) ?_
          refine kget F hK hP20 9 0 29 iX9 rfl rfl (by decide) (List.mem_of_getElem? (i := 4) rfl) rfl dX9_say_95 ?_
          refine lv_iconst (v := 1) hx hb dX9_say_98 (by decide) ?_
          refine kild F hK hP20 20 1 rfl rfl (by decide) (Nat.le_of_ble_eq_true rfl) dX9_say_99 ?_
          rw [show (σ20 29 1) = (v ^^^ (r18 &&& 1023)) from by subst eσ20; subst w16_0; first | rfl | (simp only [msend]; (repeat' split) <;> rfl)]
          refine kPSi F hK hP20 hD20 hS20 hA hl15.1 (c_X9_mix l G r10 (v ^^^ (r18 &&& 1023))) (fun _ => rfl) gX9_say_X9_mix rfl 2 rfl (by decide +kernel) ⟨Nat.le_of_ble_eq_true rfl, Nat.le_of_ble_eq_true rfl⟩ ⟨Nat.zero_le _, Nat.zero_le _⟩ (Nat.le_of_ble_eq_true rfl) rfl dX9_say_100 (fun r21 u21 H22 locs22 hw21 (hP22 : va_P G.1 vwCl (mW G h a σ20) H22) (hD22 : va_D A (mW G h a σ20)) hS22 => ?_)
          clear hP20 hD20 hS20
          have w21_0 : r21 = kmix r10 (v ^^^ (r18 &&& 1023)) := hw21
          refine lv_iload hx hb dX9_say_103 (lv_at hl15 0 rfl) ?_
          refine kPSi F hK hP22 hD22 hS22 hA hl15.1 (c_X9_mix l G r21 (σ 11 1)) (fun _ => rfl) gX9_say_X9_mix rfl 2 rfl (by decide +kernel) ⟨Nat.le_of_ble_eq_true rfl, Nat.le_of_ble_eq_true rfl⟩ ⟨Nat.zero_le _, Nat.zero_le _⟩ (Nat.le_of_ble_eq_true rfl) rfl dX9_say_105 (fun r23 u23 H24 locs24 hw23 (hP24 : va_P G.1 vwCl (mW G h a σ20) H24) (hD24 : va_D A (mW G h a σ20)) hS24 => ?_)
          clear hP22 hD22 hS22
          have w23_0 : r23 = kmix r21 (σ 11 1) := hw23
          refine kMst F hK hP24 hD24 hS24 29 20 2 rfl rfl (by decide) (Nat.le_of_ble_eq_true rfl) rfl dX9_say_108 (fun H25 locs25 σ25 eσ25 hP25 hD25 hS25 => ?_)
          clear hP24 hD24 hS24
          refine lv_aload_n hx hb dX9_say_109 rfl (lv_at hl15 3 rfl) ?_
          refine kget F hK hP25 9 0 29 iX9 rfl rfl (by decide) (List.mem_of_getElem? (i := 4) rfl) rfl dX9_say_110 ?_
          refine lv_iconst (v := 1) hx hb dX9_say_113 (by decide) ?_
          refine kild F hK hP25 20 1 rfl rfl (by decide) (Nat.le_of_ble_eq_true rfl) dX9_say_114 ?_
          rw [show (σ25 29 1) = (v ^^^ (r18 &&& 1023)) from by subst eσ25; subst eσ20; subst w16_0; first | rfl | (simp only [msend]; (repeat' split) <;> rfl)]
          refine lv_istore (lv' := [(6, .int (v ^^^ (r18 &&& 1023))), (5, .int (σ 11 1)), (4, .int r10), (3, .int 1), (0, .ref h), (1, .int 0), (2, .int v)]) hx hb dX9_say_115 hl15 (by decide) rfl (fun ls26 hl26 => ?_)
          clear hl15
          refine lv_aload_n hx hb dX9_say_117 rfl (lv_at hl26 4 rfl) ?_
          refine lv_iload_n hx hb dX9_say_118 rfl (lv_at hl26 3 rfl) ?_
          refine kWVv F hK hP25 hD25 hS25 hA hl26.1 (c_X9_sends l G h a σ25 1 (Mn 1) (by first | assumption | decide | omega) (by subst eσ25; subst w23_0; subst w21_0; subst eσ20; subst w18_0; subst w16_0; subst w10_0; subst w4_0; exact (ok.2.1 1 (by decide)).1) ((ok.2.1 1 (by decide)).2)) 9 0 gX9_say_X9_sends rfl 1 rfl (by decide +kernel) ⟨Nat.le_of_ble_eq_true rfl, Nat.le_of_ble_eq_true rfl⟩ ⟨Nat.zero_le _, Nat.zero_le _⟩ rfl rfl (Nat.le_of_ble_eq_true rfl) rfl dX9_say_119 (fun σ_27 H28 locs28 hw27 (hP28 : va_P G.1 vwCl (mW G h a σ_27) H28) (hD28 : va_D A (mW G h a σ_27)) hS28 => ?_)
          clear hP25 hD25 hS25
          have w27_0 : σ_27 = msend σ25 1 (Mn 1) := hw27
          refine lv_aload_n hx hb dX9_say_122 rfl (lv_at hl26 4 rfl) ?_
          refine kget F hK hP28 9 0 11 iX9 rfl rfl (by decide) (List.mem_of_getElem? (i := 3) rfl) rfl dX9_say_123 ?_
          refine lv_iconst (v := 2) hx hb dX9_say_126 (by decide) ?_
          refine lv_iload_n hx hb dX9_say_127 rfl (lv_at hl26 5 rfl) ?_
          refine lv_imul hx hb dX9_say_128 ?_
          rw [show (2 * 0 : Int32) = 0 from by decide]
          refine lv_iload_n hx hb dX9_say_129 rfl (lv_at hl26 3 rfl) ?_
          refine lv_iadd hx hb dX9_say_130 ?_
          rw [show (0 + 1 : Int32) = 1 from by decide]
          refine lv_dup2_11 hx hb dX9_say_131 rfl rfl ?_
          refine kild F hK hP28 12 1 rfl rfl (by decide) (Nat.le_of_ble_eq_true rfl) dX9_say_132 ?_
          rw [show (σ_27 11 1) = (σ 11 1) from by subst w27_0; subst eσ25; subst eσ20; subst w16_0; first | rfl | (simp only [msend]; (repeat' split) <;> rfl)]
          refine lv_iconst (v := 1) hx hb dX9_say_133 (by decide) ?_
          refine lv_iadd hx hb dX9_say_134 ?_
          refine kMst F hK hP28 hD28 hS28 11 12 1 rfl rfl (by decide) (Nat.le_of_ble_eq_true rfl) rfl dX9_say_135 (fun H31 locs31 σ31 eσ31 hP31 hD31 hS31 => ?_)
          clear hP28 hD28 hS28
          refine lv_iload hx hb dX9_say_136 (lv_at hl26 0 rfl) ?_
          have q32 : ((v ^^^ (r18 &&& 1023)) = (msay σ 0 v Mn).1) ∧ (σ31 = (msay σ 0 v Mn).2) := by
            subst eσ31
            subst w27_0
            subst eσ25
            subst w23_0
            subst w21_0
            subst eσ20
            subst w18_0
            subst w16_0
            subst w10_0
            subst w4_0
            first | (simp only [msay, msayX, msayV, kd10, c3, c6, eq_true c7, eq_self, ↓reduceIte, and_self, and_true, true_and]; done) | (simp only [msay, msayX, msayV, kd10, c3, c6, eq_true c7, eq_self, ↓reduceIte, and_self, and_true, true_and]; (try and_intros) <;> rfl)
          exact kRi F hr hlocks hS31 dX9_say_138 σ31 q32 hP31 hD31
        · refine lv_bipush (v := (-4)) hx hb dX9_say_35 (by decide) ?_
          have q33 : ((-4) = (msay σ 0 v Mn).1) ∧ (σ = (msay σ 0 v Mn).2) := by
            subst w4_0
            first | (simp only [msay, msayX, msayV, kd10, c3, c6, c7, eq_self, ↓reduceIte, and_self, and_true, true_and]; done) | (simp only [msay, msayX, msayV, kd10, c3, c6, c7, eq_self, ↓reduceIte, and_self, and_true, true_and]; (try and_intros) <;> rfl)
          exact kRi F hr hlocks hS5 dX9_say_37 σ q33 hP5 hD5
      · refine lv_bipush (v := (-3)) hx hb dX9_say_22 (by decide) ?_
        have q34 : ((-3) = (msay σ 0 v Mn).1) ∧ (σ = (msay σ 0 v Mn).2) := by
          subst w4_0
          first | (simp only [msay, msayX, msayV, kd10, c3, eq_true c6, eq_self, ↓reduceIte, and_self, and_true, true_and]; done) | (simp only [msay, msayX, msayV, kd10, c3, eq_true c6, eq_self, ↓reduceIte, and_self, and_true, true_and]; (try and_intros) <;> rfl)
        exact kRi F hr hlocks hS5 dX9_say_24 σ q34 hP5 hD5
    · exact absurd c3 (by decide)
  · skip
    refine lv_iload_n hx hb dX9_say_0 rfl (lv_at hl0 1 rfl) ?_
    refine kPSi F hK hP0 hD0 hS0 hA hl0.1 (c_X9_isSide l G 1) (fun _ => rfl) gX9_say_X9_isSide rfl 1 rfl (by decide +kernel) ⟨Nat.le_of_ble_eq_true rfl, Nat.le_of_ble_eq_true rfl⟩ ⟨Nat.zero_le _, Nat.zero_le _⟩ (Nat.le_of_ble_eq_true rfl) rfl dX9_say_1 (fun r35 u35 H36 locs36 hw35 (hP36 : va_P G.1 vwCl (mW G h a σ) H36) (hD36 : va_D A (mW G h a σ)) hS36 => ?_)
    clear hP0 hD0 hS0
    have w35_0 : r35 = kinL (1 : Int32).toInt64 0 1 := hw35
    have g35 : r35 = 1 := w35_0.trans kside_1
    clear w35_0
    subst g35
    refine lv_if_ne (tgt := 10) hx hb dX9_say_4 (by decide) (fun c37 => ?_) (fun c37 => ?_)
    · refine lv_iload_n hx hb dX9_say_10 rfl (lv_at hl0 2 rfl) ?_
      refine lv_i2l (v := v.toInt64) hx hb dX9_say_11 rfl ?_
      refine lv_lconst (v := 0) hx hb dX9_say_12 (by decide) ?_
      refine lv_ldc2 (v := 999) hx hb hown (hts _ (List.mem_of_getElem? (i := 1) rfl)) dX9_say_13 ?_
      refine kPSi F hK hP36 hD36 hS36 hA hl0.1 (c_X9_in l G v.toInt64 0 999) (fun _ => rfl) gX9_say_X9_in rfl 3 rfl (by decide +kernel) ⟨Nat.le_of_ble_eq_true rfl, Nat.le_of_ble_eq_true rfl⟩ ⟨Nat.zero_le _, Nat.zero_le _⟩ (Nat.le_of_ble_eq_true rfl) rfl dX9_say_16 (fun r38 u38 H39 locs39 hw38 (hP39 : va_P G.1 vwCl (mW G h a σ) H39) (hD39 : va_D A (mW G h a σ)) hS39 => ?_)
      clear hP36 hD36 hS36
      have w38_0 : r38 = kinL v.toInt64 0 999 := hw38
      refine lv_if_ne (tgt := 25) hx hb dX9_say_19 (by decide) (fun c40 => ?_) (fun c40 => ?_)
      · refine lv_aload_n hx hb dX9_say_25 rfl (lv_at hl0 0 rfl) ?_
        refine kget F hK hP39 9 0 3 iX9 rfl rfl (by decide) (List.mem_of_getElem? (i := 2) rfl) rfl dX9_say_26 ?_
        refine lv_iload_n hx hb dX9_say_29 rfl (lv_at hl0 1 rfl) ?_
        refine kild F hK hP39 4 1 rfl rfl (by decide) (Nat.le_of_ble_eq_true rfl) dX9_say_30 ?_
        refine lv_iconst (v := 4) hx hb dX9_say_31 (by decide) ?_
        refine lv_icmp_eq (tgt := 38) hx hb dX9_say_32 (by decide) (fun c41 => ?_) (fun c41 => ?_)
        · refine lv_iconst (v := 1) hx hb dX9_say_38 (by decide) ?_
          refine lv_iload_n hx hb dX9_say_39 rfl (lv_at hl0 1 rfl) ?_
          refine lv_isub hx hb dX9_say_40 ?_
          rw [show (1 - 1 : Int32) = 0 from by decide]
          refine lv_istore_n (lv' := [(3, .int 0), (0, .ref h), (1, .int 1), (2, .int v)]) hx hb dX9_say_41 rfl hl0 (by decide) rfl (fun ls43 hl43 => ?_)
          clear hl0
          refine lv_aload_n hx hb dX9_say_42 rfl (lv_at hl43 1 rfl) ?_
          refine lv_iload_n hx hb dX9_say_43 rfl (lv_at hl43 2 rfl) ?_
          refine lv_iload_n hx hb dX9_say_44 rfl (lv_at hl43 0 rfl) ?_
          refine kWVi F hK hP39 hD39 hS39 hA hl43.1 (c_X9_lock l G h a σ 1 0 (by first | assumption | decide | omega) (by first | assumption | decide | omega)) 9 0 gX9_say_X9_lock rfl 2 rfl (by decide +kernel) ⟨Nat.le_of_ble_eq_true rfl, Nat.le_of_ble_eq_true rfl⟩ ⟨Nat.zero_le _, Nat.zero_le _⟩ rfl rfl (Nat.le_of_ble_eq_true rfl) rfl dX9_say_45 (fun r44 u44 H45 locs45 hw44 (hP45 : va_P G.1 vwCl (mW G h a σ) H45) (hD45 : va_D A (mW G h a σ)) hS45 => ?_)
          clear hP39 hD39 hS39
          have w44_0 : r44 = mlock σ 1 0 := hw44
          refine lv_istore (lv' := [(4, .int r44), (3, .int 0), (0, .ref h), (1, .int 1), (2, .int v)]) hx hb dX9_say_48 hl43 (by decide) rfl (fun ls46 hl46 => ?_)
          clear hl43
          refine lv_aload_n hx hb dX9_say_50 rfl (lv_at hl46 2 rfl) ?_
          refine kget F hK hP45 9 0 11 iX9 rfl rfl (by decide) (List.mem_of_getElem? (i := 3) rfl) rfl dX9_say_51 ?_
          refine lv_iconst (v := 2) hx hb dX9_say_54 (by decide) ?_
          refine lv_iload_n hx hb dX9_say_55 rfl (lv_at hl46 3 rfl) ?_
          refine lv_imul hx hb dX9_say_56 ?_
          rw [show (2 * 1 : Int32) = 2 from by decide]
          refine lv_iload_n hx hb dX9_say_57 rfl (lv_at hl46 1 rfl) ?_
          refine lv_iadd hx hb dX9_say_58 ?_
          rw [show (2 + 0 : Int32) = 2 from by decide]
          refine kild F hK hP45 12 2 rfl rfl (by decide) (Nat.le_of_ble_eq_true rfl) dX9_say_59 ?_
          refine lv_istore (lv' := [(5, .int (σ 11 2)), (4, .int r44), (3, .int 0), (0, .ref h), (1, .int 1), (2, .int v)]) hx hb dX9_say_60 hl46 (by decide) rfl (fun ls49 hl49 => ?_)
          clear hl46
          refine lv_aload_n hx hb dX9_say_62 rfl (lv_at hl49 3 rfl) ?_
          refine lv_bipush (v := 6) hx hb dX9_say_63 (by decide) ?_
          refine kWVv F hK hP45 hD45 hS45 hA hl49.1 (c_X9_clears l G h a σ 6) 9 0 gX9_say_X9_clears rfl 1 rfl (by decide +kernel) ⟨Nat.le_of_ble_eq_true rfl, Nat.le_of_ble_eq_true rfl⟩ ⟨Nat.zero_le _, Nat.zero_le _⟩ rfl rfl (Nat.le_of_ble_eq_true rfl) rfl dX9_say_65 (fun σ_50 H51 locs51 hw50 (hP51 : va_P G.1 vwCl (mW G h a σ_50) H51) (hD51 : va_D A (mW G h a σ_50)) hS51 => ?_)
          clear hP45 hD45 hS45
          have w50_0 : σ_50 = mclr σ 6 := hw50
          refine lv_aload_n hx hb dX9_say_68 rfl (lv_at hl49 3 rfl) ?_
          refine kget F hK hP51 9 0 29 iX9 rfl rfl (by decide) (List.mem_of_getElem? (i := 4) rfl) rfl dX9_say_69 ?_
          refine lv_iconst (v := 1) hx hb dX9_say_72 (by decide) ?_
          refine lv_iload_n hx hb dX9_say_73 rfl (lv_at hl49 5 rfl) ?_
          refine lv_iload hx hb dX9_say_74 (lv_at hl49 1 rfl) ?_
          refine lv_iload hx hb dX9_say_76 (lv_at hl49 0 rfl) ?_
          refine kPSi F hK hP51 hD51 hS51 hA hl49.1 (c_X9_mix l G r44 (σ 11 2)) (fun _ => rfl) gX9_say_X9_mix rfl 2 rfl (by decide +kernel) ⟨Nat.le_of_ble_eq_true rfl, Nat.le_of_ble_eq_true rfl⟩ ⟨Nat.zero_le _, Nat.zero_le _⟩ (Nat.le_of_ble_eq_true rfl) rfl dX9_say_78 (fun r52 u52 H53 locs53 hw52 (hP53 : va_P G.1 vwCl (mW G h a σ_50) H53) (hD53 : va_D A (mW G h a σ_50)) hS53 => ?_)
          clear hP51 hD51 hS51
          have w52_0 : r52 = kmix r44 (σ 11 2) := hw52
          refine lv_sipush (v := 1023) hx hb dX9_say_81 (by decide) ?_
          refine lv_iand hx hb dX9_say_84 ?_
          refine lv_ixor hx hb dX9_say_85 ?_
          refine kMst F hK hP53 hD53 hS53 29 20 1 rfl rfl (by decide) (Nat.le_of_ble_eq_true rfl) rfl dX9_say_86 (fun H54 locs54 σ54 eσ54 hP54 hD54 hS54 => ?_)
          clear hP53 hD53 hS53
          refine lv_aload_n hx hb dX9_say_87 rfl (lv_at hl49 3 rfl) ?_
          refine kget F hK hP54 9 0 29 iX9 rfl rfl (by decide) (List.mem_of_getElem? (i := 4) rfl) rfl dX9_say_88 ?_
          refine lv_iconst (v := 2) hx hb dX9_say_91 (by decide) ?_
          refine lv_iload hx hb dX9_say_92 (lv_at hl49 1 rfl) ?_
          refine lv_aload_n hx hb dX9_say_94 rfl (lv_at hl49 3 rfl) ?_
          refine kget F hK hP54 9 0 29 iX9 rfl rfl (by decide) (List.mem_of_getElem? (i := 4) rfl) rfl dX9_say_95 ?_
          refine lv_iconst (v := 1) hx hb dX9_say_98 (by decide) ?_
          refine kild F hK hP54 20 1 rfl rfl (by decide) (Nat.le_of_ble_eq_true rfl) dX9_say_99 ?_
          rw [show (σ54 29 1) = (v ^^^ (r52 &&& 1023)) from by subst eσ54; subst w50_0; first | rfl | (simp only [msend]; (repeat' split) <;> rfl)]
          refine kPSi F hK hP54 hD54 hS54 hA hl49.1 (c_X9_mix l G r44 (v ^^^ (r52 &&& 1023))) (fun _ => rfl) gX9_say_X9_mix rfl 2 rfl (by decide +kernel) ⟨Nat.le_of_ble_eq_true rfl, Nat.le_of_ble_eq_true rfl⟩ ⟨Nat.zero_le _, Nat.zero_le _⟩ (Nat.le_of_ble_eq_true rfl) rfl dX9_say_100 (fun r55 u55 H56 locs56 hw55 (hP56 : va_P G.1 vwCl (mW G h a σ54) H56) (hD56 : va_D A (mW G h a σ54)) hS56 => ?_)
          clear hP54 hD54 hS54
          have w55_0 : r55 = kmix r44 (v ^^^ (r52 &&& 1023)) := hw55
          refine lv_iload hx hb dX9_say_103 (lv_at hl49 0 rfl) ?_
          refine kPSi F hK hP56 hD56 hS56 hA hl49.1 (c_X9_mix l G r55 (σ 11 2)) (fun _ => rfl) gX9_say_X9_mix rfl 2 rfl (by decide +kernel) ⟨Nat.le_of_ble_eq_true rfl, Nat.le_of_ble_eq_true rfl⟩ ⟨Nat.zero_le _, Nat.zero_le _⟩ (Nat.le_of_ble_eq_true rfl) rfl dX9_say_105 (fun r57 u57 H58 locs58 hw57 (hP58 : va_P G.1 vwCl (mW G h a σ54) H58) (hD58 : va_D A (mW G h a σ54)) hS58 => ?_)
          clear hP56 hD56 hS56
          have w57_0 : r57 = kmix r55 (σ 11 2) := hw57
          refine kMst F hK hP58 hD58 hS58 29 20 2 rfl rfl (by decide) (Nat.le_of_ble_eq_true rfl) rfl dX9_say_108 (fun H59 locs59 σ59 eσ59 hP59 hD59 hS59 => ?_)
          clear hP58 hD58 hS58
          refine lv_aload_n hx hb dX9_say_109 rfl (lv_at hl49 3 rfl) ?_
          refine kget F hK hP59 9 0 29 iX9 rfl rfl (by decide) (List.mem_of_getElem? (i := 4) rfl) rfl dX9_say_110 ?_
          refine lv_iconst (v := 1) hx hb dX9_say_113 (by decide) ?_
          refine kild F hK hP59 20 1 rfl rfl (by decide) (Nat.le_of_ble_eq_true rfl) dX9_say_114 ?_
          rw [show (σ59 29 1) = (v ^^^ (r52 &&& 1023)) from by subst eσ59; subst eσ54; subst w50_0; first | rfl | (simp only [msend]; (repeat' split) <;> rfl)]
          refine lv_istore (lv' := [(6, .int (v ^^^ (r52 &&& 1023))), (5, .int (σ 11 2)), (4, .int r44), (3, .int 0), (0, .ref h), (1, .int 1), (2, .int v)]) hx hb dX9_say_115 hl49 (by decide) rfl (fun ls60 hl60 => ?_)
          clear hl49
          refine lv_aload_n hx hb dX9_say_117 rfl (lv_at hl60 4 rfl) ?_
          refine lv_iload_n hx hb dX9_say_118 rfl (lv_at hl60 3 rfl) ?_
          refine kWVv F hK hP59 hD59 hS59 hA hl60.1 (c_X9_sends l G h a σ59 0 (Mn 0) (by first | assumption | decide | omega) (by subst eσ59; subst w57_0; subst w55_0; subst eσ54; subst w52_0; subst w50_0; subst w44_0; subst w38_0; exact (ok.2.1 0 (by decide)).1) ((ok.2.1 0 (by decide)).2)) 9 0 gX9_say_X9_sends rfl 1 rfl (by decide +kernel) ⟨Nat.le_of_ble_eq_true rfl, Nat.le_of_ble_eq_true rfl⟩ ⟨Nat.zero_le _, Nat.zero_le _⟩ rfl rfl (Nat.le_of_ble_eq_true rfl) rfl dX9_say_119 (fun σ_61 H62 locs62 hw61 (hP62 : va_P G.1 vwCl (mW G h a σ_61) H62) (hD62 : va_D A (mW G h a σ_61)) hS62 => ?_)
          clear hP59 hD59 hS59
          have w61_0 : σ_61 = msend σ59 0 (Mn 0) := hw61
          refine lv_aload_n hx hb dX9_say_122 rfl (lv_at hl60 4 rfl) ?_
          refine kget F hK hP62 9 0 11 iX9 rfl rfl (by decide) (List.mem_of_getElem? (i := 3) rfl) rfl dX9_say_123 ?_
          refine lv_iconst (v := 2) hx hb dX9_say_126 (by decide) ?_
          refine lv_iload_n hx hb dX9_say_127 rfl (lv_at hl60 5 rfl) ?_
          refine lv_imul hx hb dX9_say_128 ?_
          rw [show (2 * 1 : Int32) = 2 from by decide]
          refine lv_iload_n hx hb dX9_say_129 rfl (lv_at hl60 3 rfl) ?_
          refine lv_iadd hx hb dX9_say_130 ?_
          rw [show (2 + 0 : Int32) = 2 from by decide]
          refine lv_dup2_11 hx hb dX9_say_131 rfl rfl ?_
          refine kild F hK hP62 12 2 rfl rfl (by decide) (Nat.le_of_ble_eq_true rfl) dX9_say_132 ?_
          rw [show (σ_61 11 2) = (σ 11 2) from by subst w61_0; subst eσ59; subst eσ54; subst w50_0; first | rfl | (simp only [msend]; (repeat' split) <;> rfl)]
          refine lv_iconst (v := 1) hx hb dX9_say_133 (by decide) ?_
          refine lv_iadd hx hb dX9_say_134 ?_
          refine kMst F hK hP62 hD62 hS62 11 12 2 rfl rfl (by decide) (Nat.le_of_ble_eq_true rfl) rfl dX9_say_135 (fun H65 locs65 σ65 eσ65 hP65 hD65 hS65 => ?_)
          clear hP62 hD62 hS62
          refine lv_iload hx hb dX9_say_136 (lv_at hl60 0 rfl) ?_
          have q66 : ((v ^^^ (r52 &&& 1023)) = (msay σ 1 v Mn).1) ∧ (σ65 = (msay σ 1 v Mn).2) := by
            subst eσ65
            subst w61_0
            subst eσ59
            subst w57_0
            subst w55_0
            subst eσ54
            subst w52_0
            subst w50_0
            subst w44_0
            subst w38_0
            first | (simp only [msay, msayX, msayV, kd10, c37, c40, eq_true c41, eq_self, ↓reduceIte, and_self, and_true, true_and]; done) | (simp only [msay, msayX, msayV, kd10, c37, c40, eq_true c41, eq_self, ↓reduceIte, and_self, and_true, true_and]; (try and_intros) <;> rfl)
          exact kRi F hr hlocks hS65 dX9_say_138 σ65 q66 hP65 hD65
        · refine lv_bipush (v := (-4)) hx hb dX9_say_35 (by decide) ?_
          have q67 : ((-4) = (msay σ 1 v Mn).1) ∧ (σ = (msay σ 1 v Mn).2) := by
            subst w38_0
            first | (simp only [msay, msayX, msayV, kd10, c37, c40, c41, eq_self, ↓reduceIte, and_self, and_true, true_and]; done) | (simp only [msay, msayX, msayV, kd10, c37, c40, c41, eq_self, ↓reduceIte, and_self, and_true, true_and]; (try and_intros) <;> rfl)
          exact kRi F hr hlocks hS39 dX9_say_37 σ q67 hP39 hD39
      · refine lv_bipush (v := (-3)) hx hb dX9_say_22 (by decide) ?_
        have q68 : ((-3) = (msay σ 1 v Mn).1) ∧ (σ = (msay σ 1 v Mn).2) := by
          subst w38_0
          first | (simp only [msay, msayX, msayV, kd10, c37, eq_true c40, eq_self, ↓reduceIte, and_self, and_true, true_and]; done) | (simp only [msay, msayX, msayV, kd10, c37, eq_true c40, eq_self, ↓reduceIte, and_self, and_true, true_and]; (try and_intros) <;> rfl)
        exact kRi F hr hlocks hS39 dX9_say_24 σ q68 hP39 hD39
    · exact absurd c37 (by decide)
  · skip
    refine lv_iload_n hx hb dX9_say_0 rfl (lv_at hl0 1 rfl) ?_
    refine kPSi F hK hP0 hD0 hS0 hA hl0.1 (c_X9_isSide l G s) (fun _ => rfl) gX9_say_X9_isSide rfl 1 rfl (by decide +kernel) ⟨Nat.le_of_ble_eq_true rfl, Nat.le_of_ble_eq_true rfl⟩ ⟨Nat.zero_le _, Nat.zero_le _⟩ (Nat.le_of_ble_eq_true rfl) rfl dX9_say_1 (fun r69 u69 H70 locs70 hw69 (hP70 : va_P G.1 vwCl (mW G h a σ) H70) (hD70 : va_D A (mW G h a σ)) hS70 => ?_)
    clear hP0 hD0 hS0
    have w69_0 : r69 = kinL s.toInt64 0 1 := hw69
    have g69 : r69 = 0 := w69_0.trans (kside_no hs0 hs1)
    clear w69_0
    subst g69
    refine lv_if_ne (tgt := 10) hx hb dX9_say_4 (by decide) (fun c71 => ?_) (fun c71 => ?_)
    · exact absurd (by decide) c71
    · refine lv_bipush (v := (-2)) hx hb dX9_say_7 (by decide) ?_
      have q72 : ((-2) = (msay σ s v Mn).1) ∧ (σ = (msay σ s v Mn).2) := by
        first | (simp only [msay, msayX, msayV, kd10, hs0, hs1, eq_true c71, eq_self, ↓reduceIte, and_self, and_true, true_and]; done) | (simp only [msay, msayX, msayV, kd10, hs0, hs1, eq_true c71, eq_self, ↓reduceIte, and_self, and_true, true_and]; (try and_intros) <;> rfl)
      exact kRi F hr hlocks hS70 dX9_say_9 σ q72 hP70 hD70
set_option maxHeartbeats 1000000 in
set_option maxRecDepth 100000 in
theorem c_X9_update (l : Launch) (G : kG) (h : Nat) (a : Nat → Nat) (σ : kS) (s : Int32) (S : Nat → Nat) (Mn : Nat → Nat) (E : Nat) (K : Nat) (ok : mOK σ S Mn E K) : kM G l yX9_update wsX9_update ({ frames := 3, cells := 0, slots := 0, locals := 65 }) [.ref h, .int s] (mW G h a σ) (kQi G (fun (rr : Int32) (uu : kS) => (rr = (mupdate σ s Mn).1) ∧ (uu = (mupdate σ s Mn).2)) (fun (uu : kS) => mW G h a uu)) := by
  refine kStart (cc := cX9_update) (maxL := 3) (ret := (some .int)) (by decide) rfl (Nat.le_of_ble_eq_true rfl) (fun pg ev st mi bl mt cd A ls0 F hr hlocks hin hK hP0 hD0 hA hS0 hl0 => ?_)
  obtain ⟨hx, hb, hml, hown, hts⟩ := id F
  have hl0 : lv_has ls0 3 [(0, .ref h), (1, .int s)] := hl0
  have iX9 : ∀ w ∈ u_ws RX9 TX9 43, w ∈ wsX9_update := fun w h => List.mem_cons_of_mem _ (List.mem_append_right _ h)
  rcases k_sides s with rfl | rfl | ⟨hs0, hs1⟩
  · skip
    refine lv_iload_n hx hb dX9_update_0 rfl (lv_at hl0 1 rfl) ?_
    refine kPSi F hK hP0 hD0 hS0 hA hl0.1 (c_X9_isSide l G 0) (fun _ => rfl) gX9_update_X9_isSide rfl 1 rfl (by decide +kernel) ⟨Nat.le_of_ble_eq_true rfl, Nat.le_of_ble_eq_true rfl⟩ ⟨Nat.zero_le _, Nat.zero_le _⟩ (Nat.le_of_ble_eq_true rfl) rfl dX9_update_1 (fun r1 u1 H2 locs2 hw1 (hP2 : va_P G.1 vwCl (mW G h a σ) H2) (hD2 : va_D A (mW G h a σ)) hS2 => ?_)
    clear hP0 hD0 hS0
    have w1_0 : r1 = kinL (0 : Int32).toInt64 0 1 := hw1
    have g1 : r1 = 1 := w1_0.trans kside_0
    clear w1_0
    subst g1
    refine lv_if_ne (tgt := 10) hx hb dX9_update_4 (by decide) (fun c3 => ?_) (fun c3 => ?_)
    · refine lv_aload_n hx hb dX9_update_10 rfl (lv_at hl0 0 rfl) ?_
      refine kget F hK hP2 9 0 3 iX9 rfl rfl (by decide) (List.mem_of_getElem? (i := 1) rfl) rfl dX9_update_11 ?_
      refine lv_iload_n hx hb dX9_update_14 rfl (lv_at hl0 1 rfl) ?_
      refine kild F hK hP2 4 0 rfl rfl (by decide) (Nat.le_of_ble_eq_true rfl) dX9_update_15 ?_
      refine lv_iconst (v := 4) hx hb dX9_update_16 (by decide) ?_
      refine lv_icmp_eq (tgt := 23) hx hb dX9_update_17 (by decide) (fun c4 => ?_) (fun c4 => ?_)
      · refine lv_iconst (v := 1) hx hb dX9_update_23 (by decide) ?_
        refine lv_iload_n hx hb dX9_update_24 rfl (lv_at hl0 1 rfl) ?_
        refine lv_isub hx hb dX9_update_25 ?_
        rw [show (1 - 0 : Int32) = 1 from by decide]
        refine lv_istore_n (lv' := [(2, .int 1), (0, .ref h), (1, .int 0)]) hx hb dX9_update_26 rfl hl0 (by decide) rfl (fun ls6 hl6 => ?_)
        clear hl0
        refine lv_aload_n hx hb dX9_update_27 rfl (lv_at hl6 1 rfl) ?_
        refine lv_bipush (v := 7) hx hb dX9_update_28 (by decide) ?_
        refine kWVv F hK hP2 hD2 hS2 hA hl6.1 (c_X9_clears l G h a σ 7) 9 0 gX9_update_X9_clears rfl 1 rfl (by decide +kernel) ⟨Nat.le_of_ble_eq_true rfl, Nat.le_of_ble_eq_true rfl⟩ ⟨Nat.zero_le _, Nat.zero_le _⟩ rfl rfl (Nat.le_of_ble_eq_true rfl) rfl dX9_update_30 (fun σ_7 H8 locs8 hw7 (hP8 : va_P G.1 vwCl (mW G h a σ_7) H8) (hD8 : va_D A (mW G h a σ_7)) hS8 => ?_)
        clear hP2 hD2 hS2
        have w7_0 : σ_7 = mclr σ 7 := hw7
        refine lv_aload_n hx hb dX9_update_33 rfl (lv_at hl6 1 rfl) ?_
        refine kget F hK hP8 9 0 29 iX9 rfl rfl (by decide) (List.mem_of_getElem? (i := 2) rfl) rfl dX9_update_34 ?_
        refine lv_iconst (v := 1) hx hb dX9_update_37 (by decide) ?_
        refine lv_aload_n hx hb dX9_update_38 rfl (lv_at hl6 1 rfl) ?_
        refine lv_iload_n hx hb dX9_update_39 rfl (lv_at hl6 2 rfl) ?_
        refine lv_iload_n hx hb dX9_update_40 rfl (lv_at hl6 0 rfl) ?_
        refine kWVi F hK hP8 hD8 hS8 hA hl6.1 (c_X9_lock l G h a σ_7 0 1 (by first | assumption | decide | omega) (by first | assumption | decide | omega)) 9 0 gX9_update_X9_lock rfl 2 rfl (by decide +kernel) ⟨Nat.le_of_ble_eq_true rfl, Nat.le_of_ble_eq_true rfl⟩ ⟨Nat.zero_le _, Nat.zero_le _⟩ rfl rfl (Nat.le_of_ble_eq_true rfl) rfl dX9_update_41 (fun r9 u9 H10 locs10 hw9 (hP10 : va_P G.1 vwCl (mW G h a σ_7) H10) (hD10 : va_D A (mW G h a σ_7)) hS10 => ?_)
        clear hP8 hD8 hS8
        have w9_0 : r9 = mlock σ_7 0 1 := hw9
        refine lv_iconst (v := (-1)) hx hb dX9_update_44 (by decide) ?_
        refine kPSi F hK hP10 hD10 hS10 hA hl6.1 (c_X9_mix l G r9 (-1)) (fun _ => rfl) gX9_update_X9_mix rfl 2 rfl (by decide +kernel) ⟨Nat.le_of_ble_eq_true rfl, Nat.le_of_ble_eq_true rfl⟩ ⟨Nat.zero_le _, Nat.zero_le _⟩ (Nat.le_of_ble_eq_true rfl) rfl dX9_update_45 (fun r11 u11 H12 locs12 hw11 (hP12 : va_P G.1 vwCl (mW G h a σ_7) H12) (hD12 : va_D A (mW G h a σ_7)) hS12 => ?_)
        clear hP10 hD10 hS10
        have w11_0 : r11 = kmix r9 (-1) := hw11
        refine lv_aload_n hx hb dX9_update_48 rfl (lv_at hl6 1 rfl) ?_
        refine kget F hK hP12 9 0 11 iX9 rfl rfl (by decide) (List.mem_of_getElem? (i := 3) rfl) rfl dX9_update_49 ?_
        refine lv_iconst (v := 2) hx hb dX9_update_52 (by decide) ?_
        refine lv_iload_n hx hb dX9_update_53 rfl (lv_at hl6 2 rfl) ?_
        refine lv_imul hx hb dX9_update_54 ?_
        rw [show (2 * 0 : Int32) = 0 from by decide]
        refine lv_iload_n hx hb dX9_update_55 rfl (lv_at hl6 0 rfl) ?_
        refine lv_iadd hx hb dX9_update_56 ?_
        rw [show (0 + 1 : Int32) = 1 from by decide]
        refine kild F hK hP12 12 1 rfl rfl (by decide) (Nat.le_of_ble_eq_true rfl) dX9_update_57 ?_
        rw [show (σ_7 11 1) = (σ 11 1) from by subst w7_0; first | rfl | (simp only [msend]; (repeat' split) <;> rfl)]
        refine kPSi F hK hP12 hD12 hS12 hA hl6.1 (c_X9_mix l G r11 (σ 11 1)) (fun _ => rfl) gX9_update_X9_mix rfl 2 rfl (by decide +kernel) ⟨Nat.le_of_ble_eq_true rfl, Nat.le_of_ble_eq_true rfl⟩ ⟨Nat.zero_le _, Nat.zero_le _⟩ (Nat.le_of_ble_eq_true rfl) rfl dX9_update_58 (fun r15 u15 H16 locs16 hw15 (hP16 : va_P G.1 vwCl (mW G h a σ_7) H16) (hD16 : va_D A (mW G h a σ_7)) hS16 => ?_)
        clear hP12 hD12 hS12
        have w15_0 : r15 = kmix r11 (σ 11 1) := hw15
        refine kMst F hK hP16 hD16 hS16 29 20 1 rfl rfl (by decide) (Nat.le_of_ble_eq_true rfl) rfl dX9_update_61 (fun H17 locs17 σ17 eσ17 hP17 hD17 hS17 => ?_)
        clear hP16 hD16 hS16
        refine lv_aload_n hx hb dX9_update_62 rfl (lv_at hl6 1 rfl) ?_
        refine lv_iload_n hx hb dX9_update_63 rfl (lv_at hl6 0 rfl) ?_
        refine kWVv F hK hP17 hD17 hS17 hA hl6.1 (c_X9_sends l G h a σ17 1 (Mn 1) (by first | assumption | decide | omega) (by subst eσ17; subst w15_0; subst w11_0; subst w9_0; subst w7_0; exact (ok.2.1 1 (by decide)).1) ((ok.2.1 1 (by decide)).2)) 9 0 gX9_update_X9_sends rfl 1 rfl (by decide +kernel) ⟨Nat.le_of_ble_eq_true rfl, Nat.le_of_ble_eq_true rfl⟩ ⟨Nat.zero_le _, Nat.zero_le _⟩ rfl rfl (Nat.le_of_ble_eq_true rfl) rfl dX9_update_64 (fun σ_18 H19 locs19 hw18 (hP19 : va_P G.1 vwCl (mW G h a σ_18) H19) (hD19 : va_D A (mW G h a σ_18)) hS19 => ?_)
        clear hP17 hD17 hS17
        have w18_0 : σ_18 = msend σ17 1 (Mn 1) := hw18
        refine lv_aload_n hx hb dX9_update_67 rfl (lv_at hl6 1 rfl) ?_
        refine kget F hK hP19 9 0 11 iX9 rfl rfl (by decide) (List.mem_of_getElem? (i := 3) rfl) rfl dX9_update_68 ?_
        refine lv_iconst (v := 2) hx hb dX9_update_71 (by decide) ?_
        refine lv_iload_n hx hb dX9_update_72 rfl (lv_at hl6 2 rfl) ?_
        refine lv_imul hx hb dX9_update_73 ?_
        rw [show (2 * 0 : Int32) = 0 from by decide]
        refine lv_iload_n hx hb dX9_update_74 rfl (lv_at hl6 0 rfl) ?_
        refine lv_iadd hx hb dX9_update_75 ?_
        rw [show (0 + 1 : Int32) = 1 from by decide]
        refine lv_dup2_11 hx hb dX9_update_76 rfl rfl ?_
        refine kild F hK hP19 12 1 rfl rfl (by decide) (Nat.le_of_ble_eq_true rfl) dX9_update_77 ?_
        rw [show (σ_18 11 1) = (σ 11 1) from by subst w18_0; subst eσ17; subst w7_0; first | rfl | (simp only [msend]; (repeat' split) <;> rfl)]
        refine lv_iconst (v := 1) hx hb dX9_update_78 (by decide) ?_
        refine lv_iadd hx hb dX9_update_79 ?_
        refine kMst F hK hP19 hD19 hS19 11 12 1 rfl rfl (by decide) (Nat.le_of_ble_eq_true rfl) rfl dX9_update_80 (fun H22 locs22 σ22 eσ22 hP22 hD22 hS22 => ?_)
        clear hP19 hD19 hS19
        refine lv_aload_n hx hb dX9_update_81 rfl (lv_at hl6 1 rfl) ?_
        refine kget F hK hP22 9 0 10 iX9 rfl rfl (by decide) (List.mem_of_getElem? (i := 4) rfl) rfl dX9_update_82 ?_
        refine lv_iconst (v := 2) hx hb dX9_update_85 (by decide) ?_
        refine lv_iload_n hx hb dX9_update_86 rfl (lv_at hl6 2 rfl) ?_
        refine lv_imul hx hb dX9_update_87 ?_
        rw [show (2 * 0 : Int32) = 0 from by decide]
        refine lv_iload_n hx hb dX9_update_88 rfl (lv_at hl6 0 rfl) ?_
        refine lv_iadd hx hb dX9_update_89 ?_
        rw [show (0 + 1 : Int32) = 1 from by decide]
        refine lv_dup2_11 hx hb dX9_update_90 rfl rfl ?_
        refine kild F hK hP22 11 1 rfl rfl (by decide) (Nat.le_of_ble_eq_true rfl) dX9_update_91 ?_
        rw [show (σ22 10 1) = (σ 10 1) from by subst eσ22; subst w18_0; subst eσ17; subst w7_0; first | rfl | (simp only [msend]; (repeat' split) <;> rfl)]
        refine lv_iconst (v := 1) hx hb dX9_update_92 (by decide) ?_
        refine lv_iadd hx hb dX9_update_93 ?_
        refine kMst F hK hP22 hD22 hS22 10 11 1 rfl rfl (by decide) (Nat.le_of_ble_eq_true rfl) rfl dX9_update_94 (fun H25 locs25 σ25 eσ25 hP25 hD25 hS25 => ?_)
        clear hP22 hD22 hS22
        refine lv_aload_n hx hb dX9_update_95 rfl (lv_at hl6 1 rfl) ?_
        refine kget F hK hP25 9 0 10 iX9 rfl rfl (by decide) (List.mem_of_getElem? (i := 4) rfl) rfl dX9_update_96 ?_
        refine lv_iconst (v := 2) hx hb dX9_update_99 (by decide) ?_
        refine lv_iload_n hx hb dX9_update_100 rfl (lv_at hl6 2 rfl) ?_
        refine lv_imul hx hb dX9_update_101 ?_
        rw [show (2 * 0 : Int32) = 0 from by decide]
        refine lv_iload_n hx hb dX9_update_102 rfl (lv_at hl6 0 rfl) ?_
        refine lv_iadd hx hb dX9_update_103 ?_
        rw [show (0 + 1 : Int32) = 1 from by decide]
        refine kild F hK hP25 11 1 rfl rfl (by decide) (Nat.le_of_ble_eq_true rfl) dX9_update_104 ?_
        rw [show (σ25 10 1) = ((σ 10 1) + 1) from by subst eσ25; subst eσ22; subst w18_0; subst eσ17; subst w7_0; first | rfl | (simp only [msend]; (repeat' split) <;> rfl)]
        have q28 : (((σ 10 1) + 1) = (mupdate σ 0 Mn).1) ∧ (σ25 = (mupdate σ 0 Mn).2) := by
          subst eσ25
          subst eσ22
          subst w18_0
          subst eσ17
          subst w15_0
          subst w11_0
          subst w9_0
          subst w7_0
          first | (simp only [mupdate, mupdX, kd10, c3, eq_true c4, eq_self, ↓reduceIte, and_self, and_true, true_and]; done) | (simp only [mupdate, mupdX, kd10, c3, eq_true c4, eq_self, ↓reduceIte, and_self, and_true, true_and]; (try and_intros) <;> rfl)
        exact kRi F hr hlocks hS25 dX9_update_105 σ25 q28 hP25 hD25
      · refine lv_bipush (v := (-4)) hx hb dX9_update_20 (by decide) ?_
        have q29 : ((-4) = (mupdate σ 0 Mn).1) ∧ (σ = (mupdate σ 0 Mn).2) := by
          first | (simp only [mupdate, mupdX, kd10, c3, c4, eq_self, ↓reduceIte, and_self, and_true, true_and]; done) | (simp only [mupdate, mupdX, kd10, c3, c4, eq_self, ↓reduceIte, and_self, and_true, true_and]; (try and_intros) <;> rfl)
        exact kRi F hr hlocks hS2 dX9_update_22 σ q29 hP2 hD2
    · exact absurd c3 (by decide)
  · skip
    refine lv_iload_n hx hb dX9_update_0 rfl (lv_at hl0 1 rfl) ?_
    refine kPSi F hK hP0 hD0 hS0 hA hl0.1 (c_X9_isSide l G 1) (fun _ => rfl) gX9_update_X9_isSide rfl 1 rfl (by decide +kernel) ⟨Nat.le_of_ble_eq_true rfl, Nat.le_of_ble_eq_true rfl⟩ ⟨Nat.zero_le _, Nat.zero_le _⟩ (Nat.le_of_ble_eq_true rfl) rfl dX9_update_1 (fun r30 u30 H31 locs31 hw30 (hP31 : va_P G.1 vwCl (mW G h a σ) H31) (hD31 : va_D A (mW G h a σ)) hS31 => ?_)
    clear hP0 hD0 hS0
    have w30_0 : r30 = kinL (1 : Int32).toInt64 0 1 := hw30
    have g30 : r30 = 1 := w30_0.trans kside_1
    clear w30_0
    subst g30
    refine lv_if_ne (tgt := 10) hx hb dX9_update_4 (by decide) (fun c32 => ?_) (fun c32 => ?_)
    · refine lv_aload_n hx hb dX9_update_10 rfl (lv_at hl0 0 rfl) ?_
      refine kget F hK hP31 9 0 3 iX9 rfl rfl (by decide) (List.mem_of_getElem? (i := 1) rfl) rfl dX9_update_11 ?_
      refine lv_iload_n hx hb dX9_update_14 rfl (lv_at hl0 1 rfl) ?_
      refine kild F hK hP31 4 1 rfl rfl (by decide) (Nat.le_of_ble_eq_true rfl) dX9_update_15 ?_
      refine lv_iconst (v := 4) hx hb dX9_update_16 (by decide) ?_
      refine lv_icmp_eq (tgt := 23) hx hb dX9_update_17 (by decide) (fun c33 => ?_) (fun c33 => ?_)
      · refine lv_iconst (v := 1) hx hb dX9_update_23 (by decide) ?_
        refine lv_iload_n hx hb dX9_update_24 rfl (lv_at hl0 1 rfl) ?_
        refine lv_isub hx hb dX9_update_25 ?_
        rw [show (1 - 1 : Int32) = 0 from by decide]
        refine lv_istore_n (lv' := [(2, .int 0), (0, .ref h), (1, .int 1)]) hx hb dX9_update_26 rfl hl0 (by decide) rfl (fun ls35 hl35 => ?_)
        clear hl0
        refine lv_aload_n hx hb dX9_update_27 rfl (lv_at hl35 1 rfl) ?_
        refine lv_bipush (v := 7) hx hb dX9_update_28 (by decide) ?_
        refine kWVv F hK hP31 hD31 hS31 hA hl35.1 (c_X9_clears l G h a σ 7) 9 0 gX9_update_X9_clears rfl 1 rfl (by decide +kernel) ⟨Nat.le_of_ble_eq_true rfl, Nat.le_of_ble_eq_true rfl⟩ ⟨Nat.zero_le _, Nat.zero_le _⟩ rfl rfl (Nat.le_of_ble_eq_true rfl) rfl dX9_update_30 (fun σ_36 H37 locs37 hw36 (hP37 : va_P G.1 vwCl (mW G h a σ_36) H37) (hD37 : va_D A (mW G h a σ_36)) hS37 => ?_)
        clear hP31 hD31 hS31
        have w36_0 : σ_36 = mclr σ 7 := hw36
        refine lv_aload_n hx hb dX9_update_33 rfl (lv_at hl35 1 rfl) ?_
        refine kget F hK hP37 9 0 29 iX9 rfl rfl (by decide) (List.mem_of_getElem? (i := 2) rfl) rfl dX9_update_34 ?_
        refine lv_iconst (v := 1) hx hb dX9_update_37 (by decide) ?_
        refine lv_aload_n hx hb dX9_update_38 rfl (lv_at hl35 1 rfl) ?_
        refine lv_iload_n hx hb dX9_update_39 rfl (lv_at hl35 2 rfl) ?_
        refine lv_iload_n hx hb dX9_update_40 rfl (lv_at hl35 0 rfl) ?_
        refine kWVi F hK hP37 hD37 hS37 hA hl35.1 (c_X9_lock l G h a σ_36 1 0 (by first | assumption | decide | omega) (by first | assumption | decide | omega)) 9 0 gX9_update_X9_lock rfl 2 rfl (by decide +kernel) ⟨Nat.le_of_ble_eq_true rfl, Nat.le_of_ble_eq_true rfl⟩ ⟨Nat.zero_le _, Nat.zero_le _⟩ rfl rfl (Nat.le_of_ble_eq_true rfl) rfl dX9_update_41 (fun r38 u38 H39 locs39 hw38 (hP39 : va_P G.1 vwCl (mW G h a σ_36) H39) (hD39 : va_D A (mW G h a σ_36)) hS39 => ?_)
        clear hP37 hD37 hS37
        have w38_0 : r38 = mlock σ_36 1 0 := hw38
        refine lv_iconst (v := (-1)) hx hb dX9_update_44 (by decide) ?_
        refine kPSi F hK hP39 hD39 hS39 hA hl35.1 (c_X9_mix l G r38 (-1)) (fun _ => rfl) gX9_update_X9_mix rfl 2 rfl (by decide +kernel) ⟨Nat.le_of_ble_eq_true rfl, Nat.le_of_ble_eq_true rfl⟩ ⟨Nat.zero_le _, Nat.zero_le _⟩ (Nat.le_of_ble_eq_true rfl) rfl dX9_update_45 (fun r40 u40 H41 locs41 hw40 (hP41 : va_P G.1 vwCl (mW G h a σ_36) H41) (hD41 : va_D A (mW G h a σ_36)) hS41 => ?_)
        clear hP39 hD39 hS39
        have w40_0 : r40 = kmix r38 (-1) := hw40
        refine lv_aload_n hx hb dX9_update_48 rfl (lv_at hl35 1 rfl) ?_
        refine kget F hK hP41 9 0 11 iX9 rfl rfl (by decide) (List.mem_of_getElem? (i := 3) rfl) rfl dX9_update_49 ?_
        refine lv_iconst (v := 2) hx hb dX9_update_52 (by decide) ?_
        refine lv_iload_n hx hb dX9_update_53 rfl (lv_at hl35 2 rfl) ?_
        refine lv_imul hx hb dX9_update_54 ?_
        rw [show (2 * 1 : Int32) = 2 from by decide]
        refine lv_iload_n hx hb dX9_update_55 rfl (lv_at hl35 0 rfl) ?_
        refine lv_iadd hx hb dX9_update_56 ?_
        rw [show (2 + 0 : Int32) = 2 from by decide]
        refine kild F hK hP41 12 2 rfl rfl (by decide) (Nat.le_of_ble_eq_true rfl) dX9_update_57 ?_
        rw [show (σ_36 11 2) = (σ 11 2) from by subst w36_0; first | rfl | (simp only [msend]; (repeat' split) <;> rfl)]
        refine kPSi F hK hP41 hD41 hS41 hA hl35.1 (c_X9_mix l G r40 (σ 11 2)) (fun _ => rfl) gX9_update_X9_mix rfl 2 rfl (by decide +kernel) ⟨Nat.le_of_ble_eq_true rfl, Nat.le_of_ble_eq_true rfl⟩ ⟨Nat.zero_le _, Nat.zero_le _⟩ (Nat.le_of_ble_eq_true rfl) rfl dX9_update_58 (fun r44 u44 H45 locs45 hw44 (hP45 : va_P G.1 vwCl (mW G h a σ_36) H45) (hD45 : va_D A (mW G h a σ_36)) hS45 => ?_)
        clear hP41 hD41 hS41
        have w44_0 : r44 = kmix r40 (σ 11 2) := hw44
        refine kMst F hK hP45 hD45 hS45 29 20 1 rfl rfl (by decide) (Nat.le_of_ble_eq_true rfl) rfl dX9_update_61 (fun H46 locs46 σ46 eσ46 hP46 hD46 hS46 => ?_)
        clear hP45 hD45 hS45
        refine lv_aload_n hx hb dX9_update_62 rfl (lv_at hl35 1 rfl) ?_
        refine lv_iload_n hx hb dX9_update_63 rfl (lv_at hl35 0 rfl) ?_
        refine kWVv F hK hP46 hD46 hS46 hA hl35.1 (c_X9_sends l G h a σ46 0 (Mn 0) (by first | assumption | decide | omega) (by subst eσ46; subst w44_0; subst w40_0; subst w38_0; subst w36_0; exact (ok.2.1 0 (by decide)).1) ((ok.2.1 0 (by decide)).2)) 9 0 gX9_update_X9_sends rfl 1 rfl (by decide +kernel) ⟨Nat.le_of_ble_eq_true rfl, Nat.le_of_ble_eq_true rfl⟩ ⟨Nat.zero_le _, Nat.zero_le _⟩ rfl rfl (Nat.le_of_ble_eq_true rfl) rfl dX9_update_64 (fun σ_47 H48 locs48 hw47 (hP48 : va_P G.1 vwCl (mW G h a σ_47) H48) (hD48 : va_D A (mW G h a σ_47)) hS48 => ?_)
        clear hP46 hD46 hS46
        have w47_0 : σ_47 = msend σ46 0 (Mn 0) := hw47
        refine lv_aload_n hx hb dX9_update_67 rfl (lv_at hl35 1 rfl) ?_
        refine kget F hK hP48 9 0 11 iX9 rfl rfl (by decide) (List.mem_of_getElem? (i := 3) rfl) rfl dX9_update_68 ?_
        refine lv_iconst (v := 2) hx hb dX9_update_71 (by decide) ?_
        refine lv_iload_n hx hb dX9_update_72 rfl (lv_at hl35 2 rfl) ?_
        refine lv_imul hx hb dX9_update_73 ?_
        rw [show (2 * 1 : Int32) = 2 from by decide]
        refine lv_iload_n hx hb dX9_update_74 rfl (lv_at hl35 0 rfl) ?_
        refine lv_iadd hx hb dX9_update_75 ?_
        rw [show (2 + 0 : Int32) = 2 from by decide]
        refine lv_dup2_11 hx hb dX9_update_76 rfl rfl ?_
        refine kild F hK hP48 12 2 rfl rfl (by decide) (Nat.le_of_ble_eq_true rfl) dX9_update_77 ?_
        rw [show (σ_47 11 2) = (σ 11 2) from by subst w47_0; subst eσ46; subst w36_0; first | rfl | (simp only [msend]; (repeat' split) <;> rfl)]
        refine lv_iconst (v := 1) hx hb dX9_update_78 (by decide) ?_
        refine lv_iadd hx hb dX9_update_79 ?_
        refine kMst F hK hP48 hD48 hS48 11 12 2 rfl rfl (by decide) (Nat.le_of_ble_eq_true rfl) rfl dX9_update_80 (fun H51 locs51 σ51 eσ51 hP51 hD51 hS51 => ?_)
        clear hP48 hD48 hS48
        refine lv_aload_n hx hb dX9_update_81 rfl (lv_at hl35 1 rfl) ?_
        refine kget F hK hP51 9 0 10 iX9 rfl rfl (by decide) (List.mem_of_getElem? (i := 4) rfl) rfl dX9_update_82 ?_
        refine lv_iconst (v := 2) hx hb dX9_update_85 (by decide) ?_
        refine lv_iload_n hx hb dX9_update_86 rfl (lv_at hl35 2 rfl) ?_
        refine lv_imul hx hb dX9_update_87 ?_
        rw [show (2 * 1 : Int32) = 2 from by decide]
        refine lv_iload_n hx hb dX9_update_88 rfl (lv_at hl35 0 rfl) ?_
        refine lv_iadd hx hb dX9_update_89 ?_
        rw [show (2 + 0 : Int32) = 2 from by decide]
        refine lv_dup2_11 hx hb dX9_update_90 rfl rfl ?_
        refine kild F hK hP51 11 2 rfl rfl (by decide) (Nat.le_of_ble_eq_true rfl) dX9_update_91 ?_
        rw [show (σ51 10 2) = (σ 10 2) from by subst eσ51; subst w47_0; subst eσ46; subst w36_0; first | rfl | (simp only [msend]; (repeat' split) <;> rfl)]
        refine lv_iconst (v := 1) hx hb dX9_update_92 (by decide) ?_
        refine lv_iadd hx hb dX9_update_93 ?_
        refine kMst F hK hP51 hD51 hS51 10 11 2 rfl rfl (by decide) (Nat.le_of_ble_eq_true rfl) rfl dX9_update_94 (fun H54 locs54 σ54 eσ54 hP54 hD54 hS54 => ?_)
        clear hP51 hD51 hS51
        refine lv_aload_n hx hb dX9_update_95 rfl (lv_at hl35 1 rfl) ?_
        refine kget F hK hP54 9 0 10 iX9 rfl rfl (by decide) (List.mem_of_getElem? (i := 4) rfl) rfl dX9_update_96 ?_
        refine lv_iconst (v := 2) hx hb dX9_update_99 (by decide) ?_
        refine lv_iload_n hx hb dX9_update_100 rfl (lv_at hl35 2 rfl) ?_
        refine lv_imul hx hb dX9_update_101 ?_
        rw [show (2 * 1 : Int32) = 2 from by decide]
        refine lv_iload_n hx hb dX9_update_102 rfl (lv_at hl35 0 rfl) ?_
        refine lv_iadd hx hb dX9_update_103 ?_
        rw [show (2 + 0 : Int32) = 2 from by decide]
        refine kild F hK hP54 11 2 rfl rfl (by decide) (Nat.le_of_ble_eq_true rfl) dX9_update_104 ?_
        rw [show (σ54 10 2) = ((σ 10 2) + 1) from by subst eσ54; subst eσ51; subst w47_0; subst eσ46; subst w36_0; first | rfl | (simp only [msend]; (repeat' split) <;> rfl)]
        have q57 : (((σ 10 2) + 1) = (mupdate σ 1 Mn).1) ∧ (σ54 = (mupdate σ 1 Mn).2) := by
          subst eσ54
          subst eσ51
          subst w47_0
          subst eσ46
          subst w44_0
          subst w40_0
          subst w38_0
          subst w36_0
          first | (simp only [mupdate, mupdX, kd10, c32, eq_true c33, eq_self, ↓reduceIte, and_self, and_true, true_and]; done) | (simp only [mupdate, mupdX, kd10, c32, eq_true c33, eq_self, ↓reduceIte, and_self, and_true, true_and]; (try and_intros) <;> rfl)
        exact kRi F hr hlocks hS54 dX9_update_105 σ54 q57 hP54 hD54
      · refine lv_bipush (v := (-4)) hx hb dX9_update_20 (by decide) ?_
        have q58 : ((-4) = (mupdate σ 1 Mn).1) ∧ (σ = (mupdate σ 1 Mn).2) := by
          first | (simp only [mupdate, mupdX, kd10, c32, c33, eq_self, ↓reduceIte, and_self, and_true, true_and]; done) | (simp only [mupdate, mupdX, kd10, c32, c33, eq_self, ↓reduceIte, and_self, and_true, true_and]; (try and_intros) <;> rfl)
        exact kRi F hr hlocks hS31 dX9_update_22 σ q58 hP31 hD31
    · exact absurd c32 (by decide)
  · skip
    refine lv_iload_n hx hb dX9_update_0 rfl (lv_at hl0 1 rfl) ?_
    refine kPSi F hK hP0 hD0 hS0 hA hl0.1 (c_X9_isSide l G s) (fun _ => rfl) gX9_update_X9_isSide rfl 1 rfl (by decide +kernel) ⟨Nat.le_of_ble_eq_true rfl, Nat.le_of_ble_eq_true rfl⟩ ⟨Nat.zero_le _, Nat.zero_le _⟩ (Nat.le_of_ble_eq_true rfl) rfl dX9_update_1 (fun r59 u59 H60 locs60 hw59 (hP60 : va_P G.1 vwCl (mW G h a σ) H60) (hD60 : va_D A (mW G h a σ)) hS60 => ?_)
    clear hP0 hD0 hS0
    have w59_0 : r59 = kinL s.toInt64 0 1 := hw59
    have g59 : r59 = 0 := w59_0.trans (kside_no hs0 hs1)
    clear w59_0
    subst g59
    refine lv_if_ne (tgt := 10) hx hb dX9_update_4 (by decide) (fun c61 => ?_) (fun c61 => ?_)
    · exact absurd (by decide) c61
    · refine lv_bipush (v := (-2)) hx hb dX9_update_7 (by decide) ?_
      have q62 : ((-2) = (mupdate σ s Mn).1) ∧ (σ = (mupdate σ s Mn).2) := by
        first | (simp only [mupdate, mupdX, kd10, hs0, hs1, eq_true c61, eq_self, ↓reduceIte, and_self, and_true, true_and]; done) | (simp only [mupdate, mupdX, kd10, hs0, hs1, eq_true c61, eq_self, ↓reduceIte, and_self, and_true, true_and]; (try and_intros) <;> rfl)
      exact kRi F hr hlocks hS60 dX9_update_9 σ q62 hP60 hD60
