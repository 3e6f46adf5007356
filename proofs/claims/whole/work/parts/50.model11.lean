set_option maxHeartbeats 8000000 in
set_option maxRecDepth 100000 in
theorem c_X9_goesThrough0 (l : Launch) (G : kG) (h : Nat) (a : Nat → Nat) (σ : kS) (L : Nat) (gx : Nat → Int32) (gk : Nat → Int32) (gf : Nat → Int32) (gs : Nat → Int32) (hL : σ 36 0 = nI L) (lL : L ≤ 200) (h5 : gx 5 = nI 0) : kM G l yX9_goesThrough wsX9_goesThrough ({ frames := 3, cells := 0, slots := 0, locals := 68 }) [.ref h, .int 0] (mW G h a σ) (kQi G (fun (rr : Int32) (uu : kS) => (rr = mgoR (kread (σ 35) L 24 0 0 (gx, gk, gf, gs))) ∧ (∃ b1 b2 b3 b4 b5 : Int32, uu = mrw σ b1 b2 b3 b4 b5)) (fun (uu : kS) => mW G h a uu)) := by
  refine kStart (cc := cX9_goesThrough) (maxL := 7) (ret := (some .int)) (by decide) rfl (Nat.le_of_ble_eq_true rfl) (fun pg ev st mi bl mt cd A ls0 F hr hlocks hin hK hP0 hD0 hA hS0 hl0 => ?_)
  obtain ⟨hx, hb, hml, hown, hts⟩ := id F
  have hl0 : lv_has ls0 7 [(0, .ref h), (1, .int 0)] := hl0
  have iX9 : ∀ w ∈ u_ws RX9 TX9 43, w ∈ wsX9_goesThrough := fun w h => List.mem_cons_of_mem _ (List.mem_append_right _ h)
  refine lv_aload_n hx hb dX9_goesThrough_0 rfl (lv_at hl0 0 rfl) ?_
  refine lv_iconst (v := 0) hx hb dX9_goesThrough_1 (by decide) ?_
  refine kMput F hK hP0 hD0 hS0 37 iX9 rfl (by decide) (List.mem_of_getElem? (i := 1) rfl) rfl rfl rfl (Nat.le_of_ble_eq_true rfl) rfl dX9_goesThrough_2 (fun H1 locs1 σ1 eσ1 hP1 hD1 hS1 => ?_)
  clear hP0 hD0 hS0
  refine lv_iconst (v := 0) hx hb dX9_goesThrough_5 (by decide) ?_
  refine lv_istore_n (lv' := [(2, .int 0), (0, .ref h), (1, .int 0)]) hx hb dX9_goesThrough_6 rfl hl0 (by decide) rfl (fun ls2 hl2 => ?_)
  clear hl0
  refine lv_iconst (v := 1) hx hb dX9_goesThrough_7 (by decide) ?_
  refine lv_istore_n (lv' := [(3, .int 1), (2, .int 0), (0, .ref h), (1, .int 0)]) hx hb dX9_goesThrough_8 rfl hl2 (by decide) rfl (fun ls3 hl3 => ?_)
  clear hl2
  refine lv_iload_n hx hb dX9_goesThrough_9 rfl (lv_at hl3 0 rfl) ?_
  refine lv_if_eq (tgt := 224) hx hb dX9_goesThrough_10 (by decide) (fun c4 => ?_) (fun c4 => ?_)
  · exact absurd c4 (by decide)
  · have LOOP5 : ∀ (fu k : Nat), k ≤ 23 → 23 + 1 ≤ k + fu → ∀ E5 : Nat, ∀ qx5 : Nat → Int32, ∀ qk5 : Nat → Int32, ∀ qf5 : Nat → Int32, ∀ qs5 : Nat → Int32, ∀ gb5 : Int32, ∀ gc5 : Int32, ∀ gd5 : Int32, ∀ ge5 : Int32, ∀ σ5 : kS, σ5 = mrw σ (nI E5) gb5 gc5 gd5 ge5 → (E5 ≤ L) → (qx5 5 = nI k) → ((kread (σ 35) L 24 0 0 (gx, gk, gf, gs)) = kread (σ 35) L (24 - k) k E5 (qx5, qk5, qf5, qs5)) → ∀ (H5 : Heap) (locs5 : List Loc) (ls5 : Array Slot), lv_has ls5 7 [(3, .int 1), (2, .int (nI k)), (0, .ref h), (1, .int 0)] → va_P G.1 vwCl (mW G h a σ5) H5 → va_D A (mW G h a σ5) → va_S A st.heap H5 locs5 → W pg l ev ({ frames := 3, cells := 0, slots := 0, locals := 68 }) st mi ([.ref h, .int 0] : List Value).toArray bl mt cd H5 locs5 0 0 (MQ bl (kQi G (fun (rr : Int32) (uu : kS) => (rr = mgoR (kread (σ 35) L 24 0 0 (gx, gk, gf, gs))) ∧ (∃ b1 b2 b3 b4 b5 : Int32, uu = mrw σ b1 b2 b3 b4 b5)) (fun (uu : kS) => mW G h a uu) A) ([.ref h, .int 0] : List Value).toArray st 0 0 A) (F0 mi 13 ls5 []) := by
      intro fu
      induction fu with
      | zero => intro k h1 h2; exact absurd h2 (by omega)
      | succ fu ih =>
        intro k hk hnk E5 qx5 qk5 qf5 qs5 gb5 gc5 gd5 ge5 σ5 eσ5 hEL hq5 hRd H5 locs5 ls5 hl5 hP5 hD5 hS5
        refine lv_aload_n hx hb dX9_goesThrough_13 rfl (lv_at hl5 2 rfl) ?_
        have h35 : σ 35 = (σ 35) := rfl
        have h36 : σ 36 0 = nI L := hL
        have hb1 := ktok_le (xl := (σ 35)) hEL
        have hb2 := ktok_le (xl := (σ 35)) hb1.2
        have hb3 := ktok_le (xl := (σ 35)) hb2.2
        have hbT := kcT_le (xl := (σ 35)) hEL
        have hbu := ktok_le (xl := (σ 35)) hbT.2
        refine kWVv F hK hP5 hD5 hS5 hA hl5.1 (c_X9_reads l G h a σ5 L E5 (by subst eσ5; subst eσ1; exact h36) lL (by subst eσ5; subst eσ1; rfl) hEL) 9 0 gX9_goesThrough_X9_reads rfl 0 rfl (by decide +kernel) ⟨Nat.le_of_ble_eq_true rfl, Nat.le_of_ble_eq_true rfl⟩ ⟨Nat.zero_le _, Nat.zero_le _⟩ rfl rfl (Nat.le_of_ble_eq_true rfl) rfl dX9_goesThrough_14 (fun σ_6 H7 locs7 hw6 (hP7 : va_P G.1 vwCl (mW G h a σ_6) H7) (hD7 : va_D A (mW G h a σ_6)) hS7 => ?_)
        clear hP5 hD5 hS5
        have w6_0 : σ_6 = mreads σ5 L E5 := hw6
        have g6 : σ_6 = mrt (σ 35) L E5 σ := w6_0.trans (by rw [eσ5]; exact mreads_mrw h35)
        clear w6_0
        refine lv_aload_n hx hb dX9_goesThrough_17 rfl (lv_at hl5 2 rfl) ?_
        refine kWVi F hK hP7 hD7 hS7 hA hl5.1 (c_X9_clause l G h a σ_6 L ((ktok (σ 35) L E5).1) ((ktok (σ 35) L E5).2) (by subst g6; subst eσ5; subst eσ1; exact h36) lL (by subst g6; subst eσ5; subst eσ1; rfl) (by subst g6; subst eσ5; subst eσ1; rfl) hb1.1 hb1.2 (by subst g6; subst eσ5; subst eσ1; exact (congrArg (fun z => mtk z L (ktok (σ 35) L E5).1) h35).symm)) 9 0 gX9_goesThrough_X9_clause rfl 0 rfl (by decide +kernel) ⟨Nat.le_of_ble_eq_true rfl, Nat.le_of_ble_eq_true rfl⟩ ⟨Nat.zero_le _, Nat.zero_le _⟩ rfl rfl (Nat.le_of_ble_eq_true rfl) rfl dX9_goesThrough_18 (fun r8 u8 H9 locs9 hw8 (hP9 : va_P G.1 vwCl (mW G h a σ_6) H9) (hD9 : va_D A (mW G h a σ_6)) hS9 => ?_)
        clear hP7 hD7 hS7
        have w8_0 : r8 = kckind (σ_6 35) ((ktok (σ 35) L E5).1) ((ktok (σ 35) L E5).2) := hw8
        have g8 : r8 = (kcK (σ 35) L E5) := (by subst g6; subst eσ5; subst eσ1; exact w8_0.trans (congrArg (fun z => kckind z (ktok (σ 35) L E5).1 (ktok (σ 35) L E5).2) h35))
        clear w8_0
        subst g8
        rcases kckind_cases (σ 35) L E5 with hkd | hkd | hkd | hkd | hkd | hkd
        · rw [show (kcK (σ 35) L E5) = (-1) from hkd]
          have hcA : kcA (σ 35) L E5 = true := by unfold kcA; rw [hkd]; decide
          refine lv_istore (lv' := [(4, .int (-1)), (3, .int 1), (2, .int (nI k)), (0, .ref h), (1, .int 0)]) hx hb dX9_goesThrough_21 hl5 (by decide) rfl (fun ls10 hl10 => ?_)
          clear hl5
          refine lv_iload hx hb dX9_goesThrough_23 (lv_at hl10 0 rfl) ?_
          refine lv_iconst (v := (-1)) hx hb dX9_goesThrough_25 (by decide) ?_
          refine lv_icmp_ne (tgt := 36) hx hb dX9_goesThrough_26 (by decide) (fun c11 => ?_) (fun c11 => ?_)
          · exact absurd (by decide) c11
          · refine lv_iconst (v := (-1)) hx hb dX9_goesThrough_29 (by decide) ?_
            refine lv_aload_n hx hb dX9_goesThrough_30 rfl (lv_at hl10 3 rfl) ?_
            refine kget F hK hP9 9 0 38 iX9 rfl rfl (by decide) (List.mem_of_getElem? (i := 2) rfl) rfl dX9_goesThrough_31 ?_
            refine lv_isub hx hb dX9_goesThrough_34 ?_
            have q12 : (((-1) - (σ_6 38 0)) = mgoR (kread (σ 35) L 24 0 0 (gx, gk, gf, gs))) ∧ (∃ b1 b2 b3 b4 b5 : Int32, σ_6 = mrw σ b1 b2 b3 b4 b5) := by
              have hR : kcR (σ 35) L E5 = 0 := by simp only [kcR, hcA, ↓reduceIte]
              have hcT : kcT (σ 35) L E5 = kc1 (σ 35) L E5 := by simp only [kcT, hcA, ↓reduceIte]
              have hRR := hRd.trans (kread_A (by omega) hR)
              rw [hcT] at hRR
              subst g6
              subst eσ5
              subst eσ1
              refine ⟨?_, _, _, _, _, _, rfl⟩
              rw [hRR]
              exact (mgo_f (show (kc1 (σ 35) L E5).1 ≤ 200 from Nat.le_trans hb1.1 (Nat.le_trans hb1.2 lL))).symm
            exact kRi F hr hlocks hS9 dX9_goesThrough_35 σ_6 q12 hP9 hD9
        · rw [show (kcK (σ 35) L E5) = 0 from hkd]
          have hcA : kcA (σ 35) L E5 = false := by unfold kcA; rw [hkd]; decide
          have hcC : kcC (σ 35) L E5 = false := by unfold kcC; rw [hkd]; decide
          refine lv_istore (lv' := [(4, .int 0), (3, .int 1), (2, .int (nI k)), (0, .ref h), (1, .int 0)]) hx hb dX9_goesThrough_21 hl5 (by decide) rfl (fun ls13 hl13 => ?_)
          clear hl5
          refine lv_iload hx hb dX9_goesThrough_23 (lv_at hl13 0 rfl) ?_
          refine lv_iconst (v := (-1)) hx hb dX9_goesThrough_25 (by decide) ?_
          refine lv_icmp_ne (tgt := 36) hx hb dX9_goesThrough_26 (by decide) (fun c14 => ?_) (fun c14 => ?_)
          · refine lv_aload_n hx hb dX9_goesThrough_36 rfl (lv_at hl13 3 rfl) ?_
            refine kWVv F hK hP9 hD9 hS9 hA hl13.1 (c_X9_reads l G h a σ_6 L ((ktok (σ 35) L E5).2) (by subst g6; subst eσ5; subst eσ1; exact h36) lL (by subst g6; subst eσ5; subst eσ1; rfl) hb1.2) 9 0 gX9_goesThrough_X9_reads rfl 0 rfl (by decide +kernel) ⟨Nat.le_of_ble_eq_true rfl, Nat.le_of_ble_eq_true rfl⟩ ⟨Nat.zero_le _, Nat.zero_le _⟩ rfl rfl (Nat.le_of_ble_eq_true rfl) rfl dX9_goesThrough_37 (fun σ_15 H16 locs16 hw15 (hP16 : va_P G.1 vwCl (mW G h a σ_15) H16) (hD16 : va_D A (mW G h a σ_15)) hS16 => ?_)
            clear hP9 hD9 hS9
            have w15_0 : σ_15 = mreads σ_6 L ((ktok (σ 35) L E5).2) := hw15
            have g15 : σ_15 = mrt (σ 35) L ((ktok (σ 35) L E5).2) σ := w15_0.trans (by rw [g6]; exact mreads_mrw h35)
            clear w15_0
            refine lv_aload_n hx hb dX9_goesThrough_40 rfl (lv_at hl13 3 rfl) ?_
            refine lv_iload hx hb dX9_goesThrough_41 (lv_at hl13 0 rfl) ?_
            refine lv_iconst (v := 2) hx hb dX9_goesThrough_43 (by decide) ?_
            refine lv_icmp_ge (tgt := 51) hx hb dX9_goesThrough_44 (by decide) (fun c17 => ?_) (fun c17 => ?_)
            · exact absurd c17 (by decide)
            · refine lv_iconst (v := 1) hx hb dX9_goesThrough_47 (by decide) ?_
              refine lv_goto (tgt := 52) hx hb dX9_goesThrough_48 (by decide) ?_
              refine lv_iload hx hb dX9_goesThrough_52 (lv_at hl13 0 rfl) ?_
              refine lv_iconst (v := 2) hx hb dX9_goesThrough_54 (by decide) ?_
              refine lv_icmp_ge (tgt := 63) hx hb dX9_goesThrough_55 (by decide) (fun c18 => ?_) (fun c18 => ?_)
              · exact absurd c18 (by decide)
              · refine lv_bipush (v := 7) hx hb dX9_goesThrough_58 (by decide) ?_
                refine lv_goto (tgt := 86) hx hb dX9_goesThrough_60 (by decide) ?_
                refine kWVi F hK hP16 hD16 hS16 hA hl13.1 (c_X9_isNumber l G h a σ_15 1 7 L ((ktok (σ 35) L (ktok (σ 35) L E5).2).1) (by subst g15; subst g6; subst eσ5; subst eσ1; exact (congrArg (fun z => mtk z L (ktok (σ 35) L (ktok (σ 35) L E5).2).1) h35).symm) (by subst g15; subst g6; subst eσ5; subst eσ1; exact (congrArg (fun z => mvl z L (ktok (σ 35) L (ktok (σ 35) L E5).2).1) h35).symm) (by subst g15; subst g6; subst eσ5; subst eσ1; exact (congrArg (fun z => mdi z L (ktok (σ 35) L (ktok (σ 35) L E5).2).1) h35).symm) lL (by omega) (by decide)) 9 0 gX9_goesThrough_X9_isNumber rfl 2 rfl (by decide +kernel) ⟨Nat.le_of_ble_eq_true rfl, Nat.le_of_ble_eq_true rfl⟩ ⟨Nat.zero_le _, Nat.zero_le _⟩ rfl rfl (Nat.le_of_ble_eq_true rfl) rfl dX9_goesThrough_86 (fun r19 u19 H20 locs20 hw19 (hP20 : va_P G.1 vwCl (mW G h a σ_15) H20) (hD20 : va_D A (mW G h a σ_15)) hS20 => ?_)
                clear hP16 hD16 hS16
                have w19_0 : r19 = if knum (σ_15 35) ((ktok (σ 35) L (ktok (σ 35) L E5).2).1) (ktokE (σ_15 35) L ((ktok (σ 35) L (ktok (σ 35) L E5).2).1)) 1 7 = -1 then (0 : Int32) else 1 := hw19
                have hV : kcV (σ 35) L E5 = knum (σ 35) (ktok (σ 35) L (ktok (σ 35) L E5).2).1 (ktok (σ 35) L (ktok (σ 35) L E5).2).2 1 7 := by unfold kcV; rw [hkd]; rfl
                have g19 : r19 = if kcV (σ 35) L E5 = -1 then 0 else 1 := (by subst g15; subst g6; subst eσ5; subst eσ1; rw [hV]; exact w19_0.trans (congrArg (fun z => if knum z (ktok (σ 35) L (ktok (σ 35) L E5).2).1 (ktokE z L (ktok (σ 35) L (ktok (σ 35) L E5).2).1) 1 7 = -1 then 0 else 1) h35))
                clear w19_0
                subst g19
                by_cases hVn : kcV (σ 35) L E5 = -1
                · rw [if_pos hVn]
                  have hcB : kcB (σ 35) L E5 = true := decide_eq_true hVn
                  have hR : kcR (σ 35) L E5 = 0 := by simp only [kcR, hcA, hcB, Bool.false_eq_true, ↓reduceIte]
                  have hcT : kcT (σ 35) L E5 = kc2 (σ 35) L E5 := by simp only [kcT, hcA, hcB, Bool.false_eq_true, ↓reduceIte]
                  refine lv_if_ne (tgt := 99) hx hb dX9_goesThrough_89 (by decide) (fun c21 => ?_) (fun c21 => ?_)
                  · exact absurd (by decide) c21
                  · refine lv_iconst (v := (-1)) hx hb dX9_goesThrough_92 (by decide) ?_
                    refine lv_aload_n hx hb dX9_goesThrough_93 rfl (lv_at hl13 3 rfl) ?_
                    refine kget F hK hP20 9 0 38 iX9 rfl rfl (by decide) (List.mem_of_getElem? (i := 2) rfl) rfl dX9_goesThrough_94 ?_
                    refine lv_isub hx hb dX9_goesThrough_97 ?_
                    have q22 : (((-1) - (σ_15 38 0)) = mgoR (kread (σ 35) L 24 0 0 (gx, gk, gf, gs))) ∧ (∃ b1 b2 b3 b4 b5 : Int32, σ_15 = mrw σ b1 b2 b3 b4 b5) := by
                      have hRR := hRd.trans (kread_A (by omega) hR)
                      rw [hcT] at hRR
                      subst g15
                      subst g6
                      subst eσ5
                      subst eσ1
                      refine ⟨?_, _, _, _, _, _, rfl⟩
                      rw [hRR]
                      exact (mgo_f (show (kc2 (σ 35) L E5).1 ≤ 200 from Nat.le_trans hb2.1 (Nat.le_trans hb2.2 lL))).symm
                    exact kRi F hr hlocks hS20 dX9_goesThrough_98 σ_15 q22 hP20 hD20
                · rw [if_neg hVn]
                  have hcB : kcB (σ 35) L E5 = false := decide_eq_false hVn
                  have vV : mvl (σ 35) L (ktok (σ 35) L (ktok (σ 35) L E5).2).1 = kcV (σ 35) L E5 := ((mnum_eq (a := 1) (b := 7) lL (by omega) (by decide)).2 (fun q => hVn (hV.trans q))).trans hV.symm
                  refine lv_if_ne (tgt := 99) hx hb dX9_goesThrough_89 (by decide) (fun c23 => ?_) (fun c23 => ?_)
                  · refine lv_aload_n hx hb dX9_goesThrough_99 rfl (lv_at hl13 3 rfl) ?_
                    refine kget F hK hP20 9 0 40 iX9 rfl rfl (by decide) (List.mem_of_getElem? (i := 3) rfl) rfl dX9_goesThrough_100 ?_
                    rw [show (σ_15 40 0) = (kcV (σ 35) L E5) from (by subst g15; subst g6; subst eσ5; subst eσ1; exact vV)]
                    refine lv_istore (lv' := [(5, .int (kcV (σ 35) L E5)), (4, .int 0), (3, .int 1), (2, .int (nI k)), (0, .ref h), (1, .int 0)]) hx hb dX9_goesThrough_103 hl13 (by decide) rfl (fun ls24 hl24 => ?_)
                    clear hl13
                    refine lv_iconst (v := 0) hx hb dX9_goesThrough_105 (by decide) ?_
                    refine lv_istore (lv' := [(6, .int 0), (5, .int (kcV (σ 35) L E5)), (4, .int 0), (3, .int 1), (2, .int (nI k)), (0, .ref h), (1, .int 0)]) hx hb dX9_goesThrough_106 hl24 (by decide) rfl (fun ls25 hl25 => ?_)
                    clear hl24
                    refine lv_iload hx hb dX9_goesThrough_108 (lv_at hl25 2 rfl) ?_
                    refine lv_iconst (v := 3) hx hb dX9_goesThrough_110 (by decide) ?_
                    refine lv_icmp_ge (tgt := 153) hx hb dX9_goesThrough_111 (by decide) (fun c26 => ?_) (fun c26 => ?_)
                    · exact absurd c26 (by decide)
                    · refine lv_aload_n hx hb dX9_goesThrough_114 rfl (lv_at hl25 5 rfl) ?_
                      refine kWVv F hK hP20 hD20 hS20 hA hl25.1 (c_X9_reads l G h a σ_15 L ((ktok (σ 35) L (ktok (σ 35) L E5).2).2) (by subst g15; subst g6; subst eσ5; subst eσ1; exact h36) lL (by subst g15; subst g6; subst eσ5; subst eσ1; rfl) hb2.2) 9 0 gX9_goesThrough_X9_reads rfl 0 rfl (by decide +kernel) ⟨Nat.le_of_ble_eq_true rfl, Nat.le_of_ble_eq_true rfl⟩ ⟨Nat.zero_le _, Nat.zero_le _⟩ rfl rfl (Nat.le_of_ble_eq_true rfl) rfl dX9_goesThrough_115 (fun σ_27 H28 locs28 hw27 (hP28 : va_P G.1 vwCl (mW G h a σ_27) H28) (hD28 : va_D A (mW G h a σ_27)) hS28 => ?_)
                      clear hP20 hD20 hS20
                      have w27_0 : σ_27 = mreads σ_15 L ((ktok (σ 35) L (ktok (σ 35) L E5).2).2) := hw27
                      have g27 : σ_27 = mrt (σ 35) L ((ktok (σ 35) L (ktok (σ 35) L E5).2).2) σ := w27_0.trans (by rw [g15]; exact mreads_mrw h35)
                      clear w27_0
                      refine lv_aload_n hx hb dX9_goesThrough_118 rfl (lv_at hl25 5 rfl) ?_
                      refine lv_iconst (v := 1) hx hb dX9_goesThrough_119 (by decide) ?_
                      refine lv_iload hx hb dX9_goesThrough_120 (lv_at hl25 2 rfl) ?_
                      refine lv_iconst (v := 2) hx hb dX9_goesThrough_122 (by decide) ?_
                      refine lv_icmp_ge (tgt := 131) hx hb dX9_goesThrough_123 (by decide) (fun c29 => ?_) (fun c29 => ?_)
                      · exact absurd c29 (by decide)
                      · refine lv_bipush (v := 15) hx hb dX9_goesThrough_126 (by decide) ?_
                        refine lv_goto (tgt := 134) hx hb dX9_goesThrough_128 (by decide) ?_
                        refine kWVi F hK hP28 hD28 hS28 hA hl25.1 (c_X9_isNumber l G h a σ_27 1 15 L ((ktok (σ 35) L (ktok (σ 35) L (ktok (σ 35) L E5).2).2).1) (by subst g27; subst g15; subst g6; subst eσ5; subst eσ1; exact (congrArg (fun z => mtk z L (ktok (σ 35) L (ktok (σ 35) L (ktok (σ 35) L E5).2).2).1) h35).symm) (by subst g27; subst g15; subst g6; subst eσ5; subst eσ1; exact (congrArg (fun z => mvl z L (ktok (σ 35) L (ktok (σ 35) L (ktok (σ 35) L E5).2).2).1) h35).symm) (by subst g27; subst g15; subst g6; subst eσ5; subst eσ1; exact (congrArg (fun z => mdi z L (ktok (σ 35) L (ktok (σ 35) L (ktok (σ 35) L E5).2).2).1) h35).symm) lL (by omega) (by decide)) 9 0 gX9_goesThrough_X9_isNumber rfl 2 rfl (by decide +kernel) ⟨Nat.le_of_ble_eq_true rfl, Nat.le_of_ble_eq_true rfl⟩ ⟨Nat.zero_le _, Nat.zero_le _⟩ rfl rfl (Nat.le_of_ble_eq_true rfl) rfl dX9_goesThrough_134 (fun r30 u30 H31 locs31 hw30 (hP31 : va_P G.1 vwCl (mW G h a σ_27) H31) (hD31 : va_D A (mW G h a σ_27)) hS31 => ?_)
                        clear hP28 hD28 hS28
                        have w30_0 : r30 = if knum (σ_27 35) ((ktok (σ 35) L (ktok (σ 35) L (ktok (σ 35) L E5).2).2).1) (ktokE (σ_27 35) L ((ktok (σ 35) L (ktok (σ 35) L (ktok (σ 35) L E5).2).2).1)) 1 15 = -1 then (0 : Int32) else 1 := hw30
                        have hW : kcW (σ 35) L E5 = knum (σ 35) (ktok (σ 35) L (ktok (σ 35) L (ktok (σ 35) L E5).2).2).1 (ktok (σ 35) L (ktok (σ 35) L (ktok (σ 35) L E5).2).2).2 1 15 := by unfold kcW; rw [hkd]; rfl
                        have g30 : r30 = if kcW (σ 35) L E5 = -1 then 0 else 1 := (by subst g27; subst g15; subst g6; subst eσ5; subst eσ1; rw [hW]; exact w30_0.trans (congrArg (fun z => if knum z (ktok (σ 35) L (ktok (σ 35) L (ktok (σ 35) L E5).2).2).1 (ktokE z L (ktok (σ 35) L (ktok (σ 35) L (ktok (σ 35) L E5).2).2).1) 1 15 = -1 then 0 else 1) h35))
                        clear w30_0
                        subst g30
                        by_cases hWn : kcW (σ 35) L E5 = -1
                        · rw [if_pos hWn]
                          have hR : kcR (σ 35) L E5 = 0 := by simp only [kcR, hcA, hcB, hcC, hWn, Bool.false_eq_true, ↓reduceIte]
                          have hcT : kcT (σ 35) L E5 = kc3 (σ 35) L E5 := by simp only [kcT, hcA, hcB, hcC, hWn, Bool.false_eq_true, ↓reduceIte]
                          refine lv_if_ne (tgt := 147) hx hb dX9_goesThrough_137 (by decide) (fun c32 => ?_) (fun c32 => ?_)
                          · exact absurd (by decide) c32
                          · refine lv_iconst (v := (-1)) hx hb dX9_goesThrough_140 (by decide) ?_
                            refine lv_aload_n hx hb dX9_goesThrough_141 rfl (lv_at hl25 5 rfl) ?_
                            refine kget F hK hP31 9 0 38 iX9 rfl rfl (by decide) (List.mem_of_getElem? (i := 2) rfl) rfl dX9_goesThrough_142 ?_
                            refine lv_isub hx hb dX9_goesThrough_145 ?_
                            have q33 : (((-1) - (σ_27 38 0)) = mgoR (kread (σ 35) L 24 0 0 (gx, gk, gf, gs))) ∧ (∃ b1 b2 b3 b4 b5 : Int32, σ_27 = mrw σ b1 b2 b3 b4 b5) := by
                              have hRR := hRd.trans (kread_A (by omega) hR)
                              rw [hcT] at hRR
                              subst g27
                              subst g15
                              subst g6
                              subst eσ5
                              subst eσ1
                              refine ⟨?_, _, _, _, _, _, rfl⟩
                              rw [hRR]
                              exact (mgo_f (show (kc3 (σ 35) L E5).1 ≤ 200 from Nat.le_trans hb3.1 (Nat.le_trans hb3.2 lL))).symm
                            exact kRi F hr hlocks hS31 dX9_goesThrough_146 σ_27 q33 hP31 hD31
                        · rw [if_neg hWn]
                          have vW : mvl (σ 35) L (ktok (σ 35) L (ktok (σ 35) L (ktok (σ 35) L E5).2).2).1 = kcW (σ 35) L E5 := ((mnum_eq (a := 1) (b := 15) lL (by omega) (by decide)).2 (fun q => hWn (hW.trans q))).trans hW.symm
                          have hR : ¬ kcR (σ 35) L E5 = 0 := by simp only [kcR, hcA, hcB, hcC, hWn, Bool.false_eq_true, ↓reduceIte]; decide
                          have hcT : kcT (σ 35) L E5 = kc3 (σ 35) L E5 := by simp only [kcT, hcA, hcB, hcC, hWn, Bool.false_eq_true, ↓reduceIte]
                          refine lv_if_ne (tgt := 147) hx hb dX9_goesThrough_137 (by decide) (fun c34 => ?_) (fun c34 => ?_)
                          · refine lv_aload_n hx hb dX9_goesThrough_147 rfl (lv_at hl25 5 rfl) ?_
                            refine kget F hK hP31 9 0 40 iX9 rfl rfl (by decide) (List.mem_of_getElem? (i := 3) rfl) rfl dX9_goesThrough_148 ?_
                            rw [show (σ_27 40 0) = (kcW (σ 35) L E5) from (by subst g27; subst g15; subst g6; subst eσ5; subst eσ1; exact vW)]
                            refine lv_istore (lv' := [(6, .int (kcW (σ 35) L E5)), (5, .int (kcV (σ 35) L E5)), (4, .int 0), (3, .int 1), (2, .int (nI k)), (0, .ref h), (1, .int 0)]) hx hb dX9_goesThrough_151 hl25 (by decide) rfl (fun ls35 hl35 => ?_)
                            clear hl25
                            refine lv_iload_n hx hb dX9_goesThrough_153 rfl (lv_at hl35 6 rfl) ?_
                            refine lv_if_eq (tgt := 167) hx hb dX9_goesThrough_154 (by decide) (fun c36 => ?_) (fun c36 => ?_)
                            · refine lv_iinc (v := nI (k + 1)) (lv' := [(2, .int (nI (k + 1))), (6, .int (kcW (σ 35) L E5)), (5, .int (kcV (σ 35) L E5)), (4, .int 0), (3, .int 1), (0, .ref h), (1, .int 0)]) hx hb dX9_goesThrough_167 hl35 (k := 4) rfl (nI_1 _) (by decide) rfl (fun ls37 hl37 => ?_)
                              clear hl35
                              refine lv_aload_n hx hb dX9_goesThrough_170 rfl (lv_at hl37 5 rfl) ?_
                              refine kWVv F hK hP31 hD31 hS31 hA hl37.1 (c_X9_reads l G h a σ_27 L ((kcT (σ 35) L E5).2) (by subst g27; subst g15; subst g6; subst eσ5; subst eσ1; exact h36) lL (by subst g27; subst g15; subst g6; subst eσ5; subst eσ1; rw [hcT]; rfl) hbT.2) 9 0 gX9_goesThrough_X9_reads rfl 0 rfl (by decide +kernel) ⟨Nat.le_of_ble_eq_true rfl, Nat.le_of_ble_eq_true rfl⟩ ⟨Nat.zero_le _, Nat.zero_le _⟩ rfl rfl (Nat.le_of_ble_eq_true rfl) rfl dX9_goesThrough_171 (fun σ_38 H39 locs39 hw38 (hP39 : va_P G.1 vwCl (mW G h a σ_38) H39) (hD39 : va_D A (mW G h a σ_38)) hS39 => ?_)
                              clear hP31 hD31 hS31
                              have w38_0 : σ_38 = mreads σ_27 L ((kcT (σ 35) L E5).2) := hw38
                              have g38 : σ_38 = mrt (σ 35) L ((kcT (σ 35) L E5).2) σ := w38_0.trans (by rw [g27]; exact mreads_mrw h35)
                              clear w38_0
                              refine lv_aload_n hx hb dX9_goesThrough_174 rfl (lv_at hl37 5 rfl) ?_
                              refine kget F hK hP39 9 0 39 iX9 rfl rfl (by decide) (List.mem_of_getElem? (i := 4) rfl) rfl dX9_goesThrough_175 ?_
                              rw [show (σ_38 39 0) = (mtk (σ 35) L (ktok (σ 35) L (kcT (σ 35) L E5).2).1) from (by subst g38; subst g27; subst g15; subst g6; subst eσ5; subst eσ1; rfl)]
                              refine lv_if_eq (tgt := 185) hx hb dX9_goesThrough_178 (by decide) (fun c40 => ?_) (fun c40 => ?_)
                              · have hu := mtk0 (xl := (σ 35)) (L := L) (u := (ktok (σ 35) L (kcT (σ 35) L E5).2).1) (by omega) c40
                                refine lv_iconst (v := 0) hx hb dX9_goesThrough_185 (by decide) ?_
                                refine lv_istore_n (lv' := [(3, .int 0), (2, .int (nI (k + 1))), (6, .int (kcW (σ 35) L E5)), (5, .int (kcV (σ 35) L E5)), (4, .int 0), (0, .ref h), (1, .int 0)]) hx hb dX9_goesThrough_186 rfl hl37 (by decide) rfl (fun ls41 hl41 => ?_)
                                clear hl37
                                refine lv_iload_n hx hb dX9_goesThrough_187 rfl (lv_at hl41 0 rfl) ?_
                                refine lv_if_eq (tgt := 221) hx hb dX9_goesThrough_188 (by decide) (fun c42 => ?_) (fun c42 => ?_)
                                · refine lv_goto (tgt := 9) hx hb dX9_goesThrough_221 (by decide) ?_
                                  refine lv_iload_n hx hb dX9_goesThrough_9 rfl (lv_at hl41 0 rfl) ?_
                                  refine lv_if_eq (tgt := 224) hx hb dX9_goesThrough_10 (by decide) (fun c43 => ?_) (fun c43 => ?_)
                                  · refine lv_iload_n hx hb dX9_goesThrough_224 rfl (lv_at hl41 1 rfl) ?_
                                    have q44 : ((nI (k + 1)) = mgoR (kread (σ 35) L 24 0 0 (gx, gk, gf, gs))) ∧ (∃ b1 b2 b3 b4 b5 : Int32, σ_38 = mrw σ b1 b2 b3 b4 b5) := by
                                      have hRR := hRd.trans (kread_B (by omega) hR hu)
                                      subst g38
                                      subst g27
                                      subst g15
                                      subst g6
                                      subst eσ5
                                      subst eσ1
                                      refine ⟨?_, _, _, _, _, _, rfl⟩
                                      rw [hRR]
                                      show nI (k + 1) = mgoR (-1, krq (σ 35) L k E5 (qx5, qk5, qf5, qs5))
                                      rw [mgoR, if_pos rfl]
                                      show nI (k + 1) = qx5 5 + 1
                                      rw [hq5, nI_1]
                                    exact kRi F hr hlocks hS39 dX9_goesThrough_225 σ_38 q44 hP39 hD39
                                  · exact absurd (by decide) c43
                                · exact absurd (by decide) c42
                              · have hu := mtkL (xl := (σ 35)) (L := L) (u := (ktok (σ 35) L (kcT (σ 35) L E5).2).1) c40
                                refine lv_iconst (v := 1) hx hb dX9_goesThrough_181 (by decide) ?_
                                refine lv_goto (tgt := 186) hx hb dX9_goesThrough_182 (by decide) ?_
                                refine lv_istore_n (lv' := [(3, .int 1), (2, .int (nI (k + 1))), (6, .int (kcW (σ 35) L E5)), (5, .int (kcV (σ 35) L E5)), (4, .int 0), (0, .ref h), (1, .int 0)]) hx hb dX9_goesThrough_186 rfl hl37 (by decide) rfl (fun ls45 hl45 => ?_)
                                clear hl37
                                refine lv_iload_n hx hb dX9_goesThrough_187 rfl (lv_at hl45 0 rfl) ?_
                                refine lv_if_eq (tgt := 221) hx hb dX9_goesThrough_188 (by decide) (fun c46 => ?_) (fun c46 => ?_)
                                · exact absurd c46 (by decide)
                                · refine lv_aload_n hx hb dX9_goesThrough_191 rfl (lv_at hl45 5 rfl) ?_
                                  refine kget F hK hP39 9 0 39 iX9 rfl rfl (by decide) (List.mem_of_getElem? (i := 4) rfl) rfl dX9_goesThrough_192 ?_
                                  rw [show (σ_38 39 0) = (mtk (σ 35) L (ktok (σ 35) L (kcT (σ 35) L E5).2).1) from (by subst g38; subst g27; subst g15; subst g6; subst eσ5; subst eσ1; rfl)]
                                  refine lv_iconst (v := 3) hx hb dX9_goesThrough_195 (by decide) ?_
                                  refine lv_icmp_ne (tgt := 214) hx hb dX9_goesThrough_196 (by decide) (fun c47 => ?_) (fun c47 => ?_)
                                  · have h9 := mtk59 (xl := (σ 35)) (L := L) (u := (ktok (σ 35) L (kcT (σ 35) L E5).2).1) (by omega) c47
                                    refine lv_iconst (v := (-1)) hx hb dX9_goesThrough_214 (by decide) ?_
                                    refine lv_aload_n hx hb dX9_goesThrough_215 rfl (lv_at hl45 5 rfl) ?_
                                    refine kget F hK hP39 9 0 38 iX9 rfl rfl (by decide) (List.mem_of_getElem? (i := 2) rfl) rfl dX9_goesThrough_216 ?_
                                    refine lv_isub hx hb dX9_goesThrough_219 ?_
                                    have q48 : (((-1) - (σ_38 38 0)) = mgoR (kread (σ 35) L 24 0 0 (gx, gk, gf, gs))) ∧ (∃ b1 b2 b3 b4 b5 : Int32, σ_38 = mrw σ b1 b2 b3 b4 b5) := by
                                      have hRR := hRd.trans (kread_C (by omega) hR hu h9)
                                      subst g38
                                      subst g27
                                      subst g15
                                      subst g6
                                      subst eσ5
                                      subst eσ1
                                      refine ⟨?_, _, _, _, _, _, rfl⟩
                                      rw [hRR]
                                      exact (mgo_f (by omega)).symm
                                    exact kRi F hr hlocks hS39 dX9_goesThrough_220 σ_38 q48 hP39 hD39
                                  · have h3 := mvl3 (xl := (σ 35)) (L := L) (u := (ktok (σ 35) L (kcT (σ 35) L E5).2).1) (by omega) c47
                                    refine lv_aload_n hx hb dX9_goesThrough_199 rfl (lv_at hl45 5 rfl) ?_
                                    refine kget F hK hP39 9 0 40 iX9 rfl rfl (by decide) (List.mem_of_getElem? (i := 3) rfl) rfl dX9_goesThrough_200 ?_
                                    rw [show (σ_38 40 0) = (mvl (σ 35) L (ktok (σ 35) L (kcT (σ 35) L E5).2).1) from (by subst g38; subst g27; subst g15; subst g6; subst eσ5; subst eσ1; rfl)]
                                    refine lv_bipush (v := 59) hx hb dX9_goesThrough_203 (by decide) ?_
                                    refine lv_icmp_ne (tgt := 214) hx hb dX9_goesThrough_205 (by decide) (fun c49 => ?_) (fun c49 => ?_)
                                    · have h9 : ¬ (σ 35) (ktok (σ 35) L (kcT (σ 35) L E5).2).1 = 59 := fun q => c49 (h3.trans q)
                                      refine lv_iconst (v := (-1)) hx hb dX9_goesThrough_214 (by decide) ?_
                                      refine lv_aload_n hx hb dX9_goesThrough_215 rfl (lv_at hl45 5 rfl) ?_
                                      refine kget F hK hP39 9 0 38 iX9 rfl rfl (by decide) (List.mem_of_getElem? (i := 2) rfl) rfl dX9_goesThrough_216 ?_
                                      refine lv_isub hx hb dX9_goesThrough_219 ?_
                                      have q50 : (((-1) - (σ_38 38 0)) = mgoR (kread (σ 35) L 24 0 0 (gx, gk, gf, gs))) ∧ (∃ b1 b2 b3 b4 b5 : Int32, σ_38 = mrw σ b1 b2 b3 b4 b5) := by
                                        have hRR := hRd.trans (kread_C (by omega) hR hu h9)
                                        subst g38
                                        subst g27
                                        subst g15
                                        subst g6
                                        subst eσ5
                                        subst eσ1
                                        refine ⟨?_, _, _, _, _, _, rfl⟩
                                        rw [hRR]
                                        exact (mgo_f (by omega)).symm
                                      exact kRi F hr hlocks hS39 dX9_goesThrough_220 σ_38 q50 hP39 hD39
                                    · have h9 : (σ 35) (ktok (σ 35) L (kcT (σ 35) L E5).2).1 = 59 := h3.symm.trans c49
                                      refine lv_iload_n hx hb dX9_goesThrough_208 rfl (lv_at hl45 1 rfl) ?_
                                      refine lv_bipush (v := 24) hx hb dX9_goesThrough_209 (by decide) ?_
                                      refine lv_icmp_ne (tgt := 221) hx hb dX9_goesThrough_211 (by decide) (fun c51 => ?_) (fun c51 => ?_)
                                      · have h24 : ¬ k + 1 = 24 := fun q => c51 (by rw [q]; rfl)
                                        refine lv_goto (tgt := 9) hx hb dX9_goesThrough_221 (by decide) ?_
                                        refine lv_iload_n hx hb dX9_goesThrough_9 rfl (lv_at hl45 0 rfl) ?_
                                        refine lv_if_eq (tgt := 224) hx hb dX9_goesThrough_10 (by decide) (fun c52 => ?_) (fun c52 => ?_)
                                        · exact absurd c52 (by decide)
                                        · exact ih (k + 1) (by omega) (by omega) ((ktok (σ 35) L (kcT (σ 35) L E5).2).2) (krx (σ 35) L E5 qx5) (kcP qk5 k (kcK (σ 35) L E5) (σ 35) L E5) (kcP qf5 k (kcV (σ 35) L E5) (σ 35) L E5) (kcP qs5 k (kcS (σ 35) L E5) (σ 35) L E5) (nI (ktok (σ 35) L (kcT (σ 35) L E5).2).1) (mtk (σ 35) L (ktok (σ 35) L (kcT (σ 35) L E5).2).1) (mvl (σ 35) L (ktok (σ 35) L (kcT (σ 35) L E5).2).1) (mdi (σ 35) L (ktok (σ 35) L (kcT (σ 35) L E5).2).1) σ_38 g38 hbu.2 (by show qx5 5 + 1 = _; rw [hq5, nI_1]) (hRd.trans (kread_D (by omega) hR hu h9)) _ _ _ (lv_sub hl45 [0, 1, 5, 6] rfl) hP39 hD39 hS39
                                      · have h24 : k + 1 = 24 := (nI_eq (a := k + 1) (b := 24) (by omega) (by omega)).mp c51
                                        refine lv_iconst (v := (-1)) hx hb dX9_goesThrough_214 (by decide) ?_
                                        refine lv_aload_n hx hb dX9_goesThrough_215 rfl (lv_at hl45 5 rfl) ?_
                                        refine kget F hK hP39 9 0 38 iX9 rfl rfl (by decide) (List.mem_of_getElem? (i := 2) rfl) rfl dX9_goesThrough_216 ?_
                                        refine lv_isub hx hb dX9_goesThrough_219 ?_
                                        have q53 : (((-1) - (σ_38 38 0)) = mgoR (kread (σ 35) L 24 0 0 (gx, gk, gf, gs))) ∧ (∃ b1 b2 b3 b4 b5 : Int32, σ_38 = mrw σ b1 b2 b3 b4 b5) := by
                                          have hRR := hRd.trans (kread_D (by omega) hR hu h9)
                                          rw [show 24 - (k + 1) = 0 by omega] at hRR
                                          have hRR : (kread (σ 35) L 24 0 0 (gx, gk, gf, gs)) = (nI (ktok (σ 35) L (kcT (σ 35) L E5).2).1, krq (σ 35) L k E5 (qx5, qk5, qf5, qs5)) := hRR
                                          subst g38
                                          subst g27
                                          subst g15
                                          subst g6
                                          subst eσ5
                                          subst eσ1
                                          refine ⟨?_, _, _, _, _, _, rfl⟩
                                          rw [hRR]
                                          exact (mgo_f (by omega)).symm
                                        exact kRi F hr hlocks hS39 dX9_goesThrough_220 σ_38 q53 hP39 hD39
                            · exact absurd (by decide) c36
                          · exact absurd c34 (by decide)
                  · exact absurd c23 (by decide)
          · exact absurd c14 (by decide)
        · rw [show (kcK (σ 35) L E5) = 1 from hkd]
          have hcA : kcA (σ 35) L E5 = false := by unfold kcA; rw [hkd]; decide
          have hcC : kcC (σ 35) L E5 = false := by unfold kcC; rw [hkd]; decide
          refine lv_istore (lv' := [(4, .int 1), (3, .int 1), (2, .int (nI k)), (0, .ref h), (1, .int 0)]) hx hb dX9_goesThrough_21 hl5 (by decide) rfl (fun ls54 hl54 => ?_)
          clear hl5
          refine lv_iload hx hb dX9_goesThrough_23 (lv_at hl54 0 rfl) ?_
          refine lv_iconst (v := (-1)) hx hb dX9_goesThrough_25 (by decide) ?_
          refine lv_icmp_ne (tgt := 36) hx hb dX9_goesThrough_26 (by decide) (fun c55 => ?_) (fun c55 => ?_)
          · refine lv_aload_n hx hb dX9_goesThrough_36 rfl (lv_at hl54 3 rfl) ?_
            refine kWVv F hK hP9 hD9 hS9 hA hl54.1 (c_X9_reads l G h a σ_6 L ((ktok (σ 35) L E5).2) (by subst g6; subst eσ5; subst eσ1; exact h36) lL (by subst g6; subst eσ5; subst eσ1; rfl) hb1.2) 9 0 gX9_goesThrough_X9_reads rfl 0 rfl (by decide +kernel) ⟨Nat.le_of_ble_eq_true rfl, Nat.le_of_ble_eq_true rfl⟩ ⟨Nat.zero_le _, Nat.zero_le _⟩ rfl rfl (Nat.le_of_ble_eq_true rfl) rfl dX9_goesThrough_37 (fun σ_56 H57 locs57 hw56 (hP57 : va_P G.1 vwCl (mW G h a σ_56) H57) (hD57 : va_D A (mW G h a σ_56)) hS57 => ?_)
            clear hP9 hD9 hS9
            have w56_0 : σ_56 = mreads σ_6 L ((ktok (σ 35) L E5).2) := hw56
            have g56 : σ_56 = mrt (σ 35) L ((ktok (σ 35) L E5).2) σ := w56_0.trans (by rw [g6]; exact mreads_mrw h35)
            clear w56_0
            refine lv_aload_n hx hb dX9_goesThrough_40 rfl (lv_at hl54 3 rfl) ?_
            refine lv_iload hx hb dX9_goesThrough_41 (lv_at hl54 0 rfl) ?_
            refine lv_iconst (v := 2) hx hb dX9_goesThrough_43 (by decide) ?_
            refine lv_icmp_ge (tgt := 51) hx hb dX9_goesThrough_44 (by decide) (fun c58 => ?_) (fun c58 => ?_)
            · exact absurd c58 (by decide)
            · refine lv_iconst (v := 1) hx hb dX9_goesThrough_47 (by decide) ?_
              refine lv_goto (tgt := 52) hx hb dX9_goesThrough_48 (by decide) ?_
              refine lv_iload hx hb dX9_goesThrough_52 (lv_at hl54 0 rfl) ?_
              refine lv_iconst (v := 2) hx hb dX9_goesThrough_54 (by decide) ?_
              refine lv_icmp_ge (tgt := 63) hx hb dX9_goesThrough_55 (by decide) (fun c59 => ?_) (fun c59 => ?_)
              · exact absurd c59 (by decide)
              · refine lv_bipush (v := 7) hx hb dX9_goesThrough_58 (by decide) ?_
                refine lv_goto (tgt := 86) hx hb dX9_goesThrough_60 (by decide) ?_
                refine kWVi F hK hP57 hD57 hS57 hA hl54.1 (c_X9_isNumber l G h a σ_56 1 7 L ((ktok (σ 35) L (ktok (σ 35) L E5).2).1) (by subst g56; subst g6; subst eσ5; subst eσ1; exact (congrArg (fun z => mtk z L (ktok (σ 35) L (ktok (σ 35) L E5).2).1) h35).symm) (by subst g56; subst g6; subst eσ5; subst eσ1; exact (congrArg (fun z => mvl z L (ktok (σ 35) L (ktok (σ 35) L E5).2).1) h35).symm) (by subst g56; subst g6; subst eσ5; subst eσ1; exact (congrArg (fun z => mdi z L (ktok (σ 35) L (ktok (σ 35) L E5).2).1) h35).symm) lL (by omega) (by decide)) 9 0 gX9_goesThrough_X9_isNumber rfl 2 rfl (by decide +kernel) ⟨Nat.le_of_ble_eq_true rfl, Nat.le_of_ble_eq_true rfl⟩ ⟨Nat.zero_le _, Nat.zero_le _⟩ rfl rfl (Nat.le_of_ble_eq_true rfl) rfl dX9_goesThrough_86 (fun r60 u60 H61 locs61 hw60 (hP61 : va_P G.1 vwCl (mW G h a σ_56) H61) (hD61 : va_D A (mW G h a σ_56)) hS61 => ?_)
                clear hP57 hD57 hS57
                have w60_0 : r60 = if knum (σ_56 35) ((ktok (σ 35) L (ktok (σ 35) L E5).2).1) (ktokE (σ_56 35) L ((ktok (σ 35) L (ktok (σ 35) L E5).2).1)) 1 7 = -1 then (0 : Int32) else 1 := hw60
                have hV : kcV (σ 35) L E5 = knum (σ 35) (ktok (σ 35) L (ktok (σ 35) L E5).2).1 (ktok (σ 35) L (ktok (σ 35) L E5).2).2 1 7 := by unfold kcV; rw [hkd]; rfl
                have g60 : r60 = if kcV (σ 35) L E5 = -1 then 0 else 1 := (by subst g56; subst g6; subst eσ5; subst eσ1; rw [hV]; exact w60_0.trans (congrArg (fun z => if knum z (ktok (σ 35) L (ktok (σ 35) L E5).2).1 (ktokE z L (ktok (σ 35) L (ktok (σ 35) L E5).2).1) 1 7 = -1 then 0 else 1) h35))
                clear w60_0
                subst g60
                by_cases hVn : kcV (σ 35) L E5 = -1
                · rw [if_pos hVn]
                  have hcB : kcB (σ 35) L E5 = true := decide_eq_true hVn
                  have hR : kcR (σ 35) L E5 = 0 := by simp only [kcR, hcA, hcB, Bool.false_eq_true, ↓reduceIte]
                  have hcT : kcT (σ 35) L E5 = kc2 (σ 35) L E5 := by simp only [kcT, hcA, hcB, Bool.false_eq_true, ↓reduceIte]
                  refine lv_if_ne (tgt := 99) hx hb dX9_goesThrough_89 (by decide) (fun c62 => ?_) (fun c62 => ?_)
                  · exact absurd (by decide) c62
                  · refine lv_iconst (v := (-1)) hx hb dX9_goesThrough_92 (by decide) ?_
                    refine lv_aload_n hx hb dX9_goesThrough_93 rfl (lv_at hl54 3 rfl) ?_
                    refine kget F hK hP61 9 0 38 iX9 rfl rfl (by decide) (List.mem_of_getElem? (i := 2) rfl) rfl dX9_goesThrough_94 ?_
                    refine lv_isub hx hb dX9_goesThrough_97 ?_
                    have q63 : (((-1) - (σ_56 38 0)) = mgoR (kread (σ 35) L 24 0 0 (gx, gk, gf, gs))) ∧ (∃ b1 b2 b3 b4 b5 : Int32, σ_56 = mrw σ b1 b2 b3 b4 b5) := by
                      have hRR := hRd.trans (kread_A (by omega) hR)
                      rw [hcT] at hRR
                      subst g56
                      subst g6
                      subst eσ5
                      subst eσ1
                      refine ⟨?_, _, _, _, _, _, rfl⟩
                      rw [hRR]
                      exact (mgo_f (show (kc2 (σ 35) L E5).1 ≤ 200 from Nat.le_trans hb2.1 (Nat.le_trans hb2.2 lL))).symm
                    exact kRi F hr hlocks hS61 dX9_goesThrough_98 σ_56 q63 hP61 hD61
                · rw [if_neg hVn]
                  have hcB : kcB (σ 35) L E5 = false := decide_eq_false hVn
                  have vV : mvl (σ 35) L (ktok (σ 35) L (ktok (σ 35) L E5).2).1 = kcV (σ 35) L E5 := ((mnum_eq (a := 1) (b := 7) lL (by omega) (by decide)).2 (fun q => hVn (hV.trans q))).trans hV.symm
                  refine lv_if_ne (tgt := 99) hx hb dX9_goesThrough_89 (by decide) (fun c64 => ?_) (fun c64 => ?_)
                  · refine lv_aload_n hx hb dX9_goesThrough_99 rfl (lv_at hl54 3 rfl) ?_
                    refine kget F hK hP61 9 0 40 iX9 rfl rfl (by decide) (List.mem_of_getElem? (i := 3) rfl) rfl dX9_goesThrough_100 ?_
                    rw [show (σ_56 40 0) = (kcV (σ 35) L E5) from (by subst g56; subst g6; subst eσ5; subst eσ1; exact vV)]
                    refine lv_istore (lv' := [(5, .int (kcV (σ 35) L E5)), (4, .int 1), (3, .int 1), (2, .int (nI k)), (0, .ref h), (1, .int 0)]) hx hb dX9_goesThrough_103 hl54 (by decide) rfl (fun ls65 hl65 => ?_)
                    clear hl54
                    refine lv_iconst (v := 0) hx hb dX9_goesThrough_105 (by decide) ?_
                    refine lv_istore (lv' := [(6, .int 0), (5, .int (kcV (σ 35) L E5)), (4, .int 1), (3, .int 1), (2, .int (nI k)), (0, .ref h), (1, .int 0)]) hx hb dX9_goesThrough_106 hl65 (by decide) rfl (fun ls66 hl66 => ?_)
                    clear hl65
                    refine lv_iload hx hb dX9_goesThrough_108 (lv_at hl66 2 rfl) ?_
                    refine lv_iconst (v := 3) hx hb dX9_goesThrough_110 (by decide) ?_
                    refine lv_icmp_ge (tgt := 153) hx hb dX9_goesThrough_111 (by decide) (fun c67 => ?_) (fun c67 => ?_)
                    · exact absurd c67 (by decide)
                    · refine lv_aload_n hx hb dX9_goesThrough_114 rfl (lv_at hl66 5 rfl) ?_
                      refine kWVv F hK hP61 hD61 hS61 hA hl66.1 (c_X9_reads l G h a σ_56 L ((ktok (σ 35) L (ktok (σ 35) L E5).2).2) (by subst g56; subst g6; subst eσ5; subst eσ1; exact h36) lL (by subst g56; subst g6; subst eσ5; subst eσ1; rfl) hb2.2) 9 0 gX9_goesThrough_X9_reads rfl 0 rfl (by decide +kernel) ⟨Nat.le_of_ble_eq_true rfl, Nat.le_of_ble_eq_true rfl⟩ ⟨Nat.zero_le _, Nat.zero_le _⟩ rfl rfl (Nat.le_of_ble_eq_true rfl) rfl dX9_goesThrough_115 (fun σ_68 H69 locs69 hw68 (hP69 : va_P G.1 vwCl (mW G h a σ_68) H69) (hD69 : va_D A (mW G h a σ_68)) hS69 => ?_)
                      clear hP61 hD61 hS61
                      have w68_0 : σ_68 = mreads σ_56 L ((ktok (σ 35) L (ktok (σ 35) L E5).2).2) := hw68
                      have g68 : σ_68 = mrt (σ 35) L ((ktok (σ 35) L (ktok (σ 35) L E5).2).2) σ := w68_0.trans (by rw [g56]; exact mreads_mrw h35)
                      clear w68_0
                      refine lv_aload_n hx hb dX9_goesThrough_118 rfl (lv_at hl66 5 rfl) ?_
                      refine lv_iconst (v := 1) hx hb dX9_goesThrough_119 (by decide) ?_
                      refine lv_iload hx hb dX9_goesThrough_120 (lv_at hl66 2 rfl) ?_
                      refine lv_iconst (v := 2) hx hb dX9_goesThrough_122 (by decide) ?_
                      refine lv_icmp_ge (tgt := 131) hx hb dX9_goesThrough_123 (by decide) (fun c70 => ?_) (fun c70 => ?_)
                      · exact absurd c70 (by decide)
                      · refine lv_bipush (v := 15) hx hb dX9_goesThrough_126 (by decide) ?_
                        refine lv_goto (tgt := 134) hx hb dX9_goesThrough_128 (by decide) ?_
                        refine kWVi F hK hP69 hD69 hS69 hA hl66.1 (c_X9_isNumber l G h a σ_68 1 15 L ((ktok (σ 35) L (ktok (σ 35) L (ktok (σ 35) L E5).2).2).1) (by subst g68; subst g56; subst g6; subst eσ5; subst eσ1; exact (congrArg (fun z => mtk z L (ktok (σ 35) L (ktok (σ 35) L (ktok (σ 35) L E5).2).2).1) h35).symm) (by subst g68; subst g56; subst g6; subst eσ5; subst eσ1; exact (congrArg (fun z => mvl z L (ktok (σ 35) L (ktok (σ 35) L (ktok (σ 35) L E5).2).2).1) h35).symm) (by subst g68; subst g56; subst g6; subst eσ5; subst eσ1; exact (congrArg (fun z => mdi z L (ktok (σ 35) L (ktok (σ 35) L (ktok (σ 35) L E5).2).2).1) h35).symm) lL (by omega) (by decide)) 9 0 gX9_goesThrough_X9_isNumber rfl 2 rfl (by decide +kernel) ⟨Nat.le_of_ble_eq_true rfl, Nat.le_of_ble_eq_true rfl⟩ ⟨Nat.zero_le _, Nat.zero_le _⟩ rfl rfl (Nat.le_of_ble_eq_true rfl) rfl dX9_goesThrough_134 (fun r71 u71 H72 locs72 hw71 (hP72 : va_P G.1 vwCl (mW G h a σ_68) H72) (hD72 : va_D A (mW G h a σ_68)) hS72 => ?_)
                        clear hP69 hD69 hS69
                        have w71_0 : r71 = if knum (σ_68 35) ((ktok (σ 35) L (ktok (σ 35) L (ktok (σ 35) L E5).2).2).1) (ktokE (σ_68 35) L ((ktok (σ 35) L (ktok (σ 35) L (ktok (σ 35) L E5).2).2).1)) 1 15 = -1 then (0 : Int32) else 1 := hw71
                        have hW : kcW (σ 35) L E5 = knum (σ 35) (ktok (σ 35) L (ktok (σ 35) L (ktok (σ 35) L E5).2).2).1 (ktok (σ 35) L (ktok (σ 35) L (ktok (σ 35) L E5).2).2).2 1 15 := by unfold kcW; rw [hkd]; rfl
                        have g71 : r71 = if kcW (σ 35) L E5 = -1 then 0 else 1 := (by subst g68; subst g56; subst g6; subst eσ5; subst eσ1; rw [hW]; exact w71_0.trans (congrArg (fun z => if knum z (ktok (σ 35) L (ktok (σ 35) L (ktok (σ 35) L E5).2).2).1 (ktokE z L (ktok (σ 35) L (ktok (σ 35) L (ktok (σ 35) L E5).2).2).1) 1 15 = -1 then 0 else 1) h35))
                        clear w71_0
                        subst g71
                        by_cases hWn : kcW (σ 35) L E5 = -1
                        · rw [if_pos hWn]
                          have hR : kcR (σ 35) L E5 = 0 := by simp only [kcR, hcA, hcB, hcC, hWn, Bool.false_eq_true, ↓reduceIte]
                          have hcT : kcT (σ 35) L E5 = kc3 (σ 35) L E5 := by simp only [kcT, hcA, hcB, hcC, hWn, Bool.false_eq_true, ↓reduceIte]
                          refine lv_if_ne (tgt := 147) hx hb dX9_goesThrough_137 (by decide) (fun c73 => ?_) (fun c73 => ?_)
                          · exact absurd (by decide) c73
                          · refine lv_iconst (v := (-1)) hx hb dX9_goesThrough_140 (by decide) ?_
                            refine lv_aload_n hx hb dX9_goesThrough_141 rfl (lv_at hl66 5 rfl) ?_
                            refine kget F hK hP72 9 0 38 iX9 rfl rfl (by decide) (List.mem_of_getElem? (i := 2) rfl) rfl dX9_goesThrough_142 ?_
                            refine lv_isub hx hb dX9_goesThrough_145 ?_
                            have q74 : (((-1) - (σ_68 38 0)) = mgoR (kread (σ 35) L 24 0 0 (gx, gk, gf, gs))) ∧ (∃ b1 b2 b3 b4 b5 : Int32, σ_68 = mrw σ b1 b2 b3 b4 b5) := by
                              have hRR := hRd.trans (kread_A (by omega) hR)
                              rw [hcT] at hRR
                              subst g68
                              subst g56
                              subst g6
                              subst eσ5
                              subst eσ1
                              refine ⟨?_, _, _, _, _, _, rfl⟩
                              rw [hRR]
                              exact (mgo_f (show (kc3 (σ 35) L E5).1 ≤ 200 from Nat.le_trans hb3.1 (Nat.le_trans hb3.2 lL))).symm
                            exact kRi F hr hlocks hS72 dX9_goesThrough_146 σ_68 q74 hP72 hD72
                        · rw [if_neg hWn]
                          have vW : mvl (σ 35) L (ktok (σ 35) L (ktok (σ 35) L (ktok (σ 35) L E5).2).2).1 = kcW (σ 35) L E5 := ((mnum_eq (a := 1) (b := 15) lL (by omega) (by decide)).2 (fun q => hWn (hW.trans q))).trans hW.symm
                          have hR : ¬ kcR (σ 35) L E5 = 0 := by simp only [kcR, hcA, hcB, hcC, hWn, Bool.false_eq_true, ↓reduceIte]; decide
                          have hcT : kcT (σ 35) L E5 = kc3 (σ 35) L E5 := by simp only [kcT, hcA, hcB, hcC, hWn, Bool.false_eq_true, ↓reduceIte]
                          refine lv_if_ne (tgt := 147) hx hb dX9_goesThrough_137 (by decide) (fun c75 => ?_) (fun c75 => ?_)
                          · refine lv_aload_n hx hb dX9_goesThrough_147 rfl (lv_at hl66 5 rfl) ?_
                            refine kget F hK hP72 9 0 40 iX9 rfl rfl (by decide) (List.mem_of_getElem? (i := 3) rfl) rfl dX9_goesThrough_148 ?_
                            rw [show (σ_68 40 0) = (kcW (σ 35) L E5) from (by subst g68; subst g56; subst g6; subst eσ5; subst eσ1; exact vW)]
                            refine lv_istore (lv' := [(6, .int (kcW (σ 35) L E5)), (5, .int (kcV (σ 35) L E5)), (4, .int 1), (3, .int 1), (2, .int (nI k)), (0, .ref h), (1, .int 0)]) hx hb dX9_goesThrough_151 hl66 (by decide) rfl (fun ls76 hl76 => ?_)
                            clear hl66
                            refine lv_iload_n hx hb dX9_goesThrough_153 rfl (lv_at hl76 6 rfl) ?_
                            refine lv_if_eq (tgt := 167) hx hb dX9_goesThrough_154 (by decide) (fun c77 => ?_) (fun c77 => ?_)
                            · refine lv_iinc (v := nI (k + 1)) (lv' := [(2, .int (nI (k + 1))), (6, .int (kcW (σ 35) L E5)), (5, .int (kcV (σ 35) L E5)), (4, .int 1), (3, .int 1), (0, .ref h), (1, .int 0)]) hx hb dX9_goesThrough_167 hl76 (k := 4) rfl (nI_1 _) (by decide) rfl (fun ls78 hl78 => ?_)
                              clear hl76
                              refine lv_aload_n hx hb dX9_goesThrough_170 rfl (lv_at hl78 5 rfl) ?_
                              refine kWVv F hK hP72 hD72 hS72 hA hl78.1 (c_X9_reads l G h a σ_68 L ((kcT (σ 35) L E5).2) (by subst g68; subst g56; subst g6; subst eσ5; subst eσ1; exact h36) lL (by subst g68; subst g56; subst g6; subst eσ5; subst eσ1; rw [hcT]; rfl) hbT.2) 9 0 gX9_goesThrough_X9_reads rfl 0 rfl (by decide +kernel) ⟨Nat.le_of_ble_eq_true rfl, Nat.le_of_ble_eq_true rfl⟩ ⟨Nat.zero_le _, Nat.zero_le _⟩ rfl rfl (Nat.le_of_ble_eq_true rfl) rfl dX9_goesThrough_171 (fun σ_79 H80 locs80 hw79 (hP80 : va_P G.1 vwCl (mW G h a σ_79) H80) (hD80 : va_D A (mW G h a σ_79)) hS80 => ?_)
                              clear hP72 hD72 hS72
                              have w79_0 : σ_79 = mreads σ_68 L ((kcT (σ 35) L E5).2) := hw79
                              have g79 : σ_79 = mrt (σ 35) L ((kcT (σ 35) L E5).2) σ := w79_0.trans (by rw [g68]; exact mreads_mrw h35)
                              clear w79_0
                              refine lv_aload_n hx hb dX9_goesThrough_174 rfl (lv_at hl78 5 rfl) ?_
                              refine kget F hK hP80 9 0 39 iX9 rfl rfl (by decide) (List.mem_of_getElem? (i := 4) rfl) rfl dX9_goesThrough_175 ?_
                              rw [show (σ_79 39 0) = (mtk (σ 35) L (ktok (σ 35) L (kcT (σ 35) L E5).2).1) from (by subst g79; subst g68; subst g56; subst g6; subst eσ5; subst eσ1; rfl)]
                              refine lv_if_eq (tgt := 185) hx hb dX9_goesThrough_178 (by decide) (fun c81 => ?_) (fun c81 => ?_)
                              · have hu := mtk0 (xl := (σ 35)) (L := L) (u := (ktok (σ 35) L (kcT (σ 35) L E5).2).1) (by omega) c81
                                refine lv_iconst (v := 0) hx hb dX9_goesThrough_185 (by decide) ?_
                                refine lv_istore_n (lv' := [(3, .int 0), (2, .int (nI (k + 1))), (6, .int (kcW (σ 35) L E5)), (5, .int (kcV (σ 35) L E5)), (4, .int 1), (0, .ref h), (1, .int 0)]) hx hb dX9_goesThrough_186 rfl hl78 (by decide) rfl (fun ls82 hl82 => ?_)
                                clear hl78
                                refine lv_iload_n hx hb dX9_goesThrough_187 rfl (lv_at hl82 0 rfl) ?_
                                refine lv_if_eq (tgt := 221) hx hb dX9_goesThrough_188 (by decide) (fun c83 => ?_) (fun c83 => ?_)
                                · refine lv_goto (tgt := 9) hx hb dX9_goesThrough_221 (by decide) ?_
                                  refine lv_iload_n hx hb dX9_goesThrough_9 rfl (lv_at hl82 0 rfl) ?_
                                  refine lv_if_eq (tgt := 224) hx hb dX9_goesThrough_10 (by decide) (fun c84 => ?_) (fun c84 => ?_)
                                  · refine lv_iload_n hx hb dX9_goesThrough_224 rfl (lv_at hl82 1 rfl) ?_
                                    have q85 : ((nI (k + 1)) = mgoR (kread (σ 35) L 24 0 0 (gx, gk, gf, gs))) ∧ (∃ b1 b2 b3 b4 b5 : Int32, σ_79 = mrw σ b1 b2 b3 b4 b5) := by
                                      have hRR := hRd.trans (kread_B (by omega) hR hu)
                                      subst g79
                                      subst g68
                                      subst g56
                                      subst g6
                                      subst eσ5
                                      subst eσ1
                                      refine ⟨?_, _, _, _, _, _, rfl⟩
                                      rw [hRR]
                                      show nI (k + 1) = mgoR (-1, krq (σ 35) L k E5 (qx5, qk5, qf5, qs5))
                                      rw [mgoR, if_pos rfl]
                                      show nI (k + 1) = qx5 5 + 1
                                      rw [hq5, nI_1]
                                    exact kRi F hr hlocks hS80 dX9_goesThrough_225 σ_79 q85 hP80 hD80
                                  · exact absurd (by decide) c84
                                · exact absurd (by decide) c83
                              · have hu := mtkL (xl := (σ 35)) (L := L) (u := (ktok (σ 35) L (kcT (σ 35) L E5).2).1) c81
                                refine lv_iconst (v := 1) hx hb dX9_goesThrough_181 (by decide) ?_
                                refine lv_goto (tgt := 186) hx hb dX9_goesThrough_182 (by decide) ?_
                                refine lv_istore_n (lv' := [(3, .int 1), (2, .int (nI (k + 1))), (6, .int (kcW (σ 35) L E5)), (5, .int (kcV (σ 35) L E5)), (4, .int 1), (0, .ref h), (1, .int 0)]) hx hb dX9_goesThrough_186 rfl hl78 (by decide) rfl (fun ls86 hl86 => ?_)
                                clear hl78
                                refine lv_iload_n hx hb dX9_goesThrough_187 rfl (lv_at hl86 0 rfl) ?_
                                refine lv_if_eq (tgt := 221) hx hb dX9_goesThrough_188 (by decide) (fun c87 => ?_) (fun c87 => ?_)
                                · exact absurd c87 (by decide)
                                · refine lv_aload_n hx hb dX9_goesThrough_191 rfl (lv_at hl86 5 rfl) ?_
                                  refine kget F hK hP80 9 0 39 iX9 rfl rfl (by decide) (List.mem_of_getElem? (i := 4) rfl) rfl dX9_goesThrough_192 ?_
                                  rw [show (σ_79 39 0) = (mtk (σ 35) L (ktok (σ 35) L (kcT (σ 35) L E5).2).1) from (by subst g79; subst g68; subst g56; subst g6; subst eσ5; subst eσ1; rfl)]
                                  refine lv_iconst (v := 3) hx hb dX9_goesThrough_195 (by decide) ?_
                                  refine lv_icmp_ne (tgt := 214) hx hb dX9_goesThrough_196 (by decide) (fun c88 => ?_) (fun c88 => ?_)
                                  · have h9 := mtk59 (xl := (σ 35)) (L := L) (u := (ktok (σ 35) L (kcT (σ 35) L E5).2).1) (by omega) c88
                                    refine lv_iconst (v := (-1)) hx hb dX9_goesThrough_214 (by decide) ?_
                                    refine lv_aload_n hx hb dX9_goesThrough_215 rfl (lv_at hl86 5 rfl) ?_
                                    refine kget F hK hP80 9 0 38 iX9 rfl rfl (by decide) (List.mem_of_getElem? (i := 2) rfl) rfl dX9_goesThrough_216 ?_
                                    refine lv_isub hx hb dX9_goesThrough_219 ?_
                                    have q89 : (((-1) - (σ_79 38 0)) = mgoR (kread (σ 35) L 24 0 0 (gx, gk, gf, gs))) ∧ (∃ b1 b2 b3 b4 b5 : Int32, σ_79 = mrw σ b1 b2 b3 b4 b5) := by
                                      have hRR := hRd.trans (kread_C (by omega) hR hu h9)
                                      subst g79
                                      subst g68
                                      subst g56
                                      subst g6
                                      subst eσ5
                                      subst eσ1
                                      refine ⟨?_, _, _, _, _, _, rfl⟩
                                      rw [hRR]
                                      exact (mgo_f (by omega)).symm
                                    exact kRi F hr hlocks hS80 dX9_goesThrough_220 σ_79 q89 hP80 hD80
                                  · have h3 := mvl3 (xl := (σ 35)) (L := L) (u := (ktok (σ 35) L (kcT (σ 35) L E5).2).1) (by omega) c88
                                    refine lv_aload_n hx hb dX9_goesThrough_199 rfl (lv_at hl86 5 rfl) ?_
                                    refine kget F hK hP80 9 0 40 iX9 rfl rfl (by decide) (List.mem_of_getElem? (i := 3) rfl) rfl dX9_goesThrough_200 ?_
                                    rw [show (σ_79 40 0) = (mvl (σ 35) L (ktok (σ 35) L (kcT (σ 35) L E5).2).1) from (by subst g79; subst g68; subst g56; subst g6; subst eσ5; subst eσ1; rfl)]
                                    refine lv_bipush (v := 59) hx hb dX9_goesThrough_203 (by decide) ?_
                                    refine lv_icmp_ne (tgt := 214) hx hb dX9_goesThrough_205 (by decide) (fun c90 => ?_) (fun c90 => ?_)
                                    · have h9 : ¬ (σ 35) (ktok (σ 35) L (kcT (σ 35) L E5).2).1 = 59 := fun q => c90 (h3.trans q)
                                      refine lv_iconst (v := (-1)) hx hb dX9_goesThrough_214 (by decide) ?_
                                      refine lv_aload_n hx hb dX9_goesThrough_215 rfl (lv_at hl86 5 rfl) ?_
                                      refine kget F hK hP80 9 0 38 iX9 rfl rfl (by decide) (List.mem_of_getElem? (i := 2) rfl) rfl dX9_goesThrough_216 ?_
                                      refine lv_isub hx hb dX9_goesThrough_219 ?_
                                      have q91 : (((-1) - (σ_79 38 0)) = mgoR (kread (σ 35) L 24 0 0 (gx, gk, gf, gs))) ∧ (∃ b1 b2 b3 b4 b5 : Int32, σ_79 = mrw σ b1 b2 b3 b4 b5) := by
                                        have hRR := hRd.trans (kread_C (by omega) hR hu h9)
                                        subst g79
                                        subst g68
                                        subst g56
                                        subst g6
                                        subst eσ5
                                        subst eσ1
                                        refine ⟨?_, _, _, _, _, _, rfl⟩
                                        rw [hRR]
                                        exact (mgo_f (by omega)).symm
                                      exact kRi F hr hlocks hS80 dX9_goesThrough_220 σ_79 q91 hP80 hD80
                                    · have h9 : (σ 35) (ktok (σ 35) L (kcT (σ 35) L E5).2).1 = 59 := h3.symm.trans c90
                                      refine lv_iload_n hx hb dX9_goesThrough_208 rfl (lv_at hl86 1 rfl) ?_
                                      refine lv_bipush (v := 24) hx hb dX9_goesThrough_209 (by decide) ?_
                                      refine lv_icmp_ne (tgt := 221) hx hb dX9_goesThrough_211 (by decide) (fun c92 => ?_) (fun c92 => ?_)
                                      · have h24 : ¬ k + 1 = 24 := fun q => c92 (by rw [q]; rfl)
                                        refine lv_goto (tgt := 9) hx hb dX9_goesThrough_221 (by decide) ?_
                                        refine lv_iload_n hx hb dX9_goesThrough_9 rfl (lv_at hl86 0 rfl) ?_
                                        refine lv_if_eq (tgt := 224) hx hb dX9_goesThrough_10 (by decide) (fun c93 => ?_) (fun c93 => ?_)
                                        · exact absurd c93 (by decide)
                                        · exact ih (k + 1) (by omega) (by omega) ((ktok (σ 35) L (kcT (σ 35) L E5).2).2) (krx (σ 35) L E5 qx5) (kcP qk5 k (kcK (σ 35) L E5) (σ 35) L E5) (kcP qf5 k (kcV (σ 35) L E5) (σ 35) L E5) (kcP qs5 k (kcS (σ 35) L E5) (σ 35) L E5) (nI (ktok (σ 35) L (kcT (σ 35) L E5).2).1) (mtk (σ 35) L (ktok (σ 35) L (kcT (σ 35) L E5).2).1) (mvl (σ 35) L (ktok (σ 35) L (kcT (σ 35) L E5).2).1) (mdi (σ 35) L (ktok (σ 35) L (kcT (σ 35) L E5).2).1) σ_79 g79 hbu.2 (by show qx5 5 + 1 = _; rw [hq5, nI_1]) (hRd.trans (kread_D (by omega) hR hu h9)) _ _ _ (lv_sub hl86 [0, 1, 5, 6] rfl) hP80 hD80 hS80
                                      · have h24 : k + 1 = 24 := (nI_eq (a := k + 1) (b := 24) (by omega) (by omega)).mp c92
                                        refine lv_iconst (v := (-1)) hx hb dX9_goesThrough_214 (by decide) ?_
                                        refine lv_aload_n hx hb dX9_goesThrough_215 rfl (lv_at hl86 5 rfl) ?_
                                        refine kget F hK hP80 9 0 38 iX9 rfl rfl (by decide) (List.mem_of_getElem? (i := 2) rfl) rfl dX9_goesThrough_216 ?_
                                        refine lv_isub hx hb dX9_goesThrough_219 ?_
                                        have q94 : (((-1) - (σ_79 38 0)) = mgoR (kread (σ 35) L 24 0 0 (gx, gk, gf, gs))) ∧ (∃ b1 b2 b3 b4 b5 : Int32, σ_79 = mrw σ b1 b2 b3 b4 b5) := by
                                          have hRR := hRd.trans (kread_D (by omega) hR hu h9)
                                          rw [show 24 - (k + 1) = 0 by omega] at hRR
                                          have hRR : (kread (σ 35) L 24 0 0 (gx, gk, gf, gs)) = (nI (ktok (σ 35) L (kcT (σ 35) L E5).2).1, krq (σ 35) L k E5 (qx5, qk5, qf5, qs5)) := hRR
                                          subst g79
                                          subst g68
                                          subst g56
                                          subst g6
                                          subst eσ5
                                          subst eσ1
                                          refine ⟨?_, _, _, _, _, _, rfl⟩
                                          rw [hRR]
                                          exact (mgo_f (by omega)).symm
                                        exact kRi F hr hlocks hS80 dX9_goesThrough_220 σ_79 q94 hP80 hD80
                            · exact absurd (by decide) c77
                          · exact absurd c75 (by decide)
                  · exact absurd c64 (by decide)
          · exact absurd c55 (by decide)
        · rw [show (kcK (σ 35) L E5) = 2 from hkd]
          have hcA : kcA (σ 35) L E5 = false := by unfold kcA; rw [hkd]; decide
          have hcC : kcC (σ 35) L E5 = false := by unfold kcC; rw [hkd]; decide
          refine lv_istore (lv' := [(4, .int 2), (3, .int 1), (2, .int (nI k)), (0, .ref h), (1, .int 0)]) hx hb dX9_goesThrough_21 hl5 (by decide) rfl (fun ls95 hl95 => ?_)
          clear hl5
          refine lv_iload hx hb dX9_goesThrough_23 (lv_at hl95 0 rfl) ?_
          refine lv_iconst (v := (-1)) hx hb dX9_goesThrough_25 (by decide) ?_
          refine lv_icmp_ne (tgt := 36) hx hb dX9_goesThrough_26 (by decide) (fun c96 => ?_) (fun c96 => ?_)
          · refine lv_aload_n hx hb dX9_goesThrough_36 rfl (lv_at hl95 3 rfl) ?_
            refine kWVv F hK hP9 hD9 hS9 hA hl95.1 (c_X9_reads l G h a σ_6 L ((ktok (σ 35) L E5).2) (by subst g6; subst eσ5; subst eσ1; exact h36) lL (by subst g6; subst eσ5; subst eσ1; rfl) hb1.2) 9 0 gX9_goesThrough_X9_reads rfl 0 rfl (by decide +kernel) ⟨Nat.le_of_ble_eq_true rfl, Nat.le_of_ble_eq_true rfl⟩ ⟨Nat.zero_le _, Nat.zero_le _⟩ rfl rfl (Nat.le_of_ble_eq_true rfl) rfl dX9_goesThrough_37 (fun σ_97 H98 locs98 hw97 (hP98 : va_P G.1 vwCl (mW G h a σ_97) H98) (hD98 : va_D A (mW G h a σ_97)) hS98 => ?_)
            clear hP9 hD9 hS9
            have w97_0 : σ_97 = mreads σ_6 L ((ktok (σ 35) L E5).2) := hw97
            have g97 : σ_97 = mrt (σ 35) L ((ktok (σ 35) L E5).2) σ := w97_0.trans (by rw [g6]; exact mreads_mrw h35)
            clear w97_0
            refine lv_aload_n hx hb dX9_goesThrough_40 rfl (lv_at hl95 3 rfl) ?_
            refine lv_iload hx hb dX9_goesThrough_41 (lv_at hl95 0 rfl) ?_
            refine lv_iconst (v := 2) hx hb dX9_goesThrough_43 (by decide) ?_
            refine lv_icmp_ge (tgt := 51) hx hb dX9_goesThrough_44 (by decide) (fun c99 => ?_) (fun c99 => ?_)
            · refine lv_iconst (v := 0) hx hb dX9_goesThrough_51 (by decide) ?_
              refine lv_iload hx hb dX9_goesThrough_52 (lv_at hl95 0 rfl) ?_
              refine lv_iconst (v := 2) hx hb dX9_goesThrough_54 (by decide) ?_
              refine lv_icmp_ge (tgt := 63) hx hb dX9_goesThrough_55 (by decide) (fun c100 => ?_) (fun c100 => ?_)
              · refine lv_iload hx hb dX9_goesThrough_63 (lv_at hl95 0 rfl) ?_
                refine lv_iconst (v := 2) hx hb dX9_goesThrough_65 (by decide) ?_
                refine lv_icmp_ne (tgt := 73) hx hb dX9_goesThrough_66 (by decide) (fun c101 => ?_) (fun c101 => ?_)
                · exact absurd (by decide) c101
                · refine lv_iconst (v := 1) hx hb dX9_goesThrough_69 (by decide) ?_
                  refine lv_goto (tgt := 86) hx hb dX9_goesThrough_70 (by decide) ?_
                  refine kWVi F hK hP98 hD98 hS98 hA hl95.1 (c_X9_isNumber l G h a σ_97 0 1 L ((ktok (σ 35) L (ktok (σ 35) L E5).2).1) (by subst g97; subst g6; subst eσ5; subst eσ1; exact (congrArg (fun z => mtk z L (ktok (σ 35) L (ktok (σ 35) L E5).2).1) h35).symm) (by subst g97; subst g6; subst eσ5; subst eσ1; exact (congrArg (fun z => mvl z L (ktok (σ 35) L (ktok (σ 35) L E5).2).1) h35).symm) (by subst g97; subst g6; subst eσ5; subst eσ1; exact (congrArg (fun z => mdi z L (ktok (σ 35) L (ktok (σ 35) L E5).2).1) h35).symm) lL (by omega) (by decide)) 9 0 gX9_goesThrough_X9_isNumber rfl 2 rfl (by decide +kernel) ⟨Nat.le_of_ble_eq_true rfl, Nat.le_of_ble_eq_true rfl⟩ ⟨Nat.zero_le _, Nat.zero_le _⟩ rfl rfl (Nat.le_of_ble_eq_true rfl) rfl dX9_goesThrough_86 (fun r102 u102 H103 locs103 hw102 (hP103 : va_P G.1 vwCl (mW G h a σ_97) H103) (hD103 : va_D A (mW G h a σ_97)) hS103 => ?_)
                  clear hP98 hD98 hS98
                  have w102_0 : r102 = if knum (σ_97 35) ((ktok (σ 35) L (ktok (σ 35) L E5).2).1) (ktokE (σ_97 35) L ((ktok (σ 35) L (ktok (σ 35) L E5).2).1)) 0 1 = -1 then (0 : Int32) else 1 := hw102
                  have hV : kcV (σ 35) L E5 = knum (σ 35) (ktok (σ 35) L (ktok (σ 35) L E5).2).1 (ktok (σ 35) L (ktok (σ 35) L E5).2).2 0 1 := by unfold kcV; rw [hkd]; rfl
                  have g102 : r102 = if kcV (σ 35) L E5 = -1 then 0 else 1 := (by subst g97; subst g6; subst eσ5; subst eσ1; rw [hV]; exact w102_0.trans (congrArg (fun z => if knum z (ktok (σ 35) L (ktok (σ 35) L E5).2).1 (ktokE z L (ktok (σ 35) L (ktok (σ 35) L E5).2).1) 0 1 = -1 then 0 else 1) h35))
                  clear w102_0
                  subst g102
                  by_cases hVn : kcV (σ 35) L E5 = -1
                  · rw [if_pos hVn]
                    have hcB : kcB (σ 35) L E5 = true := decide_eq_true hVn
                    have hR : kcR (σ 35) L E5 = 0 := by simp only [kcR, hcA, hcB, Bool.false_eq_true, ↓reduceIte]
                    have hcT : kcT (σ 35) L E5 = kc2 (σ 35) L E5 := by simp only [kcT, hcA, hcB, Bool.false_eq_true, ↓reduceIte]
                    refine lv_if_ne (tgt := 99) hx hb dX9_goesThrough_89 (by decide) (fun c104 => ?_) (fun c104 => ?_)
                    · exact absurd (by decide) c104
                    · refine lv_iconst (v := (-1)) hx hb dX9_goesThrough_92 (by decide) ?_
                      refine lv_aload_n hx hb dX9_goesThrough_93 rfl (lv_at hl95 3 rfl) ?_
                      refine kget F hK hP103 9 0 38 iX9 rfl rfl (by decide) (List.mem_of_getElem? (i := 2) rfl) rfl dX9_goesThrough_94 ?_
                      refine lv_isub hx hb dX9_goesThrough_97 ?_
                      have q105 : (((-1) - (σ_97 38 0)) = mgoR (kread (σ 35) L 24 0 0 (gx, gk, gf, gs))) ∧ (∃ b1 b2 b3 b4 b5 : Int32, σ_97 = mrw σ b1 b2 b3 b4 b5) := by
                        have hRR := hRd.trans (kread_A (by omega) hR)
                        rw [hcT] at hRR
                        subst g97
                        subst g6
                        subst eσ5
                        subst eσ1
                        refine ⟨?_, _, _, _, _, _, rfl⟩
                        rw [hRR]
                        exact (mgo_f (show (kc2 (σ 35) L E5).1 ≤ 200 from Nat.le_trans hb2.1 (Nat.le_trans hb2.2 lL))).symm
                      exact kRi F hr hlocks hS103 dX9_goesThrough_98 σ_97 q105 hP103 hD103
                  · rw [if_neg hVn]
                    have hcB : kcB (σ 35) L E5 = false := decide_eq_false hVn
                    have vV : mvl (σ 35) L (ktok (σ 35) L (ktok (σ 35) L E5).2).1 = kcV (σ 35) L E5 := ((mnum_eq (a := 0) (b := 1) lL (by omega) (by decide)).2 (fun q => hVn (hV.trans q))).trans hV.symm
                    refine lv_if_ne (tgt := 99) hx hb dX9_goesThrough_89 (by decide) (fun c106 => ?_) (fun c106 => ?_)
                    · refine lv_aload_n hx hb dX9_goesThrough_99 rfl (lv_at hl95 3 rfl) ?_
                      refine kget F hK hP103 9 0 40 iX9 rfl rfl (by decide) (List.mem_of_getElem? (i := 3) rfl) rfl dX9_goesThrough_100 ?_
                      rw [show (σ_97 40 0) = (kcV (σ 35) L E5) from (by subst g97; subst g6; subst eσ5; subst eσ1; exact vV)]
                      refine lv_istore (lv' := [(5, .int (kcV (σ 35) L E5)), (4, .int 2), (3, .int 1), (2, .int (nI k)), (0, .ref h), (1, .int 0)]) hx hb dX9_goesThrough_103 hl95 (by decide) rfl (fun ls107 hl107 => ?_)
                      clear hl95
                      refine lv_iconst (v := 0) hx hb dX9_goesThrough_105 (by decide) ?_
                      refine lv_istore (lv' := [(6, .int 0), (5, .int (kcV (σ 35) L E5)), (4, .int 2), (3, .int 1), (2, .int (nI k)), (0, .ref h), (1, .int 0)]) hx hb dX9_goesThrough_106 hl107 (by decide) rfl (fun ls108 hl108 => ?_)
                      clear hl107
                      refine lv_iload hx hb dX9_goesThrough_108 (lv_at hl108 2 rfl) ?_
                      refine lv_iconst (v := 3) hx hb dX9_goesThrough_110 (by decide) ?_
                      refine lv_icmp_ge (tgt := 153) hx hb dX9_goesThrough_111 (by decide) (fun c109 => ?_) (fun c109 => ?_)
                      · exact absurd c109 (by decide)
                      · refine lv_aload_n hx hb dX9_goesThrough_114 rfl (lv_at hl108 5 rfl) ?_
                        refine kWVv F hK hP103 hD103 hS103 hA hl108.1 (c_X9_reads l G h a σ_97 L ((ktok (σ 35) L (ktok (σ 35) L E5).2).2) (by subst g97; subst g6; subst eσ5; subst eσ1; exact h36) lL (by subst g97; subst g6; subst eσ5; subst eσ1; rfl) hb2.2) 9 0 gX9_goesThrough_X9_reads rfl 0 rfl (by decide +kernel) ⟨Nat.le_of_ble_eq_true rfl, Nat.le_of_ble_eq_true rfl⟩ ⟨Nat.zero_le _, Nat.zero_le _⟩ rfl rfl (Nat.le_of_ble_eq_true rfl) rfl dX9_goesThrough_115 (fun σ_110 H111 locs111 hw110 (hP111 : va_P G.1 vwCl (mW G h a σ_110) H111) (hD111 : va_D A (mW G h a σ_110)) hS111 => ?_)
                        clear hP103 hD103 hS103
                        have w110_0 : σ_110 = mreads σ_97 L ((ktok (σ 35) L (ktok (σ 35) L E5).2).2) := hw110
                        have g110 : σ_110 = mrt (σ 35) L ((ktok (σ 35) L (ktok (σ 35) L E5).2).2) σ := w110_0.trans (by rw [g97]; exact mreads_mrw h35)
                        clear w110_0
                        refine lv_aload_n hx hb dX9_goesThrough_118 rfl (lv_at hl108 5 rfl) ?_
                        refine lv_iconst (v := 1) hx hb dX9_goesThrough_119 (by decide) ?_
                        refine lv_iload hx hb dX9_goesThrough_120 (lv_at hl108 2 rfl) ?_
                        refine lv_iconst (v := 2) hx hb dX9_goesThrough_122 (by decide) ?_
                        refine lv_icmp_ge (tgt := 131) hx hb dX9_goesThrough_123 (by decide) (fun c112 => ?_) (fun c112 => ?_)
                        · refine lv_sipush (v := 999) hx hb dX9_goesThrough_131 (by decide) ?_
                          refine kWVi F hK hP111 hD111 hS111 hA hl108.1 (c_X9_isNumber l G h a σ_110 1 999 L ((ktok (σ 35) L (ktok (σ 35) L (ktok (σ 35) L E5).2).2).1) (by subst g110; subst g97; subst g6; subst eσ5; subst eσ1; exact (congrArg (fun z => mtk z L (ktok (σ 35) L (ktok (σ 35) L (ktok (σ 35) L E5).2).2).1) h35).symm) (by subst g110; subst g97; subst g6; subst eσ5; subst eσ1; exact (congrArg (fun z => mvl z L (ktok (σ 35) L (ktok (σ 35) L (ktok (σ 35) L E5).2).2).1) h35).symm) (by subst g110; subst g97; subst g6; subst eσ5; subst eσ1; exact (congrArg (fun z => mdi z L (ktok (σ 35) L (ktok (σ 35) L (ktok (σ 35) L E5).2).2).1) h35).symm) lL (by omega) (by decide)) 9 0 gX9_goesThrough_X9_isNumber rfl 2 rfl (by decide +kernel) ⟨Nat.le_of_ble_eq_true rfl, Nat.le_of_ble_eq_true rfl⟩ ⟨Nat.zero_le _, Nat.zero_le _⟩ rfl rfl (Nat.le_of_ble_eq_true rfl) rfl dX9_goesThrough_134 (fun r113 u113 H114 locs114 hw113 (hP114 : va_P G.1 vwCl (mW G h a σ_110) H114) (hD114 : va_D A (mW G h a σ_110)) hS114 => ?_)
                          clear hP111 hD111 hS111
                          have w113_0 : r113 = if knum (σ_110 35) ((ktok (σ 35) L (ktok (σ 35) L (ktok (σ 35) L E5).2).2).1) (ktokE (σ_110 35) L ((ktok (σ 35) L (ktok (σ 35) L (ktok (σ 35) L E5).2).2).1)) 1 999 = -1 then (0 : Int32) else 1 := hw113
                          have hW : kcW (σ 35) L E5 = knum (σ 35) (ktok (σ 35) L (ktok (σ 35) L (ktok (σ 35) L E5).2).2).1 (ktok (σ 35) L (ktok (σ 35) L (ktok (σ 35) L E5).2).2).2 1 999 := by unfold kcW; rw [hkd]; rfl
                          have g113 : r113 = if kcW (σ 35) L E5 = -1 then 0 else 1 := (by subst g110; subst g97; subst g6; subst eσ5; subst eσ1; rw [hW]; exact w113_0.trans (congrArg (fun z => if knum z (ktok (σ 35) L (ktok (σ 35) L (ktok (σ 35) L E5).2).2).1 (ktokE z L (ktok (σ 35) L (ktok (σ 35) L (ktok (σ 35) L E5).2).2).1) 1 999 = -1 then 0 else 1) h35))
                          clear w113_0
                          subst g113
                          by_cases hWn : kcW (σ 35) L E5 = -1
                          · rw [if_pos hWn]
                            have hR : kcR (σ 35) L E5 = 0 := by simp only [kcR, hcA, hcB, hcC, hWn, Bool.false_eq_true, ↓reduceIte]
                            have hcT : kcT (σ 35) L E5 = kc3 (σ 35) L E5 := by simp only [kcT, hcA, hcB, hcC, hWn, Bool.false_eq_true, ↓reduceIte]
                            refine lv_if_ne (tgt := 147) hx hb dX9_goesThrough_137 (by decide) (fun c115 => ?_) (fun c115 => ?_)
                            · exact absurd (by decide) c115
                            · refine lv_iconst (v := (-1)) hx hb dX9_goesThrough_140 (by decide) ?_
                              refine lv_aload_n hx hb dX9_goesThrough_141 rfl (lv_at hl108 5 rfl) ?_
                              refine kget F hK hP114 9 0 38 iX9 rfl rfl (by decide) (List.mem_of_getElem? (i := 2) rfl) rfl dX9_goesThrough_142 ?_
                              refine lv_isub hx hb dX9_goesThrough_145 ?_
                              have q116 : (((-1) - (σ_110 38 0)) = mgoR (kread (σ 35) L 24 0 0 (gx, gk, gf, gs))) ∧ (∃ b1 b2 b3 b4 b5 : Int32, σ_110 = mrw σ b1 b2 b3 b4 b5) := by
                                have hRR := hRd.trans (kread_A (by omega) hR)
                                rw [hcT] at hRR
                                subst g110
                                subst g97
                                subst g6
                                subst eσ5
                                subst eσ1
                                refine ⟨?_, _, _, _, _, _, rfl⟩
                                rw [hRR]
                                exact (mgo_f (show (kc3 (σ 35) L E5).1 ≤ 200 from Nat.le_trans hb3.1 (Nat.le_trans hb3.2 lL))).symm
                              exact kRi F hr hlocks hS114 dX9_goesThrough_146 σ_110 q116 hP114 hD114
                          · rw [if_neg hWn]
                            have vW : mvl (σ 35) L (ktok (σ 35) L (ktok (σ 35) L (ktok (σ 35) L E5).2).2).1 = kcW (σ 35) L E5 := ((mnum_eq (a := 1) (b := 999) lL (by omega) (by decide)).2 (fun q => hWn (hW.trans q))).trans hW.symm
                            have hR : ¬ kcR (σ 35) L E5 = 0 := by simp only [kcR, hcA, hcB, hcC, hWn, Bool.false_eq_true, ↓reduceIte]; decide
                            have hcT : kcT (σ 35) L E5 = kc3 (σ 35) L E5 := by simp only [kcT, hcA, hcB, hcC, hWn, Bool.false_eq_true, ↓reduceIte]
                            refine lv_if_ne (tgt := 147) hx hb dX9_goesThrough_137 (by decide) (fun c117 => ?_) (fun c117 => ?_)
                            · refine lv_aload_n hx hb dX9_goesThrough_147 rfl (lv_at hl108 5 rfl) ?_
                              refine kget F hK hP114 9 0 40 iX9 rfl rfl (by decide) (List.mem_of_getElem? (i := 3) rfl) rfl dX9_goesThrough_148 ?_
                              rw [show (σ_110 40 0) = (kcW (σ 35) L E5) from (by subst g110; subst g97; subst g6; subst eσ5; subst eσ1; exact vW)]
                              refine lv_istore (lv' := [(6, .int (kcW (σ 35) L E5)), (5, .int (kcV (σ 35) L E5)), (4, .int 2), (3, .int 1), (2, .int (nI k)), (0, .ref h), (1, .int 0)]) hx hb dX9_goesThrough_151 hl108 (by decide) rfl (fun ls118 hl118 => ?_)
                              clear hl108
                              refine lv_iload_n hx hb dX9_goesThrough_153 rfl (lv_at hl118 6 rfl) ?_
                              refine lv_if_eq (tgt := 167) hx hb dX9_goesThrough_154 (by decide) (fun c119 => ?_) (fun c119 => ?_)
                              · refine lv_iinc (v := nI (k + 1)) (lv' := [(2, .int (nI (k + 1))), (6, .int (kcW (σ 35) L E5)), (5, .int (kcV (σ 35) L E5)), (4, .int 2), (3, .int 1), (0, .ref h), (1, .int 0)]) hx hb dX9_goesThrough_167 hl118 (k := 4) rfl (nI_1 _) (by decide) rfl (fun ls120 hl120 => ?_)
                                clear hl118
                                refine lv_aload_n hx hb dX9_goesThrough_170 rfl (lv_at hl120 5 rfl) ?_
                                refine kWVv F hK hP114 hD114 hS114 hA hl120.1 (c_X9_reads l G h a σ_110 L ((kcT (σ 35) L E5).2) (by subst g110; subst g97; subst g6; subst eσ5; subst eσ1; exact h36) lL (by subst g110; subst g97; subst g6; subst eσ5; subst eσ1; rw [hcT]; rfl) hbT.2) 9 0 gX9_goesThrough_X9_reads rfl 0 rfl (by decide +kernel) ⟨Nat.le_of_ble_eq_true rfl, Nat.le_of_ble_eq_true rfl⟩ ⟨Nat.zero_le _, Nat.zero_le _⟩ rfl rfl (Nat.le_of_ble_eq_true rfl) rfl dX9_goesThrough_171 (fun σ_121 H122 locs122 hw121 (hP122 : va_P G.1 vwCl (mW G h a σ_121) H122) (hD122 : va_D A (mW G h a σ_121)) hS122 => ?_)
                                clear hP114 hD114 hS114
                                have w121_0 : σ_121 = mreads σ_110 L ((kcT (σ 35) L E5).2) := hw121
                                have g121 : σ_121 = mrt (σ 35) L ((kcT (σ 35) L E5).2) σ := w121_0.trans (by rw [g110]; exact mreads_mrw h35)
                                clear w121_0
                                refine lv_aload_n hx hb dX9_goesThrough_174 rfl (lv_at hl120 5 rfl) ?_
                                refine kget F hK hP122 9 0 39 iX9 rfl rfl (by decide) (List.mem_of_getElem? (i := 4) rfl) rfl dX9_goesThrough_175 ?_
                                rw [show (σ_121 39 0) = (mtk (σ 35) L (ktok (σ 35) L (kcT (σ 35) L E5).2).1) from (by subst g121; subst g110; subst g97; subst g6; subst eσ5; subst eσ1; rfl)]
                                refine lv_if_eq (tgt := 185) hx hb dX9_goesThrough_178 (by decide) (fun c123 => ?_) (fun c123 => ?_)
                                · have hu := mtk0 (xl := (σ 35)) (L := L) (u := (ktok (σ 35) L (kcT (σ 35) L E5).2).1) (by omega) c123
                                  refine lv_iconst (v := 0) hx hb dX9_goesThrough_185 (by decide) ?_
                                  refine lv_istore_n (lv' := [(3, .int 0), (2, .int (nI (k + 1))), (6, .int (kcW (σ 35) L E5)), (5, .int (kcV (σ 35) L E5)), (4, .int 2), (0, .ref h), (1, .int 0)]) hx hb dX9_goesThrough_186 rfl hl120 (by decide) rfl (fun ls124 hl124 => ?_)
                                  clear hl120
                                  refine lv_iload_n hx hb dX9_goesThrough_187 rfl (lv_at hl124 0 rfl) ?_
                                  refine lv_if_eq (tgt := 221) hx hb dX9_goesThrough_188 (by decide) (fun c125 => ?_) (fun c125 => ?_)
                                  · refine lv_goto (tgt := 9) hx hb dX9_goesThrough_221 (by decide) ?_
                                    refine lv_iload_n hx hb dX9_goesThrough_9 rfl (lv_at hl124 0 rfl) ?_
                                    refine lv_if_eq (tgt := 224) hx hb dX9_goesThrough_10 (by decide) (fun c126 => ?_) (fun c126 => ?_)
                                    · refine lv_iload_n hx hb dX9_goesThrough_224 rfl (lv_at hl124 1 rfl) ?_
                                      have q127 : ((nI (k + 1)) = mgoR (kread (σ 35) L 24 0 0 (gx, gk, gf, gs))) ∧ (∃ b1 b2 b3 b4 b5 : Int32, σ_121 = mrw σ b1 b2 b3 b4 b5) := by
                                        have hRR := hRd.trans (kread_B (by omega) hR hu)
                                        subst g121
                                        subst g110
                                        subst g97
                                        subst g6
                                        subst eσ5
                                        subst eσ1
                                        refine ⟨?_, _, _, _, _, _, rfl⟩
                                        rw [hRR]
                                        show nI (k + 1) = mgoR (-1, krq (σ 35) L k E5 (qx5, qk5, qf5, qs5))
                                        rw [mgoR, if_pos rfl]
                                        show nI (k + 1) = qx5 5 + 1
                                        rw [hq5, nI_1]
                                      exact kRi F hr hlocks hS122 dX9_goesThrough_225 σ_121 q127 hP122 hD122
                                    · exact absurd (by decide) c126
                                  · exact absurd (by decide) c125
                                · have hu := mtkL (xl := (σ 35)) (L := L) (u := (ktok (σ 35) L (kcT (σ 35) L E5).2).1) c123
                                  refine lv_iconst (v := 1) hx hb dX9_goesThrough_181 (by decide) ?_
                                  refine lv_goto (tgt := 186) hx hb dX9_goesThrough_182 (by decide) ?_
                                  refine lv_istore_n (lv' := [(3, .int 1), (2, .int (nI (k + 1))), (6, .int (kcW (σ 35) L E5)), (5, .int (kcV (σ 35) L E5)), (4, .int 2), (0, .ref h), (1, .int 0)]) hx hb dX9_goesThrough_186 rfl hl120 (by decide) rfl (fun ls128 hl128 => ?_)
                                  clear hl120
                                  refine lv_iload_n hx hb dX9_goesThrough_187 rfl (lv_at hl128 0 rfl) ?_
                                  refine lv_if_eq (tgt := 221) hx hb dX9_goesThrough_188 (by decide) (fun c129 => ?_) (fun c129 => ?_)
                                  · exact absurd c129 (by decide)
                                  · refine lv_aload_n hx hb dX9_goesThrough_191 rfl (lv_at hl128 5 rfl) ?_
                                    refine kget F hK hP122 9 0 39 iX9 rfl rfl (by decide) (List.mem_of_getElem? (i := 4) rfl) rfl dX9_goesThrough_192 ?_
                                    rw [show (σ_121 39 0) = (mtk (σ 35) L (ktok (σ 35) L (kcT (σ 35) L E5).2).1) from (by subst g121; subst g110; subst g97; subst g6; subst eσ5; subst eσ1; rfl)]
                                    refine lv_iconst (v := 3) hx hb dX9_goesThrough_195 (by decide) ?_
                                    refine lv_icmp_ne (tgt := 214) hx hb dX9_goesThrough_196 (by decide) (fun c130 => ?_) (fun c130 => ?_)
                                    · have h9 := mtk59 (xl := (σ 35)) (L := L) (u := (ktok (σ 35) L (kcT (σ 35) L E5).2).1) (by omega) c130
                                      refine lv_iconst (v := (-1)) hx hb dX9_goesThrough_214 (by decide) ?_
                                      refine lv_aload_n hx hb dX9_goesThrough_215 rfl (lv_at hl128 5 rfl) ?_
                                      refine kget F hK hP122 9 0 38 iX9 rfl rfl (by decide) (List.mem_of_getElem? (i := 2) rfl) rfl dX9_goesThrough_216 ?_
                                      refine lv_isub hx hb dX9_goesThrough_219 ?_
                                      have q131 : (((-1) - (σ_121 38 0)) = mgoR (kread (σ 35) L 24 0 0 (gx, gk, gf, gs))) ∧ (∃ b1 b2 b3 b4 b5 : Int32, σ_121 = mrw σ b1 b2 b3 b4 b5) := by
                                        have hRR := hRd.trans (kread_C (by omega) hR hu h9)
                                        subst g121
                                        subst g110
                                        subst g97
                                        subst g6
                                        subst eσ5
                                        subst eσ1
                                        refine ⟨?_, _, _, _, _, _, rfl⟩
                                        rw [hRR]
                                        exact (mgo_f (by omega)).symm
                                      exact kRi F hr hlocks hS122 dX9_goesThrough_220 σ_121 q131 hP122 hD122
                                    · have h3 := mvl3 (xl := (σ 35)) (L := L) (u := (ktok (σ 35) L (kcT (σ 35) L E5).2).1) (by omega) c130
                                      refine lv_aload_n hx hb dX9_goesThrough_199 rfl (lv_at hl128 5 rfl) ?_
                                      refine kget F hK hP122 9 0 40 iX9 rfl rfl (by decide) (List.mem_of_getElem? (i := 3) rfl) rfl dX9_goesThrough_200 ?_
                                      rw [show (σ_121 40 0) = (mvl (σ 35) L (ktok (σ 35) L (kcT (σ 35) L E5).2).1) from (by subst g121; subst g110; subst g97; subst g6; subst eσ5; subst eσ1; rfl)]
                                      refine lv_bipush (v := 59) hx hb dX9_goesThrough_203 (by decide) ?_
                                      refine lv_icmp_ne (tgt := 214) hx hb dX9_goesThrough_205 (by decide) (fun c132 => ?_) (fun c132 => ?_)
                                      · have h9 : ¬ (σ 35) (ktok (σ 35) L (kcT (σ 35) L E5).2).1 = 59 := fun q => c132 (h3.trans q)
                                        refine lv_iconst (v := (-1)) hx hb dX9_goesThrough_214 (by decide) ?_
                                        refine lv_aload_n hx hb dX9_goesThrough_215 rfl (lv_at hl128 5 rfl) ?_
                                        refine kget F hK hP122 9 0 38 iX9 rfl rfl (by decide) (List.mem_of_getElem? (i := 2) rfl) rfl dX9_goesThrough_216 ?_
                                        refine lv_isub hx hb dX9_goesThrough_219 ?_
                                        have q133 : (((-1) - (σ_121 38 0)) = mgoR (kread (σ 35) L 24 0 0 (gx, gk, gf, gs))) ∧ (∃ b1 b2 b3 b4 b5 : Int32, σ_121 = mrw σ b1 b2 b3 b4 b5) := by
                                          have hRR := hRd.trans (kread_C (by omega) hR hu h9)
                                          subst g121
                                          subst g110
                                          subst g97
                                          subst g6
                                          subst eσ5
                                          subst eσ1
                                          refine ⟨?_, _, _, _, _, _, rfl⟩
                                          rw [hRR]
                                          exact (mgo_f (by omega)).symm
                                        exact kRi F hr hlocks hS122 dX9_goesThrough_220 σ_121 q133 hP122 hD122
                                      · have h9 : (σ 35) (ktok (σ 35) L (kcT (σ 35) L E5).2).1 = 59 := h3.symm.trans c132
                                        refine lv_iload_n hx hb dX9_goesThrough_208 rfl (lv_at hl128 1 rfl) ?_
                                        refine lv_bipush (v := 24) hx hb dX9_goesThrough_209 (by decide) ?_
                                        refine lv_icmp_ne (tgt := 221) hx hb dX9_goesThrough_211 (by decide) (fun c134 => ?_) (fun c134 => ?_)
                                        · have h24 : ¬ k + 1 = 24 := fun q => c134 (by rw [q]; rfl)
                                          refine lv_goto (tgt := 9) hx hb dX9_goesThrough_221 (by decide) ?_
                                          refine lv_iload_n hx hb dX9_goesThrough_9 rfl (lv_at hl128 0 rfl) ?_
                                          refine lv_if_eq (tgt := 224) hx hb dX9_goesThrough_10 (by decide) (fun c135 => ?_) (fun c135 => ?_)
                                          · exact absurd c135 (by decide)
                                          · exact ih (k + 1) (by omega) (by omega) ((ktok (σ 35) L (kcT (σ 35) L E5).2).2) (krx (σ 35) L E5 qx5) (kcP qk5 k (kcK (σ 35) L E5) (σ 35) L E5) (kcP qf5 k (kcV (σ 35) L E5) (σ 35) L E5) (kcP qs5 k (kcS (σ 35) L E5) (σ 35) L E5) (nI (ktok (σ 35) L (kcT (σ 35) L E5).2).1) (mtk (σ 35) L (ktok (σ 35) L (kcT (σ 35) L E5).2).1) (mvl (σ 35) L (ktok (σ 35) L (kcT (σ 35) L E5).2).1) (mdi (σ 35) L (ktok (σ 35) L (kcT (σ 35) L E5).2).1) σ_121 g121 hbu.2 (by show qx5 5 + 1 = _; rw [hq5, nI_1]) (hRd.trans (kread_D (by omega) hR hu h9)) _ _ _ (lv_sub hl128 [0, 1, 5, 6] rfl) hP122 hD122 hS122
                                        · have h24 : k + 1 = 24 := (nI_eq (a := k + 1) (b := 24) (by omega) (by omega)).mp c134
                                          refine lv_iconst (v := (-1)) hx hb dX9_goesThrough_214 (by decide) ?_
                                          refine lv_aload_n hx hb dX9_goesThrough_215 rfl (lv_at hl128 5 rfl) ?_
                                          refine kget F hK hP122 9 0 38 iX9 rfl rfl (by decide) (List.mem_of_getElem? (i := 2) rfl) rfl dX9_goesThrough_216 ?_
                                          refine lv_isub hx hb dX9_goesThrough_219 ?_
                                          have q136 : (((-1) - (σ_121 38 0)) = mgoR (kread (σ 35) L 24 0 0 (gx, gk, gf, gs))) ∧ (∃ b1 b2 b3 b4 b5 : Int32, σ_121 = mrw σ b1 b2 b3 b4 b5) := by
                                            have hRR := hRd.trans (kread_D (by omega) hR hu h9)
                                            rw [show 24 - (k + 1) = 0 by omega] at hRR
                                            have hRR : (kread (σ 35) L 24 0 0 (gx, gk, gf, gs)) = (nI (ktok (σ 35) L (kcT (σ 35) L E5).2).1, krq (σ 35) L k E5 (qx5, qk5, qf5, qs5)) := hRR
                                            subst g121
                                            subst g110
                                            subst g97
                                            subst g6
                                            subst eσ5
                                            subst eσ1
                                            refine ⟨?_, _, _, _, _, _, rfl⟩
                                            rw [hRR]
                                            exact (mgo_f (by omega)).symm
                                          exact kRi F hr hlocks hS122 dX9_goesThrough_220 σ_121 q136 hP122 hD122
                              · exact absurd (by decide) c119
                            · exact absurd c117 (by decide)
                        · exact absurd (by decide) c112
                    · exact absurd c106 (by decide)
              · exact absurd (by decide) c100
            · exact absurd (by decide) c99
          · exact absurd c96 (by decide)
        · rw [show (kcK (σ 35) L E5) = 3 from hkd]
          have hcA : kcA (σ 35) L E5 = false := by unfold kcA; rw [hkd]; decide
          have hcC : kcC (σ 35) L E5 = true := by unfold kcC; rw [hkd]; decide
          refine lv_istore (lv' := [(4, .int 3), (3, .int 1), (2, .int (nI k)), (0, .ref h), (1, .int 0)]) hx hb dX9_goesThrough_21 hl5 (by decide) rfl (fun ls137 hl137 => ?_)
          clear hl5
          refine lv_iload hx hb dX9_goesThrough_23 (lv_at hl137 0 rfl) ?_
          refine lv_iconst (v := (-1)) hx hb dX9_goesThrough_25 (by decide) ?_
          refine lv_icmp_ne (tgt := 36) hx hb dX9_goesThrough_26 (by decide) (fun c138 => ?_) (fun c138 => ?_)
          · refine lv_aload_n hx hb dX9_goesThrough_36 rfl (lv_at hl137 3 rfl) ?_
            refine kWVv F hK hP9 hD9 hS9 hA hl137.1 (c_X9_reads l G h a σ_6 L ((ktok (σ 35) L E5).2) (by subst g6; subst eσ5; subst eσ1; exact h36) lL (by subst g6; subst eσ5; subst eσ1; rfl) hb1.2) 9 0 gX9_goesThrough_X9_reads rfl 0 rfl (by decide +kernel) ⟨Nat.le_of_ble_eq_true rfl, Nat.le_of_ble_eq_true rfl⟩ ⟨Nat.zero_le _, Nat.zero_le _⟩ rfl rfl (Nat.le_of_ble_eq_true rfl) rfl dX9_goesThrough_37 (fun σ_139 H140 locs140 hw139 (hP140 : va_P G.1 vwCl (mW G h a σ_139) H140) (hD140 : va_D A (mW G h a σ_139)) hS140 => ?_)
            clear hP9 hD9 hS9
            have w139_0 : σ_139 = mreads σ_6 L ((ktok (σ 35) L E5).2) := hw139
            have g139 : σ_139 = mrt (σ 35) L ((ktok (σ 35) L E5).2) σ := w139_0.trans (by rw [g6]; exact mreads_mrw h35)
            clear w139_0
            refine lv_aload_n hx hb dX9_goesThrough_40 rfl (lv_at hl137 3 rfl) ?_
            refine lv_iload hx hb dX9_goesThrough_41 (lv_at hl137 0 rfl) ?_
            refine lv_iconst (v := 2) hx hb dX9_goesThrough_43 (by decide) ?_
            refine lv_icmp_ge (tgt := 51) hx hb dX9_goesThrough_44 (by decide) (fun c141 => ?_) (fun c141 => ?_)
            · refine lv_iconst (v := 0) hx hb dX9_goesThrough_51 (by decide) ?_
              refine lv_iload hx hb dX9_goesThrough_52 (lv_at hl137 0 rfl) ?_
              refine lv_iconst (v := 2) hx hb dX9_goesThrough_54 (by decide) ?_
              refine lv_icmp_ge (tgt := 63) hx hb dX9_goesThrough_55 (by decide) (fun c142 => ?_) (fun c142 => ?_)
              · refine lv_iload hx hb dX9_goesThrough_63 (lv_at hl137 0 rfl) ?_
                refine lv_iconst (v := 2) hx hb dX9_goesThrough_65 (by decide) ?_
                refine lv_icmp_ne (tgt := 73) hx hb dX9_goesThrough_66 (by decide) (fun c143 => ?_) (fun c143 => ?_)
                · refine lv_iload hx hb dX9_goesThrough_73 (lv_at hl137 0 rfl) ?_
                  refine lv_iconst (v := 3) hx hb dX9_goesThrough_75 (by decide) ?_
                  refine lv_icmp_ne (tgt := 83) hx hb dX9_goesThrough_76 (by decide) (fun c144 => ?_) (fun c144 => ?_)
                  · exact absurd (by decide) c144
                  · refine lv_iconst (v := 3) hx hb dX9_goesThrough_79 (by decide) ?_
                    refine lv_goto (tgt := 86) hx hb dX9_goesThrough_80 (by decide) ?_
                    refine kWVi F hK hP140 hD140 hS140 hA hl137.1 (c_X9_isNumber l G h a σ_139 0 3 L ((ktok (σ 35) L (ktok (σ 35) L E5).2).1) (by subst g139; subst g6; subst eσ5; subst eσ1; exact (congrArg (fun z => mtk z L (ktok (σ 35) L (ktok (σ 35) L E5).2).1) h35).symm) (by subst g139; subst g6; subst eσ5; subst eσ1; exact (congrArg (fun z => mvl z L (ktok (σ 35) L (ktok (σ 35) L E5).2).1) h35).symm) (by subst g139; subst g6; subst eσ5; subst eσ1; exact (congrArg (fun z => mdi z L (ktok (σ 35) L (ktok (σ 35) L E5).2).1) h35).symm) lL (by omega) (by decide)) 9 0 gX9_goesThrough_X9_isNumber rfl 2 rfl (by decide +kernel) ⟨Nat.le_of_ble_eq_true rfl, Nat.le_of_ble_eq_true rfl⟩ ⟨Nat.zero_le _, Nat.zero_le _⟩ rfl rfl (Nat.le_of_ble_eq_true rfl) rfl dX9_goesThrough_86 (fun r145 u145 H146 locs146 hw145 (hP146 : va_P G.1 vwCl (mW G h a σ_139) H146) (hD146 : va_D A (mW G h a σ_139)) hS146 => ?_)
                    clear hP140 hD140 hS140
                    have w145_0 : r145 = if knum (σ_139 35) ((ktok (σ 35) L (ktok (σ 35) L E5).2).1) (ktokE (σ_139 35) L ((ktok (σ 35) L (ktok (σ 35) L E5).2).1)) 0 3 = -1 then (0 : Int32) else 1 := hw145
                    have hV : kcV (σ 35) L E5 = knum (σ 35) (ktok (σ 35) L (ktok (σ 35) L E5).2).1 (ktok (σ 35) L (ktok (σ 35) L E5).2).2 0 3 := by unfold kcV; rw [hkd]; rfl
                    have g145 : r145 = if kcV (σ 35) L E5 = -1 then 0 else 1 := (by subst g139; subst g6; subst eσ5; subst eσ1; rw [hV]; exact w145_0.trans (congrArg (fun z => if knum z (ktok (σ 35) L (ktok (σ 35) L E5).2).1 (ktokE z L (ktok (σ 35) L (ktok (σ 35) L E5).2).1) 0 3 = -1 then 0 else 1) h35))
                    clear w145_0
                    subst g145
                    by_cases hVn : kcV (σ 35) L E5 = -1
                    · rw [if_pos hVn]
                      have hcB : kcB (σ 35) L E5 = true := decide_eq_true hVn
                      have hR : kcR (σ 35) L E5 = 0 := by simp only [kcR, hcA, hcB, Bool.false_eq_true, ↓reduceIte]
                      have hcT : kcT (σ 35) L E5 = kc2 (σ 35) L E5 := by simp only [kcT, hcA, hcB, Bool.false_eq_true, ↓reduceIte]
                      refine lv_if_ne (tgt := 99) hx hb dX9_goesThrough_89 (by decide) (fun c147 => ?_) (fun c147 => ?_)
                      · exact absurd (by decide) c147
                      · refine lv_iconst (v := (-1)) hx hb dX9_goesThrough_92 (by decide) ?_
                        refine lv_aload_n hx hb dX9_goesThrough_93 rfl (lv_at hl137 3 rfl) ?_
                        refine kget F hK hP146 9 0 38 iX9 rfl rfl (by decide) (List.mem_of_getElem? (i := 2) rfl) rfl dX9_goesThrough_94 ?_
                        refine lv_isub hx hb dX9_goesThrough_97 ?_
                        have q148 : (((-1) - (σ_139 38 0)) = mgoR (kread (σ 35) L 24 0 0 (gx, gk, gf, gs))) ∧ (∃ b1 b2 b3 b4 b5 : Int32, σ_139 = mrw σ b1 b2 b3 b4 b5) := by
                          have hRR := hRd.trans (kread_A (by omega) hR)
                          rw [hcT] at hRR
                          subst g139
                          subst g6
                          subst eσ5
                          subst eσ1
                          refine ⟨?_, _, _, _, _, _, rfl⟩
                          rw [hRR]
                          exact (mgo_f (show (kc2 (σ 35) L E5).1 ≤ 200 from Nat.le_trans hb2.1 (Nat.le_trans hb2.2 lL))).symm
                        exact kRi F hr hlocks hS146 dX9_goesThrough_98 σ_139 q148 hP146 hD146
                    · rw [if_neg hVn]
                      have hcB : kcB (σ 35) L E5 = false := decide_eq_false hVn
                      have vV : mvl (σ 35) L (ktok (σ 35) L (ktok (σ 35) L E5).2).1 = kcV (σ 35) L E5 := ((mnum_eq (a := 0) (b := 3) lL (by omega) (by decide)).2 (fun q => hVn (hV.trans q))).trans hV.symm
                      have hR : ¬ kcR (σ 35) L E5 = 0 := by simp only [kcR, hcA, hcB, hcC, Bool.false_eq_true, ↓reduceIte]; decide
                      have hcT : kcT (σ 35) L E5 = kc2 (σ 35) L E5 := by simp only [kcT, hcA, hcB, hcC, Bool.false_eq_true, ↓reduceIte]
                      refine lv_if_ne (tgt := 99) hx hb dX9_goesThrough_89 (by decide) (fun c149 => ?_) (fun c149 => ?_)
                      · refine lv_aload_n hx hb dX9_goesThrough_99 rfl (lv_at hl137 3 rfl) ?_
                        refine kget F hK hP146 9 0 40 iX9 rfl rfl (by decide) (List.mem_of_getElem? (i := 3) rfl) rfl dX9_goesThrough_100 ?_
                        rw [show (σ_139 40 0) = (kcV (σ 35) L E5) from (by subst g139; subst g6; subst eσ5; subst eσ1; exact vV)]
                        refine lv_istore (lv' := [(5, .int (kcV (σ 35) L E5)), (4, .int 3), (3, .int 1), (2, .int (nI k)), (0, .ref h), (1, .int 0)]) hx hb dX9_goesThrough_103 hl137 (by decide) rfl (fun ls150 hl150 => ?_)
                        clear hl137
                        refine lv_iconst (v := 0) hx hb dX9_goesThrough_105 (by decide) ?_
                        refine lv_istore (lv' := [(6, .int 0), (5, .int (kcV (σ 35) L E5)), (4, .int 3), (3, .int 1), (2, .int (nI k)), (0, .ref h), (1, .int 0)]) hx hb dX9_goesThrough_106 hl150 (by decide) rfl (fun ls151 hl151 => ?_)
                        clear hl150
                        refine lv_iload hx hb dX9_goesThrough_108 (lv_at hl151 2 rfl) ?_
                        refine lv_iconst (v := 3) hx hb dX9_goesThrough_110 (by decide) ?_
                        refine lv_icmp_ge (tgt := 153) hx hb dX9_goesThrough_111 (by decide) (fun c152 => ?_) (fun c152 => ?_)
                        · refine lv_iload_n hx hb dX9_goesThrough_153 rfl (lv_at hl151 6 rfl) ?_
                          refine lv_if_eq (tgt := 167) hx hb dX9_goesThrough_154 (by decide) (fun c153 => ?_) (fun c153 => ?_)
                          · refine lv_iinc (v := nI (k + 1)) (lv' := [(2, .int (nI (k + 1))), (6, .int 0), (5, .int (kcV (σ 35) L E5)), (4, .int 3), (3, .int 1), (0, .ref h), (1, .int 0)]) hx hb dX9_goesThrough_167 hl151 (k := 4) rfl (nI_1 _) (by decide) rfl (fun ls154 hl154 => ?_)
                            clear hl151
                            refine lv_aload_n hx hb dX9_goesThrough_170 rfl (lv_at hl154 5 rfl) ?_
                            refine kWVv F hK hP146 hD146 hS146 hA hl154.1 (c_X9_reads l G h a σ_139 L ((kcT (σ 35) L E5).2) (by subst g139; subst g6; subst eσ5; subst eσ1; exact h36) lL (by subst g139; subst g6; subst eσ5; subst eσ1; rw [hcT]; rfl) hbT.2) 9 0 gX9_goesThrough_X9_reads rfl 0 rfl (by decide +kernel) ⟨Nat.le_of_ble_eq_true rfl, Nat.le_of_ble_eq_true rfl⟩ ⟨Nat.zero_le _, Nat.zero_le _⟩ rfl rfl (Nat.le_of_ble_eq_true rfl) rfl dX9_goesThrough_171 (fun σ_155 H156 locs156 hw155 (hP156 : va_P G.1 vwCl (mW G h a σ_155) H156) (hD156 : va_D A (mW G h a σ_155)) hS156 => ?_)
                            clear hP146 hD146 hS146
                            have w155_0 : σ_155 = mreads σ_139 L ((kcT (σ 35) L E5).2) := hw155
                            have g155 : σ_155 = mrt (σ 35) L ((kcT (σ 35) L E5).2) σ := w155_0.trans (by rw [g139]; exact mreads_mrw h35)
                            clear w155_0
                            refine lv_aload_n hx hb dX9_goesThrough_174 rfl (lv_at hl154 5 rfl) ?_
                            refine kget F hK hP156 9 0 39 iX9 rfl rfl (by decide) (List.mem_of_getElem? (i := 4) rfl) rfl dX9_goesThrough_175 ?_
                            rw [show (σ_155 39 0) = (mtk (σ 35) L (ktok (σ 35) L (kcT (σ 35) L E5).2).1) from (by subst g155; subst g139; subst g6; subst eσ5; subst eσ1; rfl)]
                            refine lv_if_eq (tgt := 185) hx hb dX9_goesThrough_178 (by decide) (fun c157 => ?_) (fun c157 => ?_)
                            · have hu := mtk0 (xl := (σ 35)) (L := L) (u := (ktok (σ 35) L (kcT (σ 35) L E5).2).1) (by omega) c157
                              refine lv_iconst (v := 0) hx hb dX9_goesThrough_185 (by decide) ?_
                              refine lv_istore_n (lv' := [(3, .int 0), (2, .int (nI (k + 1))), (6, .int 0), (5, .int (kcV (σ 35) L E5)), (4, .int 3), (0, .ref h), (1, .int 0)]) hx hb dX9_goesThrough_186 rfl hl154 (by decide) rfl (fun ls158 hl158 => ?_)
                              clear hl154
                              refine lv_iload_n hx hb dX9_goesThrough_187 rfl (lv_at hl158 0 rfl) ?_
                              refine lv_if_eq (tgt := 221) hx hb dX9_goesThrough_188 (by decide) (fun c159 => ?_) (fun c159 => ?_)
                              · refine lv_goto (tgt := 9) hx hb dX9_goesThrough_221 (by decide) ?_
                                refine lv_iload_n hx hb dX9_goesThrough_9 rfl (lv_at hl158 0 rfl) ?_
                                refine lv_if_eq (tgt := 224) hx hb dX9_goesThrough_10 (by decide) (fun c160 => ?_) (fun c160 => ?_)
                                · refine lv_iload_n hx hb dX9_goesThrough_224 rfl (lv_at hl158 1 rfl) ?_
                                  have q161 : ((nI (k + 1)) = mgoR (kread (σ 35) L 24 0 0 (gx, gk, gf, gs))) ∧ (∃ b1 b2 b3 b4 b5 : Int32, σ_155 = mrw σ b1 b2 b3 b4 b5) := by
                                    have hRR := hRd.trans (kread_B (by omega) hR hu)
                                    subst g155
                                    subst g139
                                    subst g6
                                    subst eσ5
                                    subst eσ1
                                    refine ⟨?_, _, _, _, _, _, rfl⟩
                                    rw [hRR]
                                    show nI (k + 1) = mgoR (-1, krq (σ 35) L k E5 (qx5, qk5, qf5, qs5))
                                    rw [mgoR, if_pos rfl]
                                    show nI (k + 1) = qx5 5 + 1
                                    rw [hq5, nI_1]
                                  exact kRi F hr hlocks hS156 dX9_goesThrough_225 σ_155 q161 hP156 hD156
                                · exact absurd (by decide) c160
                              · exact absurd (by decide) c159
                            · have hu := mtkL (xl := (σ 35)) (L := L) (u := (ktok (σ 35) L (kcT (σ 35) L E5).2).1) c157
                              refine lv_iconst (v := 1) hx hb dX9_goesThrough_181 (by decide) ?_
                              refine lv_goto (tgt := 186) hx hb dX9_goesThrough_182 (by decide) ?_
                              refine lv_istore_n (lv' := [(3, .int 1), (2, .int (nI (k + 1))), (6, .int 0), (5, .int (kcV (σ 35) L E5)), (4, .int 3), (0, .ref h), (1, .int 0)]) hx hb dX9_goesThrough_186 rfl hl154 (by decide) rfl (fun ls162 hl162 => ?_)
                              clear hl154
                              refine lv_iload_n hx hb dX9_goesThrough_187 rfl (lv_at hl162 0 rfl) ?_
                              refine lv_if_eq (tgt := 221) hx hb dX9_goesThrough_188 (by decide) (fun c163 => ?_) (fun c163 => ?_)
                              · exact absurd c163 (by decide)
                              · refine lv_aload_n hx hb dX9_goesThrough_191 rfl (lv_at hl162 5 rfl) ?_
                                refine kget F hK hP156 9 0 39 iX9 rfl rfl (by decide) (List.mem_of_getElem? (i := 4) rfl) rfl dX9_goesThrough_192 ?_
                                rw [show (σ_155 39 0) = (mtk (σ 35) L (ktok (σ 35) L (kcT (σ 35) L E5).2).1) from (by subst g155; subst g139; subst g6; subst eσ5; subst eσ1; rfl)]
                                refine lv_iconst (v := 3) hx hb dX9_goesThrough_195 (by decide) ?_
                                refine lv_icmp_ne (tgt := 214) hx hb dX9_goesThrough_196 (by decide) (fun c164 => ?_) (fun c164 => ?_)
                                · have h9 := mtk59 (xl := (σ 35)) (L := L) (u := (ktok (σ 35) L (kcT (σ 35) L E5).2).1) (by omega) c164
                                  refine lv_iconst (v := (-1)) hx hb dX9_goesThrough_214 (by decide) ?_
                                  refine lv_aload_n hx hb dX9_goesThrough_215 rfl (lv_at hl162 5 rfl) ?_
                                  refine kget F hK hP156 9 0 38 iX9 rfl rfl (by decide) (List.mem_of_getElem? (i := 2) rfl) rfl dX9_goesThrough_216 ?_
                                  refine lv_isub hx hb dX9_goesThrough_219 ?_
                                  have q165 : (((-1) - (σ_155 38 0)) = mgoR (kread (σ 35) L 24 0 0 (gx, gk, gf, gs))) ∧ (∃ b1 b2 b3 b4 b5 : Int32, σ_155 = mrw σ b1 b2 b3 b4 b5) := by
                                    have hRR := hRd.trans (kread_C (by omega) hR hu h9)
                                    subst g155
                                    subst g139
                                    subst g6
                                    subst eσ5
                                    subst eσ1
                                    refine ⟨?_, _, _, _, _, _, rfl⟩
                                    rw [hRR]
                                    exact (mgo_f (by omega)).symm
                                  exact kRi F hr hlocks hS156 dX9_goesThrough_220 σ_155 q165 hP156 hD156
                                · have h3 := mvl3 (xl := (σ 35)) (L := L) (u := (ktok (σ 35) L (kcT (σ 35) L E5).2).1) (by omega) c164
                                  refine lv_aload_n hx hb dX9_goesThrough_199 rfl (lv_at hl162 5 rfl) ?_
                                  refine kget F hK hP156 9 0 40 iX9 rfl rfl (by decide) (List.mem_of_getElem? (i := 3) rfl) rfl dX9_goesThrough_200 ?_
                                  rw [show (σ_155 40 0) = (mvl (σ 35) L (ktok (σ 35) L (kcT (σ 35) L E5).2).1) from (by subst g155; subst g139; subst g6; subst eσ5; subst eσ1; rfl)]
                                  refine lv_bipush (v := 59) hx hb dX9_goesThrough_203 (by decide) ?_
                                  refine lv_icmp_ne (tgt := 214) hx hb dX9_goesThrough_205 (by decide) (fun c166 => ?_) (fun c166 => ?_)
                                  · have h9 : ¬ (σ 35) (ktok (σ 35) L (kcT (σ 35) L E5).2).1 = 59 := fun q => c166 (h3.trans q)
                                    refine lv_iconst (v := (-1)) hx hb dX9_goesThrough_214 (by decide) ?_
                                    refine lv_aload_n hx hb dX9_goesThrough_215 rfl (lv_at hl162 5 rfl) ?_
                                    refine kget F hK hP156 9 0 38 iX9 rfl rfl (by decide) (List.mem_of_getElem? (i := 2) rfl) rfl dX9_goesThrough_216 ?_
                                    refine lv_isub hx hb dX9_goesThrough_219 ?_
                                    have q167 : (((-1) - (σ_155 38 0)) = mgoR (kread (σ 35) L 24 0 0 (gx, gk, gf, gs))) ∧ (∃ b1 b2 b3 b4 b5 : Int32, σ_155 = mrw σ b1 b2 b3 b4 b5) := by
                                      have hRR := hRd.trans (kread_C (by omega) hR hu h9)
                                      subst g155
                                      subst g139
                                      subst g6
                                      subst eσ5
                                      subst eσ1
                                      refine ⟨?_, _, _, _, _, _, rfl⟩
                                      rw [hRR]
                                      exact (mgo_f (by omega)).symm
                                    exact kRi F hr hlocks hS156 dX9_goesThrough_220 σ_155 q167 hP156 hD156
                                  · have h9 : (σ 35) (ktok (σ 35) L (kcT (σ 35) L E5).2).1 = 59 := h3.symm.trans c166
                                    refine lv_iload_n hx hb dX9_goesThrough_208 rfl (lv_at hl162 1 rfl) ?_
                                    refine lv_bipush (v := 24) hx hb dX9_goesThrough_209 (by decide) ?_
                                    refine lv_icmp_ne (tgt := 221) hx hb dX9_goesThrough_211 (by decide) (fun c168 => ?_) (fun c168 => ?_)
                                    · have h24 : ¬ k + 1 = 24 := fun q => c168 (by rw [q]; rfl)
                                      refine lv_goto (tgt := 9) hx hb dX9_goesThrough_221 (by decide) ?_
                                      refine lv_iload_n hx hb dX9_goesThrough_9 rfl (lv_at hl162 0 rfl) ?_
                                      refine lv_if_eq (tgt := 224) hx hb dX9_goesThrough_10 (by decide) (fun c169 => ?_) (fun c169 => ?_)
                                      · exact absurd c169 (by decide)
                                      · exact ih (k + 1) (by omega) (by omega) ((ktok (σ 35) L (kcT (σ 35) L E5).2).2) (krx (σ 35) L E5 qx5) (kcP qk5 k (kcK (σ 35) L E5) (σ 35) L E5) (kcP qf5 k (kcV (σ 35) L E5) (σ 35) L E5) (kcP qs5 k (kcS (σ 35) L E5) (σ 35) L E5) (nI (ktok (σ 35) L (kcT (σ 35) L E5).2).1) (mtk (σ 35) L (ktok (σ 35) L (kcT (σ 35) L E5).2).1) (mvl (σ 35) L (ktok (σ 35) L (kcT (σ 35) L E5).2).1) (mdi (σ 35) L (ktok (σ 35) L (kcT (σ 35) L E5).2).1) σ_155 g155 hbu.2 (by show qx5 5 + 1 = _; rw [hq5, nI_1]) (hRd.trans (kread_D (by omega) hR hu h9)) _ _ _ (lv_sub hl162 [0, 1, 5, 6] rfl) hP156 hD156 hS156
                                    · have h24 : k + 1 = 24 := (nI_eq (a := k + 1) (b := 24) (by omega) (by omega)).mp c168
                                      refine lv_iconst (v := (-1)) hx hb dX9_goesThrough_214 (by decide) ?_
                                      refine lv_aload_n hx hb dX9_goesThrough_215 rfl (lv_at hl162 5 rfl) ?_
                                      refine kget F hK hP156 9 0 38 iX9 rfl rfl (by decide) (List.mem_of_getElem? (i := 2) rfl) rfl dX9_goesThrough_216 ?_
                                      refine lv_isub hx hb dX9_goesThrough_219 ?_
                                      have q170 : (((-1) - (σ_155 38 0)) = mgoR (kread (σ 35) L 24 0 0 (gx, gk, gf, gs))) ∧ (∃ b1 b2 b3 b4 b5 : Int32, σ_155 = mrw σ b1 b2 b3 b4 b5) := by
                                        have hRR := hRd.trans (kread_D (by omega) hR hu h9)
                                        rw [show 24 - (k + 1) = 0 by omega] at hRR
                                        have hRR : (kread (σ 35) L 24 0 0 (gx, gk, gf, gs)) = (nI (ktok (σ 35) L (kcT (σ 35) L E5).2).1, krq (σ 35) L k E5 (qx5, qk5, qf5, qs5)) := hRR
                                        subst g155
                                        subst g139
                                        subst g6
                                        subst eσ5
                                        subst eσ1
                                        refine ⟨?_, _, _, _, _, _, rfl⟩
                                        rw [hRR]
                                        exact (mgo_f (by omega)).symm
                                      exact kRi F hr hlocks hS156 dX9_goesThrough_220 σ_155 q170 hP156 hD156
                          · exact absurd (by decide) c153
                        · exact absurd (by decide) c152
                      · exact absurd c149 (by decide)
                · exact absurd c143 (by decide)
              · exact absurd (by decide) c142
            · exact absurd (by decide) c141
          · exact absurd c138 (by decide)
        · rw [show (kcK (σ 35) L E5) = 4 from hkd]
          have hcA : kcA (σ 35) L E5 = false := by unfold kcA; rw [hkd]; decide
          have hcC : kcC (σ 35) L E5 = true := by unfold kcC; rw [hkd]; decide
          refine lv_istore (lv' := [(4, .int 4), (3, .int 1), (2, .int (nI k)), (0, .ref h), (1, .int 0)]) hx hb dX9_goesThrough_21 hl5 (by decide) rfl (fun ls171 hl171 => ?_)
          clear hl5
          refine lv_iload hx hb dX9_goesThrough_23 (lv_at hl171 0 rfl) ?_
          refine lv_iconst (v := (-1)) hx hb dX9_goesThrough_25 (by decide) ?_
          refine lv_icmp_ne (tgt := 36) hx hb dX9_goesThrough_26 (by decide) (fun c172 => ?_) (fun c172 => ?_)
          · refine lv_aload_n hx hb dX9_goesThrough_36 rfl (lv_at hl171 3 rfl) ?_
            refine kWVv F hK hP9 hD9 hS9 hA hl171.1 (c_X9_reads l G h a σ_6 L ((ktok (σ 35) L E5).2) (by subst g6; subst eσ5; subst eσ1; exact h36) lL (by subst g6; subst eσ5; subst eσ1; rfl) hb1.2) 9 0 gX9_goesThrough_X9_reads rfl 0 rfl (by decide +kernel) ⟨Nat.le_of_ble_eq_true rfl, Nat.le_of_ble_eq_true rfl⟩ ⟨Nat.zero_le _, Nat.zero_le _⟩ rfl rfl (Nat.le_of_ble_eq_true rfl) rfl dX9_goesThrough_37 (fun σ_173 H174 locs174 hw173 (hP174 : va_P G.1 vwCl (mW G h a σ_173) H174) (hD174 : va_D A (mW G h a σ_173)) hS174 => ?_)
            clear hP9 hD9 hS9
            have w173_0 : σ_173 = mreads σ_6 L ((ktok (σ 35) L E5).2) := hw173
            have g173 : σ_173 = mrt (σ 35) L ((ktok (σ 35) L E5).2) σ := w173_0.trans (by rw [g6]; exact mreads_mrw h35)
            clear w173_0
            refine lv_aload_n hx hb dX9_goesThrough_40 rfl (lv_at hl171 3 rfl) ?_
            refine lv_iload hx hb dX9_goesThrough_41 (lv_at hl171 0 rfl) ?_
            refine lv_iconst (v := 2) hx hb dX9_goesThrough_43 (by decide) ?_
            refine lv_icmp_ge (tgt := 51) hx hb dX9_goesThrough_44 (by decide) (fun c175 => ?_) (fun c175 => ?_)
            · refine lv_iconst (v := 0) hx hb dX9_goesThrough_51 (by decide) ?_
              refine lv_iload hx hb dX9_goesThrough_52 (lv_at hl171 0 rfl) ?_
              refine lv_iconst (v := 2) hx hb dX9_goesThrough_54 (by decide) ?_
              refine lv_icmp_ge (tgt := 63) hx hb dX9_goesThrough_55 (by decide) (fun c176 => ?_) (fun c176 => ?_)
              · refine lv_iload hx hb dX9_goesThrough_63 (lv_at hl171 0 rfl) ?_
                refine lv_iconst (v := 2) hx hb dX9_goesThrough_65 (by decide) ?_
                refine lv_icmp_ne (tgt := 73) hx hb dX9_goesThrough_66 (by decide) (fun c177 => ?_) (fun c177 => ?_)
                · refine lv_iload hx hb dX9_goesThrough_73 (lv_at hl171 0 rfl) ?_
                  refine lv_iconst (v := 3) hx hb dX9_goesThrough_75 (by decide) ?_
                  refine lv_icmp_ne (tgt := 83) hx hb dX9_goesThrough_76 (by decide) (fun c178 => ?_) (fun c178 => ?_)
                  · refine lv_sipush (v := 999) hx hb dX9_goesThrough_83 (by decide) ?_
                    refine kWVi F hK hP174 hD174 hS174 hA hl171.1 (c_X9_isNumber l G h a σ_173 0 999 L ((ktok (σ 35) L (ktok (σ 35) L E5).2).1) (by subst g173; subst g6; subst eσ5; subst eσ1; exact (congrArg (fun z => mtk z L (ktok (σ 35) L (ktok (σ 35) L E5).2).1) h35).symm) (by subst g173; subst g6; subst eσ5; subst eσ1; exact (congrArg (fun z => mvl z L (ktok (σ 35) L (ktok (σ 35) L E5).2).1) h35).symm) (by subst g173; subst g6; subst eσ5; subst eσ1; exact (congrArg (fun z => mdi z L (ktok (σ 35) L (ktok (σ 35) L E5).2).1) h35).symm) lL (by omega) (by decide)) 9 0 gX9_goesThrough_X9_isNumber rfl 2 rfl (by decide +kernel) ⟨Nat.le_of_ble_eq_true rfl, Nat.le_of_ble_eq_true rfl⟩ ⟨Nat.zero_le _, Nat.zero_le _⟩ rfl rfl (Nat.le_of_ble_eq_true rfl) rfl dX9_goesThrough_86 (fun r179 u179 H180 locs180 hw179 (hP180 : va_P G.1 vwCl (mW G h a σ_173) H180) (hD180 : va_D A (mW G h a σ_173)) hS180 => ?_)
                    clear hP174 hD174 hS174
                    have w179_0 : r179 = if knum (σ_173 35) ((ktok (σ 35) L (ktok (σ 35) L E5).2).1) (ktokE (σ_173 35) L ((ktok (σ 35) L (ktok (σ 35) L E5).2).1)) 0 999 = -1 then (0 : Int32) else 1 := hw179
                    have hV : kcV (σ 35) L E5 = knum (σ 35) (ktok (σ 35) L (ktok (σ 35) L E5).2).1 (ktok (σ 35) L (ktok (σ 35) L E5).2).2 0 999 := by unfold kcV; rw [hkd]; rfl
                    have g179 : r179 = if kcV (σ 35) L E5 = -1 then 0 else 1 := (by subst g173; subst g6; subst eσ5; subst eσ1; rw [hV]; exact w179_0.trans (congrArg (fun z => if knum z (ktok (σ 35) L (ktok (σ 35) L E5).2).1 (ktokE z L (ktok (σ 35) L (ktok (σ 35) L E5).2).1) 0 999 = -1 then 0 else 1) h35))
                    clear w179_0
                    subst g179
                    by_cases hVn : kcV (σ 35) L E5 = -1
                    · rw [if_pos hVn]
                      have hcB : kcB (σ 35) L E5 = true := decide_eq_true hVn
                      have hR : kcR (σ 35) L E5 = 0 := by simp only [kcR, hcA, hcB, Bool.false_eq_true, ↓reduceIte]
                      have hcT : kcT (σ 35) L E5 = kc2 (σ 35) L E5 := by simp only [kcT, hcA, hcB, Bool.false_eq_true, ↓reduceIte]
                      refine lv_if_ne (tgt := 99) hx hb dX9_goesThrough_89 (by decide) (fun c181 => ?_) (fun c181 => ?_)
                      · exact absurd (by decide) c181
                      · refine lv_iconst (v := (-1)) hx hb dX9_goesThrough_92 (by decide) ?_
                        refine lv_aload_n hx hb dX9_goesThrough_93 rfl (lv_at hl171 3 rfl) ?_
                        refine kget F hK hP180 9 0 38 iX9 rfl rfl (by decide) (List.mem_of_getElem? (i := 2) rfl) rfl dX9_goesThrough_94 ?_
                        refine lv_isub hx hb dX9_goesThrough_97 ?_
                        have q182 : (((-1) - (σ_173 38 0)) = mgoR (kread (σ 35) L 24 0 0 (gx, gk, gf, gs))) ∧ (∃ b1 b2 b3 b4 b5 : Int32, σ_173 = mrw σ b1 b2 b3 b4 b5) := by
                          have hRR := hRd.trans (kread_A (by omega) hR)
                          rw [hcT] at hRR
                          subst g173
                          subst g6
                          subst eσ5
                          subst eσ1
                          refine ⟨?_, _, _, _, _, _, rfl⟩
                          rw [hRR]
                          exact (mgo_f (show (kc2 (σ 35) L E5).1 ≤ 200 from Nat.le_trans hb2.1 (Nat.le_trans hb2.2 lL))).symm
                        exact kRi F hr hlocks hS180 dX9_goesThrough_98 σ_173 q182 hP180 hD180
                    · rw [if_neg hVn]
                      have hcB : kcB (σ 35) L E5 = false := decide_eq_false hVn
                      have vV : mvl (σ 35) L (ktok (σ 35) L (ktok (σ 35) L E5).2).1 = kcV (σ 35) L E5 := ((mnum_eq (a := 0) (b := 999) lL (by omega) (by decide)).2 (fun q => hVn (hV.trans q))).trans hV.symm
                      have hR : ¬ kcR (σ 35) L E5 = 0 := by simp only [kcR, hcA, hcB, hcC, Bool.false_eq_true, ↓reduceIte]; decide
                      have hcT : kcT (σ 35) L E5 = kc2 (σ 35) L E5 := by simp only [kcT, hcA, hcB, hcC, Bool.false_eq_true, ↓reduceIte]
                      refine lv_if_ne (tgt := 99) hx hb dX9_goesThrough_89 (by decide) (fun c183 => ?_) (fun c183 => ?_)
                      · refine lv_aload_n hx hb dX9_goesThrough_99 rfl (lv_at hl171 3 rfl) ?_
                        refine kget F hK hP180 9 0 40 iX9 rfl rfl (by decide) (List.mem_of_getElem? (i := 3) rfl) rfl dX9_goesThrough_100 ?_
                        rw [show (σ_173 40 0) = (kcV (σ 35) L E5) from (by subst g173; subst g6; subst eσ5; subst eσ1; exact vV)]
                        refine lv_istore (lv' := [(5, .int (kcV (σ 35) L E5)), (4, .int 4), (3, .int 1), (2, .int (nI k)), (0, .ref h), (1, .int 0)]) hx hb dX9_goesThrough_103 hl171 (by decide) rfl (fun ls184 hl184 => ?_)
                        clear hl171
                        refine lv_iconst (v := 0) hx hb dX9_goesThrough_105 (by decide) ?_
                        refine lv_istore (lv' := [(6, .int 0), (5, .int (kcV (σ 35) L E5)), (4, .int 4), (3, .int 1), (2, .int (nI k)), (0, .ref h), (1, .int 0)]) hx hb dX9_goesThrough_106 hl184 (by decide) rfl (fun ls185 hl185 => ?_)
                        clear hl184
                        refine lv_iload hx hb dX9_goesThrough_108 (lv_at hl185 2 rfl) ?_
                        refine lv_iconst (v := 3) hx hb dX9_goesThrough_110 (by decide) ?_
                        refine lv_icmp_ge (tgt := 153) hx hb dX9_goesThrough_111 (by decide) (fun c186 => ?_) (fun c186 => ?_)
                        · refine lv_iload_n hx hb dX9_goesThrough_153 rfl (lv_at hl185 6 rfl) ?_
                          refine lv_if_eq (tgt := 167) hx hb dX9_goesThrough_154 (by decide) (fun c187 => ?_) (fun c187 => ?_)
                          · refine lv_iinc (v := nI (k + 1)) (lv' := [(2, .int (nI (k + 1))), (6, .int 0), (5, .int (kcV (σ 35) L E5)), (4, .int 4), (3, .int 1), (0, .ref h), (1, .int 0)]) hx hb dX9_goesThrough_167 hl185 (k := 4) rfl (nI_1 _) (by decide) rfl (fun ls188 hl188 => ?_)
                            clear hl185
                            refine lv_aload_n hx hb dX9_goesThrough_170 rfl (lv_at hl188 5 rfl) ?_
                            refine kWVv F hK hP180 hD180 hS180 hA hl188.1 (c_X9_reads l G h a σ_173 L ((kcT (σ 35) L E5).2) (by subst g173; subst g6; subst eσ5; subst eσ1; exact h36) lL (by subst g173; subst g6; subst eσ5; subst eσ1; rw [hcT]; rfl) hbT.2) 9 0 gX9_goesThrough_X9_reads rfl 0 rfl (by decide +kernel) ⟨Nat.le_of_ble_eq_true rfl, Nat.le_of_ble_eq_true rfl⟩ ⟨Nat.zero_le _, Nat.zero_le _⟩ rfl rfl (Nat.le_of_ble_eq_true rfl) rfl dX9_goesThrough_171 (fun σ_189 H190 locs190 hw189 (hP190 : va_P G.1 vwCl (mW G h a σ_189) H190) (hD190 : va_D A (mW G h a σ_189)) hS190 => ?_)
                            clear hP180 hD180 hS180
                            have w189_0 : σ_189 = mreads σ_173 L ((kcT (σ 35) L E5).2) := hw189
                            have g189 : σ_189 = mrt (σ 35) L ((kcT (σ 35) L E5).2) σ := w189_0.trans (by rw [g173]; exact mreads_mrw h35)
                            clear w189_0
                            refine lv_aload_n hx hb dX9_goesThrough_174 rfl (lv_at hl188 5 rfl) ?_
                            refine kget F hK hP190 9 0 39 iX9 rfl rfl (by decide) (List.mem_of_getElem? (i := 4) rfl) rfl dX9_goesThrough_175 ?_
                            rw [show (σ_189 39 0) = (mtk (σ 35) L (ktok (σ 35) L (kcT (σ 35) L E5).2).1) from (by subst g189; subst g173; subst g6; subst eσ5; subst eσ1; rfl)]
                            refine lv_if_eq (tgt := 185) hx hb dX9_goesThrough_178 (by decide) (fun c191 => ?_) (fun c191 => ?_)
                            · have hu := mtk0 (xl := (σ 35)) (L := L) (u := (ktok (σ 35) L (kcT (σ 35) L E5).2).1) (by omega) c191
                              refine lv_iconst (v := 0) hx hb dX9_goesThrough_185 (by decide) ?_
                              refine lv_istore_n (lv' := [(3, .int 0), (2, .int (nI (k + 1))), (6, .int 0), (5, .int (kcV (σ 35) L E5)), (4, .int 4), (0, .ref h), (1, .int 0)]) hx hb dX9_goesThrough_186 rfl hl188 (by decide) rfl (fun ls192 hl192 => ?_)
                              clear hl188
                              refine lv_iload_n hx hb dX9_goesThrough_187 rfl (lv_at hl192 0 rfl) ?_
                              refine lv_if_eq (tgt := 221) hx hb dX9_goesThrough_188 (by decide) (fun c193 => ?_) (fun c193 => ?_)
                              · refine lv_goto (tgt := 9) hx hb dX9_goesThrough_221 (by decide) ?_
                                refine lv_iload_n hx hb dX9_goesThrough_9 rfl (lv_at hl192 0 rfl) ?_
                                refine lv_if_eq (tgt := 224) hx hb dX9_goesThrough_10 (by decide) (fun c194 => ?_) (fun c194 => ?_)
                                · refine lv_iload_n hx hb dX9_goesThrough_224 rfl (lv_at hl192 1 rfl) ?_
                                  have q195 : ((nI (k + 1)) = mgoR (kread (σ 35) L 24 0 0 (gx, gk, gf, gs))) ∧ (∃ b1 b2 b3 b4 b5 : Int32, σ_189 = mrw σ b1 b2 b3 b4 b5) := by
                                    have hRR := hRd.trans (kread_B (by omega) hR hu)
                                    subst g189
                                    subst g173
                                    subst g6
                                    subst eσ5
                                    subst eσ1
                                    refine ⟨?_, _, _, _, _, _, rfl⟩
                                    rw [hRR]
                                    show nI (k + 1) = mgoR (-1, krq (σ 35) L k E5 (qx5, qk5, qf5, qs5))
                                    rw [mgoR, if_pos rfl]
                                    show nI (k + 1) = qx5 5 + 1
                                    rw [hq5, nI_1]
                                  exact kRi F hr hlocks hS190 dX9_goesThrough_225 σ_189 q195 hP190 hD190
                                · exact absurd (by decide) c194
                              · exact absurd (by decide) c193
                            · have hu := mtkL (xl := (σ 35)) (L := L) (u := (ktok (σ 35) L (kcT (σ 35) L E5).2).1) c191
                              refine lv_iconst (v := 1) hx hb dX9_goesThrough_181 (by decide) ?_
                              refine lv_goto (tgt := 186) hx hb dX9_goesThrough_182 (by decide) ?_
                              refine lv_istore_n (lv' := [(3, .int 1), (2, .int (nI (k + 1))), (6, .int 0), (5, .int (kcV (σ 35) L E5)), (4, .int 4), (0, .ref h), (1, .int 0)]) hx hb dX9_goesThrough_186 rfl hl188 (by decide) rfl (fun ls196 hl196 => ?_)
                              clear hl188
                              refine lv_iload_n hx hb dX9_goesThrough_187 rfl (lv_at hl196 0 rfl) ?_
                              refine lv_if_eq (tgt := 221) hx hb dX9_goesThrough_188 (by decide) (fun c197 => ?_) (fun c197 => ?_)
                              · exact absurd c197 (by decide)
                              · refine lv_aload_n hx hb dX9_goesThrough_191 rfl (lv_at hl196 5 rfl) ?_
                                refine kget F hK hP190 9 0 39 iX9 rfl rfl (by decide) (List.mem_of_getElem? (i := 4) rfl) rfl dX9_goesThrough_192 ?_
                                rw [show (σ_189 39 0) = (mtk (σ 35) L (ktok (σ 35) L (kcT (σ 35) L E5).2).1) from (by subst g189; subst g173; subst g6; subst eσ5; subst eσ1; rfl)]
                                refine lv_iconst (v := 3) hx hb dX9_goesThrough_195 (by decide) ?_
                                refine lv_icmp_ne (tgt := 214) hx hb dX9_goesThrough_196 (by decide) (fun c198 => ?_) (fun c198 => ?_)
                                · have h9 := mtk59 (xl := (σ 35)) (L := L) (u := (ktok (σ 35) L (kcT (σ 35) L E5).2).1) (by omega) c198
                                  refine lv_iconst (v := (-1)) hx hb dX9_goesThrough_214 (by decide) ?_
                                  refine lv_aload_n hx hb dX9_goesThrough_215 rfl (lv_at hl196 5 rfl) ?_
                                  refine kget F hK hP190 9 0 38 iX9 rfl rfl (by decide) (List.mem_of_getElem? (i := 2) rfl) rfl dX9_goesThrough_216 ?_
                                  refine lv_isub hx hb dX9_goesThrough_219 ?_
                                  have q199 : (((-1) - (σ_189 38 0)) = mgoR (kread (σ 35) L 24 0 0 (gx, gk, gf, gs))) ∧ (∃ b1 b2 b3 b4 b5 : Int32, σ_189 = mrw σ b1 b2 b3 b4 b5) := by
                                    have hRR := hRd.trans (kread_C (by omega) hR hu h9)
                                    subst g189
                                    subst g173
                                    subst g6
                                    subst eσ5
                                    subst eσ1
                                    refine ⟨?_, _, _, _, _, _, rfl⟩
                                    rw [hRR]
                                    exact (mgo_f (by omega)).symm
                                  exact kRi F hr hlocks hS190 dX9_goesThrough_220 σ_189 q199 hP190 hD190
                                · have h3 := mvl3 (xl := (σ 35)) (L := L) (u := (ktok (σ 35) L (kcT (σ 35) L E5).2).1) (by omega) c198
                                  refine lv_aload_n hx hb dX9_goesThrough_199 rfl (lv_at hl196 5 rfl) ?_
                                  refine kget F hK hP190 9 0 40 iX9 rfl rfl (by decide) (List.mem_of_getElem? (i := 3) rfl) rfl dX9_goesThrough_200 ?_
                                  rw [show (σ_189 40 0) = (mvl (σ 35) L (ktok (σ 35) L (kcT (σ 35) L E5).2).1) from (by subst g189; subst g173; subst g6; subst eσ5; subst eσ1; rfl)]
                                  refine lv_bipush (v := 59) hx hb dX9_goesThrough_203 (by decide) ?_
                                  refine lv_icmp_ne (tgt := 214) hx hb dX9_goesThrough_205 (by decide) (fun c200 => ?_) (fun c200 => ?_)
                                  · have h9 : ¬ (σ 35) (ktok (σ 35) L (kcT (σ 35) L E5).2).1 = 59 := fun q => c200 (h3.trans q)
                                    refine lv_iconst (v := (-1)) hx hb dX9_goesThrough_214 (by decide) ?_
                                    refine lv_aload_n hx hb dX9_goesThrough_215 rfl (lv_at hl196 5 rfl) ?_
                                    refine kget F hK hP190 9 0 38 iX9 rfl rfl (by decide) (List.mem_of_getElem? (i := 2) rfl) rfl dX9_goesThrough_216 ?_
                                    refine lv_isub hx hb dX9_goesThrough_219 ?_
                                    have q201 : (((-1) - (σ_189 38 0)) = mgoR (kread (σ 35) L 24 0 0 (gx, gk, gf, gs))) ∧ (∃ b1 b2 b3 b4 b5 : Int32, σ_189 = mrw σ b1 b2 b3 b4 b5) := by
                                      have hRR := hRd.trans (kread_C (by omega) hR hu h9)
                                      subst g189
                                      subst g173
                                      subst g6
                                      subst eσ5
                                      subst eσ1
                                      refine ⟨?_, _, _, _, _, _, rfl⟩
                                      rw [hRR]
                                      exact (mgo_f (by omega)).symm
                                    exact kRi F hr hlocks hS190 dX9_goesThrough_220 σ_189 q201 hP190 hD190
                                  · have h9 : (σ 35) (ktok (σ 35) L (kcT (σ 35) L E5).2).1 = 59 := h3.symm.trans c200
                                    refine lv_iload_n hx hb dX9_goesThrough_208 rfl (lv_at hl196 1 rfl) ?_
                                    refine lv_bipush (v := 24) hx hb dX9_goesThrough_209 (by decide) ?_
                                    refine lv_icmp_ne (tgt := 221) hx hb dX9_goesThrough_211 (by decide) (fun c202 => ?_) (fun c202 => ?_)
                                    · have h24 : ¬ k + 1 = 24 := fun q => c202 (by rw [q]; rfl)
                                      refine lv_goto (tgt := 9) hx hb dX9_goesThrough_221 (by decide) ?_
                                      refine lv_iload_n hx hb dX9_goesThrough_9 rfl (lv_at hl196 0 rfl) ?_
                                      refine lv_if_eq (tgt := 224) hx hb dX9_goesThrough_10 (by decide) (fun c203 => ?_) (fun c203 => ?_)
                                      · exact absurd c203 (by decide)
                                      · exact ih (k + 1) (by omega) (by omega) ((ktok (σ 35) L (kcT (σ 35) L E5).2).2) (krx (σ 35) L E5 qx5) (kcP qk5 k (kcK (σ 35) L E5) (σ 35) L E5) (kcP qf5 k (kcV (σ 35) L E5) (σ 35) L E5) (kcP qs5 k (kcS (σ 35) L E5) (σ 35) L E5) (nI (ktok (σ 35) L (kcT (σ 35) L E5).2).1) (mtk (σ 35) L (ktok (σ 35) L (kcT (σ 35) L E5).2).1) (mvl (σ 35) L (ktok (σ 35) L (kcT (σ 35) L E5).2).1) (mdi (σ 35) L (ktok (σ 35) L (kcT (σ 35) L E5).2).1) σ_189 g189 hbu.2 (by show qx5 5 + 1 = _; rw [hq5, nI_1]) (hRd.trans (kread_D (by omega) hR hu h9)) _ _ _ (lv_sub hl196 [0, 1, 5, 6] rfl) hP190 hD190 hS190
                                    · have h24 : k + 1 = 24 := (nI_eq (a := k + 1) (b := 24) (by omega) (by omega)).mp c202
                                      refine lv_iconst (v := (-1)) hx hb dX9_goesThrough_214 (by decide) ?_
                                      refine lv_aload_n hx hb dX9_goesThrough_215 rfl (lv_at hl196 5 rfl) ?_
                                      refine kget F hK hP190 9 0 38 iX9 rfl rfl (by decide) (List.mem_of_getElem? (i := 2) rfl) rfl dX9_goesThrough_216 ?_
                                      refine lv_isub hx hb dX9_goesThrough_219 ?_
                                      have q204 : (((-1) - (σ_189 38 0)) = mgoR (kread (σ 35) L 24 0 0 (gx, gk, gf, gs))) ∧ (∃ b1 b2 b3 b4 b5 : Int32, σ_189 = mrw σ b1 b2 b3 b4 b5) := by
                                        have hRR := hRd.trans (kread_D (by omega) hR hu h9)
                                        rw [show 24 - (k + 1) = 0 by omega] at hRR
                                        have hRR : (kread (σ 35) L 24 0 0 (gx, gk, gf, gs)) = (nI (ktok (σ 35) L (kcT (σ 35) L E5).2).1, krq (σ 35) L k E5 (qx5, qk5, qf5, qs5)) := hRR
                                        subst g189
                                        subst g173
                                        subst g6
                                        subst eσ5
                                        subst eσ1
                                        refine ⟨?_, _, _, _, _, _, rfl⟩
                                        rw [hRR]
                                        exact (mgo_f (by omega)).symm
                                      exact kRi F hr hlocks hS190 dX9_goesThrough_220 σ_189 q204 hP190 hD190
                          · exact absurd (by decide) c187
                        · exact absurd (by decide) c186
                      · exact absurd c183 (by decide)
                  · exact absurd c178 (by decide)
                · exact absurd c177 (by decide)
              · exact absurd (by decide) c176
            · exact absurd (by decide) c175
          · exact absurd c172 (by decide)
    exact LOOP5 (23 + 1) 0 (by omega) (by omega) 0 gx gk gf gs (σ 38 0) (σ 39 0) (σ 40 0) (σ 41 0) σ1 (by subst eσ1; exact mrw_at _ _) (Nat.zero_le _) h5 rfl _ _ _ hl3 hP1 hD1 hS1
set_option maxHeartbeats 8000000 in
set_option maxRecDepth 100000 in
theorem c_X9_goesThrough1 (l : Launch) (G : kG) (h : Nat) (a : Nat → Nat) (σ : kS) (L : Nat) (gx : Nat → Int32) (gk : Nat → Int32) (gf : Nat → Int32) (gs : Nat → Int32) (N : Nat) (hL : σ 36 0 = nI L) (lL : L ≤ 200) (h5 : gx 5 = nI 0) (hyes : (kread (σ 35) L 24 0 0 (gx, gk, gf, gs)).1 = -1) (hN : (kread (σ 35) L 24 0 0 (gx, gk, gf, gs)).2.1 5 = nI N) (hN24 : N ≤ 24) : kM G l yX9_goesThrough wsX9_goesThrough ({ frames := 3, cells := 0, slots := 0, locals := 68 }) [.ref h, .int 1] (mW G h a σ) (kQi G (fun (rr : Int32) (uu : kS) => (rr = nI N) ∧ (∃ b1 b2 b3 b4 b5 : Int32, uu = mrw (mdo (kread (σ 35) L 24 0 0 (gx, gk, gf, gs)).2.2.1 (kread (σ 35) L 24 0 0 (gx, gk, gf, gs)).2.2.2.1 (kread (σ 35) L 24 0 0 (gx, gk, gf, gs)).2.2.2.2 N σ) b1 b2 b3 b4 b5)) (fun (uu : kS) => mW G h a uu)) := by
  refine kStart (cc := cX9_goesThrough) (maxL := 7) (ret := (some .int)) (by decide) rfl (Nat.le_of_ble_eq_true rfl) (fun pg ev st mi bl mt cd A ls0 F hr hlocks hin hK hP0 hD0 hA hS0 hl0 => ?_)
  obtain ⟨hx, hb, hml, hown, hts⟩ := id F
  have hl0 : lv_has ls0 7 [(0, .ref h), (1, .int 1)] := hl0
  have iX9 : ∀ w ∈ u_ws RX9 TX9 43, w ∈ wsX9_goesThrough := fun w h => List.mem_cons_of_mem _ (List.mem_append_right _ h)
  refine lv_aload_n hx hb dX9_goesThrough_0 rfl (lv_at hl0 0 rfl) ?_
  refine lv_iconst (v := 0) hx hb dX9_goesThrough_1 (by decide) ?_
  refine kMput F hK hP0 hD0 hS0 37 iX9 rfl (by decide) (List.mem_of_getElem? (i := 1) rfl) rfl rfl rfl (Nat.le_of_ble_eq_true rfl) rfl dX9_goesThrough_2 (fun H1 locs1 σ1 eσ1 hP1 hD1 hS1 => ?_)
  clear hP0 hD0 hS0
  refine lv_iconst (v := 0) hx hb dX9_goesThrough_5 (by decide) ?_
  refine lv_istore_n (lv' := [(2, .int 0), (0, .ref h), (1, .int 1)]) hx hb dX9_goesThrough_6 rfl hl0 (by decide) rfl (fun ls2 hl2 => ?_)
  clear hl0
  refine lv_iconst (v := 1) hx hb dX9_goesThrough_7 (by decide) ?_
  refine lv_istore_n (lv' := [(3, .int 1), (2, .int 0), (0, .ref h), (1, .int 1)]) hx hb dX9_goesThrough_8 rfl hl2 (by decide) rfl (fun ls3 hl3 => ?_)
  clear hl2
  refine lv_iload_n hx hb dX9_goesThrough_9 rfl (lv_at hl3 0 rfl) ?_
  refine lv_if_eq (tgt := 224) hx hb dX9_goesThrough_10 (by decide) (fun c4 => ?_) (fun c4 => ?_)
  · exact absurd c4 (by decide)
  · have LOOP5 : ∀ (fu k : Nat), k ≤ 23 → 23 + 1 ≤ k + fu → ∀ E5 : Nat, ∀ qx5 : Nat → Int32, ∀ qk5 : Nat → Int32, ∀ qf5 : Nat → Int32, ∀ qs5 : Nat → Int32, ∀ gb5 : Int32, ∀ gc5 : Int32, ∀ gd5 : Int32, ∀ ge5 : Int32, ∀ σ5 : kS, σ5 = mrw (mdo qk5 qf5 qs5 k σ) (nI E5) gb5 gc5 gd5 ge5 → (E5 ≤ L) → (qx5 5 = nI k) → ((kread (σ 35) L 24 0 0 (gx, gk, gf, gs)) = kread (σ 35) L (24 - k) k E5 (qx5, qk5, qf5, qs5)) → ∀ (H5 : Heap) (locs5 : List Loc) (ls5 : Array Slot), lv_has ls5 7 [(3, .int 1), (2, .int (nI k)), (0, .ref h), (1, .int 1)] → va_P G.1 vwCl (mW G h a σ5) H5 → va_D A (mW G h a σ5) → va_S A st.heap H5 locs5 → W pg l ev ({ frames := 3, cells := 0, slots := 0, locals := 68 }) st mi ([.ref h, .int 1] : List Value).toArray bl mt cd H5 locs5 0 0 (MQ bl (kQi G (fun (rr : Int32) (uu : kS) => (rr = nI N) ∧ (∃ b1 b2 b3 b4 b5 : Int32, uu = mrw (mdo (kread (σ 35) L 24 0 0 (gx, gk, gf, gs)).2.2.1 (kread (σ 35) L 24 0 0 (gx, gk, gf, gs)).2.2.2.1 (kread (σ 35) L 24 0 0 (gx, gk, gf, gs)).2.2.2.2 N σ) b1 b2 b3 b4 b5)) (fun (uu : kS) => mW G h a uu) A) ([.ref h, .int 1] : List Value).toArray st 0 0 A) (F0 mi 13 ls5 []) := by
      intro fu
      induction fu with
      | zero => intro k h1 h2; exact absurd h2 (by omega)
      | succ fu ih =>
        intro k hk hnk E5 qx5 qk5 qf5 qs5 gb5 gc5 gd5 ge5 σ5 eσ5 hEL hq5 hRd H5 locs5 ls5 hl5 hP5 hD5 hS5
        refine lv_aload_n hx hb dX9_goesThrough_13 rfl (lv_at hl5 2 rfl) ?_
        have h35 : (mdo qk5 qf5 qs5 k σ) 35 = (σ 35) := mdo_hi _ _ _ _ (by decide) _
        have h36 : (mdo qk5 qf5 qs5 k σ) 36 0 = nI L := (congrFun (mdo_hi _ _ _ _ (by decide) _) 0).trans hL
        have hb1 := ktok_le (xl := (σ 35)) hEL
        have hb2 := ktok_le (xl := (σ 35)) hb1.2
        have hb3 := ktok_le (xl := (σ 35)) hb2.2
        have hbT := kcT_le (xl := (σ 35)) hEL
        have hbu := ktok_le (xl := (σ 35)) hbT.2
        refine kWVv F hK hP5 hD5 hS5 hA hl5.1 (c_X9_reads l G h a σ5 L E5 (by subst eσ5; subst eσ1; exact h36) lL (by subst eσ5; subst eσ1; rfl) hEL) 9 0 gX9_goesThrough_X9_reads rfl 0 rfl (by decide +kernel) ⟨Nat.le_of_ble_eq_true rfl, Nat.le_of_ble_eq_true rfl⟩ ⟨Nat.zero_le _, Nat.zero_le _⟩ rfl rfl (Nat.le_of_ble_eq_true rfl) rfl dX9_goesThrough_14 (fun σ_6 H7 locs7 hw6 (hP7 : va_P G.1 vwCl (mW G h a σ_6) H7) (hD7 : va_D A (mW G h a σ_6)) hS7 => ?_)
        clear hP5 hD5 hS5
        have w6_0 : σ_6 = mreads σ5 L E5 := hw6
        have g6 : σ_6 = mrt (σ 35) L E5 (mdo qk5 qf5 qs5 k σ) := w6_0.trans (by rw [eσ5]; exact mreads_mrw h35)
        clear w6_0
        refine lv_aload_n hx hb dX9_goesThrough_17 rfl (lv_at hl5 2 rfl) ?_
        refine kWVi F hK hP7 hD7 hS7 hA hl5.1 (c_X9_clause l G h a σ_6 L ((ktok (σ 35) L E5).1) ((ktok (σ 35) L E5).2) (by subst g6; subst eσ5; subst eσ1; exact h36) lL (by subst g6; subst eσ5; subst eσ1; rfl) (by subst g6; subst eσ5; subst eσ1; rfl) hb1.1 hb1.2 (by subst g6; subst eσ5; subst eσ1; exact (congrArg (fun z => mtk z L (ktok (σ 35) L E5).1) h35).symm)) 9 0 gX9_goesThrough_X9_clause rfl 0 rfl (by decide +kernel) ⟨Nat.le_of_ble_eq_true rfl, Nat.le_of_ble_eq_true rfl⟩ ⟨Nat.zero_le _, Nat.zero_le _⟩ rfl rfl (Nat.le_of_ble_eq_true rfl) rfl dX9_goesThrough_18 (fun r8 u8 H9 locs9 hw8 (hP9 : va_P G.1 vwCl (mW G h a σ_6) H9) (hD9 : va_D A (mW G h a σ_6)) hS9 => ?_)
        clear hP7 hD7 hS7
        have w8_0 : r8 = kckind (σ_6 35) ((ktok (σ 35) L E5).1) ((ktok (σ 35) L E5).2) := hw8
        have g8 : r8 = (kcK (σ 35) L E5) := (by subst g6; subst eσ5; subst eσ1; exact w8_0.trans (congrArg (fun z => kckind z (ktok (σ 35) L E5).1 (ktok (σ 35) L E5).2) h35))
        clear w8_0
        subst g8
        rcases kckind_cases (σ 35) L E5 with hkd | hkd | hkd | hkd | hkd | hkd
        · rw [show (kcK (σ 35) L E5) = (-1) from hkd]
          have hcA : kcA (σ 35) L E5 = true := by unfold kcA; rw [hkd]; decide
          refine lv_istore (lv' := [(4, .int (-1)), (3, .int 1), (2, .int (nI k)), (0, .ref h), (1, .int 1)]) hx hb dX9_goesThrough_21 hl5 (by decide) rfl (fun ls10 hl10 => ?_)
          clear hl5
          refine lv_iload hx hb dX9_goesThrough_23 (lv_at hl10 0 rfl) ?_
          refine lv_iconst (v := (-1)) hx hb dX9_goesThrough_25 (by decide) ?_
          refine lv_icmp_ne (tgt := 36) hx hb dX9_goesThrough_26 (by decide) (fun c11 => ?_) (fun c11 => ?_)
          · exact absurd (by decide) c11
          · refine lv_iconst (v := (-1)) hx hb dX9_goesThrough_29 (by decide) ?_
            refine lv_aload_n hx hb dX9_goesThrough_30 rfl (lv_at hl10 3 rfl) ?_
            refine kget F hK hP9 9 0 38 iX9 rfl rfl (by decide) (List.mem_of_getElem? (i := 2) rfl) rfl dX9_goesThrough_31 ?_
            refine lv_isub hx hb dX9_goesThrough_34 ?_
            have q12 : (((-1) - (σ_6 38 0)) = nI N) ∧ (∃ b1 b2 b3 b4 b5 : Int32, σ_6 = mrw (mdo (kread (σ 35) L 24 0 0 (gx, gk, gf, gs)).2.2.1 (kread (σ 35) L 24 0 0 (gx, gk, gf, gs)).2.2.2.1 (kread (σ 35) L 24 0 0 (gx, gk, gf, gs)).2.2.2.2 N σ) b1 b2 b3 b4 b5) := by
              have hR : kcR (σ 35) L E5 = 0 := by simp only [kcR, hcA, ↓reduceIte]
              have hcT : kcT (σ 35) L E5 = kc1 (σ 35) L E5 := by simp only [kcT, hcA, ↓reduceIte]
              have hRR := hRd.trans (kread_A (by omega) hR)
              rw [hcT] at hRR
              exact absurd (hyes.symm.trans (congrArg Prod.fst hRR)) (fun q => nI_nm1 (j := (kc1 (σ 35) L E5).1) (Nat.lt_of_le_of_lt (show (kc1 (σ 35) L E5).1 ≤ 200 from Nat.le_trans hb1.1 (Nat.le_trans hb1.2 lL)) (by decide)) q.symm)
            exact kRi F hr hlocks hS9 dX9_goesThrough_35 σ_6 q12 hP9 hD9
        · rw [show (kcK (σ 35) L E5) = 0 from hkd]
          have hcA : kcA (σ 35) L E5 = false := by unfold kcA; rw [hkd]; decide
          have hcC : kcC (σ 35) L E5 = false := by unfold kcC; rw [hkd]; decide
          refine lv_istore (lv' := [(4, .int 0), (3, .int 1), (2, .int (nI k)), (0, .ref h), (1, .int 1)]) hx hb dX9_goesThrough_21 hl5 (by decide) rfl (fun ls13 hl13 => ?_)
          clear hl5
          refine lv_iload hx hb dX9_goesThrough_23 (lv_at hl13 0 rfl) ?_
          refine lv_iconst (v := (-1)) hx hb dX9_goesThrough_25 (by decide) ?_
          refine lv_icmp_ne (tgt := 36) hx hb dX9_goesThrough_26 (by decide) (fun c14 => ?_) (fun c14 => ?_)
          · refine lv_aload_n hx hb dX9_goesThrough_36 rfl (lv_at hl13 3 rfl) ?_
            refine kWVv F hK hP9 hD9 hS9 hA hl13.1 (c_X9_reads l G h a σ_6 L ((ktok (σ 35) L E5).2) (by subst g6; subst eσ5; subst eσ1; exact h36) lL (by subst g6; subst eσ5; subst eσ1; rfl) hb1.2) 9 0 gX9_goesThrough_X9_reads rfl 0 rfl (by decide +kernel) ⟨Nat.le_of_ble_eq_true rfl, Nat.le_of_ble_eq_true rfl⟩ ⟨Nat.zero_le _, Nat.zero_le _⟩ rfl rfl (Nat.le_of_ble_eq_true rfl) rfl dX9_goesThrough_37 (fun σ_15 H16 locs16 hw15 (hP16 : va_P G.1 vwCl (mW G h a σ_15) H16) (hD16 : va_D A (mW G h a σ_15)) hS16 => ?_)
            clear hP9 hD9 hS9
            have w15_0 : σ_15 = mreads σ_6 L ((ktok (σ 35) L E5).2) := hw15
            have g15 : σ_15 = mrt (σ 35) L ((ktok (σ 35) L E5).2) (mdo qk5 qf5 qs5 k σ) := w15_0.trans (by rw [g6]; exact mreads_mrw h35)
            clear w15_0
            refine lv_aload_n hx hb dX9_goesThrough_40 rfl (lv_at hl13 3 rfl) ?_
            refine lv_iload hx hb dX9_goesThrough_41 (lv_at hl13 0 rfl) ?_
            refine lv_iconst (v := 2) hx hb dX9_goesThrough_43 (by decide) ?_
            refine lv_icmp_ge (tgt := 51) hx hb dX9_goesThrough_44 (by decide) (fun c17 => ?_) (fun c17 => ?_)
            · exact absurd c17 (by decide)
            · refine lv_iconst (v := 1) hx hb dX9_goesThrough_47 (by decide) ?_
              refine lv_goto (tgt := 52) hx hb dX9_goesThrough_48 (by decide) ?_
              refine lv_iload hx hb dX9_goesThrough_52 (lv_at hl13 0 rfl) ?_
              refine lv_iconst (v := 2) hx hb dX9_goesThrough_54 (by decide) ?_
              refine lv_icmp_ge (tgt := 63) hx hb dX9_goesThrough_55 (by decide) (fun c18 => ?_) (fun c18 => ?_)
              · exact absurd c18 (by decide)
              · refine lv_bipush (v := 7) hx hb dX9_goesThrough_58 (by decide) ?_
                refine lv_goto (tgt := 86) hx hb dX9_goesThrough_60 (by decide) ?_
                refine kWVi F hK hP16 hD16 hS16 hA hl13.1 (c_X9_isNumber l G h a σ_15 1 7 L ((ktok (σ 35) L (ktok (σ 35) L E5).2).1) (by subst g15; subst g6; subst eσ5; subst eσ1; exact (congrArg (fun z => mtk z L (ktok (σ 35) L (ktok (σ 35) L E5).2).1) h35).symm) (by subst g15; subst g6; subst eσ5; subst eσ1; exact (congrArg (fun z => mvl z L (ktok (σ 35) L (ktok (σ 35) L E5).2).1) h35).symm) (by subst g15; subst g6; subst eσ5; subst eσ1; exact (congrArg (fun z => mdi z L (ktok (σ 35) L (ktok (σ 35) L E5).2).1) h35).symm) lL (by omega) (by decide)) 9 0 gX9_goesThrough_X9_isNumber rfl 2 rfl (by decide +kernel) ⟨Nat.le_of_ble_eq_true rfl, Nat.le_of_ble_eq_true rfl⟩ ⟨Nat.zero_le _, Nat.zero_le _⟩ rfl rfl (Nat.le_of_ble_eq_true rfl) rfl dX9_goesThrough_86 (fun r19 u19 H20 locs20 hw19 (hP20 : va_P G.1 vwCl (mW G h a σ_15) H20) (hD20 : va_D A (mW G h a σ_15)) hS20 => ?_)
                clear hP16 hD16 hS16
                have w19_0 : r19 = if knum (σ_15 35) ((ktok (σ 35) L (ktok (σ 35) L E5).2).1) (ktokE (σ_15 35) L ((ktok (σ 35) L (ktok (σ 35) L E5).2).1)) 1 7 = -1 then (0 : Int32) else 1 := hw19
                have hV : kcV (σ 35) L E5 = knum (σ 35) (ktok (σ 35) L (ktok (σ 35) L E5).2).1 (ktok (σ 35) L (ktok (σ 35) L E5).2).2 1 7 := by unfold kcV; rw [hkd]; rfl
                have g19 : r19 = if kcV (σ 35) L E5 = -1 then 0 else 1 := (by subst g15; subst g6; subst eσ5; subst eσ1; rw [hV]; exact w19_0.trans (congrArg (fun z => if knum z (ktok (σ 35) L (ktok (σ 35) L E5).2).1 (ktokE z L (ktok (σ 35) L (ktok (σ 35) L E5).2).1) 1 7 = -1 then 0 else 1) h35))
                clear w19_0
                subst g19
                by_cases hVn : kcV (σ 35) L E5 = -1
                · rw [if_pos hVn]
                  have hcB : kcB (σ 35) L E5 = true := decide_eq_true hVn
                  have hR : kcR (σ 35) L E5 = 0 := by simp only [kcR, hcA, hcB, Bool.false_eq_true, ↓reduceIte]
                  have hcT : kcT (σ 35) L E5 = kc2 (σ 35) L E5 := by simp only [kcT, hcA, hcB, Bool.false_eq_true, ↓reduceIte]
                  refine lv_if_ne (tgt := 99) hx hb dX9_goesThrough_89 (by decide) (fun c21 => ?_) (fun c21 => ?_)
                  · exact absurd (by decide) c21
                  · refine lv_iconst (v := (-1)) hx hb dX9_goesThrough_92 (by decide) ?_
                    refine lv_aload_n hx hb dX9_goesThrough_93 rfl (lv_at hl13 3 rfl) ?_
                    refine kget F hK hP20 9 0 38 iX9 rfl rfl (by decide) (List.mem_of_getElem? (i := 2) rfl) rfl dX9_goesThrough_94 ?_
                    refine lv_isub hx hb dX9_goesThrough_97 ?_
                    have q22 : (((-1) - (σ_15 38 0)) = nI N) ∧ (∃ b1 b2 b3 b4 b5 : Int32, σ_15 = mrw (mdo (kread (σ 35) L 24 0 0 (gx, gk, gf, gs)).2.2.1 (kread (σ 35) L 24 0 0 (gx, gk, gf, gs)).2.2.2.1 (kread (σ 35) L 24 0 0 (gx, gk, gf, gs)).2.2.2.2 N σ) b1 b2 b3 b4 b5) := by
                      have hRR := hRd.trans (kread_A (by omega) hR)
                      rw [hcT] at hRR
                      exact absurd (hyes.symm.trans (congrArg Prod.fst hRR)) (fun q => nI_nm1 (j := (kc2 (σ 35) L E5).1) (Nat.lt_of_le_of_lt (show (kc2 (σ 35) L E5).1 ≤ 200 from Nat.le_trans hb2.1 (Nat.le_trans hb2.2 lL)) (by decide)) q.symm)
                    exact kRi F hr hlocks hS20 dX9_goesThrough_98 σ_15 q22 hP20 hD20
                · rw [if_neg hVn]
                  have hcB : kcB (σ 35) L E5 = false := decide_eq_false hVn
                  have vV : mvl (σ 35) L (ktok (σ 35) L (ktok (σ 35) L E5).2).1 = kcV (σ 35) L E5 := ((mnum_eq (a := 1) (b := 7) lL (by omega) (by decide)).2 (fun q => hVn (hV.trans q))).trans hV.symm
                  refine lv_if_ne (tgt := 99) hx hb dX9_goesThrough_89 (by decide) (fun c23 => ?_) (fun c23 => ?_)
                  · refine lv_aload_n hx hb dX9_goesThrough_99 rfl (lv_at hl13 3 rfl) ?_
                    refine kget F hK hP20 9 0 40 iX9 rfl rfl (by decide) (List.mem_of_getElem? (i := 3) rfl) rfl dX9_goesThrough_100 ?_
                    rw [show (σ_15 40 0) = (kcV (σ 35) L E5) from (by subst g15; subst g6; subst eσ5; subst eσ1; exact vV)]
                    refine lv_istore (lv' := [(5, .int (kcV (σ 35) L E5)), (4, .int 0), (3, .int 1), (2, .int (nI k)), (0, .ref h), (1, .int 1)]) hx hb dX9_goesThrough_103 hl13 (by decide) rfl (fun ls24 hl24 => ?_)
                    clear hl13
                    refine lv_iconst (v := 0) hx hb dX9_goesThrough_105 (by decide) ?_
                    refine lv_istore (lv' := [(6, .int 0), (5, .int (kcV (σ 35) L E5)), (4, .int 0), (3, .int 1), (2, .int (nI k)), (0, .ref h), (1, .int 1)]) hx hb dX9_goesThrough_106 hl24 (by decide) rfl (fun ls25 hl25 => ?_)
                    clear hl24
                    refine lv_iload hx hb dX9_goesThrough_108 (lv_at hl25 2 rfl) ?_
                    refine lv_iconst (v := 3) hx hb dX9_goesThrough_110 (by decide) ?_
                    refine lv_icmp_ge (tgt := 153) hx hb dX9_goesThrough_111 (by decide) (fun c26 => ?_) (fun c26 => ?_)
                    · exact absurd c26 (by decide)
                    · refine lv_aload_n hx hb dX9_goesThrough_114 rfl (lv_at hl25 5 rfl) ?_
                      refine kWVv F hK hP20 hD20 hS20 hA hl25.1 (c_X9_reads l G h a σ_15 L ((ktok (σ 35) L (ktok (σ 35) L E5).2).2) (by subst g15; subst g6; subst eσ5; subst eσ1; exact h36) lL (by subst g15; subst g6; subst eσ5; subst eσ1; rfl) hb2.2) 9 0 gX9_goesThrough_X9_reads rfl 0 rfl (by decide +kernel) ⟨Nat.le_of_ble_eq_true rfl, Nat.le_of_ble_eq_true rfl⟩ ⟨Nat.zero_le _, Nat.zero_le _⟩ rfl rfl (Nat.le_of_ble_eq_true rfl) rfl dX9_goesThrough_115 (fun σ_27 H28 locs28 hw27 (hP28 : va_P G.1 vwCl (mW G h a σ_27) H28) (hD28 : va_D A (mW G h a σ_27)) hS28 => ?_)
                      clear hP20 hD20 hS20
                      have w27_0 : σ_27 = mreads σ_15 L ((ktok (σ 35) L (ktok (σ 35) L E5).2).2) := hw27
                      have g27 : σ_27 = mrt (σ 35) L ((ktok (σ 35) L (ktok (σ 35) L E5).2).2) (mdo qk5 qf5 qs5 k σ) := w27_0.trans (by rw [g15]; exact mreads_mrw h35)
                      clear w27_0
                      refine lv_aload_n hx hb dX9_goesThrough_118 rfl (lv_at hl25 5 rfl) ?_
                      refine lv_iconst (v := 1) hx hb dX9_goesThrough_119 (by decide) ?_
                      refine lv_iload hx hb dX9_goesThrough_120 (lv_at hl25 2 rfl) ?_
                      refine lv_iconst (v := 2) hx hb dX9_goesThrough_122 (by decide) ?_
                      refine lv_icmp_ge (tgt := 131) hx hb dX9_goesThrough_123 (by decide) (fun c29 => ?_) (fun c29 => ?_)
                      · exact absurd c29 (by decide)
                      · refine lv_bipush (v := 15) hx hb dX9_goesThrough_126 (by decide) ?_
                        refine lv_goto (tgt := 134) hx hb dX9_goesThrough_128 (by decide) ?_
                        refine kWVi F hK hP28 hD28 hS28 hA hl25.1 (c_X9_isNumber l G h a σ_27 1 15 L ((ktok (σ 35) L (ktok (σ 35) L (ktok (σ 35) L E5).2).2).1) (by subst g27; subst g15; subst g6; subst eσ5; subst eσ1; exact (congrArg (fun z => mtk z L (ktok (σ 35) L (ktok (σ 35) L (ktok (σ 35) L E5).2).2).1) h35).symm) (by subst g27; subst g15; subst g6; subst eσ5; subst eσ1; exact (congrArg (fun z => mvl z L (ktok (σ 35) L (ktok (σ 35) L (ktok (σ 35) L E5).2).2).1) h35).symm) (by subst g27; subst g15; subst g6; subst eσ5; subst eσ1; exact (congrArg (fun z => mdi z L (ktok (σ 35) L (ktok (σ 35) L (ktok (σ 35) L E5).2).2).1) h35).symm) lL (by omega) (by decide)) 9 0 gX9_goesThrough_X9_isNumber rfl 2 rfl (by decide +kernel) ⟨Nat.le_of_ble_eq_true rfl, Nat.le_of_ble_eq_true rfl⟩ ⟨Nat.zero_le _, Nat.zero_le _⟩ rfl rfl (Nat.le_of_ble_eq_true rfl) rfl dX9_goesThrough_134 (fun r30 u30 H31 locs31 hw30 (hP31 : va_P G.1 vwCl (mW G h a σ_27) H31) (hD31 : va_D A (mW G h a σ_27)) hS31 => ?_)
                        clear hP28 hD28 hS28
                        have w30_0 : r30 = if knum (σ_27 35) ((ktok (σ 35) L (ktok (σ 35) L (ktok (σ 35) L E5).2).2).1) (ktokE (σ_27 35) L ((ktok (σ 35) L (ktok (σ 35) L (ktok (σ 35) L E5).2).2).1)) 1 15 = -1 then (0 : Int32) else 1 := hw30
                        have hW : kcW (σ 35) L E5 = knum (σ 35) (ktok (σ 35) L (ktok (σ 35) L (ktok (σ 35) L E5).2).2).1 (ktok (σ 35) L (ktok (σ 35) L (ktok (σ 35) L E5).2).2).2 1 15 := by unfold kcW; rw [hkd]; rfl
                        have g30 : r30 = if kcW (σ 35) L E5 = -1 then 0 else 1 := (by subst g27; subst g15; subst g6; subst eσ5; subst eσ1; rw [hW]; exact w30_0.trans (congrArg (fun z => if knum z (ktok (σ 35) L (ktok (σ 35) L (ktok (σ 35) L E5).2).2).1 (ktokE z L (ktok (σ 35) L (ktok (σ 35) L (ktok (σ 35) L E5).2).2).1) 1 15 = -1 then 0 else 1) h35))
                        clear w30_0
                        subst g30
                        by_cases hWn : kcW (σ 35) L E5 = -1
                        · rw [if_pos hWn]
                          have hR : kcR (σ 35) L E5 = 0 := by simp only [kcR, hcA, hcB, hcC, hWn, Bool.false_eq_true, ↓reduceIte]
                          have hcT : kcT (σ 35) L E5 = kc3 (σ 35) L E5 := by simp only [kcT, hcA, hcB, hcC, hWn, Bool.false_eq_true, ↓reduceIte]
                          refine lv_if_ne (tgt := 147) hx hb dX9_goesThrough_137 (by decide) (fun c32 => ?_) (fun c32 => ?_)
                          · exact absurd (by decide) c32
                          · refine lv_iconst (v := (-1)) hx hb dX9_goesThrough_140 (by decide) ?_
                            refine lv_aload_n hx hb dX9_goesThrough_141 rfl (lv_at hl25 5 rfl) ?_
                            refine kget F hK hP31 9 0 38 iX9 rfl rfl (by decide) (List.mem_of_getElem? (i := 2) rfl) rfl dX9_goesThrough_142 ?_
                            refine lv_isub hx hb dX9_goesThrough_145 ?_
                            have q33 : (((-1) - (σ_27 38 0)) = nI N) ∧ (∃ b1 b2 b3 b4 b5 : Int32, σ_27 = mrw (mdo (kread (σ 35) L 24 0 0 (gx, gk, gf, gs)).2.2.1 (kread (σ 35) L 24 0 0 (gx, gk, gf, gs)).2.2.2.1 (kread (σ 35) L 24 0 0 (gx, gk, gf, gs)).2.2.2.2 N σ) b1 b2 b3 b4 b5) := by
                              have hRR := hRd.trans (kread_A (by omega) hR)
                              rw [hcT] at hRR
                              exact absurd (hyes.symm.trans (congrArg Prod.fst hRR)) (fun q => nI_nm1 (j := (kc3 (σ 35) L E5).1) (Nat.lt_of_le_of_lt (show (kc3 (σ 35) L E5).1 ≤ 200 from Nat.le_trans hb3.1 (Nat.le_trans hb3.2 lL)) (by decide)) q.symm)
                            exact kRi F hr hlocks hS31 dX9_goesThrough_146 σ_27 q33 hP31 hD31
                        · rw [if_neg hWn]
                          have vW : mvl (σ 35) L (ktok (σ 35) L (ktok (σ 35) L (ktok (σ 35) L E5).2).2).1 = kcW (σ 35) L E5 := ((mnum_eq (a := 1) (b := 15) lL (by omega) (by decide)).2 (fun q => hWn (hW.trans q))).trans hW.symm
                          have hR : ¬ kcR (σ 35) L E5 = 0 := by simp only [kcR, hcA, hcB, hcC, hWn, Bool.false_eq_true, ↓reduceIte]; decide
                          have hcT : kcT (σ 35) L E5 = kc3 (σ 35) L E5 := by simp only [kcT, hcA, hcB, hcC, hWn, Bool.false_eq_true, ↓reduceIte]
                          have hcS : kcS (σ 35) L E5 = kcW (σ 35) L E5 := by simp only [kcS, hcC, Bool.false_eq_true, ↓reduceIte]
                          refine lv_if_ne (tgt := 147) hx hb dX9_goesThrough_137 (by decide) (fun c34 => ?_) (fun c34 => ?_)
                          · refine lv_aload_n hx hb dX9_goesThrough_147 rfl (lv_at hl25 5 rfl) ?_
                            refine kget F hK hP31 9 0 40 iX9 rfl rfl (by decide) (List.mem_of_getElem? (i := 3) rfl) rfl dX9_goesThrough_148 ?_
                            rw [show (σ_27 40 0) = (kcW (σ 35) L E5) from (by subst g27; subst g15; subst g6; subst eσ5; subst eσ1; exact vW)]
                            refine lv_istore (lv' := [(6, .int (kcW (σ 35) L E5)), (5, .int (kcV (σ 35) L E5)), (4, .int 0), (3, .int 1), (2, .int (nI k)), (0, .ref h), (1, .int 1)]) hx hb dX9_goesThrough_151 hl25 (by decide) rfl (fun ls35 hl35 => ?_)
                            clear hl25
                            refine lv_iload_n hx hb dX9_goesThrough_153 rfl (lv_at hl35 6 rfl) ?_
                            refine lv_if_eq (tgt := 167) hx hb dX9_goesThrough_154 (by decide) (fun c36 => ?_) (fun c36 => ?_)
                            · exact absurd c36 (by decide)
                            · refine lv_aload_n hx hb dX9_goesThrough_157 rfl (lv_at hl35 5 rfl) ?_
                              refine lv_iload hx hb dX9_goesThrough_158 (lv_at hl35 2 rfl) ?_
                              refine lv_iload hx hb dX9_goesThrough_160 (lv_at hl35 1 rfl) ?_
                              refine lv_iload hx hb dX9_goesThrough_162 (lv_at hl35 0 rfl) ?_
                              refine kWVv F hK hP31 hD31 hS31 hA hl35.1 (c_X9_does l G h a σ_27 0 (kcV (σ 35) L E5) (kcW (σ 35) L E5) (by decide) (fun q => absurd q (by decide))) 9 0 gX9_goesThrough_X9_does rfl 3 rfl (by decide +kernel) ⟨Nat.le_of_ble_eq_true rfl, Nat.le_of_ble_eq_true rfl⟩ ⟨Nat.zero_le _, Nat.zero_le _⟩ rfl rfl (Nat.le_of_ble_eq_true rfl) rfl dX9_goesThrough_164 (fun σ_37 H38 locs38 hw37 (hP38 : va_P G.1 vwCl (mW G h a σ_37) H38) (hD38 : va_D A (mW G h a σ_37)) hS38 => ?_)
                              clear hP31 hD31 hS31
                              have w37_0 : σ_37 = mdoes σ_27 0 (kcV (σ 35) L E5) (kcW (σ 35) L E5) := hw37
                              have g37 : σ_37 = mrt (σ 35) L (ktok (σ 35) L (ktok (σ 35) L E5).2).2 (mdo (kcP qk5 k (kcK (σ 35) L E5) (σ 35) L E5) (kcP qf5 k (kcV (σ 35) L E5) (σ 35) L E5) (kcP qs5 k (kcS (σ 35) L E5) (σ 35) L E5) (k + 1) σ) := w37_0.trans (by rw [g27, mdoes_mrt, mdo_step hcA hcB, hkd, hcS])
                              clear w37_0
                              have k35 : (mdo (kcP qk5 k (kcK (σ 35) L E5) (σ 35) L E5) (kcP qf5 k (kcV (σ 35) L E5) (σ 35) L E5) (kcP qs5 k (kcS (σ 35) L E5) (σ 35) L E5) (k + 1) σ) 35 = (σ 35) := mdo_hi _ _ _ _ (by decide) _
                              have k36 : (mdo (kcP qk5 k (kcK (σ 35) L E5) (σ 35) L E5) (kcP qf5 k (kcV (σ 35) L E5) (σ 35) L E5) (kcP qs5 k (kcS (σ 35) L E5) (σ 35) L E5) (k + 1) σ) 36 0 = nI L := (congrFun (mdo_hi _ _ _ _ (by decide) _) 0).trans hL
                              refine lv_iinc (v := nI (k + 1)) (lv' := [(2, .int (nI (k + 1))), (6, .int (kcW (σ 35) L E5)), (5, .int (kcV (σ 35) L E5)), (4, .int 0), (3, .int 1), (0, .ref h), (1, .int 1)]) hx hb dX9_goesThrough_167 hl35 (k := 4) rfl (nI_1 _) (by decide) rfl (fun ls39 hl39 => ?_)
                              clear hl35
                              refine lv_aload_n hx hb dX9_goesThrough_170 rfl (lv_at hl39 5 rfl) ?_
                              refine kWVv F hK hP38 hD38 hS38 hA hl39.1 (c_X9_reads l G h a σ_37 L ((kcT (σ 35) L E5).2) (by subst g37; subst g27; subst g15; subst g6; subst eσ5; subst eσ1; exact k36) lL (by subst g37; subst g27; subst g15; subst g6; subst eσ5; subst eσ1; rw [hcT]; rfl) hbT.2) 9 0 gX9_goesThrough_X9_reads rfl 0 rfl (by decide +kernel) ⟨Nat.le_of_ble_eq_true rfl, Nat.le_of_ble_eq_true rfl⟩ ⟨Nat.zero_le _, Nat.zero_le _⟩ rfl rfl (Nat.le_of_ble_eq_true rfl) rfl dX9_goesThrough_171 (fun σ_40 H41 locs41 hw40 (hP41 : va_P G.1 vwCl (mW G h a σ_40) H41) (hD41 : va_D A (mW G h a σ_40)) hS41 => ?_)
                              clear hP38 hD38 hS38
                              have w40_0 : σ_40 = mreads σ_37 L ((kcT (σ 35) L E5).2) := hw40
                              have g40 : σ_40 = mrt (σ 35) L ((kcT (σ 35) L E5).2) (mdo (kcP qk5 k (kcK (σ 35) L E5) (σ 35) L E5) (kcP qf5 k (kcV (σ 35) L E5) (σ 35) L E5) (kcP qs5 k (kcS (σ 35) L E5) (σ 35) L E5) (k + 1) σ) := w40_0.trans (by rw [g37]; exact mreads_mrw k35)
                              clear w40_0
                              refine lv_aload_n hx hb dX9_goesThrough_174 rfl (lv_at hl39 5 rfl) ?_
                              refine kget F hK hP41 9 0 39 iX9 rfl rfl (by decide) (List.mem_of_getElem? (i := 4) rfl) rfl dX9_goesThrough_175 ?_
                              rw [show (σ_40 39 0) = (mtk (σ 35) L (ktok (σ 35) L (kcT (σ 35) L E5).2).1) from (by subst g40; subst g37; subst g27; subst g15; subst g6; subst eσ5; subst eσ1; rfl)]
                              refine lv_if_eq (tgt := 185) hx hb dX9_goesThrough_178 (by decide) (fun c42 => ?_) (fun c42 => ?_)
                              · have hu := mtk0 (xl := (σ 35)) (L := L) (u := (ktok (σ 35) L (kcT (σ 35) L E5).2).1) (by omega) c42
                                refine lv_iconst (v := 0) hx hb dX9_goesThrough_185 (by decide) ?_
                                refine lv_istore_n (lv' := [(3, .int 0), (2, .int (nI (k + 1))), (6, .int (kcW (σ 35) L E5)), (5, .int (kcV (σ 35) L E5)), (4, .int 0), (0, .ref h), (1, .int 1)]) hx hb dX9_goesThrough_186 rfl hl39 (by decide) rfl (fun ls43 hl43 => ?_)
                                clear hl39
                                refine lv_iload_n hx hb dX9_goesThrough_187 rfl (lv_at hl43 0 rfl) ?_
                                refine lv_if_eq (tgt := 221) hx hb dX9_goesThrough_188 (by decide) (fun c44 => ?_) (fun c44 => ?_)
                                · refine lv_goto (tgt := 9) hx hb dX9_goesThrough_221 (by decide) ?_
                                  refine lv_iload_n hx hb dX9_goesThrough_9 rfl (lv_at hl43 0 rfl) ?_
                                  refine lv_if_eq (tgt := 224) hx hb dX9_goesThrough_10 (by decide) (fun c45 => ?_) (fun c45 => ?_)
                                  · refine lv_iload_n hx hb dX9_goesThrough_224 rfl (lv_at hl43 1 rfl) ?_
                                    have q46 : ((nI (k + 1)) = nI N) ∧ (∃ b1 b2 b3 b4 b5 : Int32, σ_40 = mrw (mdo (kread (σ 35) L 24 0 0 (gx, gk, gf, gs)).2.2.1 (kread (σ 35) L 24 0 0 (gx, gk, gf, gs)).2.2.2.1 (kread (σ 35) L 24 0 0 (gx, gk, gf, gs)).2.2.2.2 N σ) b1 b2 b3 b4 b5) := by
                                      have hRR := hRd.trans (kread_B (by omega) hR hu)
                                      have hn1 : nI (k + 1) = nI N := by
                                        rw [← hN, hRR]
                                        show nI (k + 1) = qx5 5 + 1
                                        rw [hq5, nI_1]
                                      have hkN : k + 1 = N := (nI_eq (by omega) (by omega)).mp hn1
                                      subst hkN
                                      subst g40
                                      subst g37
                                      subst g27
                                      subst g15
                                      subst g6
                                      subst eσ5
                                      subst eσ1
                                      refine ⟨rfl, ?_⟩
                                      rw [hRR]
                                      exact ⟨_, _, _, _, _, rfl⟩
                                    exact kRi F hr hlocks hS41 dX9_goesThrough_225 σ_40 q46 hP41 hD41
                                  · exact absurd (by decide) c45
                                · exact absurd (by decide) c44
                              · have hu := mtkL (xl := (σ 35)) (L := L) (u := (ktok (σ 35) L (kcT (σ 35) L E5).2).1) c42
                                refine lv_iconst (v := 1) hx hb dX9_goesThrough_181 (by decide) ?_
                                refine lv_goto (tgt := 186) hx hb dX9_goesThrough_182 (by decide) ?_
                                refine lv_istore_n (lv' := [(3, .int 1), (2, .int (nI (k + 1))), (6, .int (kcW (σ 35) L E5)), (5, .int (kcV (σ 35) L E5)), (4, .int 0), (0, .ref h), (1, .int 1)]) hx hb dX9_goesThrough_186 rfl hl39 (by decide) rfl (fun ls47 hl47 => ?_)
                                clear hl39
                                refine lv_iload_n hx hb dX9_goesThrough_187 rfl (lv_at hl47 0 rfl) ?_
                                refine lv_if_eq (tgt := 221) hx hb dX9_goesThrough_188 (by decide) (fun c48 => ?_) (fun c48 => ?_)
                                · exact absurd c48 (by decide)
                                · refine lv_aload_n hx hb dX9_goesThrough_191 rfl (lv_at hl47 5 rfl) ?_
                                  refine kget F hK hP41 9 0 39 iX9 rfl rfl (by decide) (List.mem_of_getElem? (i := 4) rfl) rfl dX9_goesThrough_192 ?_
                                  rw [show (σ_40 39 0) = (mtk (σ 35) L (ktok (σ 35) L (kcT (σ 35) L E5).2).1) from (by subst g40; subst g37; subst g27; subst g15; subst g6; subst eσ5; subst eσ1; rfl)]
                                  refine lv_iconst (v := 3) hx hb dX9_goesThrough_195 (by decide) ?_
                                  refine lv_icmp_ne (tgt := 214) hx hb dX9_goesThrough_196 (by decide) (fun c49 => ?_) (fun c49 => ?_)
                                  · have h9 := mtk59 (xl := (σ 35)) (L := L) (u := (ktok (σ 35) L (kcT (σ 35) L E5).2).1) (by omega) c49
                                    refine lv_iconst (v := (-1)) hx hb dX9_goesThrough_214 (by decide) ?_
                                    refine lv_aload_n hx hb dX9_goesThrough_215 rfl (lv_at hl47 5 rfl) ?_
                                    refine kget F hK hP41 9 0 38 iX9 rfl rfl (by decide) (List.mem_of_getElem? (i := 2) rfl) rfl dX9_goesThrough_216 ?_
                                    refine lv_isub hx hb dX9_goesThrough_219 ?_
                                    have q50 : (((-1) - (σ_40 38 0)) = nI N) ∧ (∃ b1 b2 b3 b4 b5 : Int32, σ_40 = mrw (mdo (kread (σ 35) L 24 0 0 (gx, gk, gf, gs)).2.2.1 (kread (σ 35) L 24 0 0 (gx, gk, gf, gs)).2.2.2.1 (kread (σ 35) L 24 0 0 (gx, gk, gf, gs)).2.2.2.2 N σ) b1 b2 b3 b4 b5) := by
                                      have hRR := hRd.trans (kread_C (by omega) hR hu h9)
                                      exact absurd (hyes.symm.trans (congrArg Prod.fst hRR)) (fun q => nI_nm1 (j := (ktok (σ 35) L (kcT (σ 35) L E5).2).1) (show (ktok (σ 35) L (kcT (σ 35) L E5).2).1 < 2147483648 by omega) q.symm)
                                    exact kRi F hr hlocks hS41 dX9_goesThrough_220 σ_40 q50 hP41 hD41
                                  · have h3 := mvl3 (xl := (σ 35)) (L := L) (u := (ktok (σ 35) L (kcT (σ 35) L E5).2).1) (by omega) c49
                                    refine lv_aload_n hx hb dX9_goesThrough_199 rfl (lv_at hl47 5 rfl) ?_
                                    refine kget F hK hP41 9 0 40 iX9 rfl rfl (by decide) (List.mem_of_getElem? (i := 3) rfl) rfl dX9_goesThrough_200 ?_
                                    rw [show (σ_40 40 0) = (mvl (σ 35) L (ktok (σ 35) L (kcT (σ 35) L E5).2).1) from (by subst g40; subst g37; subst g27; subst g15; subst g6; subst eσ5; subst eσ1; rfl)]
                                    refine lv_bipush (v := 59) hx hb dX9_goesThrough_203 (by decide) ?_
                                    refine lv_icmp_ne (tgt := 214) hx hb dX9_goesThrough_205 (by decide) (fun c51 => ?_) (fun c51 => ?_)
                                    · have h9 : ¬ (σ 35) (ktok (σ 35) L (kcT (σ 35) L E5).2).1 = 59 := fun q => c51 (h3.trans q)
                                      refine lv_iconst (v := (-1)) hx hb dX9_goesThrough_214 (by decide) ?_
                                      refine lv_aload_n hx hb dX9_goesThrough_215 rfl (lv_at hl47 5 rfl) ?_
                                      refine kget F hK hP41 9 0 38 iX9 rfl rfl (by decide) (List.mem_of_getElem? (i := 2) rfl) rfl dX9_goesThrough_216 ?_
                                      refine lv_isub hx hb dX9_goesThrough_219 ?_
                                      have q52 : (((-1) - (σ_40 38 0)) = nI N) ∧ (∃ b1 b2 b3 b4 b5 : Int32, σ_40 = mrw (mdo (kread (σ 35) L 24 0 0 (gx, gk, gf, gs)).2.2.1 (kread (σ 35) L 24 0 0 (gx, gk, gf, gs)).2.2.2.1 (kread (σ 35) L 24 0 0 (gx, gk, gf, gs)).2.2.2.2 N σ) b1 b2 b3 b4 b5) := by
                                        have hRR := hRd.trans (kread_C (by omega) hR hu h9)
                                        exact absurd (hyes.symm.trans (congrArg Prod.fst hRR)) (fun q => nI_nm1 (j := (ktok (σ 35) L (kcT (σ 35) L E5).2).1) (show (ktok (σ 35) L (kcT (σ 35) L E5).2).1 < 2147483648 by omega) q.symm)
                                      exact kRi F hr hlocks hS41 dX9_goesThrough_220 σ_40 q52 hP41 hD41
                                    · have h9 : (σ 35) (ktok (σ 35) L (kcT (σ 35) L E5).2).1 = 59 := h3.symm.trans c51
                                      refine lv_iload_n hx hb dX9_goesThrough_208 rfl (lv_at hl47 1 rfl) ?_
                                      refine lv_bipush (v := 24) hx hb dX9_goesThrough_209 (by decide) ?_
                                      refine lv_icmp_ne (tgt := 221) hx hb dX9_goesThrough_211 (by decide) (fun c53 => ?_) (fun c53 => ?_)
                                      · have h24 : ¬ k + 1 = 24 := fun q => c53 (by rw [q]; rfl)
                                        refine lv_goto (tgt := 9) hx hb dX9_goesThrough_221 (by decide) ?_
                                        refine lv_iload_n hx hb dX9_goesThrough_9 rfl (lv_at hl47 0 rfl) ?_
                                        refine lv_if_eq (tgt := 224) hx hb dX9_goesThrough_10 (by decide) (fun c54 => ?_) (fun c54 => ?_)
                                        · exact absurd c54 (by decide)
                                        · exact ih (k + 1) (by omega) (by omega) ((ktok (σ 35) L (kcT (σ 35) L E5).2).2) (krx (σ 35) L E5 qx5) (kcP qk5 k (kcK (σ 35) L E5) (σ 35) L E5) (kcP qf5 k (kcV (σ 35) L E5) (σ 35) L E5) (kcP qs5 k (kcS (σ 35) L E5) (σ 35) L E5) (nI (ktok (σ 35) L (kcT (σ 35) L E5).2).1) (mtk (σ 35) L (ktok (σ 35) L (kcT (σ 35) L E5).2).1) (mvl (σ 35) L (ktok (σ 35) L (kcT (σ 35) L E5).2).1) (mdi (σ 35) L (ktok (σ 35) L (kcT (σ 35) L E5).2).1) σ_40 g40 hbu.2 (by show qx5 5 + 1 = _; rw [hq5, nI_1]) (hRd.trans (kread_D (by omega) hR hu h9)) _ _ _ (lv_sub hl47 [0, 1, 5, 6] rfl) hP41 hD41 hS41
                                      · have h24 : k + 1 = 24 := (nI_eq (a := k + 1) (b := 24) (by omega) (by omega)).mp c53
                                        refine lv_iconst (v := (-1)) hx hb dX9_goesThrough_214 (by decide) ?_
                                        refine lv_aload_n hx hb dX9_goesThrough_215 rfl (lv_at hl47 5 rfl) ?_
                                        refine kget F hK hP41 9 0 38 iX9 rfl rfl (by decide) (List.mem_of_getElem? (i := 2) rfl) rfl dX9_goesThrough_216 ?_
                                        refine lv_isub hx hb dX9_goesThrough_219 ?_
                                        have q55 : (((-1) - (σ_40 38 0)) = nI N) ∧ (∃ b1 b2 b3 b4 b5 : Int32, σ_40 = mrw (mdo (kread (σ 35) L 24 0 0 (gx, gk, gf, gs)).2.2.1 (kread (σ 35) L 24 0 0 (gx, gk, gf, gs)).2.2.2.1 (kread (σ 35) L 24 0 0 (gx, gk, gf, gs)).2.2.2.2 N σ) b1 b2 b3 b4 b5) := by
                                          have hRR := hRd.trans (kread_D (by omega) hR hu h9)
                                          rw [show 24 - (k + 1) = 0 by omega] at hRR
                                          have hRR : (kread (σ 35) L 24 0 0 (gx, gk, gf, gs)) = (nI (ktok (σ 35) L (kcT (σ 35) L E5).2).1, krq (σ 35) L k E5 (qx5, qk5, qf5, qs5)) := hRR
                                          exact absurd (hyes.symm.trans (congrArg Prod.fst hRR)) (fun q => nI_nm1 (j := (ktok (σ 35) L (kcT (σ 35) L E5).2).1) (show (ktok (σ 35) L (kcT (σ 35) L E5).2).1 < 2147483648 by omega) q.symm)
                                        exact kRi F hr hlocks hS41 dX9_goesThrough_220 σ_40 q55 hP41 hD41
                          · exact absurd c34 (by decide)
                  · exact absurd c23 (by decide)
          · exact absurd c14 (by decide)
        · rw [show (kcK (σ 35) L E5) = 1 from hkd]
          have hcA : kcA (σ 35) L E5 = false := by unfold kcA; rw [hkd]; decide
          have hcC : kcC (σ 35) L E5 = false := by unfold kcC; rw [hkd]; decide
          refine lv_istore (lv' := [(4, .int 1), (3, .int 1), (2, .int (nI k)), (0, .ref h), (1, .int 1)]) hx hb dX9_goesThrough_21 hl5 (by decide) rfl (fun ls56 hl56 => ?_)
          clear hl5
          refine lv_iload hx hb dX9_goesThrough_23 (lv_at hl56 0 rfl) ?_
          refine lv_iconst (v := (-1)) hx hb dX9_goesThrough_25 (by decide) ?_
          refine lv_icmp_ne (tgt := 36) hx hb dX9_goesThrough_26 (by decide) (fun c57 => ?_) (fun c57 => ?_)
          · refine lv_aload_n hx hb dX9_goesThrough_36 rfl (lv_at hl56 3 rfl) ?_
            refine kWVv F hK hP9 hD9 hS9 hA hl56.1 (c_X9_reads l G h a σ_6 L ((ktok (σ 35) L E5).2) (by subst g6; subst eσ5; subst eσ1; exact h36) lL (by subst g6; subst eσ5; subst eσ1; rfl) hb1.2) 9 0 gX9_goesThrough_X9_reads rfl 0 rfl (by decide +kernel) ⟨Nat.le_of_ble_eq_true rfl, Nat.le_of_ble_eq_true rfl⟩ ⟨Nat.zero_le _, Nat.zero_le _⟩ rfl rfl (Nat.le_of_ble_eq_true rfl) rfl dX9_goesThrough_37 (fun σ_58 H59 locs59 hw58 (hP59 : va_P G.1 vwCl (mW G h a σ_58) H59) (hD59 : va_D A (mW G h a σ_58)) hS59 => ?_)
            clear hP9 hD9 hS9
            have w58_0 : σ_58 = mreads σ_6 L ((ktok (σ 35) L E5).2) := hw58
            have g58 : σ_58 = mrt (σ 35) L ((ktok (σ 35) L E5).2) (mdo qk5 qf5 qs5 k σ) := w58_0.trans (by rw [g6]; exact mreads_mrw h35)
            clear w58_0
            refine lv_aload_n hx hb dX9_goesThrough_40 rfl (lv_at hl56 3 rfl) ?_
            refine lv_iload hx hb dX9_goesThrough_41 (lv_at hl56 0 rfl) ?_
            refine lv_iconst (v := 2) hx hb dX9_goesThrough_43 (by decide) ?_
            refine lv_icmp_ge (tgt := 51) hx hb dX9_goesThrough_44 (by decide) (fun c60 => ?_) (fun c60 => ?_)
            · exact absurd c60 (by decide)
            · refine lv_iconst (v := 1) hx hb dX9_goesThrough_47 (by decide) ?_
              refine lv_goto (tgt := 52) hx hb dX9_goesThrough_48 (by decide) ?_
              refine lv_iload hx hb dX9_goesThrough_52 (lv_at hl56 0 rfl) ?_
              refine lv_iconst (v := 2) hx hb dX9_goesThrough_54 (by decide) ?_
              refine lv_icmp_ge (tgt := 63) hx hb dX9_goesThrough_55 (by decide) (fun c61 => ?_) (fun c61 => ?_)
              · exact absurd c61 (by decide)
              · refine lv_bipush (v := 7) hx hb dX9_goesThrough_58 (by decide) ?_
                refine lv_goto (tgt := 86) hx hb dX9_goesThrough_60 (by decide) ?_
                refine kWVi F hK hP59 hD59 hS59 hA hl56.1 (c_X9_isNumber l G h a σ_58 1 7 L ((ktok (σ 35) L (ktok (σ 35) L E5).2).1) (by subst g58; subst g6; subst eσ5; subst eσ1; exact (congrArg (fun z => mtk z L (ktok (σ 35) L (ktok (σ 35) L E5).2).1) h35).symm) (by subst g58; subst g6; subst eσ5; subst eσ1; exact (congrArg (fun z => mvl z L (ktok (σ 35) L (ktok (σ 35) L E5).2).1) h35).symm) (by subst g58; subst g6; subst eσ5; subst eσ1; exact (congrArg (fun z => mdi z L (ktok (σ 35) L (ktok (σ 35) L E5).2).1) h35).symm) lL (by omega) (by decide)) 9 0 gX9_goesThrough_X9_isNumber rfl 2 rfl (by decide +kernel) ⟨Nat.le_of_ble_eq_true rfl, Nat.le_of_ble_eq_true rfl⟩ ⟨Nat.zero_le _, Nat.zero_le _⟩ rfl rfl (Nat.le_of_ble_eq_true rfl) rfl dX9_goesThrough_86 (fun r62 u62 H63 locs63 hw62 (hP63 : va_P G.1 vwCl (mW G h a σ_58) H63) (hD63 : va_D A (mW G h a σ_58)) hS63 => ?_)
                clear hP59 hD59 hS59
                have w62_0 : r62 = if knum (σ_58 35) ((ktok (σ 35) L (ktok (σ 35) L E5).2).1) (ktokE (σ_58 35) L ((ktok (σ 35) L (ktok (σ 35) L E5).2).1)) 1 7 = -1 then (0 : Int32) else 1 := hw62
                have hV : kcV (σ 35) L E5 = knum (σ 35) (ktok (σ 35) L (ktok (σ 35) L E5).2).1 (ktok (σ 35) L (ktok (σ 35) L E5).2).2 1 7 := by unfold kcV; rw [hkd]; rfl
                have g62 : r62 = if kcV (σ 35) L E5 = -1 then 0 else 1 := (by subst g58; subst g6; subst eσ5; subst eσ1; rw [hV]; exact w62_0.trans (congrArg (fun z => if knum z (ktok (σ 35) L (ktok (σ 35) L E5).2).1 (ktokE z L (ktok (σ 35) L (ktok (σ 35) L E5).2).1) 1 7 = -1 then 0 else 1) h35))
                clear w62_0
                subst g62
                by_cases hVn : kcV (σ 35) L E5 = -1
                · rw [if_pos hVn]
                  have hcB : kcB (σ 35) L E5 = true := decide_eq_true hVn
                  have hR : kcR (σ 35) L E5 = 0 := by simp only [kcR, hcA, hcB, Bool.false_eq_true, ↓reduceIte]
                  have hcT : kcT (σ 35) L E5 = kc2 (σ 35) L E5 := by simp only [kcT, hcA, hcB, Bool.false_eq_true, ↓reduceIte]
                  refine lv_if_ne (tgt := 99) hx hb dX9_goesThrough_89 (by decide) (fun c64 => ?_) (fun c64 => ?_)
                  · exact absurd (by decide) c64
                  · refine lv_iconst (v := (-1)) hx hb dX9_goesThrough_92 (by decide) ?_
                    refine lv_aload_n hx hb dX9_goesThrough_93 rfl (lv_at hl56 3 rfl) ?_
                    refine kget F hK hP63 9 0 38 iX9 rfl rfl (by decide) (List.mem_of_getElem? (i := 2) rfl) rfl dX9_goesThrough_94 ?_
                    refine lv_isub hx hb dX9_goesThrough_97 ?_
                    have q65 : (((-1) - (σ_58 38 0)) = nI N) ∧ (∃ b1 b2 b3 b4 b5 : Int32, σ_58 = mrw (mdo (kread (σ 35) L 24 0 0 (gx, gk, gf, gs)).2.2.1 (kread (σ 35) L 24 0 0 (gx, gk, gf, gs)).2.2.2.1 (kread (σ 35) L 24 0 0 (gx, gk, gf, gs)).2.2.2.2 N σ) b1 b2 b3 b4 b5) := by
                      have hRR := hRd.trans (kread_A (by omega) hR)
                      rw [hcT] at hRR
                      exact absurd (hyes.symm.trans (congrArg Prod.fst hRR)) (fun q => nI_nm1 (j := (kc2 (σ 35) L E5).1) (Nat.lt_of_le_of_lt (show (kc2 (σ 35) L E5).1 ≤ 200 from Nat.le_trans hb2.1 (Nat.le_trans hb2.2 lL)) (by decide)) q.symm)
                    exact kRi F hr hlocks hS63 dX9_goesThrough_98 σ_58 q65 hP63 hD63
                · rw [if_neg hVn]
                  have hcB : kcB (σ 35) L E5 = false := decide_eq_false hVn
                  have vV : mvl (σ 35) L (ktok (σ 35) L (ktok (σ 35) L E5).2).1 = kcV (σ 35) L E5 := ((mnum_eq (a := 1) (b := 7) lL (by omega) (by decide)).2 (fun q => hVn (hV.trans q))).trans hV.symm
                  refine lv_if_ne (tgt := 99) hx hb dX9_goesThrough_89 (by decide) (fun c66 => ?_) (fun c66 => ?_)
                  · refine lv_aload_n hx hb dX9_goesThrough_99 rfl (lv_at hl56 3 rfl) ?_
                    refine kget F hK hP63 9 0 40 iX9 rfl rfl (by decide) (List.mem_of_getElem? (i := 3) rfl) rfl dX9_goesThrough_100 ?_
                    rw [show (σ_58 40 0) = (kcV (σ 35) L E5) from (by subst g58; subst g6; subst eσ5; subst eσ1; exact vV)]
                    refine lv_istore (lv' := [(5, .int (kcV (σ 35) L E5)), (4, .int 1), (3, .int 1), (2, .int (nI k)), (0, .ref h), (1, .int 1)]) hx hb dX9_goesThrough_103 hl56 (by decide) rfl (fun ls67 hl67 => ?_)
                    clear hl56
                    refine lv_iconst (v := 0) hx hb dX9_goesThrough_105 (by decide) ?_
                    refine lv_istore (lv' := [(6, .int 0), (5, .int (kcV (σ 35) L E5)), (4, .int 1), (3, .int 1), (2, .int (nI k)), (0, .ref h), (1, .int 1)]) hx hb dX9_goesThrough_106 hl67 (by decide) rfl (fun ls68 hl68 => ?_)
                    clear hl67
                    refine lv_iload hx hb dX9_goesThrough_108 (lv_at hl68 2 rfl) ?_
                    refine lv_iconst (v := 3) hx hb dX9_goesThrough_110 (by decide) ?_
                    refine lv_icmp_ge (tgt := 153) hx hb dX9_goesThrough_111 (by decide) (fun c69 => ?_) (fun c69 => ?_)
                    · exact absurd c69 (by decide)
                    · refine lv_aload_n hx hb dX9_goesThrough_114 rfl (lv_at hl68 5 rfl) ?_
                      refine kWVv F hK hP63 hD63 hS63 hA hl68.1 (c_X9_reads l G h a σ_58 L ((ktok (σ 35) L (ktok (σ 35) L E5).2).2) (by subst g58; subst g6; subst eσ5; subst eσ1; exact h36) lL (by subst g58; subst g6; subst eσ5; subst eσ1; rfl) hb2.2) 9 0 gX9_goesThrough_X9_reads rfl 0 rfl (by decide +kernel) ⟨Nat.le_of_ble_eq_true rfl, Nat.le_of_ble_eq_true rfl⟩ ⟨Nat.zero_le _, Nat.zero_le _⟩ rfl rfl (Nat.le_of_ble_eq_true rfl) rfl dX9_goesThrough_115 (fun σ_70 H71 locs71 hw70 (hP71 : va_P G.1 vwCl (mW G h a σ_70) H71) (hD71 : va_D A (mW G h a σ_70)) hS71 => ?_)
                      clear hP63 hD63 hS63
                      have w70_0 : σ_70 = mreads σ_58 L ((ktok (σ 35) L (ktok (σ 35) L E5).2).2) := hw70
                      have g70 : σ_70 = mrt (σ 35) L ((ktok (σ 35) L (ktok (σ 35) L E5).2).2) (mdo qk5 qf5 qs5 k σ) := w70_0.trans (by rw [g58]; exact mreads_mrw h35)
                      clear w70_0
                      refine lv_aload_n hx hb dX9_goesThrough_118 rfl (lv_at hl68 5 rfl) ?_
                      refine lv_iconst (v := 1) hx hb dX9_goesThrough_119 (by decide) ?_
                      refine lv_iload hx hb dX9_goesThrough_120 (lv_at hl68 2 rfl) ?_
                      refine lv_iconst (v := 2) hx hb dX9_goesThrough_122 (by decide) ?_
                      refine lv_icmp_ge (tgt := 131) hx hb dX9_goesThrough_123 (by decide) (fun c72 => ?_) (fun c72 => ?_)
                      · exact absurd c72 (by decide)
                      · refine lv_bipush (v := 15) hx hb dX9_goesThrough_126 (by decide) ?_
                        refine lv_goto (tgt := 134) hx hb dX9_goesThrough_128 (by decide) ?_
                        refine kWVi F hK hP71 hD71 hS71 hA hl68.1 (c_X9_isNumber l G h a σ_70 1 15 L ((ktok (σ 35) L (ktok (σ 35) L (ktok (σ 35) L E5).2).2).1) (by subst g70; subst g58; subst g6; subst eσ5; subst eσ1; exact (congrArg (fun z => mtk z L (ktok (σ 35) L (ktok (σ 35) L (ktok (σ 35) L E5).2).2).1) h35).symm) (by subst g70; subst g58; subst g6; subst eσ5; subst eσ1; exact (congrArg (fun z => mvl z L (ktok (σ 35) L (ktok (σ 35) L (ktok (σ 35) L E5).2).2).1) h35).symm) (by subst g70; subst g58; subst g6; subst eσ5; subst eσ1; exact (congrArg (fun z => mdi z L (ktok (σ 35) L (ktok (σ 35) L (ktok (σ 35) L E5).2).2).1) h35).symm) lL (by omega) (by decide)) 9 0 gX9_goesThrough_X9_isNumber rfl 2 rfl (by decide +kernel) ⟨Nat.le_of_ble_eq_true rfl, Nat.le_of_ble_eq_true rfl⟩ ⟨Nat.zero_le _, Nat.zero_le _⟩ rfl rfl (Nat.le_of_ble_eq_true rfl) rfl dX9_goesThrough_134 (fun r73 u73 H74 locs74 hw73 (hP74 : va_P G.1 vwCl (mW G h a σ_70) H74) (hD74 : va_D A (mW G h a σ_70)) hS74 => ?_)
                        clear hP71 hD71 hS71
                        have w73_0 : r73 = if knum (σ_70 35) ((ktok (σ 35) L (ktok (σ 35) L (ktok (σ 35) L E5).2).2).1) (ktokE (σ_70 35) L ((ktok (σ 35) L (ktok (σ 35) L (ktok (σ 35) L E5).2).2).1)) 1 15 = -1 then (0 : Int32) else 1 := hw73
                        have hW : kcW (σ 35) L E5 = knum (σ 35) (ktok (σ 35) L (ktok (σ 35) L (ktok (σ 35) L E5).2).2).1 (ktok (σ 35) L (ktok (σ 35) L (ktok (σ 35) L E5).2).2).2 1 15 := by unfold kcW; rw [hkd]; rfl
                        have g73 : r73 = if kcW (σ 35) L E5 = -1 then 0 else 1 := (by subst g70; subst g58; subst g6; subst eσ5; subst eσ1; rw [hW]; exact w73_0.trans (congrArg (fun z => if knum z (ktok (σ 35) L (ktok (σ 35) L (ktok (σ 35) L E5).2).2).1 (ktokE z L (ktok (σ 35) L (ktok (σ 35) L (ktok (σ 35) L E5).2).2).1) 1 15 = -1 then 0 else 1) h35))
                        clear w73_0
                        subst g73
                        by_cases hWn : kcW (σ 35) L E5 = -1
                        · rw [if_pos hWn]
                          have hR : kcR (σ 35) L E5 = 0 := by simp only [kcR, hcA, hcB, hcC, hWn, Bool.false_eq_true, ↓reduceIte]
                          have hcT : kcT (σ 35) L E5 = kc3 (σ 35) L E5 := by simp only [kcT, hcA, hcB, hcC, hWn, Bool.false_eq_true, ↓reduceIte]
                          refine lv_if_ne (tgt := 147) hx hb dX9_goesThrough_137 (by decide) (fun c75 => ?_) (fun c75 => ?_)
                          · exact absurd (by decide) c75
                          · refine lv_iconst (v := (-1)) hx hb dX9_goesThrough_140 (by decide) ?_
                            refine lv_aload_n hx hb dX9_goesThrough_141 rfl (lv_at hl68 5 rfl) ?_
                            refine kget F hK hP74 9 0 38 iX9 rfl rfl (by decide) (List.mem_of_getElem? (i := 2) rfl) rfl dX9_goesThrough_142 ?_
                            refine lv_isub hx hb dX9_goesThrough_145 ?_
                            have q76 : (((-1) - (σ_70 38 0)) = nI N) ∧ (∃ b1 b2 b3 b4 b5 : Int32, σ_70 = mrw (mdo (kread (σ 35) L 24 0 0 (gx, gk, gf, gs)).2.2.1 (kread (σ 35) L 24 0 0 (gx, gk, gf, gs)).2.2.2.1 (kread (σ 35) L 24 0 0 (gx, gk, gf, gs)).2.2.2.2 N σ) b1 b2 b3 b4 b5) := by
                              have hRR := hRd.trans (kread_A (by omega) hR)
                              rw [hcT] at hRR
                              exact absurd (hyes.symm.trans (congrArg Prod.fst hRR)) (fun q => nI_nm1 (j := (kc3 (σ 35) L E5).1) (Nat.lt_of_le_of_lt (show (kc3 (σ 35) L E5).1 ≤ 200 from Nat.le_trans hb3.1 (Nat.le_trans hb3.2 lL)) (by decide)) q.symm)
                            exact kRi F hr hlocks hS74 dX9_goesThrough_146 σ_70 q76 hP74 hD74
                        · rw [if_neg hWn]
                          have vW : mvl (σ 35) L (ktok (σ 35) L (ktok (σ 35) L (ktok (σ 35) L E5).2).2).1 = kcW (σ 35) L E5 := ((mnum_eq (a := 1) (b := 15) lL (by omega) (by decide)).2 (fun q => hWn (hW.trans q))).trans hW.symm
                          have hR : ¬ kcR (σ 35) L E5 = 0 := by simp only [kcR, hcA, hcB, hcC, hWn, Bool.false_eq_true, ↓reduceIte]; decide
                          have hcT : kcT (σ 35) L E5 = kc3 (σ 35) L E5 := by simp only [kcT, hcA, hcB, hcC, hWn, Bool.false_eq_true, ↓reduceIte]
                          have hcS : kcS (σ 35) L E5 = kcW (σ 35) L E5 := by simp only [kcS, hcC, Bool.false_eq_true, ↓reduceIte]
                          refine lv_if_ne (tgt := 147) hx hb dX9_goesThrough_137 (by decide) (fun c77 => ?_) (fun c77 => ?_)
                          · refine lv_aload_n hx hb dX9_goesThrough_147 rfl (lv_at hl68 5 rfl) ?_
                            refine kget F hK hP74 9 0 40 iX9 rfl rfl (by decide) (List.mem_of_getElem? (i := 3) rfl) rfl dX9_goesThrough_148 ?_
                            rw [show (σ_70 40 0) = (kcW (σ 35) L E5) from (by subst g70; subst g58; subst g6; subst eσ5; subst eσ1; exact vW)]
                            refine lv_istore (lv' := [(6, .int (kcW (σ 35) L E5)), (5, .int (kcV (σ 35) L E5)), (4, .int 1), (3, .int 1), (2, .int (nI k)), (0, .ref h), (1, .int 1)]) hx hb dX9_goesThrough_151 hl68 (by decide) rfl (fun ls78 hl78 => ?_)
                            clear hl68
                            refine lv_iload_n hx hb dX9_goesThrough_153 rfl (lv_at hl78 6 rfl) ?_
                            refine lv_if_eq (tgt := 167) hx hb dX9_goesThrough_154 (by decide) (fun c79 => ?_) (fun c79 => ?_)
                            · exact absurd c79 (by decide)
                            · refine lv_aload_n hx hb dX9_goesThrough_157 rfl (lv_at hl78 5 rfl) ?_
                              refine lv_iload hx hb dX9_goesThrough_158 (lv_at hl78 2 rfl) ?_
                              refine lv_iload hx hb dX9_goesThrough_160 (lv_at hl78 1 rfl) ?_
                              refine lv_iload hx hb dX9_goesThrough_162 (lv_at hl78 0 rfl) ?_
                              refine kWVv F hK hP74 hD74 hS74 hA hl78.1 (c_X9_does l G h a σ_70 1 (kcV (σ 35) L E5) (kcW (σ 35) L E5) (by decide) (fun q => absurd q (by decide))) 9 0 gX9_goesThrough_X9_does rfl 3 rfl (by decide +kernel) ⟨Nat.le_of_ble_eq_true rfl, Nat.le_of_ble_eq_true rfl⟩ ⟨Nat.zero_le _, Nat.zero_le _⟩ rfl rfl (Nat.le_of_ble_eq_true rfl) rfl dX9_goesThrough_164 (fun σ_80 H81 locs81 hw80 (hP81 : va_P G.1 vwCl (mW G h a σ_80) H81) (hD81 : va_D A (mW G h a σ_80)) hS81 => ?_)
                              clear hP74 hD74 hS74
                              have w80_0 : σ_80 = mdoes σ_70 1 (kcV (σ 35) L E5) (kcW (σ 35) L E5) := hw80
                              have g80 : σ_80 = mrt (σ 35) L (ktok (σ 35) L (ktok (σ 35) L E5).2).2 (mdo (kcP qk5 k (kcK (σ 35) L E5) (σ 35) L E5) (kcP qf5 k (kcV (σ 35) L E5) (σ 35) L E5) (kcP qs5 k (kcS (σ 35) L E5) (σ 35) L E5) (k + 1) σ) := w80_0.trans (by rw [g70, mdoes_mrt, mdo_step hcA hcB, hkd, hcS])
                              clear w80_0
                              have k35 : (mdo (kcP qk5 k (kcK (σ 35) L E5) (σ 35) L E5) (kcP qf5 k (kcV (σ 35) L E5) (σ 35) L E5) (kcP qs5 k (kcS (σ 35) L E5) (σ 35) L E5) (k + 1) σ) 35 = (σ 35) := mdo_hi _ _ _ _ (by decide) _
                              have k36 : (mdo (kcP qk5 k (kcK (σ 35) L E5) (σ 35) L E5) (kcP qf5 k (kcV (σ 35) L E5) (σ 35) L E5) (kcP qs5 k (kcS (σ 35) L E5) (σ 35) L E5) (k + 1) σ) 36 0 = nI L := (congrFun (mdo_hi _ _ _ _ (by decide) _) 0).trans hL
                              refine lv_iinc (v := nI (k + 1)) (lv' := [(2, .int (nI (k + 1))), (6, .int (kcW (σ 35) L E5)), (5, .int (kcV (σ 35) L E5)), (4, .int 1), (3, .int 1), (0, .ref h), (1, .int 1)]) hx hb dX9_goesThrough_167 hl78 (k := 4) rfl (nI_1 _) (by decide) rfl (fun ls82 hl82 => ?_)
                              clear hl78
                              refine lv_aload_n hx hb dX9_goesThrough_170 rfl (lv_at hl82 5 rfl) ?_
                              refine kWVv F hK hP81 hD81 hS81 hA hl82.1 (c_X9_reads l G h a σ_80 L ((kcT (σ 35) L E5).2) (by subst g80; subst g70; subst g58; subst g6; subst eσ5; subst eσ1; exact k36) lL (by subst g80; subst g70; subst g58; subst g6; subst eσ5; subst eσ1; rw [hcT]; rfl) hbT.2) 9 0 gX9_goesThrough_X9_reads rfl 0 rfl (by decide +kernel) ⟨Nat.le_of_ble_eq_true rfl, Nat.le_of_ble_eq_true rfl⟩ ⟨Nat.zero_le _, Nat.zero_le _⟩ rfl rfl (Nat.le_of_ble_eq_true rfl) rfl dX9_goesThrough_171 (fun σ_83 H84 locs84 hw83 (hP84 : va_P G.1 vwCl (mW G h a σ_83) H84) (hD84 : va_D A (mW G h a σ_83)) hS84 => ?_)
                              clear hP81 hD81 hS81
                              have w83_0 : σ_83 = mreads σ_80 L ((kcT (σ 35) L E5).2) := hw83
                              have g83 : σ_83 = mrt (σ 35) L ((kcT (σ 35) L E5).2) (mdo (kcP qk5 k (kcK (σ 35) L E5) (σ 35) L E5) (kcP qf5 k (kcV (σ 35) L E5) (σ 35) L E5) (kcP qs5 k (kcS (σ 35) L E5) (σ 35) L E5) (k + 1) σ) := w83_0.trans (by rw [g80]; exact mreads_mrw k35)
                              clear w83_0
                              refine lv_aload_n hx hb dX9_goesThrough_174 rfl (lv_at hl82 5 rfl) ?_
                              refine kget F hK hP84 9 0 39 iX9 rfl rfl (by decide) (List.mem_of_getElem? (i := 4) rfl) rfl dX9_goesThrough_175 ?_
                              rw [show (σ_83 39 0) = (mtk (σ 35) L (ktok (σ 35) L (kcT (σ 35) L E5).2).1) from (by subst g83; subst g80; subst g70; subst g58; subst g6; subst eσ5; subst eσ1; rfl)]
                              refine lv_if_eq (tgt := 185) hx hb dX9_goesThrough_178 (by decide) (fun c85 => ?_) (fun c85 => ?_)
                              · have hu := mtk0 (xl := (σ 35)) (L := L) (u := (ktok (σ 35) L (kcT (σ 35) L E5).2).1) (by omega) c85
                                refine lv_iconst (v := 0) hx hb dX9_goesThrough_185 (by decide) ?_
                                refine lv_istore_n (lv' := [(3, .int 0), (2, .int (nI (k + 1))), (6, .int (kcW (σ 35) L E5)), (5, .int (kcV (σ 35) L E5)), (4, .int 1), (0, .ref h), (1, .int 1)]) hx hb dX9_goesThrough_186 rfl hl82 (by decide) rfl (fun ls86 hl86 => ?_)
                                clear hl82
                                refine lv_iload_n hx hb dX9_goesThrough_187 rfl (lv_at hl86 0 rfl) ?_
                                refine lv_if_eq (tgt := 221) hx hb dX9_goesThrough_188 (by decide) (fun c87 => ?_) (fun c87 => ?_)
                                · refine lv_goto (tgt := 9) hx hb dX9_goesThrough_221 (by decide) ?_
                                  refine lv_iload_n hx hb dX9_goesThrough_9 rfl (lv_at hl86 0 rfl) ?_
                                  refine lv_if_eq (tgt := 224) hx hb dX9_goesThrough_10 (by decide) (fun c88 => ?_) (fun c88 => ?_)
                                  · refine lv_iload_n hx hb dX9_goesThrough_224 rfl (lv_at hl86 1 rfl) ?_
                                    have q89 : ((nI (k + 1)) = nI N) ∧ (∃ b1 b2 b3 b4 b5 : Int32, σ_83 = mrw (mdo (kread (σ 35) L 24 0 0 (gx, gk, gf, gs)).2.2.1 (kread (σ 35) L 24 0 0 (gx, gk, gf, gs)).2.2.2.1 (kread (σ 35) L 24 0 0 (gx, gk, gf, gs)).2.2.2.2 N σ) b1 b2 b3 b4 b5) := by
                                      have hRR := hRd.trans (kread_B (by omega) hR hu)
                                      have hn1 : nI (k + 1) = nI N := by
                                        rw [← hN, hRR]
                                        show nI (k + 1) = qx5 5 + 1
                                        rw [hq5, nI_1]
                                      have hkN : k + 1 = N := (nI_eq (by omega) (by omega)).mp hn1
                                      subst hkN
                                      subst g83
                                      subst g80
                                      subst g70
                                      subst g58
                                      subst g6
                                      subst eσ5
                                      subst eσ1
                                      refine ⟨rfl, ?_⟩
                                      rw [hRR]
                                      exact ⟨_, _, _, _, _, rfl⟩
                                    exact kRi F hr hlocks hS84 dX9_goesThrough_225 σ_83 q89 hP84 hD84
                                  · exact absurd (by decide) c88
                                · exact absurd (by decide) c87
                              · have hu := mtkL (xl := (σ 35)) (L := L) (u := (ktok (σ 35) L (kcT (σ 35) L E5).2).1) c85
                                refine lv_iconst (v := 1) hx hb dX9_goesThrough_181 (by decide) ?_
                                refine lv_goto (tgt := 186) hx hb dX9_goesThrough_182 (by decide) ?_
                                refine lv_istore_n (lv' := [(3, .int 1), (2, .int (nI (k + 1))), (6, .int (kcW (σ 35) L E5)), (5, .int (kcV (σ 35) L E5)), (4, .int 1), (0, .ref h), (1, .int 1)]) hx hb dX9_goesThrough_186 rfl hl82 (by decide) rfl (fun ls90 hl90 => ?_)
                                clear hl82
                                refine lv_iload_n hx hb dX9_goesThrough_187 rfl (lv_at hl90 0 rfl) ?_
                                refine lv_if_eq (tgt := 221) hx hb dX9_goesThrough_188 (by decide) (fun c91 => ?_) (fun c91 => ?_)
                                · exact absurd c91 (by decide)
                                · refine lv_aload_n hx hb dX9_goesThrough_191 rfl (lv_at hl90 5 rfl) ?_
                                  refine kget F hK hP84 9 0 39 iX9 rfl rfl (by decide) (List.mem_of_getElem? (i := 4) rfl) rfl dX9_goesThrough_192 ?_
                                  rw [show (σ_83 39 0) = (mtk (σ 35) L (ktok (σ 35) L (kcT (σ 35) L E5).2).1) from (by subst g83; subst g80; subst g70; subst g58; subst g6; subst eσ5; subst eσ1; rfl)]
                                  refine lv_iconst (v := 3) hx hb dX9_goesThrough_195 (by decide) ?_
                                  refine lv_icmp_ne (tgt := 214) hx hb dX9_goesThrough_196 (by decide) (fun c92 => ?_) (fun c92 => ?_)
                                  · have h9 := mtk59 (xl := (σ 35)) (L := L) (u := (ktok (σ 35) L (kcT (σ 35) L E5).2).1) (by omega) c92
                                    refine lv_iconst (v := (-1)) hx hb dX9_goesThrough_214 (by decide) ?_
                                    refine lv_aload_n hx hb dX9_goesThrough_215 rfl (lv_at hl90 5 rfl) ?_
                                    refine kget F hK hP84 9 0 38 iX9 rfl rfl (by decide) (List.mem_of_getElem? (i := 2) rfl) rfl dX9_goesThrough_216 ?_
                                    refine lv_isub hx hb dX9_goesThrough_219 ?_
                                    have q93 : (((-1) - (σ_83 38 0)) = nI N) ∧ (∃ b1 b2 b3 b4 b5 : Int32, σ_83 = mrw (mdo (kread (σ 35) L 24 0 0 (gx, gk, gf, gs)).2.2.1 (kread (σ 35) L 24 0 0 (gx, gk, gf, gs)).2.2.2.1 (kread (σ 35) L 24 0 0 (gx, gk, gf, gs)).2.2.2.2 N σ) b1 b2 b3 b4 b5) := by
                                      have hRR := hRd.trans (kread_C (by omega) hR hu h9)
                                      exact absurd (hyes.symm.trans (congrArg Prod.fst hRR)) (fun q => nI_nm1 (j := (ktok (σ 35) L (kcT (σ 35) L E5).2).1) (show (ktok (σ 35) L (kcT (σ 35) L E5).2).1 < 2147483648 by omega) q.symm)
                                    exact kRi F hr hlocks hS84 dX9_goesThrough_220 σ_83 q93 hP84 hD84
                                  · have h3 := mvl3 (xl := (σ 35)) (L := L) (u := (ktok (σ 35) L (kcT (σ 35) L E5).2).1) (by omega) c92
                                    refine lv_aload_n hx hb dX9_goesThrough_199 rfl (lv_at hl90 5 rfl) ?_
                                    refine kget F hK hP84 9 0 40 iX9 rfl rfl (by decide) (List.mem_of_getElem? (i := 3) rfl) rfl dX9_goesThrough_200 ?_
                                    rw [show (σ_83 40 0) = (mvl (σ 35) L (ktok (σ 35) L (kcT (σ 35) L E5).2).1) from (by subst g83; subst g80; subst g70; subst g58; subst g6; subst eσ5; subst eσ1; rfl)]
                                    refine lv_bipush (v := 59) hx hb dX9_goesThrough_203 (by decide) ?_
                                    refine lv_icmp_ne (tgt := 214) hx hb dX9_goesThrough_205 (by decide) (fun c94 => ?_) (fun c94 => ?_)
                                    · have h9 : ¬ (σ 35) (ktok (σ 35) L (kcT (σ 35) L E5).2).1 = 59 := fun q => c94 (h3.trans q)
                                      refine lv_iconst (v := (-1)) hx hb dX9_goesThrough_214 (by decide) ?_
                                      refine lv_aload_n hx hb dX9_goesThrough_215 rfl (lv_at hl90 5 rfl) ?_
                                      refine kget F hK hP84 9 0 38 iX9 rfl rfl (by decide) (List.mem_of_getElem? (i := 2) rfl) rfl dX9_goesThrough_216 ?_
                                      refine lv_isub hx hb dX9_goesThrough_219 ?_
                                      have q95 : (((-1) - (σ_83 38 0)) = nI N) ∧ (∃ b1 b2 b3 b4 b5 : Int32, σ_83 = mrw (mdo (kread (σ 35) L 24 0 0 (gx, gk, gf, gs)).2.2.1 (kread (σ 35) L 24 0 0 (gx, gk, gf, gs)).2.2.2.1 (kread (σ 35) L 24 0 0 (gx, gk, gf, gs)).2.2.2.2 N σ) b1 b2 b3 b4 b5) := by
                                        have hRR := hRd.trans (kread_C (by omega) hR hu h9)
                                        exact absurd (hyes.symm.trans (congrArg Prod.fst hRR)) (fun q => nI_nm1 (j := (ktok (σ 35) L (kcT (σ 35) L E5).2).1) (show (ktok (σ 35) L (kcT (σ 35) L E5).2).1 < 2147483648 by omega) q.symm)
                                      exact kRi F hr hlocks hS84 dX9_goesThrough_220 σ_83 q95 hP84 hD84
                                    · have h9 : (σ 35) (ktok (σ 35) L (kcT (σ 35) L E5).2).1 = 59 := h3.symm.trans c94
                                      refine lv_iload_n hx hb dX9_goesThrough_208 rfl (lv_at hl90 1 rfl) ?_
                                      refine lv_bipush (v := 24) hx hb dX9_goesThrough_209 (by decide) ?_
                                      refine lv_icmp_ne (tgt := 221) hx hb dX9_goesThrough_211 (by decide) (fun c96 => ?_) (fun c96 => ?_)
                                      · have h24 : ¬ k + 1 = 24 := fun q => c96 (by rw [q]; rfl)
                                        refine lv_goto (tgt := 9) hx hb dX9_goesThrough_221 (by decide) ?_
                                        refine lv_iload_n hx hb dX9_goesThrough_9 rfl (lv_at hl90 0 rfl) ?_
                                        refine lv_if_eq (tgt := 224) hx hb dX9_goesThrough_10 (by decide) (fun c97 => ?_) (fun c97 => ?_)
                                        · exact absurd c97 (by decide)
                                        · exact ih (k + 1) (by omega) (by omega) ((ktok (σ 35) L (kcT (σ 35) L E5).2).2) (krx (σ 35) L E5 qx5) (kcP qk5 k (kcK (σ 35) L E5) (σ 35) L E5) (kcP qf5 k (kcV (σ 35) L E5) (σ 35) L E5) (kcP qs5 k (kcS (σ 35) L E5) (σ 35) L E5) (nI (ktok (σ 35) L (kcT (σ 35) L E5).2).1) (mtk (σ 35) L (ktok (σ 35) L (kcT (σ 35) L E5).2).1) (mvl (σ 35) L (ktok (σ 35) L (kcT (σ 35) L E5).2).1) (mdi (σ 35) L (ktok (σ 35) L (kcT (σ 35) L E5).2).1) σ_83 g83 hbu.2 (by show qx5 5 + 1 = _; rw [hq5, nI_1]) (hRd.trans (kread_D (by omega) hR hu h9)) _ _ _ (lv_sub hl90 [0, 1, 5, 6] rfl) hP84 hD84 hS84
                                      · have h24 : k + 1 = 24 := (nI_eq (a := k + 1) (b := 24) (by omega) (by omega)).mp c96
                                        refine lv_iconst (v := (-1)) hx hb dX9_goesThrough_214 (by decide) ?_
                                        refine lv_aload_n hx hb dX9_goesThrough_215 rfl (lv_at hl90 5 rfl) ?_
                                        refine kget F hK hP84 9 0 38 iX9 rfl rfl (by decide) (List.mem_of_getElem? (i := 2) rfl) rfl dX9_goesThrough_216 ?_
                                        refine lv_isub hx hb dX9_goesThrough_219 ?_
                                        have q98 : (((-1) - (σ_83 38 0)) = nI N) ∧ (∃ b1 b2 b3 b4 b5 : Int32, σ_83 = mrw (mdo (kread (σ 35) L 24 0 0 (gx, gk, gf, gs)).2.2.1 (kread (σ 35) L 24 0 0 (gx, gk, gf, gs)).2.2.2.1 (kread (σ 35) L 24 0 0 (gx, gk, gf, gs)).2.2.2.2 N σ) b1 b2 b3 b4 b5) := by
                                          have hRR := hRd.trans (kread_D (by omega) hR hu h9)
                                          rw [show 24 - (k + 1) = 0 by omega] at hRR
                                          have hRR : (kread (σ 35) L 24 0 0 (gx, gk, gf, gs)) = (nI (ktok (σ 35) L (kcT (σ 35) L E5).2).1, krq (σ 35) L k E5 (qx5, qk5, qf5, qs5)) := hRR
                                          exact absurd (hyes.symm.trans (congrArg Prod.fst hRR)) (fun q => nI_nm1 (j := (ktok (σ 35) L (kcT (σ 35) L E5).2).1) (show (ktok (σ 35) L (kcT (σ 35) L E5).2).1 < 2147483648 by omega) q.symm)
                                        exact kRi F hr hlocks hS84 dX9_goesThrough_220 σ_83 q98 hP84 hD84
                          · exact absurd c77 (by decide)
                  · exact absurd c66 (by decide)
          · exact absurd c57 (by decide)
        · rw [show (kcK (σ 35) L E5) = 2 from hkd]
          have hcA : kcA (σ 35) L E5 = false := by unfold kcA; rw [hkd]; decide
          have hcC : kcC (σ 35) L E5 = false := by unfold kcC; rw [hkd]; decide
          refine lv_istore (lv' := [(4, .int 2), (3, .int 1), (2, .int (nI k)), (0, .ref h), (1, .int 1)]) hx hb dX9_goesThrough_21 hl5 (by decide) rfl (fun ls99 hl99 => ?_)
          clear hl5
          refine lv_iload hx hb dX9_goesThrough_23 (lv_at hl99 0 rfl) ?_
          refine lv_iconst (v := (-1)) hx hb dX9_goesThrough_25 (by decide) ?_
          refine lv_icmp_ne (tgt := 36) hx hb dX9_goesThrough_26 (by decide) (fun c100 => ?_) (fun c100 => ?_)
          · refine lv_aload_n hx hb dX9_goesThrough_36 rfl (lv_at hl99 3 rfl) ?_
            refine kWVv F hK hP9 hD9 hS9 hA hl99.1 (c_X9_reads l G h a σ_6 L ((ktok (σ 35) L E5).2) (by subst g6; subst eσ5; subst eσ1; exact h36) lL (by subst g6; subst eσ5; subst eσ1; rfl) hb1.2) 9 0 gX9_goesThrough_X9_reads rfl 0 rfl (by decide +kernel) ⟨Nat.le_of_ble_eq_true rfl, Nat.le_of_ble_eq_true rfl⟩ ⟨Nat.zero_le _, Nat.zero_le _⟩ rfl rfl (Nat.le_of_ble_eq_true rfl) rfl dX9_goesThrough_37 (fun σ_101 H102 locs102 hw101 (hP102 : va_P G.1 vwCl (mW G h a σ_101) H102) (hD102 : va_D A (mW G h a σ_101)) hS102 => ?_)
            clear hP9 hD9 hS9
            have w101_0 : σ_101 = mreads σ_6 L ((ktok (σ 35) L E5).2) := hw101
            have g101 : σ_101 = mrt (σ 35) L ((ktok (σ 35) L E5).2) (mdo qk5 qf5 qs5 k σ) := w101_0.trans (by rw [g6]; exact mreads_mrw h35)
            clear w101_0
            refine lv_aload_n hx hb dX9_goesThrough_40 rfl (lv_at hl99 3 rfl) ?_
            refine lv_iload hx hb dX9_goesThrough_41 (lv_at hl99 0 rfl) ?_
            refine lv_iconst (v := 2) hx hb dX9_goesThrough_43 (by decide) ?_
            refine lv_icmp_ge (tgt := 51) hx hb dX9_goesThrough_44 (by decide) (fun c103 => ?_) (fun c103 => ?_)
            · refine lv_iconst (v := 0) hx hb dX9_goesThrough_51 (by decide) ?_
              refine lv_iload hx hb dX9_goesThrough_52 (lv_at hl99 0 rfl) ?_
              refine lv_iconst (v := 2) hx hb dX9_goesThrough_54 (by decide) ?_
              refine lv_icmp_ge (tgt := 63) hx hb dX9_goesThrough_55 (by decide) (fun c104 => ?_) (fun c104 => ?_)
              · refine lv_iload hx hb dX9_goesThrough_63 (lv_at hl99 0 rfl) ?_
                refine lv_iconst (v := 2) hx hb dX9_goesThrough_65 (by decide) ?_
                refine lv_icmp_ne (tgt := 73) hx hb dX9_goesThrough_66 (by decide) (fun c105 => ?_) (fun c105 => ?_)
                · exact absurd (by decide) c105
                · refine lv_iconst (v := 1) hx hb dX9_goesThrough_69 (by decide) ?_
                  refine lv_goto (tgt := 86) hx hb dX9_goesThrough_70 (by decide) ?_
                  refine kWVi F hK hP102 hD102 hS102 hA hl99.1 (c_X9_isNumber l G h a σ_101 0 1 L ((ktok (σ 35) L (ktok (σ 35) L E5).2).1) (by subst g101; subst g6; subst eσ5; subst eσ1; exact (congrArg (fun z => mtk z L (ktok (σ 35) L (ktok (σ 35) L E5).2).1) h35).symm) (by subst g101; subst g6; subst eσ5; subst eσ1; exact (congrArg (fun z => mvl z L (ktok (σ 35) L (ktok (σ 35) L E5).2).1) h35).symm) (by subst g101; subst g6; subst eσ5; subst eσ1; exact (congrArg (fun z => mdi z L (ktok (σ 35) L (ktok (σ 35) L E5).2).1) h35).symm) lL (by omega) (by decide)) 9 0 gX9_goesThrough_X9_isNumber rfl 2 rfl (by decide +kernel) ⟨Nat.le_of_ble_eq_true rfl, Nat.le_of_ble_eq_true rfl⟩ ⟨Nat.zero_le _, Nat.zero_le _⟩ rfl rfl (Nat.le_of_ble_eq_true rfl) rfl dX9_goesThrough_86 (fun r106 u106 H107 locs107 hw106 (hP107 : va_P G.1 vwCl (mW G h a σ_101) H107) (hD107 : va_D A (mW G h a σ_101)) hS107 => ?_)
                  clear hP102 hD102 hS102
                  have w106_0 : r106 = if knum (σ_101 35) ((ktok (σ 35) L (ktok (σ 35) L E5).2).1) (ktokE (σ_101 35) L ((ktok (σ 35) L (ktok (σ 35) L E5).2).1)) 0 1 = -1 then (0 : Int32) else 1 := hw106
                  have hV : kcV (σ 35) L E5 = knum (σ 35) (ktok (σ 35) L (ktok (σ 35) L E5).2).1 (ktok (σ 35) L (ktok (σ 35) L E5).2).2 0 1 := by unfold kcV; rw [hkd]; rfl
                  have g106 : r106 = if kcV (σ 35) L E5 = -1 then 0 else 1 := (by subst g101; subst g6; subst eσ5; subst eσ1; rw [hV]; exact w106_0.trans (congrArg (fun z => if knum z (ktok (σ 35) L (ktok (σ 35) L E5).2).1 (ktokE z L (ktok (σ 35) L (ktok (σ 35) L E5).2).1) 0 1 = -1 then 0 else 1) h35))
                  clear w106_0
                  subst g106
                  by_cases hVn : kcV (σ 35) L E5 = -1
                  · rw [if_pos hVn]
                    have hcB : kcB (σ 35) L E5 = true := decide_eq_true hVn
                    have hR : kcR (σ 35) L E5 = 0 := by simp only [kcR, hcA, hcB, Bool.false_eq_true, ↓reduceIte]
                    have hcT : kcT (σ 35) L E5 = kc2 (σ 35) L E5 := by simp only [kcT, hcA, hcB, Bool.false_eq_true, ↓reduceIte]
                    refine lv_if_ne (tgt := 99) hx hb dX9_goesThrough_89 (by decide) (fun c108 => ?_) (fun c108 => ?_)
                    · exact absurd (by decide) c108
                    · refine lv_iconst (v := (-1)) hx hb dX9_goesThrough_92 (by decide) ?_
                      refine lv_aload_n hx hb dX9_goesThrough_93 rfl (lv_at hl99 3 rfl) ?_
                      refine kget F hK hP107 9 0 38 iX9 rfl rfl (by decide) (List.mem_of_getElem? (i := 2) rfl) rfl dX9_goesThrough_94 ?_
                      refine lv_isub hx hb dX9_goesThrough_97 ?_
                      have q109 : (((-1) - (σ_101 38 0)) = nI N) ∧ (∃ b1 b2 b3 b4 b5 : Int32, σ_101 = mrw (mdo (kread (σ 35) L 24 0 0 (gx, gk, gf, gs)).2.2.1 (kread (σ 35) L 24 0 0 (gx, gk, gf, gs)).2.2.2.1 (kread (σ 35) L 24 0 0 (gx, gk, gf, gs)).2.2.2.2 N σ) b1 b2 b3 b4 b5) := by
                        have hRR := hRd.trans (kread_A (by omega) hR)
                        rw [hcT] at hRR
                        exact absurd (hyes.symm.trans (congrArg Prod.fst hRR)) (fun q => nI_nm1 (j := (kc2 (σ 35) L E5).1) (Nat.lt_of_le_of_lt (show (kc2 (σ 35) L E5).1 ≤ 200 from Nat.le_trans hb2.1 (Nat.le_trans hb2.2 lL)) (by decide)) q.symm)
                      exact kRi F hr hlocks hS107 dX9_goesThrough_98 σ_101 q109 hP107 hD107
                  · rw [if_neg hVn]
                    have hcB : kcB (σ 35) L E5 = false := decide_eq_false hVn
                    have vV : mvl (σ 35) L (ktok (σ 35) L (ktok (σ 35) L E5).2).1 = kcV (σ 35) L E5 := ((mnum_eq (a := 0) (b := 1) lL (by omega) (by decide)).2 (fun q => hVn (hV.trans q))).trans hV.symm
                    refine lv_if_ne (tgt := 99) hx hb dX9_goesThrough_89 (by decide) (fun c110 => ?_) (fun c110 => ?_)
                    · refine lv_aload_n hx hb dX9_goesThrough_99 rfl (lv_at hl99 3 rfl) ?_
                      refine kget F hK hP107 9 0 40 iX9 rfl rfl (by decide) (List.mem_of_getElem? (i := 3) rfl) rfl dX9_goesThrough_100 ?_
                      rw [show (σ_101 40 0) = (kcV (σ 35) L E5) from (by subst g101; subst g6; subst eσ5; subst eσ1; exact vV)]
                      refine lv_istore (lv' := [(5, .int (kcV (σ 35) L E5)), (4, .int 2), (3, .int 1), (2, .int (nI k)), (0, .ref h), (1, .int 1)]) hx hb dX9_goesThrough_103 hl99 (by decide) rfl (fun ls111 hl111 => ?_)
                      clear hl99
                      refine lv_iconst (v := 0) hx hb dX9_goesThrough_105 (by decide) ?_
                      refine lv_istore (lv' := [(6, .int 0), (5, .int (kcV (σ 35) L E5)), (4, .int 2), (3, .int 1), (2, .int (nI k)), (0, .ref h), (1, .int 1)]) hx hb dX9_goesThrough_106 hl111 (by decide) rfl (fun ls112 hl112 => ?_)
                      clear hl111
                      refine lv_iload hx hb dX9_goesThrough_108 (lv_at hl112 2 rfl) ?_
                      refine lv_iconst (v := 3) hx hb dX9_goesThrough_110 (by decide) ?_
                      refine lv_icmp_ge (tgt := 153) hx hb dX9_goesThrough_111 (by decide) (fun c113 => ?_) (fun c113 => ?_)
                      · exact absurd c113 (by decide)
                      · refine lv_aload_n hx hb dX9_goesThrough_114 rfl (lv_at hl112 5 rfl) ?_
                        refine kWVv F hK hP107 hD107 hS107 hA hl112.1 (c_X9_reads l G h a σ_101 L ((ktok (σ 35) L (ktok (σ 35) L E5).2).2) (by subst g101; subst g6; subst eσ5; subst eσ1; exact h36) lL (by subst g101; subst g6; subst eσ5; subst eσ1; rfl) hb2.2) 9 0 gX9_goesThrough_X9_reads rfl 0 rfl (by decide +kernel) ⟨Nat.le_of_ble_eq_true rfl, Nat.le_of_ble_eq_true rfl⟩ ⟨Nat.zero_le _, Nat.zero_le _⟩ rfl rfl (Nat.le_of_ble_eq_true rfl) rfl dX9_goesThrough_115 (fun σ_114 H115 locs115 hw114 (hP115 : va_P G.1 vwCl (mW G h a σ_114) H115) (hD115 : va_D A (mW G h a σ_114)) hS115 => ?_)
                        clear hP107 hD107 hS107
                        have w114_0 : σ_114 = mreads σ_101 L ((ktok (σ 35) L (ktok (σ 35) L E5).2).2) := hw114
                        have g114 : σ_114 = mrt (σ 35) L ((ktok (σ 35) L (ktok (σ 35) L E5).2).2) (mdo qk5 qf5 qs5 k σ) := w114_0.trans (by rw [g101]; exact mreads_mrw h35)
                        clear w114_0
                        refine lv_aload_n hx hb dX9_goesThrough_118 rfl (lv_at hl112 5 rfl) ?_
                        refine lv_iconst (v := 1) hx hb dX9_goesThrough_119 (by decide) ?_
                        refine lv_iload hx hb dX9_goesThrough_120 (lv_at hl112 2 rfl) ?_
                        refine lv_iconst (v := 2) hx hb dX9_goesThrough_122 (by decide) ?_
                        refine lv_icmp_ge (tgt := 131) hx hb dX9_goesThrough_123 (by decide) (fun c116 => ?_) (fun c116 => ?_)
                        · refine lv_sipush (v := 999) hx hb dX9_goesThrough_131 (by decide) ?_
                          refine kWVi F hK hP115 hD115 hS115 hA hl112.1 (c_X9_isNumber l G h a σ_114 1 999 L ((ktok (σ 35) L (ktok (σ 35) L (ktok (σ 35) L E5).2).2).1) (by subst g114; subst g101; subst g6; subst eσ5; subst eσ1; exact (congrArg (fun z => mtk z L (ktok (σ 35) L (ktok (σ 35) L (ktok (σ 35) L E5).2).2).1) h35).symm) (by subst g114; subst g101; subst g6; subst eσ5; subst eσ1; exact (congrArg (fun z => mvl z L (ktok (σ 35) L (ktok (σ 35) L (ktok (σ 35) L E5).2).2).1) h35).symm) (by subst g114; subst g101; subst g6; subst eσ5; subst eσ1; exact (congrArg (fun z => mdi z L (ktok (σ 35) L (ktok (σ 35) L (ktok (σ 35) L E5).2).2).1) h35).symm) lL (by omega) (by decide)) 9 0 gX9_goesThrough_X9_isNumber rfl 2 rfl (by decide +kernel) ⟨Nat.le_of_ble_eq_true rfl, Nat.le_of_ble_eq_true rfl⟩ ⟨Nat.zero_le _, Nat.zero_le _⟩ rfl rfl (Nat.le_of_ble_eq_true rfl) rfl dX9_goesThrough_134 (fun r117 u117 H118 locs118 hw117 (hP118 : va_P G.1 vwCl (mW G h a σ_114) H118) (hD118 : va_D A (mW G h a σ_114)) hS118 => ?_)
                          clear hP115 hD115 hS115
                          have w117_0 : r117 = if knum (σ_114 35) ((ktok (σ 35) L (ktok (σ 35) L (ktok (σ 35) L E5).2).2).1) (ktokE (σ_114 35) L ((ktok (σ 35) L (ktok (σ 35) L (ktok (σ 35) L E5).2).2).1)) 1 999 = -1 then (0 : Int32) else 1 := hw117
                          have hW : kcW (σ 35) L E5 = knum (σ 35) (ktok (σ 35) L (ktok (σ 35) L (ktok (σ 35) L E5).2).2).1 (ktok (σ 35) L (ktok (σ 35) L (ktok (σ 35) L E5).2).2).2 1 999 := by unfold kcW; rw [hkd]; rfl
                          have g117 : r117 = if kcW (σ 35) L E5 = -1 then 0 else 1 := (by subst g114; subst g101; subst g6; subst eσ5; subst eσ1; rw [hW]; exact w117_0.trans (congrArg (fun z => if knum z (ktok (σ 35) L (ktok (σ 35) L (ktok (σ 35) L E5).2).2).1 (ktokE z L (ktok (σ 35) L (ktok (σ 35) L (ktok (σ 35) L E5).2).2).1) 1 999 = -1 then 0 else 1) h35))
                          clear w117_0
                          subst g117
                          by_cases hWn : kcW (σ 35) L E5 = -1
                          · rw [if_pos hWn]
                            have hR : kcR (σ 35) L E5 = 0 := by simp only [kcR, hcA, hcB, hcC, hWn, Bool.false_eq_true, ↓reduceIte]
                            have hcT : kcT (σ 35) L E5 = kc3 (σ 35) L E5 := by simp only [kcT, hcA, hcB, hcC, hWn, Bool.false_eq_true, ↓reduceIte]
                            refine lv_if_ne (tgt := 147) hx hb dX9_goesThrough_137 (by decide) (fun c119 => ?_) (fun c119 => ?_)
                            · exact absurd (by decide) c119
                            · refine lv_iconst (v := (-1)) hx hb dX9_goesThrough_140 (by decide) ?_
                              refine lv_aload_n hx hb dX9_goesThrough_141 rfl (lv_at hl112 5 rfl) ?_
                              refine kget F hK hP118 9 0 38 iX9 rfl rfl (by decide) (List.mem_of_getElem? (i := 2) rfl) rfl dX9_goesThrough_142 ?_
                              refine lv_isub hx hb dX9_goesThrough_145 ?_
                              have q120 : (((-1) - (σ_114 38 0)) = nI N) ∧ (∃ b1 b2 b3 b4 b5 : Int32, σ_114 = mrw (mdo (kread (σ 35) L 24 0 0 (gx, gk, gf, gs)).2.2.1 (kread (σ 35) L 24 0 0 (gx, gk, gf, gs)).2.2.2.1 (kread (σ 35) L 24 0 0 (gx, gk, gf, gs)).2.2.2.2 N σ) b1 b2 b3 b4 b5) := by
                                have hRR := hRd.trans (kread_A (by omega) hR)
                                rw [hcT] at hRR
                                exact absurd (hyes.symm.trans (congrArg Prod.fst hRR)) (fun q => nI_nm1 (j := (kc3 (σ 35) L E5).1) (Nat.lt_of_le_of_lt (show (kc3 (σ 35) L E5).1 ≤ 200 from Nat.le_trans hb3.1 (Nat.le_trans hb3.2 lL)) (by decide)) q.symm)
                              exact kRi F hr hlocks hS118 dX9_goesThrough_146 σ_114 q120 hP118 hD118
                          · rw [if_neg hWn]
                            have vW : mvl (σ 35) L (ktok (σ 35) L (ktok (σ 35) L (ktok (σ 35) L E5).2).2).1 = kcW (σ 35) L E5 := ((mnum_eq (a := 1) (b := 999) lL (by omega) (by decide)).2 (fun q => hWn (hW.trans q))).trans hW.symm
                            have hR : ¬ kcR (σ 35) L E5 = 0 := by simp only [kcR, hcA, hcB, hcC, hWn, Bool.false_eq_true, ↓reduceIte]; decide
                            have hcT : kcT (σ 35) L E5 = kc3 (σ 35) L E5 := by simp only [kcT, hcA, hcB, hcC, hWn, Bool.false_eq_true, ↓reduceIte]
                            have hcS : kcS (σ 35) L E5 = kcW (σ 35) L E5 := by simp only [kcS, hcC, Bool.false_eq_true, ↓reduceIte]
                            refine lv_if_ne (tgt := 147) hx hb dX9_goesThrough_137 (by decide) (fun c121 => ?_) (fun c121 => ?_)
                            · refine lv_aload_n hx hb dX9_goesThrough_147 rfl (lv_at hl112 5 rfl) ?_
                              refine kget F hK hP118 9 0 40 iX9 rfl rfl (by decide) (List.mem_of_getElem? (i := 3) rfl) rfl dX9_goesThrough_148 ?_
                              rw [show (σ_114 40 0) = (kcW (σ 35) L E5) from (by subst g114; subst g101; subst g6; subst eσ5; subst eσ1; exact vW)]
                              refine lv_istore (lv' := [(6, .int (kcW (σ 35) L E5)), (5, .int (kcV (σ 35) L E5)), (4, .int 2), (3, .int 1), (2, .int (nI k)), (0, .ref h), (1, .int 1)]) hx hb dX9_goesThrough_151 hl112 (by decide) rfl (fun ls122 hl122 => ?_)
                              clear hl112
                              refine lv_iload_n hx hb dX9_goesThrough_153 rfl (lv_at hl122 6 rfl) ?_
                              refine lv_if_eq (tgt := 167) hx hb dX9_goesThrough_154 (by decide) (fun c123 => ?_) (fun c123 => ?_)
                              · exact absurd c123 (by decide)
                              · refine lv_aload_n hx hb dX9_goesThrough_157 rfl (lv_at hl122 5 rfl) ?_
                                refine lv_iload hx hb dX9_goesThrough_158 (lv_at hl122 2 rfl) ?_
                                refine lv_iload hx hb dX9_goesThrough_160 (lv_at hl122 1 rfl) ?_
                                refine lv_iload hx hb dX9_goesThrough_162 (lv_at hl122 0 rfl) ?_
                                refine kWVv F hK hP118 hD118 hS118 hA hl122.1 (c_X9_does l G h a σ_114 2 (kcV (σ 35) L E5) (kcW (σ 35) L E5) (by decide) (fun _ => kcV_01 hkd hVn)) 9 0 gX9_goesThrough_X9_does rfl 3 rfl (by decide +kernel) ⟨Nat.le_of_ble_eq_true rfl, Nat.le_of_ble_eq_true rfl⟩ ⟨Nat.zero_le _, Nat.zero_le _⟩ rfl rfl (Nat.le_of_ble_eq_true rfl) rfl dX9_goesThrough_164 (fun σ_124 H125 locs125 hw124 (hP125 : va_P G.1 vwCl (mW G h a σ_124) H125) (hD125 : va_D A (mW G h a σ_124)) hS125 => ?_)
                                clear hP118 hD118 hS118
                                have w124_0 : σ_124 = mdoes σ_114 2 (kcV (σ 35) L E5) (kcW (σ 35) L E5) := hw124
                                have g124 : σ_124 = mrt (σ 35) L (ktok (σ 35) L (ktok (σ 35) L E5).2).2 (mdo (kcP qk5 k (kcK (σ 35) L E5) (σ 35) L E5) (kcP qf5 k (kcV (σ 35) L E5) (σ 35) L E5) (kcP qs5 k (kcS (σ 35) L E5) (σ 35) L E5) (k + 1) σ) := w124_0.trans (by rw [g114, mdoes_mrt, mdo_step hcA hcB, hkd, hcS])
                                clear w124_0
                                have k35 : (mdo (kcP qk5 k (kcK (σ 35) L E5) (σ 35) L E5) (kcP qf5 k (kcV (σ 35) L E5) (σ 35) L E5) (kcP qs5 k (kcS (σ 35) L E5) (σ 35) L E5) (k + 1) σ) 35 = (σ 35) := mdo_hi _ _ _ _ (by decide) _
                                have k36 : (mdo (kcP qk5 k (kcK (σ 35) L E5) (σ 35) L E5) (kcP qf5 k (kcV (σ 35) L E5) (σ 35) L E5) (kcP qs5 k (kcS (σ 35) L E5) (σ 35) L E5) (k + 1) σ) 36 0 = nI L := (congrFun (mdo_hi _ _ _ _ (by decide) _) 0).trans hL
                                refine lv_iinc (v := nI (k + 1)) (lv' := [(2, .int (nI (k + 1))), (6, .int (kcW (σ 35) L E5)), (5, .int (kcV (σ 35) L E5)), (4, .int 2), (3, .int 1), (0, .ref h), (1, .int 1)]) hx hb dX9_goesThrough_167 hl122 (k := 4) rfl (nI_1 _) (by decide) rfl (fun ls126 hl126 => ?_)
                                clear hl122
                                refine lv_aload_n hx hb dX9_goesThrough_170 rfl (lv_at hl126 5 rfl) ?_
                                refine kWVv F hK hP125 hD125 hS125 hA hl126.1 (c_X9_reads l G h a σ_124 L ((kcT (σ 35) L E5).2) (by subst g124; subst g114; subst g101; subst g6; subst eσ5; subst eσ1; exact k36) lL (by subst g124; subst g114; subst g101; subst g6; subst eσ5; subst eσ1; rw [hcT]; rfl) hbT.2) 9 0 gX9_goesThrough_X9_reads rfl 0 rfl (by decide +kernel) ⟨Nat.le_of_ble_eq_true rfl, Nat.le_of_ble_eq_true rfl⟩ ⟨Nat.zero_le _, Nat.zero_le _⟩ rfl rfl (Nat.le_of_ble_eq_true rfl) rfl dX9_goesThrough_171 (fun σ_127 H128 locs128 hw127 (hP128 : va_P G.1 vwCl (mW G h a σ_127) H128) (hD128 : va_D A (mW G h a σ_127)) hS128 => ?_)
                                clear hP125 hD125 hS125
                                have w127_0 : σ_127 = mreads σ_124 L ((kcT (σ 35) L E5).2) := hw127
                                have g127 : σ_127 = mrt (σ 35) L ((kcT (σ 35) L E5).2) (mdo (kcP qk5 k (kcK (σ 35) L E5) (σ 35) L E5) (kcP qf5 k (kcV (σ 35) L E5) (σ 35) L E5) (kcP qs5 k (kcS (σ 35) L E5) (σ 35) L E5) (k + 1) σ) := w127_0.trans (by rw [g124]; exact mreads_mrw k35)
                                clear w127_0
                                refine lv_aload_n hx hb dX9_goesThrough_174 rfl (lv_at hl126 5 rfl) ?_
                                refine kget F hK hP128 9 0 39 iX9 rfl rfl (by decide) (List.mem_of_getElem? (i := 4) rfl) rfl dX9_goesThrough_175 ?_
                                rw [show (σ_127 39 0) = (mtk (σ 35) L (ktok (σ 35) L (kcT (σ 35) L E5).2).1) from (by subst g127; subst g124; subst g114; subst g101; subst g6; subst eσ5; subst eσ1; rfl)]
                                refine lv_if_eq (tgt := 185) hx hb dX9_goesThrough_178 (by decide) (fun c129 => ?_) (fun c129 => ?_)
                                · have hu := mtk0 (xl := (σ 35)) (L := L) (u := (ktok (σ 35) L (kcT (σ 35) L E5).2).1) (by omega) c129
                                  refine lv_iconst (v := 0) hx hb dX9_goesThrough_185 (by decide) ?_
                                  refine lv_istore_n (lv' := [(3, .int 0), (2, .int (nI (k + 1))), (6, .int (kcW (σ 35) L E5)), (5, .int (kcV (σ 35) L E5)), (4, .int 2), (0, .ref h), (1, .int 1)]) hx hb dX9_goesThrough_186 rfl hl126 (by decide) rfl (fun ls130 hl130 => ?_)
                                  clear hl126
                                  refine lv_iload_n hx hb dX9_goesThrough_187 rfl (lv_at hl130 0 rfl) ?_
                                  refine lv_if_eq (tgt := 221) hx hb dX9_goesThrough_188 (by decide) (fun c131 => ?_) (fun c131 => ?_)
                                  · refine lv_goto (tgt := 9) hx hb dX9_goesThrough_221 (by decide) ?_
                                    refine lv_iload_n hx hb dX9_goesThrough_9 rfl (lv_at hl130 0 rfl) ?_
                                    refine lv_if_eq (tgt := 224) hx hb dX9_goesThrough_10 (by decide) (fun c132 => ?_) (fun c132 => ?_)
                                    · refine lv_iload_n hx hb dX9_goesThrough_224 rfl (lv_at hl130 1 rfl) ?_
                                      have q133 : ((nI (k + 1)) = nI N) ∧ (∃ b1 b2 b3 b4 b5 : Int32, σ_127 = mrw (mdo (kread (σ 35) L 24 0 0 (gx, gk, gf, gs)).2.2.1 (kread (σ 35) L 24 0 0 (gx, gk, gf, gs)).2.2.2.1 (kread (σ 35) L 24 0 0 (gx, gk, gf, gs)).2.2.2.2 N σ) b1 b2 b3 b4 b5) := by
                                        have hRR := hRd.trans (kread_B (by omega) hR hu)
                                        have hn1 : nI (k + 1) = nI N := by
                                          rw [← hN, hRR]
                                          show nI (k + 1) = qx5 5 + 1
                                          rw [hq5, nI_1]
                                        have hkN : k + 1 = N := (nI_eq (by omega) (by omega)).mp hn1
                                        subst hkN
                                        subst g127
                                        subst g124
                                        subst g114
                                        subst g101
                                        subst g6
                                        subst eσ5
                                        subst eσ1
                                        refine ⟨rfl, ?_⟩
                                        rw [hRR]
                                        exact ⟨_, _, _, _, _, rfl⟩
                                      exact kRi F hr hlocks hS128 dX9_goesThrough_225 σ_127 q133 hP128 hD128
                                    · exact absurd (by decide) c132
                                  · exact absurd (by decide) c131
                                · have hu := mtkL (xl := (σ 35)) (L := L) (u := (ktok (σ 35) L (kcT (σ 35) L E5).2).1) c129
                                  refine lv_iconst (v := 1) hx hb dX9_goesThrough_181 (by decide) ?_
                                  refine lv_goto (tgt := 186) hx hb dX9_goesThrough_182 (by decide) ?_
                                  refine lv_istore_n (lv' := [(3, .int 1), (2, .int (nI (k + 1))), (6, .int (kcW (σ 35) L E5)), (5, .int (kcV (σ 35) L E5)), (4, .int 2), (0, .ref h), (1, .int 1)]) hx hb dX9_goesThrough_186 rfl hl126 (by decide) rfl (fun ls134 hl134 => ?_)
                                  clear hl126
                                  refine lv_iload_n hx hb dX9_goesThrough_187 rfl (lv_at hl134 0 rfl) ?_
                                  refine lv_if_eq (tgt := 221) hx hb dX9_goesThrough_188 (by decide) (fun c135 => ?_) (fun c135 => ?_)
                                  · exact absurd c135 (by decide)
                                  · refine lv_aload_n hx hb dX9_goesThrough_191 rfl (lv_at hl134 5 rfl) ?_
                                    refine kget F hK hP128 9 0 39 iX9 rfl rfl (by decide) (List.mem_of_getElem? (i := 4) rfl) rfl dX9_goesThrough_192 ?_
                                    rw [show (σ_127 39 0) = (mtk (σ 35) L (ktok (σ 35) L (kcT (σ 35) L E5).2).1) from (by subst g127; subst g124; subst g114; subst g101; subst g6; subst eσ5; subst eσ1; rfl)]
                                    refine lv_iconst (v := 3) hx hb dX9_goesThrough_195 (by decide) ?_
                                    refine lv_icmp_ne (tgt := 214) hx hb dX9_goesThrough_196 (by decide) (fun c136 => ?_) (fun c136 => ?_)
                                    · have h9 := mtk59 (xl := (σ 35)) (L := L) (u := (ktok (σ 35) L (kcT (σ 35) L E5).2).1) (by omega) c136
                                      refine lv_iconst (v := (-1)) hx hb dX9_goesThrough_214 (by decide) ?_
                                      refine lv_aload_n hx hb dX9_goesThrough_215 rfl (lv_at hl134 5 rfl) ?_
                                      refine kget F hK hP128 9 0 38 iX9 rfl rfl (by decide) (List.mem_of_getElem? (i := 2) rfl) rfl dX9_goesThrough_216 ?_
                                      refine lv_isub hx hb dX9_goesThrough_219 ?_
                                      have q137 : (((-1) - (σ_127 38 0)) = nI N) ∧ (∃ b1 b2 b3 b4 b5 : Int32, σ_127 = mrw (mdo (kread (σ 35) L 24 0 0 (gx, gk, gf, gs)).2.2.1 (kread (σ 35) L 24 0 0 (gx, gk, gf, gs)).2.2.2.1 (kread (σ 35) L 24 0 0 (gx, gk, gf, gs)).2.2.2.2 N σ) b1 b2 b3 b4 b5) := by
                                        have hRR := hRd.trans (kread_C (by omega) hR hu h9)
                                        exact absurd (hyes.symm.trans (congrArg Prod.fst hRR)) (fun q => nI_nm1 (j := (ktok (σ 35) L (kcT (σ 35) L E5).2).1) (show (ktok (σ 35) L (kcT (σ 35) L E5).2).1 < 2147483648 by omega) q.symm)
                                      exact kRi F hr hlocks hS128 dX9_goesThrough_220 σ_127 q137 hP128 hD128
                                    · have h3 := mvl3 (xl := (σ 35)) (L := L) (u := (ktok (σ 35) L (kcT (σ 35) L E5).2).1) (by omega) c136
                                      refine lv_aload_n hx hb dX9_goesThrough_199 rfl (lv_at hl134 5 rfl) ?_
                                      refine kget F hK hP128 9 0 40 iX9 rfl rfl (by decide) (List.mem_of_getElem? (i := 3) rfl) rfl dX9_goesThrough_200 ?_
                                      rw [show (σ_127 40 0) = (mvl (σ 35) L (ktok (σ 35) L (kcT (σ 35) L E5).2).1) from (by subst g127; subst g124; subst g114; subst g101; subst g6; subst eσ5; subst eσ1; rfl)]
                                      refine lv_bipush (v := 59) hx hb dX9_goesThrough_203 (by decide) ?_
                                      refine lv_icmp_ne (tgt := 214) hx hb dX9_goesThrough_205 (by decide) (fun c138 => ?_) (fun c138 => ?_)
                                      · have h9 : ¬ (σ 35) (ktok (σ 35) L (kcT (σ 35) L E5).2).1 = 59 := fun q => c138 (h3.trans q)
                                        refine lv_iconst (v := (-1)) hx hb dX9_goesThrough_214 (by decide) ?_
                                        refine lv_aload_n hx hb dX9_goesThrough_215 rfl (lv_at hl134 5 rfl) ?_
                                        refine kget F hK hP128 9 0 38 iX9 rfl rfl (by decide) (List.mem_of_getElem? (i := 2) rfl) rfl dX9_goesThrough_216 ?_
                                        refine lv_isub hx hb dX9_goesThrough_219 ?_
                                        have q139 : (((-1) - (σ_127 38 0)) = nI N) ∧ (∃ b1 b2 b3 b4 b5 : Int32, σ_127 = mrw (mdo (kread (σ 35) L 24 0 0 (gx, gk, gf, gs)).2.2.1 (kread (σ 35) L 24 0 0 (gx, gk, gf, gs)).2.2.2.1 (kread (σ 35) L 24 0 0 (gx, gk, gf, gs)).2.2.2.2 N σ) b1 b2 b3 b4 b5) := by
                                          have hRR := hRd.trans (kread_C (by omega) hR hu h9)
                                          exact absurd (hyes.symm.trans (congrArg Prod.fst hRR)) (fun q => nI_nm1 (j := (ktok (σ 35) L (kcT (σ 35) L E5).2).1) (show (ktok (σ 35) L (kcT (σ 35) L E5).2).1 < 2147483648 by omega) q.symm)
                                        exact kRi F hr hlocks hS128 dX9_goesThrough_220 σ_127 q139 hP128 hD128
                                      · have h9 : (σ 35) (ktok (σ 35) L (kcT (σ 35) L E5).2).1 = 59 := h3.symm.trans c138
                                        refine lv_iload_n hx hb dX9_goesThrough_208 rfl (lv_at hl134 1 rfl) ?_
                                        refine lv_bipush (v := 24) hx hb dX9_goesThrough_209 (by decide) ?_
                                        refine lv_icmp_ne (tgt := 221) hx hb dX9_goesThrough_211 (by decide) (fun c140 => ?_) (fun c140 => ?_)
                                        · have h24 : ¬ k + 1 = 24 := fun q => c140 (by rw [q]; rfl)
                                          refine lv_goto (tgt := 9) hx hb dX9_goesThrough_221 (by decide) ?_
                                          refine lv_iload_n hx hb dX9_goesThrough_9 rfl (lv_at hl134 0 rfl) ?_
                                          refine lv_if_eq (tgt := 224) hx hb dX9_goesThrough_10 (by decide) (fun c141 => ?_) (fun c141 => ?_)
                                          · exact absurd c141 (by decide)
                                          · exact ih (k + 1) (by omega) (by omega) ((ktok (σ 35) L (kcT (σ 35) L E5).2).2) (krx (σ 35) L E5 qx5) (kcP qk5 k (kcK (σ 35) L E5) (σ 35) L E5) (kcP qf5 k (kcV (σ 35) L E5) (σ 35) L E5) (kcP qs5 k (kcS (σ 35) L E5) (σ 35) L E5) (nI (ktok (σ 35) L (kcT (σ 35) L E5).2).1) (mtk (σ 35) L (ktok (σ 35) L (kcT (σ 35) L E5).2).1) (mvl (σ 35) L (ktok (σ 35) L (kcT (σ 35) L E5).2).1) (mdi (σ 35) L (ktok (σ 35) L (kcT (σ 35) L E5).2).1) σ_127 g127 hbu.2 (by show qx5 5 + 1 = _; rw [hq5, nI_1]) (hRd.trans (kread_D (by omega) hR hu h9)) _ _ _ (lv_sub hl134 [0, 1, 5, 6] rfl) hP128 hD128 hS128
                                        · have h24 : k + 1 = 24 := (nI_eq (a := k + 1) (b := 24) (by omega) (by omega)).mp c140
                                          refine lv_iconst (v := (-1)) hx hb dX9_goesThrough_214 (by decide) ?_
                                          refine lv_aload_n hx hb dX9_goesThrough_215 rfl (lv_at hl134 5 rfl) ?_
                                          refine kget F hK hP128 9 0 38 iX9 rfl rfl (by decide) (List.mem_of_getElem? (i := 2) rfl) rfl dX9_goesThrough_216 ?_
                                          refine lv_isub hx hb dX9_goesThrough_219 ?_
                                          have q142 : (((-1) - (σ_127 38 0)) = nI N) ∧ (∃ b1 b2 b3 b4 b5 : Int32, σ_127 = mrw (mdo (kread (σ 35) L 24 0 0 (gx, gk, gf, gs)).2.2.1 (kread (σ 35) L 24 0 0 (gx, gk, gf, gs)).2.2.2.1 (kread (σ 35) L 24 0 0 (gx, gk, gf, gs)).2.2.2.2 N σ) b1 b2 b3 b4 b5) := by
                                            have hRR := hRd.trans (kread_D (by omega) hR hu h9)
                                            rw [show 24 - (k + 1) = 0 by omega] at hRR
                                            have hRR : (kread (σ 35) L 24 0 0 (gx, gk, gf, gs)) = (nI (ktok (σ 35) L (kcT (σ 35) L E5).2).1, krq (σ 35) L k E5 (qx5, qk5, qf5, qs5)) := hRR
                                            exact absurd (hyes.symm.trans (congrArg Prod.fst hRR)) (fun q => nI_nm1 (j := (ktok (σ 35) L (kcT (σ 35) L E5).2).1) (show (ktok (σ 35) L (kcT (σ 35) L E5).2).1 < 2147483648 by omega) q.symm)
                                          exact kRi F hr hlocks hS128 dX9_goesThrough_220 σ_127 q142 hP128 hD128
                            · exact absurd c121 (by decide)
                        · exact absurd (by decide) c116
                    · exact absurd c110 (by decide)
              · exact absurd (by decide) c104
            · exact absurd (by decide) c103
          · exact absurd c100 (by decide)
        · rw [show (kcK (σ 35) L E5) = 3 from hkd]
          have hcA : kcA (σ 35) L E5 = false := by unfold kcA; rw [hkd]; decide
          have hcC : kcC (σ 35) L E5 = true := by unfold kcC; rw [hkd]; decide
          refine lv_istore (lv' := [(4, .int 3), (3, .int 1), (2, .int (nI k)), (0, .ref h), (1, .int 1)]) hx hb dX9_goesThrough_21 hl5 (by decide) rfl (fun ls143 hl143 => ?_)
          clear hl5
          refine lv_iload hx hb dX9_goesThrough_23 (lv_at hl143 0 rfl) ?_
          refine lv_iconst (v := (-1)) hx hb dX9_goesThrough_25 (by decide) ?_
          refine lv_icmp_ne (tgt := 36) hx hb dX9_goesThrough_26 (by decide) (fun c144 => ?_) (fun c144 => ?_)
          · refine lv_aload_n hx hb dX9_goesThrough_36 rfl (lv_at hl143 3 rfl) ?_
            refine kWVv F hK hP9 hD9 hS9 hA hl143.1 (c_X9_reads l G h a σ_6 L ((ktok (σ 35) L E5).2) (by subst g6; subst eσ5; subst eσ1; exact h36) lL (by subst g6; subst eσ5; subst eσ1; rfl) hb1.2) 9 0 gX9_goesThrough_X9_reads rfl 0 rfl (by decide +kernel) ⟨Nat.le_of_ble_eq_true rfl, Nat.le_of_ble_eq_true rfl⟩ ⟨Nat.zero_le _, Nat.zero_le _⟩ rfl rfl (Nat.le_of_ble_eq_true rfl) rfl dX9_goesThrough_37 (fun σ_145 H146 locs146 hw145 (hP146 : va_P G.1 vwCl (mW G h a σ_145) H146) (hD146 : va_D A (mW G h a σ_145)) hS146 => ?_)
            clear hP9 hD9 hS9
            have w145_0 : σ_145 = mreads σ_6 L ((ktok (σ 35) L E5).2) := hw145
            have g145 : σ_145 = mrt (σ 35) L ((ktok (σ 35) L E5).2) (mdo qk5 qf5 qs5 k σ) := w145_0.trans (by rw [g6]; exact mreads_mrw h35)
            clear w145_0
            refine lv_aload_n hx hb dX9_goesThrough_40 rfl (lv_at hl143 3 rfl) ?_
            refine lv_iload hx hb dX9_goesThrough_41 (lv_at hl143 0 rfl) ?_
            refine lv_iconst (v := 2) hx hb dX9_goesThrough_43 (by decide) ?_
            refine lv_icmp_ge (tgt := 51) hx hb dX9_goesThrough_44 (by decide) (fun c147 => ?_) (fun c147 => ?_)
            · refine lv_iconst (v := 0) hx hb dX9_goesThrough_51 (by decide) ?_
              refine lv_iload hx hb dX9_goesThrough_52 (lv_at hl143 0 rfl) ?_
              refine lv_iconst (v := 2) hx hb dX9_goesThrough_54 (by decide) ?_
              refine lv_icmp_ge (tgt := 63) hx hb dX9_goesThrough_55 (by decide) (fun c148 => ?_) (fun c148 => ?_)
              · refine lv_iload hx hb dX9_goesThrough_63 (lv_at hl143 0 rfl) ?_
                refine lv_iconst (v := 2) hx hb dX9_goesThrough_65 (by decide) ?_
                refine lv_icmp_ne (tgt := 73) hx hb dX9_goesThrough_66 (by decide) (fun c149 => ?_) (fun c149 => ?_)
                · refine lv_iload hx hb dX9_goesThrough_73 (lv_at hl143 0 rfl) ?_
                  refine lv_iconst (v := 3) hx hb dX9_goesThrough_75 (by decide) ?_
                  refine lv_icmp_ne (tgt := 83) hx hb dX9_goesThrough_76 (by decide) (fun c150 => ?_) (fun c150 => ?_)
                  · exact absurd (by decide) c150
                  · refine lv_iconst (v := 3) hx hb dX9_goesThrough_79 (by decide) ?_
                    refine lv_goto (tgt := 86) hx hb dX9_goesThrough_80 (by decide) ?_
                    refine kWVi F hK hP146 hD146 hS146 hA hl143.1 (c_X9_isNumber l G h a σ_145 0 3 L ((ktok (σ 35) L (ktok (σ 35) L E5).2).1) (by subst g145; subst g6; subst eσ5; subst eσ1; exact (congrArg (fun z => mtk z L (ktok (σ 35) L (ktok (σ 35) L E5).2).1) h35).symm) (by subst g145; subst g6; subst eσ5; subst eσ1; exact (congrArg (fun z => mvl z L (ktok (σ 35) L (ktok (σ 35) L E5).2).1) h35).symm) (by subst g145; subst g6; subst eσ5; subst eσ1; exact (congrArg (fun z => mdi z L (ktok (σ 35) L (ktok (σ 35) L E5).2).1) h35).symm) lL (by omega) (by decide)) 9 0 gX9_goesThrough_X9_isNumber rfl 2 rfl (by decide +kernel) ⟨Nat.le_of_ble_eq_true rfl, Nat.le_of_ble_eq_true rfl⟩ ⟨Nat.zero_le _, Nat.zero_le _⟩ rfl rfl (Nat.le_of_ble_eq_true rfl) rfl dX9_goesThrough_86 (fun r151 u151 H152 locs152 hw151 (hP152 : va_P G.1 vwCl (mW G h a σ_145) H152) (hD152 : va_D A (mW G h a σ_145)) hS152 => ?_)
                    clear hP146 hD146 hS146
                    have w151_0 : r151 = if knum (σ_145 35) ((ktok (σ 35) L (ktok (σ 35) L E5).2).1) (ktokE (σ_145 35) L ((ktok (σ 35) L (ktok (σ 35) L E5).2).1)) 0 3 = -1 then (0 : Int32) else 1 := hw151
                    have hV : kcV (σ 35) L E5 = knum (σ 35) (ktok (σ 35) L (ktok (σ 35) L E5).2).1 (ktok (σ 35) L (ktok (σ 35) L E5).2).2 0 3 := by unfold kcV; rw [hkd]; rfl
                    have g151 : r151 = if kcV (σ 35) L E5 = -1 then 0 else 1 := (by subst g145; subst g6; subst eσ5; subst eσ1; rw [hV]; exact w151_0.trans (congrArg (fun z => if knum z (ktok (σ 35) L (ktok (σ 35) L E5).2).1 (ktokE z L (ktok (σ 35) L (ktok (σ 35) L E5).2).1) 0 3 = -1 then 0 else 1) h35))
                    clear w151_0
                    subst g151
                    by_cases hVn : kcV (σ 35) L E5 = -1
                    · rw [if_pos hVn]
                      have hcB : kcB (σ 35) L E5 = true := decide_eq_true hVn
                      have hR : kcR (σ 35) L E5 = 0 := by simp only [kcR, hcA, hcB, Bool.false_eq_true, ↓reduceIte]
                      have hcT : kcT (σ 35) L E5 = kc2 (σ 35) L E5 := by simp only [kcT, hcA, hcB, Bool.false_eq_true, ↓reduceIte]
                      refine lv_if_ne (tgt := 99) hx hb dX9_goesThrough_89 (by decide) (fun c153 => ?_) (fun c153 => ?_)
                      · exact absurd (by decide) c153
                      · refine lv_iconst (v := (-1)) hx hb dX9_goesThrough_92 (by decide) ?_
                        refine lv_aload_n hx hb dX9_goesThrough_93 rfl (lv_at hl143 3 rfl) ?_
                        refine kget F hK hP152 9 0 38 iX9 rfl rfl (by decide) (List.mem_of_getElem? (i := 2) rfl) rfl dX9_goesThrough_94 ?_
                        refine lv_isub hx hb dX9_goesThrough_97 ?_
                        have q154 : (((-1) - (σ_145 38 0)) = nI N) ∧ (∃ b1 b2 b3 b4 b5 : Int32, σ_145 = mrw (mdo (kread (σ 35) L 24 0 0 (gx, gk, gf, gs)).2.2.1 (kread (σ 35) L 24 0 0 (gx, gk, gf, gs)).2.2.2.1 (kread (σ 35) L 24 0 0 (gx, gk, gf, gs)).2.2.2.2 N σ) b1 b2 b3 b4 b5) := by
                          have hRR := hRd.trans (kread_A (by omega) hR)
                          rw [hcT] at hRR
                          exact absurd (hyes.symm.trans (congrArg Prod.fst hRR)) (fun q => nI_nm1 (j := (kc2 (σ 35) L E5).1) (Nat.lt_of_le_of_lt (show (kc2 (σ 35) L E5).1 ≤ 200 from Nat.le_trans hb2.1 (Nat.le_trans hb2.2 lL)) (by decide)) q.symm)
                        exact kRi F hr hlocks hS152 dX9_goesThrough_98 σ_145 q154 hP152 hD152
                    · rw [if_neg hVn]
                      have hcB : kcB (σ 35) L E5 = false := decide_eq_false hVn
                      have vV : mvl (σ 35) L (ktok (σ 35) L (ktok (σ 35) L E5).2).1 = kcV (σ 35) L E5 := ((mnum_eq (a := 0) (b := 3) lL (by omega) (by decide)).2 (fun q => hVn (hV.trans q))).trans hV.symm
                      have hR : ¬ kcR (σ 35) L E5 = 0 := by simp only [kcR, hcA, hcB, hcC, Bool.false_eq_true, ↓reduceIte]; decide
                      have hcT : kcT (σ 35) L E5 = kc2 (σ 35) L E5 := by simp only [kcT, hcA, hcB, hcC, Bool.false_eq_true, ↓reduceIte]
                      have hcS : kcS (σ 35) L E5 = 0 := by simp only [kcS, hcC, Bool.false_eq_true, ↓reduceIte]
                      refine lv_if_ne (tgt := 99) hx hb dX9_goesThrough_89 (by decide) (fun c155 => ?_) (fun c155 => ?_)
                      · refine lv_aload_n hx hb dX9_goesThrough_99 rfl (lv_at hl143 3 rfl) ?_
                        refine kget F hK hP152 9 0 40 iX9 rfl rfl (by decide) (List.mem_of_getElem? (i := 3) rfl) rfl dX9_goesThrough_100 ?_
                        rw [show (σ_145 40 0) = (kcV (σ 35) L E5) from (by subst g145; subst g6; subst eσ5; subst eσ1; exact vV)]
                        refine lv_istore (lv' := [(5, .int (kcV (σ 35) L E5)), (4, .int 3), (3, .int 1), (2, .int (nI k)), (0, .ref h), (1, .int 1)]) hx hb dX9_goesThrough_103 hl143 (by decide) rfl (fun ls156 hl156 => ?_)
                        clear hl143
                        refine lv_iconst (v := 0) hx hb dX9_goesThrough_105 (by decide) ?_
                        refine lv_istore (lv' := [(6, .int 0), (5, .int (kcV (σ 35) L E5)), (4, .int 3), (3, .int 1), (2, .int (nI k)), (0, .ref h), (1, .int 1)]) hx hb dX9_goesThrough_106 hl156 (by decide) rfl (fun ls157 hl157 => ?_)
                        clear hl156
                        refine lv_iload hx hb dX9_goesThrough_108 (lv_at hl157 2 rfl) ?_
                        refine lv_iconst (v := 3) hx hb dX9_goesThrough_110 (by decide) ?_
                        refine lv_icmp_ge (tgt := 153) hx hb dX9_goesThrough_111 (by decide) (fun c158 => ?_) (fun c158 => ?_)
                        · refine lv_iload_n hx hb dX9_goesThrough_153 rfl (lv_at hl157 6 rfl) ?_
                          refine lv_if_eq (tgt := 167) hx hb dX9_goesThrough_154 (by decide) (fun c159 => ?_) (fun c159 => ?_)
                          · exact absurd c159 (by decide)
                          · refine lv_aload_n hx hb dX9_goesThrough_157 rfl (lv_at hl157 5 rfl) ?_
                            refine lv_iload hx hb dX9_goesThrough_158 (lv_at hl157 2 rfl) ?_
                            refine lv_iload hx hb dX9_goesThrough_160 (lv_at hl157 1 rfl) ?_
                            refine lv_iload hx hb dX9_goesThrough_162 (lv_at hl157 0 rfl) ?_
                            refine kWVv F hK hP152 hD152 hS152 hA hl157.1 (c_X9_does l G h a σ_145 3 (kcV (σ 35) L E5) 0 (by decide) (fun q => absurd q (by decide))) 9 0 gX9_goesThrough_X9_does rfl 3 rfl (by decide +kernel) ⟨Nat.le_of_ble_eq_true rfl, Nat.le_of_ble_eq_true rfl⟩ ⟨Nat.zero_le _, Nat.zero_le _⟩ rfl rfl (Nat.le_of_ble_eq_true rfl) rfl dX9_goesThrough_164 (fun σ_160 H161 locs161 hw160 (hP161 : va_P G.1 vwCl (mW G h a σ_160) H161) (hD161 : va_D A (mW G h a σ_160)) hS161 => ?_)
                            clear hP152 hD152 hS152
                            have w160_0 : σ_160 = mdoes σ_145 3 (kcV (σ 35) L E5) 0 := hw160
                            have g160 : σ_160 = mrt (σ 35) L (ktok (σ 35) L E5).2 (mdo (kcP qk5 k (kcK (σ 35) L E5) (σ 35) L E5) (kcP qf5 k (kcV (σ 35) L E5) (σ 35) L E5) (kcP qs5 k (kcS (σ 35) L E5) (σ 35) L E5) (k + 1) σ) := w160_0.trans (by rw [g145, mdoes_mrt, mdo_step hcA hcB, hkd, hcS])
                            clear w160_0
                            have k35 : (mdo (kcP qk5 k (kcK (σ 35) L E5) (σ 35) L E5) (kcP qf5 k (kcV (σ 35) L E5) (σ 35) L E5) (kcP qs5 k (kcS (σ 35) L E5) (σ 35) L E5) (k + 1) σ) 35 = (σ 35) := mdo_hi _ _ _ _ (by decide) _
                            have k36 : (mdo (kcP qk5 k (kcK (σ 35) L E5) (σ 35) L E5) (kcP qf5 k (kcV (σ 35) L E5) (σ 35) L E5) (kcP qs5 k (kcS (σ 35) L E5) (σ 35) L E5) (k + 1) σ) 36 0 = nI L := (congrFun (mdo_hi _ _ _ _ (by decide) _) 0).trans hL
                            refine lv_iinc (v := nI (k + 1)) (lv' := [(2, .int (nI (k + 1))), (6, .int 0), (5, .int (kcV (σ 35) L E5)), (4, .int 3), (3, .int 1), (0, .ref h), (1, .int 1)]) hx hb dX9_goesThrough_167 hl157 (k := 4) rfl (nI_1 _) (by decide) rfl (fun ls162 hl162 => ?_)
                            clear hl157
                            refine lv_aload_n hx hb dX9_goesThrough_170 rfl (lv_at hl162 5 rfl) ?_
                            refine kWVv F hK hP161 hD161 hS161 hA hl162.1 (c_X9_reads l G h a σ_160 L ((kcT (σ 35) L E5).2) (by subst g160; subst g145; subst g6; subst eσ5; subst eσ1; exact k36) lL (by subst g160; subst g145; subst g6; subst eσ5; subst eσ1; rw [hcT]; rfl) hbT.2) 9 0 gX9_goesThrough_X9_reads rfl 0 rfl (by decide +kernel) ⟨Nat.le_of_ble_eq_true rfl, Nat.le_of_ble_eq_true rfl⟩ ⟨Nat.zero_le _, Nat.zero_le _⟩ rfl rfl (Nat.le_of_ble_eq_true rfl) rfl dX9_goesThrough_171 (fun σ_163 H164 locs164 hw163 (hP164 : va_P G.1 vwCl (mW G h a σ_163) H164) (hD164 : va_D A (mW G h a σ_163)) hS164 => ?_)
                            clear hP161 hD161 hS161
                            have w163_0 : σ_163 = mreads σ_160 L ((kcT (σ 35) L E5).2) := hw163
                            have g163 : σ_163 = mrt (σ 35) L ((kcT (σ 35) L E5).2) (mdo (kcP qk5 k (kcK (σ 35) L E5) (σ 35) L E5) (kcP qf5 k (kcV (σ 35) L E5) (σ 35) L E5) (kcP qs5 k (kcS (σ 35) L E5) (σ 35) L E5) (k + 1) σ) := w163_0.trans (by rw [g160]; exact mreads_mrw k35)
                            clear w163_0
                            refine lv_aload_n hx hb dX9_goesThrough_174 rfl (lv_at hl162 5 rfl) ?_
                            refine kget F hK hP164 9 0 39 iX9 rfl rfl (by decide) (List.mem_of_getElem? (i := 4) rfl) rfl dX9_goesThrough_175 ?_
                            rw [show (σ_163 39 0) = (mtk (σ 35) L (ktok (σ 35) L (kcT (σ 35) L E5).2).1) from (by subst g163; subst g160; subst g145; subst g6; subst eσ5; subst eσ1; rfl)]
                            refine lv_if_eq (tgt := 185) hx hb dX9_goesThrough_178 (by decide) (fun c165 => ?_) (fun c165 => ?_)
                            · have hu := mtk0 (xl := (σ 35)) (L := L) (u := (ktok (σ 35) L (kcT (σ 35) L E5).2).1) (by omega) c165
                              refine lv_iconst (v := 0) hx hb dX9_goesThrough_185 (by decide) ?_
                              refine lv_istore_n (lv' := [(3, .int 0), (2, .int (nI (k + 1))), (6, .int 0), (5, .int (kcV (σ 35) L E5)), (4, .int 3), (0, .ref h), (1, .int 1)]) hx hb dX9_goesThrough_186 rfl hl162 (by decide) rfl (fun ls166 hl166 => ?_)
                              clear hl162
                              refine lv_iload_n hx hb dX9_goesThrough_187 rfl (lv_at hl166 0 rfl) ?_
                              refine lv_if_eq (tgt := 221) hx hb dX9_goesThrough_188 (by decide) (fun c167 => ?_) (fun c167 => ?_)
                              · refine lv_goto (tgt := 9) hx hb dX9_goesThrough_221 (by decide) ?_
                                refine lv_iload_n hx hb dX9_goesThrough_9 rfl (lv_at hl166 0 rfl) ?_
                                refine lv_if_eq (tgt := 224) hx hb dX9_goesThrough_10 (by decide) (fun c168 => ?_) (fun c168 => ?_)
                                · refine lv_iload_n hx hb dX9_goesThrough_224 rfl (lv_at hl166 1 rfl) ?_
                                  have q169 : ((nI (k + 1)) = nI N) ∧ (∃ b1 b2 b3 b4 b5 : Int32, σ_163 = mrw (mdo (kread (σ 35) L 24 0 0 (gx, gk, gf, gs)).2.2.1 (kread (σ 35) L 24 0 0 (gx, gk, gf, gs)).2.2.2.1 (kread (σ 35) L 24 0 0 (gx, gk, gf, gs)).2.2.2.2 N σ) b1 b2 b3 b4 b5) := by
                                    have hRR := hRd.trans (kread_B (by omega) hR hu)
                                    have hn1 : nI (k + 1) = nI N := by
                                      rw [← hN, hRR]
                                      show nI (k + 1) = qx5 5 + 1
                                      rw [hq5, nI_1]
                                    have hkN : k + 1 = N := (nI_eq (by omega) (by omega)).mp hn1
                                    subst hkN
                                    subst g163
                                    subst g160
                                    subst g145
                                    subst g6
                                    subst eσ5
                                    subst eσ1
                                    refine ⟨rfl, ?_⟩
                                    rw [hRR]
                                    exact ⟨_, _, _, _, _, rfl⟩
                                  exact kRi F hr hlocks hS164 dX9_goesThrough_225 σ_163 q169 hP164 hD164
                                · exact absurd (by decide) c168
                              · exact absurd (by decide) c167
                            · have hu := mtkL (xl := (σ 35)) (L := L) (u := (ktok (σ 35) L (kcT (σ 35) L E5).2).1) c165
                              refine lv_iconst (v := 1) hx hb dX9_goesThrough_181 (by decide) ?_
                              refine lv_goto (tgt := 186) hx hb dX9_goesThrough_182 (by decide) ?_
                              refine lv_istore_n (lv' := [(3, .int 1), (2, .int (nI (k + 1))), (6, .int 0), (5, .int (kcV (σ 35) L E5)), (4, .int 3), (0, .ref h), (1, .int 1)]) hx hb dX9_goesThrough_186 rfl hl162 (by decide) rfl (fun ls170 hl170 => ?_)
                              clear hl162
                              refine lv_iload_n hx hb dX9_goesThrough_187 rfl (lv_at hl170 0 rfl) ?_
                              refine lv_if_eq (tgt := 221) hx hb dX9_goesThrough_188 (by decide) (fun c171 => ?_) (fun c171 => ?_)
                              · exact absurd c171 (by decide)
                              · refine lv_aload_n hx hb dX9_goesThrough_191 rfl (lv_at hl170 5 rfl) ?_
                                refine kget F hK hP164 9 0 39 iX9 rfl rfl (by decide) (List.mem_of_getElem? (i := 4) rfl) rfl dX9_goesThrough_192 ?_
                                rw [show (σ_163 39 0) = (mtk (σ 35) L (ktok (σ 35) L (kcT (σ 35) L E5).2).1) from (by subst g163; subst g160; subst g145; subst g6; subst eσ5; subst eσ1; rfl)]
                                refine lv_iconst (v := 3) hx hb dX9_goesThrough_195 (by decide) ?_
                                refine lv_icmp_ne (tgt := 214) hx hb dX9_goesThrough_196 (by decide) (fun c172 => ?_) (fun c172 => ?_)
                                · have h9 := mtk59 (xl := (σ 35)) (L := L) (u := (ktok (σ 35) L (kcT (σ 35) L E5).2).1) (by omega) c172
                                  refine lv_iconst (v := (-1)) hx hb dX9_goesThrough_214 (by decide) ?_
                                  refine lv_aload_n hx hb dX9_goesThrough_215 rfl (lv_at hl170 5 rfl) ?_
                                  refine kget F hK hP164 9 0 38 iX9 rfl rfl (by decide) (List.mem_of_getElem? (i := 2) rfl) rfl dX9_goesThrough_216 ?_
                                  refine lv_isub hx hb dX9_goesThrough_219 ?_
                                  have q173 : (((-1) - (σ_163 38 0)) = nI N) ∧ (∃ b1 b2 b3 b4 b5 : Int32, σ_163 = mrw (mdo (kread (σ 35) L 24 0 0 (gx, gk, gf, gs)).2.2.1 (kread (σ 35) L 24 0 0 (gx, gk, gf, gs)).2.2.2.1 (kread (σ 35) L 24 0 0 (gx, gk, gf, gs)).2.2.2.2 N σ) b1 b2 b3 b4 b5) := by
                                    have hRR := hRd.trans (kread_C (by omega) hR hu h9)
                                    exact absurd (hyes.symm.trans (congrArg Prod.fst hRR)) (fun q => nI_nm1 (j := (ktok (σ 35) L (kcT (σ 35) L E5).2).1) (show (ktok (σ 35) L (kcT (σ 35) L E5).2).1 < 2147483648 by omega) q.symm)
                                  exact kRi F hr hlocks hS164 dX9_goesThrough_220 σ_163 q173 hP164 hD164
                                · have h3 := mvl3 (xl := (σ 35)) (L := L) (u := (ktok (σ 35) L (kcT (σ 35) L E5).2).1) (by omega) c172
                                  refine lv_aload_n hx hb dX9_goesThrough_199 rfl (lv_at hl170 5 rfl) ?_
                                  refine kget F hK hP164 9 0 40 iX9 rfl rfl (by decide) (List.mem_of_getElem? (i := 3) rfl) rfl dX9_goesThrough_200 ?_
                                  rw [show (σ_163 40 0) = (mvl (σ 35) L (ktok (σ 35) L (kcT (σ 35) L E5).2).1) from (by subst g163; subst g160; subst g145; subst g6; subst eσ5; subst eσ1; rfl)]
                                  refine lv_bipush (v := 59) hx hb dX9_goesThrough_203 (by decide) ?_
                                  refine lv_icmp_ne (tgt := 214) hx hb dX9_goesThrough_205 (by decide) (fun c174 => ?_) (fun c174 => ?_)
                                  · have h9 : ¬ (σ 35) (ktok (σ 35) L (kcT (σ 35) L E5).2).1 = 59 := fun q => c174 (h3.trans q)
                                    refine lv_iconst (v := (-1)) hx hb dX9_goesThrough_214 (by decide) ?_
                                    refine lv_aload_n hx hb dX9_goesThrough_215 rfl (lv_at hl170 5 rfl) ?_
                                    refine kget F hK hP164 9 0 38 iX9 rfl rfl (by decide) (List.mem_of_getElem? (i := 2) rfl) rfl dX9_goesThrough_216 ?_
                                    refine lv_isub hx hb dX9_goesThrough_219 ?_
                                    have q175 : (((-1) - (σ_163 38 0)) = nI N) ∧ (∃ b1 b2 b3 b4 b5 : Int32, σ_163 = mrw (mdo (kread (σ 35) L 24 0 0 (gx, gk, gf, gs)).2.2.1 (kread (σ 35) L 24 0 0 (gx, gk, gf, gs)).2.2.2.1 (kread (σ 35) L 24 0 0 (gx, gk, gf, gs)).2.2.2.2 N σ) b1 b2 b3 b4 b5) := by
                                      have hRR := hRd.trans (kread_C (by omega) hR hu h9)
                                      exact absurd (hyes.symm.trans (congrArg Prod.fst hRR)) (fun q => nI_nm1 (j := (ktok (σ 35) L (kcT (σ 35) L E5).2).1) (show (ktok (σ 35) L (kcT (σ 35) L E5).2).1 < 2147483648 by omega) q.symm)
                                    exact kRi F hr hlocks hS164 dX9_goesThrough_220 σ_163 q175 hP164 hD164
                                  · have h9 : (σ 35) (ktok (σ 35) L (kcT (σ 35) L E5).2).1 = 59 := h3.symm.trans c174
                                    refine lv_iload_n hx hb dX9_goesThrough_208 rfl (lv_at hl170 1 rfl) ?_
                                    refine lv_bipush (v := 24) hx hb dX9_goesThrough_209 (by decide) ?_
                                    refine lv_icmp_ne (tgt := 221) hx hb dX9_goesThrough_211 (by decide) (fun c176 => ?_) (fun c176 => ?_)
                                    · have h24 : ¬ k + 1 = 24 := fun q => c176 (by rw [q]; rfl)
                                      refine lv_goto (tgt := 9) hx hb dX9_goesThrough_221 (by decide) ?_
                                      refine lv_iload_n hx hb dX9_goesThrough_9 rfl (lv_at hl170 0 rfl) ?_
                                      refine lv_if_eq (tgt := 224) hx hb dX9_goesThrough_10 (by decide) (fun c177 => ?_) (fun c177 => ?_)
                                      · exact absurd c177 (by decide)
                                      · exact ih (k + 1) (by omega) (by omega) ((ktok (σ 35) L (kcT (σ 35) L E5).2).2) (krx (σ 35) L E5 qx5) (kcP qk5 k (kcK (σ 35) L E5) (σ 35) L E5) (kcP qf5 k (kcV (σ 35) L E5) (σ 35) L E5) (kcP qs5 k (kcS (σ 35) L E5) (σ 35) L E5) (nI (ktok (σ 35) L (kcT (σ 35) L E5).2).1) (mtk (σ 35) L (ktok (σ 35) L (kcT (σ 35) L E5).2).1) (mvl (σ 35) L (ktok (σ 35) L (kcT (σ 35) L E5).2).1) (mdi (σ 35) L (ktok (σ 35) L (kcT (σ 35) L E5).2).1) σ_163 g163 hbu.2 (by show qx5 5 + 1 = _; rw [hq5, nI_1]) (hRd.trans (kread_D (by omega) hR hu h9)) _ _ _ (lv_sub hl170 [0, 1, 5, 6] rfl) hP164 hD164 hS164
                                    · have h24 : k + 1 = 24 := (nI_eq (a := k + 1) (b := 24) (by omega) (by omega)).mp c176
                                      refine lv_iconst (v := (-1)) hx hb dX9_goesThrough_214 (by decide) ?_
                                      refine lv_aload_n hx hb dX9_goesThrough_215 rfl (lv_at hl170 5 rfl) ?_
                                      refine kget F hK hP164 9 0 38 iX9 rfl rfl (by decide) (List.mem_of_getElem? (i := 2) rfl) rfl dX9_goesThrough_216 ?_
                                      refine lv_isub hx hb dX9_goesThrough_219 ?_
                                      have q178 : (((-1) - (σ_163 38 0)) = nI N) ∧ (∃ b1 b2 b3 b4 b5 : Int32, σ_163 = mrw (mdo (kread (σ 35) L 24 0 0 (gx, gk, gf, gs)).2.2.1 (kread (σ 35) L 24 0 0 (gx, gk, gf, gs)).2.2.2.1 (kread (σ 35) L 24 0 0 (gx, gk, gf, gs)).2.2.2.2 N σ) b1 b2 b3 b4 b5) := by
                                        have hRR := hRd.trans (kread_D (by omega) hR hu h9)
                                        rw [show 24 - (k + 1) = 0 by omega] at hRR
                                        have hRR : (kread (σ 35) L 24 0 0 (gx, gk, gf, gs)) = (nI (ktok (σ 35) L (kcT (σ 35) L E5).2).1, krq (σ 35) L k E5 (qx5, qk5, qf5, qs5)) := hRR
                                        exact absurd (hyes.symm.trans (congrArg Prod.fst hRR)) (fun q => nI_nm1 (j := (ktok (σ 35) L (kcT (σ 35) L E5).2).1) (show (ktok (σ 35) L (kcT (σ 35) L E5).2).1 < 2147483648 by omega) q.symm)
                                      exact kRi F hr hlocks hS164 dX9_goesThrough_220 σ_163 q178 hP164 hD164
                        · exact absurd (by decide) c158
                      · exact absurd c155 (by decide)
                · exact absurd c149 (by decide)
              · exact absurd (by decide) c148
            · exact absurd (by decide) c147
          · exact absurd c144 (by decide)
        · rw [show (kcK (σ 35) L E5) = 4 from hkd]
          have hcA : kcA (σ 35) L E5 = false := by unfold kcA; rw [hkd]; decide
          have hcC : kcC (σ 35) L E5 = true := by unfold kcC; rw [hkd]; decide
          refine lv_istore (lv' := [(4, .int 4), (3, .int 1), (2, .int (nI k)), (0, .ref h), (1, .int 1)]) hx hb dX9_goesThrough_21 hl5 (by decide) rfl (fun ls179 hl179 => ?_)
          clear hl5
          refine lv_iload hx hb dX9_goesThrough_23 (lv_at hl179 0 rfl) ?_
          refine lv_iconst (v := (-1)) hx hb dX9_goesThrough_25 (by decide) ?_
          refine lv_icmp_ne (tgt := 36) hx hb dX9_goesThrough_26 (by decide) (fun c180 => ?_) (fun c180 => ?_)
          · refine lv_aload_n hx hb dX9_goesThrough_36 rfl (lv_at hl179 3 rfl) ?_
            refine kWVv F hK hP9 hD9 hS9 hA hl179.1 (c_X9_reads l G h a σ_6 L ((ktok (σ 35) L E5).2) (by subst g6; subst eσ5; subst eσ1; exact h36) lL (by subst g6; subst eσ5; subst eσ1; rfl) hb1.2) 9 0 gX9_goesThrough_X9_reads rfl 0 rfl (by decide +kernel) ⟨Nat.le_of_ble_eq_true rfl, Nat.le_of_ble_eq_true rfl⟩ ⟨Nat.zero_le _, Nat.zero_le _⟩ rfl rfl (Nat.le_of_ble_eq_true rfl) rfl dX9_goesThrough_37 (fun σ_181 H182 locs182 hw181 (hP182 : va_P G.1 vwCl (mW G h a σ_181) H182) (hD182 : va_D A (mW G h a σ_181)) hS182 => ?_)
            clear hP9 hD9 hS9
            have w181_0 : σ_181 = mreads σ_6 L ((ktok (σ 35) L E5).2) := hw181
            have g181 : σ_181 = mrt (σ 35) L ((ktok (σ 35) L E5).2) (mdo qk5 qf5 qs5 k σ) := w181_0.trans (by rw [g6]; exact mreads_mrw h35)
            clear w181_0
            refine lv_aload_n hx hb dX9_goesThrough_40 rfl (lv_at hl179 3 rfl) ?_
            refine lv_iload hx hb dX9_goesThrough_41 (lv_at hl179 0 rfl) ?_
            refine lv_iconst (v := 2) hx hb dX9_goesThrough_43 (by decide) ?_
            refine lv_icmp_ge (tgt := 51) hx hb dX9_goesThrough_44 (by decide) (fun c183 => ?_) (fun c183 => ?_)
            · refine lv_iconst (v := 0) hx hb dX9_goesThrough_51 (by decide) ?_
              refine lv_iload hx hb dX9_goesThrough_52 (lv_at hl179 0 rfl) ?_
              refine lv_iconst (v := 2) hx hb dX9_goesThrough_54 (by decide) ?_
              refine lv_icmp_ge (tgt := 63) hx hb dX9_goesThrough_55 (by decide) (fun c184 => ?_) (fun c184 => ?_)
              · refine lv_iload hx hb dX9_goesThrough_63 (lv_at hl179 0 rfl) ?_
                refine lv_iconst (v := 2) hx hb dX9_goesThrough_65 (by decide) ?_
                refine lv_icmp_ne (tgt := 73) hx hb dX9_goesThrough_66 (by decide) (fun c185 => ?_) (fun c185 => ?_)
                · refine lv_iload hx hb dX9_goesThrough_73 (lv_at hl179 0 rfl) ?_
                  refine lv_iconst (v := 3) hx hb dX9_goesThrough_75 (by decide) ?_
                  refine lv_icmp_ne (tgt := 83) hx hb dX9_goesThrough_76 (by decide) (fun c186 => ?_) (fun c186 => ?_)
                  · refine lv_sipush (v := 999) hx hb dX9_goesThrough_83 (by decide) ?_
                    refine kWVi F hK hP182 hD182 hS182 hA hl179.1 (c_X9_isNumber l G h a σ_181 0 999 L ((ktok (σ 35) L (ktok (σ 35) L E5).2).1) (by subst g181; subst g6; subst eσ5; subst eσ1; exact (congrArg (fun z => mtk z L (ktok (σ 35) L (ktok (σ 35) L E5).2).1) h35).symm) (by subst g181; subst g6; subst eσ5; subst eσ1; exact (congrArg (fun z => mvl z L (ktok (σ 35) L (ktok (σ 35) L E5).2).1) h35).symm) (by subst g181; subst g6; subst eσ5; subst eσ1; exact (congrArg (fun z => mdi z L (ktok (σ 35) L (ktok (σ 35) L E5).2).1) h35).symm) lL (by omega) (by decide)) 9 0 gX9_goesThrough_X9_isNumber rfl 2 rfl (by decide +kernel) ⟨Nat.le_of_ble_eq_true rfl, Nat.le_of_ble_eq_true rfl⟩ ⟨Nat.zero_le _, Nat.zero_le _⟩ rfl rfl (Nat.le_of_ble_eq_true rfl) rfl dX9_goesThrough_86 (fun r187 u187 H188 locs188 hw187 (hP188 : va_P G.1 vwCl (mW G h a σ_181) H188) (hD188 : va_D A (mW G h a σ_181)) hS188 => ?_)
                    clear hP182 hD182 hS182
                    have w187_0 : r187 = if knum (σ_181 35) ((ktok (σ 35) L (ktok (σ 35) L E5).2).1) (ktokE (σ_181 35) L ((ktok (σ 35) L (ktok (σ 35) L E5).2).1)) 0 999 = -1 then (0 : Int32) else 1 := hw187
                    have hV : kcV (σ 35) L E5 = knum (σ 35) (ktok (σ 35) L (ktok (σ 35) L E5).2).1 (ktok (σ 35) L (ktok (σ 35) L E5).2).2 0 999 := by unfold kcV; rw [hkd]; rfl
                    have g187 : r187 = if kcV (σ 35) L E5 = -1 then 0 else 1 := (by subst g181; subst g6; subst eσ5; subst eσ1; rw [hV]; exact w187_0.trans (congrArg (fun z => if knum z (ktok (σ 35) L (ktok (σ 35) L E5).2).1 (ktokE z L (ktok (σ 35) L (ktok (σ 35) L E5).2).1) 0 999 = -1 then 0 else 1) h35))
                    clear w187_0
                    subst g187
                    by_cases hVn : kcV (σ 35) L E5 = -1
                    · rw [if_pos hVn]
                      have hcB : kcB (σ 35) L E5 = true := decide_eq_true hVn
                      have hR : kcR (σ 35) L E5 = 0 := by simp only [kcR, hcA, hcB, Bool.false_eq_true, ↓reduceIte]
                      have hcT : kcT (σ 35) L E5 = kc2 (σ 35) L E5 := by simp only [kcT, hcA, hcB, Bool.false_eq_true, ↓reduceIte]
                      refine lv_if_ne (tgt := 99) hx hb dX9_goesThrough_89 (by decide) (fun c189 => ?_) (fun c189 => ?_)
                      · exact absurd (by decide) c189
                      · refine lv_iconst (v := (-1)) hx hb dX9_goesThrough_92 (by decide) ?_
                        refine lv_aload_n hx hb dX9_goesThrough_93 rfl (lv_at hl179 3 rfl) ?_
                        refine kget F hK hP188 9 0 38 iX9 rfl rfl (by decide) (List.mem_of_getElem? (i := 2) rfl) rfl dX9_goesThrough_94 ?_
                        refine lv_isub hx hb dX9_goesThrough_97 ?_
                        have q190 : (((-1) - (σ_181 38 0)) = nI N) ∧ (∃ b1 b2 b3 b4 b5 : Int32, σ_181 = mrw (mdo (kread (σ 35) L 24 0 0 (gx, gk, gf, gs)).2.2.1 (kread (σ 35) L 24 0 0 (gx, gk, gf, gs)).2.2.2.1 (kread (σ 35) L 24 0 0 (gx, gk, gf, gs)).2.2.2.2 N σ) b1 b2 b3 b4 b5) := by
                          have hRR := hRd.trans (kread_A (by omega) hR)
                          rw [hcT] at hRR
                          exact absurd (hyes.symm.trans (congrArg Prod.fst hRR)) (fun q => nI_nm1 (j := (kc2 (σ 35) L E5).1) (Nat.lt_of_le_of_lt (show (kc2 (σ 35) L E5).1 ≤ 200 from Nat.le_trans hb2.1 (Nat.le_trans hb2.2 lL)) (by decide)) q.symm)
                        exact kRi F hr hlocks hS188 dX9_goesThrough_98 σ_181 q190 hP188 hD188
                    · rw [if_neg hVn]
                      have hcB : kcB (σ 35) L E5 = false := decide_eq_false hVn
                      have vV : mvl (σ 35) L (ktok (σ 35) L (ktok (σ 35) L E5).2).1 = kcV (σ 35) L E5 := ((mnum_eq (a := 0) (b := 999) lL (by omega) (by decide)).2 (fun q => hVn (hV.trans q))).trans hV.symm
                      have hR : ¬ kcR (σ 35) L E5 = 0 := by simp only [kcR, hcA, hcB, hcC, Bool.false_eq_true, ↓reduceIte]; decide
                      have hcT : kcT (σ 35) L E5 = kc2 (σ 35) L E5 := by simp only [kcT, hcA, hcB, hcC, Bool.false_eq_true, ↓reduceIte]
                      have hcS : kcS (σ 35) L E5 = 0 := by simp only [kcS, hcC, Bool.false_eq_true, ↓reduceIte]
                      refine lv_if_ne (tgt := 99) hx hb dX9_goesThrough_89 (by decide) (fun c191 => ?_) (fun c191 => ?_)
                      · refine lv_aload_n hx hb dX9_goesThrough_99 rfl (lv_at hl179 3 rfl) ?_
                        refine kget F hK hP188 9 0 40 iX9 rfl rfl (by decide) (List.mem_of_getElem? (i := 3) rfl) rfl dX9_goesThrough_100 ?_
                        rw [show (σ_181 40 0) = (kcV (σ 35) L E5) from (by subst g181; subst g6; subst eσ5; subst eσ1; exact vV)]
                        refine lv_istore (lv' := [(5, .int (kcV (σ 35) L E5)), (4, .int 4), (3, .int 1), (2, .int (nI k)), (0, .ref h), (1, .int 1)]) hx hb dX9_goesThrough_103 hl179 (by decide) rfl (fun ls192 hl192 => ?_)
                        clear hl179
                        refine lv_iconst (v := 0) hx hb dX9_goesThrough_105 (by decide) ?_
                        refine lv_istore (lv' := [(6, .int 0), (5, .int (kcV (σ 35) L E5)), (4, .int 4), (3, .int 1), (2, .int (nI k)), (0, .ref h), (1, .int 1)]) hx hb dX9_goesThrough_106 hl192 (by decide) rfl (fun ls193 hl193 => ?_)
                        clear hl192
                        refine lv_iload hx hb dX9_goesThrough_108 (lv_at hl193 2 rfl) ?_
                        refine lv_iconst (v := 3) hx hb dX9_goesThrough_110 (by decide) ?_
                        refine lv_icmp_ge (tgt := 153) hx hb dX9_goesThrough_111 (by decide) (fun c194 => ?_) (fun c194 => ?_)
                        · refine lv_iload_n hx hb dX9_goesThrough_153 rfl (lv_at hl193 6 rfl) ?_
                          refine lv_if_eq (tgt := 167) hx hb dX9_goesThrough_154 (by decide) (fun c195 => ?_) (fun c195 => ?_)
                          · exact absurd c195 (by decide)
                          · refine lv_aload_n hx hb dX9_goesThrough_157 rfl (lv_at hl193 5 rfl) ?_
                            refine lv_iload hx hb dX9_goesThrough_158 (lv_at hl193 2 rfl) ?_
                            refine lv_iload hx hb dX9_goesThrough_160 (lv_at hl193 1 rfl) ?_
                            refine lv_iload hx hb dX9_goesThrough_162 (lv_at hl193 0 rfl) ?_
                            refine kWVv F hK hP188 hD188 hS188 hA hl193.1 (c_X9_does l G h a σ_181 4 (kcV (σ 35) L E5) 0 (by decide) (fun q => absurd q (by decide))) 9 0 gX9_goesThrough_X9_does rfl 3 rfl (by decide +kernel) ⟨Nat.le_of_ble_eq_true rfl, Nat.le_of_ble_eq_true rfl⟩ ⟨Nat.zero_le _, Nat.zero_le _⟩ rfl rfl (Nat.le_of_ble_eq_true rfl) rfl dX9_goesThrough_164 (fun σ_196 H197 locs197 hw196 (hP197 : va_P G.1 vwCl (mW G h a σ_196) H197) (hD197 : va_D A (mW G h a σ_196)) hS197 => ?_)
                            clear hP188 hD188 hS188
                            have w196_0 : σ_196 = mdoes σ_181 4 (kcV (σ 35) L E5) 0 := hw196
                            have g196 : σ_196 = mrt (σ 35) L (ktok (σ 35) L E5).2 (mdo (kcP qk5 k (kcK (σ 35) L E5) (σ 35) L E5) (kcP qf5 k (kcV (σ 35) L E5) (σ 35) L E5) (kcP qs5 k (kcS (σ 35) L E5) (σ 35) L E5) (k + 1) σ) := w196_0.trans (by rw [g181, mdoes_mrt, mdo_step hcA hcB, hkd, hcS])
                            clear w196_0
                            have k35 : (mdo (kcP qk5 k (kcK (σ 35) L E5) (σ 35) L E5) (kcP qf5 k (kcV (σ 35) L E5) (σ 35) L E5) (kcP qs5 k (kcS (σ 35) L E5) (σ 35) L E5) (k + 1) σ) 35 = (σ 35) := mdo_hi _ _ _ _ (by decide) _
                            have k36 : (mdo (kcP qk5 k (kcK (σ 35) L E5) (σ 35) L E5) (kcP qf5 k (kcV (σ 35) L E5) (σ 35) L E5) (kcP qs5 k (kcS (σ 35) L E5) (σ 35) L E5) (k + 1) σ) 36 0 = nI L := (congrFun (mdo_hi _ _ _ _ (by decide) _) 0).trans hL
                            refine lv_iinc (v := nI (k + 1)) (lv' := [(2, .int (nI (k + 1))), (6, .int 0), (5, .int (kcV (σ 35) L E5)), (4, .int 4), (3, .int 1), (0, .ref h), (1, .int 1)]) hx hb dX9_goesThrough_167 hl193 (k := 4) rfl (nI_1 _) (by decide) rfl (fun ls198 hl198 => ?_)
                            clear hl193
                            refine lv_aload_n hx hb dX9_goesThrough_170 rfl (lv_at hl198 5 rfl) ?_
                            refine kWVv F hK hP197 hD197 hS197 hA hl198.1 (c_X9_reads l G h a σ_196 L ((kcT (σ 35) L E5).2) (by subst g196; subst g181; subst g6; subst eσ5; subst eσ1; exact k36) lL (by subst g196; subst g181; subst g6; subst eσ5; subst eσ1; rw [hcT]; rfl) hbT.2) 9 0 gX9_goesThrough_X9_reads rfl 0 rfl (by decide +kernel) ⟨Nat.le_of_ble_eq_true rfl, Nat.le_of_ble_eq_true rfl⟩ ⟨Nat.zero_le _, Nat.zero_le _⟩ rfl rfl (Nat.le_of_ble_eq_true rfl) rfl dX9_goesThrough_171 (fun σ_199 H200 locs200 hw199 (hP200 : va_P G.1 vwCl (mW G h a σ_199) H200) (hD200 : va_D A (mW G h a σ_199)) hS200 => ?_)
                            clear hP197 hD197 hS197
                            have w199_0 : σ_199 = mreads σ_196 L ((kcT (σ 35) L E5).2) := hw199
                            have g199 : σ_199 = mrt (σ 35) L ((kcT (σ 35) L E5).2) (mdo (kcP qk5 k (kcK (σ 35) L E5) (σ 35) L E5) (kcP qf5 k (kcV (σ 35) L E5) (σ 35) L E5) (kcP qs5 k (kcS (σ 35) L E5) (σ 35) L E5) (k + 1) σ) := w199_0.trans (by rw [g196]; exact mreads_mrw k35)
                            clear w199_0
                            refine lv_aload_n hx hb dX9_goesThrough_174 rfl (lv_at hl198 5 rfl) ?_
                            refine kget F hK hP200 9 0 39 iX9 rfl rfl (by decide) (List.mem_of_getElem? (i := 4) rfl) rfl dX9_goesThrough_175 ?_
                            rw [show (σ_199 39 0) = (mtk (σ 35) L (ktok (σ 35) L (kcT (σ 35) L E5).2).1) from (by subst g199; subst g196; subst g181; subst g6; subst eσ5; subst eσ1; rfl)]
                            refine lv_if_eq (tgt := 185) hx hb dX9_goesThrough_178 (by decide) (fun c201 => ?_) (fun c201 => ?_)
                            · have hu := mtk0 (xl := (σ 35)) (L := L) (u := (ktok (σ 35) L (kcT (σ 35) L E5).2).1) (by omega) c201
                              refine lv_iconst (v := 0) hx hb dX9_goesThrough_185 (by decide) ?_
                              refine lv_istore_n (lv' := [(3, .int 0), (2, .int (nI (k + 1))), (6, .int 0), (5, .int (kcV (σ 35) L E5)), (4, .int 4), (0, .ref h), (1, .int 1)]) hx hb dX9_goesThrough_186 rfl hl198 (by decide) rfl (fun ls202 hl202 => ?_)
                              clear hl198
                              refine lv_iload_n hx hb dX9_goesThrough_187 rfl (lv_at hl202 0 rfl) ?_
                              refine lv_if_eq (tgt := 221) hx hb dX9_goesThrough_188 (by decide) (fun c203 => ?_) (fun c203 => ?_)
                              · refine lv_goto (tgt := 9) hx hb dX9_goesThrough_221 (by decide) ?_
                                refine lv_iload_n hx hb dX9_goesThrough_9 rfl (lv_at hl202 0 rfl) ?_
                                refine lv_if_eq (tgt := 224) hx hb dX9_goesThrough_10 (by decide) (fun c204 => ?_) (fun c204 => ?_)
                                · refine lv_iload_n hx hb dX9_goesThrough_224 rfl (lv_at hl202 1 rfl) ?_
                                  have q205 : ((nI (k + 1)) = nI N) ∧ (∃ b1 b2 b3 b4 b5 : Int32, σ_199 = mrw (mdo (kread (σ 35) L 24 0 0 (gx, gk, gf, gs)).2.2.1 (kread (σ 35) L 24 0 0 (gx, gk, gf, gs)).2.2.2.1 (kread (σ 35) L 24 0 0 (gx, gk, gf, gs)).2.2.2.2 N σ) b1 b2 b3 b4 b5) := by
                                    have hRR := hRd.trans (kread_B (by omega) hR hu)
                                    have hn1 : nI (k + 1) = nI N := by
                                      rw [← hN, hRR]
                                      show nI (k + 1) = qx5 5 + 1
                                      rw [hq5, nI_1]
                                    have hkN : k + 1 = N := (nI_eq (by omega) (by omega)).mp hn1
                                    subst hkN
                                    subst g199
                                    subst g196
                                    subst g181
                                    subst g6
                                    subst eσ5
                                    subst eσ1
                                    refine ⟨rfl, ?_⟩
                                    rw [hRR]
                                    exact ⟨_, _, _, _, _, rfl⟩
                                  exact kRi F hr hlocks hS200 dX9_goesThrough_225 σ_199 q205 hP200 hD200
                                · exact absurd (by decide) c204
                              · exact absurd (by decide) c203
                            · have hu := mtkL (xl := (σ 35)) (L := L) (u := (ktok (σ 35) L (kcT (σ 35) L E5).2).1) c201
                              refine lv_iconst (v := 1) hx hb dX9_goesThrough_181 (by decide) ?_
                              refine lv_goto (tgt := 186) hx hb dX9_goesThrough_182 (by decide) ?_
                              refine lv_istore_n (lv' := [(3, .int 1), (2, .int (nI (k + 1))), (6, .int 0), (5, .int (kcV (σ 35) L E5)), (4, .int 4), (0, .ref h), (1, .int 1)]) hx hb dX9_goesThrough_186 rfl hl198 (by decide) rfl (fun ls206 hl206 => ?_)
                              clear hl198
                              refine lv_iload_n hx hb dX9_goesThrough_187 rfl (lv_at hl206 0 rfl) ?_
                              refine lv_if_eq (tgt := 221) hx hb dX9_goesThrough_188 (by decide) (fun c207 => ?_) (fun c207 => ?_)
                              · exact absurd c207 (by decide)
                              · refine lv_aload_n hx hb dX9_goesThrough_191 rfl (lv_at hl206 5 rfl) ?_
                                refine kget F hK hP200 9 0 39 iX9 rfl rfl (by decide) (List.mem_of_getElem? (i := 4) rfl) rfl dX9_goesThrough_192 ?_
                                rw [show (σ_199 39 0) = (mtk (σ 35) L (ktok (σ 35) L (kcT (σ 35) L E5).2).1) from (by subst g199; subst g196; subst g181; subst g6; subst eσ5; subst eσ1; rfl)]
                                refine lv_iconst (v := 3) hx hb dX9_goesThrough_195 (by decide) ?_
                                refine lv_icmp_ne (tgt := 214) hx hb dX9_goesThrough_196 (by decide) (fun c208 => ?_) (fun c208 => ?_)
                                · have h9 := mtk59 (xl := (σ 35)) (L := L) (u := (ktok (σ 35) L (kcT (σ 35) L E5).2).1) (by omega) c208
                                  refine lv_iconst (v := (-1)) hx hb dX9_goesThrough_214 (by decide) ?_
                                  refine lv_aload_n hx hb dX9_goesThrough_215 rfl (lv_at hl206 5 rfl) ?_
                                  refine kget F hK hP200 9 0 38 iX9 rfl rfl (by decide) (List.mem_of_getElem? (i := 2) rfl) rfl dX9_goesThrough_216 ?_
                                  refine lv_isub hx hb dX9_goesThrough_219 ?_
                                  have q209 : (((-1) - (σ_199 38 0)) = nI N) ∧ (∃ b1 b2 b3 b4 b5 : Int32, σ_199 = mrw (mdo (kread (σ 35) L 24 0 0 (gx, gk, gf, gs)).2.2.1 (kread (σ 35) L 24 0 0 (gx, gk, gf, gs)).2.2.2.1 (kread (σ 35) L 24 0 0 (gx, gk, gf, gs)).2.2.2.2 N σ) b1 b2 b3 b4 b5) := by
                                    have hRR := hRd.trans (kread_C (by omega) hR hu h9)
                                    exact absurd (hyes.symm.trans (congrArg Prod.fst hRR)) (fun q => nI_nm1 (j := (ktok (σ 35) L (kcT (σ 35) L E5).2).1) (show (ktok (σ 35) L (kcT (σ 35) L E5).2).1 < 2147483648 by omega) q.symm)
                                  exact kRi F hr hlocks hS200 dX9_goesThrough_220 σ_199 q209 hP200 hD200
                                · have h3 := mvl3 (xl := (σ 35)) (L := L) (u := (ktok (σ 35) L (kcT (σ 35) L E5).2).1) (by omega) c208
                                  refine lv_aload_n hx hb dX9_goesThrough_199 rfl (lv_at hl206 5 rfl) ?_
                                  refine kget F hK hP200 9 0 40 iX9 rfl rfl (by decide) (List.mem_of_getElem? (i := 3) rfl) rfl dX9_goesThrough_200 ?_
                                  rw [show (σ_199 40 0) = (mvl (σ 35) L (ktok (σ 35) L (kcT (σ 35) L E5).2).1) from (by subst g199; subst g196; subst g181; subst g6; subst eσ5; subst eσ1; rfl)]
                                  refine lv_bipush (v := 59) hx hb dX9_goesThrough_203 (by decide) ?_
                                  refine lv_icmp_ne (tgt := 214) hx hb dX9_goesThrough_205 (by decide) (fun c210 => ?_) (fun c210 => ?_)
                                  · have h9 : ¬ (σ 35) (ktok (σ 35) L (kcT (σ 35) L E5).2).1 = 59 := fun q => c210 (h3.trans q)
                                    refine lv_iconst (v := (-1)) hx hb dX9_goesThrough_214 (by decide) ?_
                                    refine lv_aload_n hx hb dX9_goesThrough_215 rfl (lv_at hl206 5 rfl) ?_
                                    refine kget F hK hP200 9 0 38 iX9 rfl rfl (by decide) (List.mem_of_getElem? (i := 2) rfl) rfl dX9_goesThrough_216 ?_
                                    refine lv_isub hx hb dX9_goesThrough_219 ?_
                                    have q211 : (((-1) - (σ_199 38 0)) = nI N) ∧ (∃ b1 b2 b3 b4 b5 : Int32, σ_199 = mrw (mdo (kread (σ 35) L 24 0 0 (gx, gk, gf, gs)).2.2.1 (kread (σ 35) L 24 0 0 (gx, gk, gf, gs)).2.2.2.1 (kread (σ 35) L 24 0 0 (gx, gk, gf, gs)).2.2.2.2 N σ) b1 b2 b3 b4 b5) := by
                                      have hRR := hRd.trans (kread_C (by omega) hR hu h9)
                                      exact absurd (hyes.symm.trans (congrArg Prod.fst hRR)) (fun q => nI_nm1 (j := (ktok (σ 35) L (kcT (σ 35) L E5).2).1) (show (ktok (σ 35) L (kcT (σ 35) L E5).2).1 < 2147483648 by omega) q.symm)
                                    exact kRi F hr hlocks hS200 dX9_goesThrough_220 σ_199 q211 hP200 hD200
                                  · have h9 : (σ 35) (ktok (σ 35) L (kcT (σ 35) L E5).2).1 = 59 := h3.symm.trans c210
                                    refine lv_iload_n hx hb dX9_goesThrough_208 rfl (lv_at hl206 1 rfl) ?_
                                    refine lv_bipush (v := 24) hx hb dX9_goesThrough_209 (by decide) ?_
                                    refine lv_icmp_ne (tgt := 221) hx hb dX9_goesThrough_211 (by decide) (fun c212 => ?_) (fun c212 => ?_)
                                    · have h24 : ¬ k + 1 = 24 := fun q => c212 (by rw [q]; rfl)
                                      refine lv_goto (tgt := 9) hx hb dX9_goesThrough_221 (by decide) ?_
                                      refine lv_iload_n hx hb dX9_goesThrough_9 rfl (lv_at hl206 0 rfl) ?_
                                      refine lv_if_eq (tgt := 224) hx hb dX9_goesThrough_10 (by decide) (fun c213 => ?_) (fun c213 => ?_)
                                      · exact absurd c213 (by decide)
                                      · exact ih (k + 1) (by omega) (by omega) ((ktok (σ 35) L (kcT (σ 35) L E5).2).2) (krx (σ 35) L E5 qx5) (kcP qk5 k (kcK (σ 35) L E5) (σ 35) L E5) (kcP qf5 k (kcV (σ 35) L E5) (σ 35) L E5) (kcP qs5 k (kcS (σ 35) L E5) (σ 35) L E5) (nI (ktok (σ 35) L (kcT (σ 35) L E5).2).1) (mtk (σ 35) L (ktok (σ 35) L (kcT (σ 35) L E5).2).1) (mvl (σ 35) L (ktok (σ 35) L (kcT (σ 35) L E5).2).1) (mdi (σ 35) L (ktok (σ 35) L (kcT (σ 35) L E5).2).1) σ_199 g199 hbu.2 (by show qx5 5 + 1 = _; rw [hq5, nI_1]) (hRd.trans (kread_D (by omega) hR hu h9)) _ _ _ (lv_sub hl206 [0, 1, 5, 6] rfl) hP200 hD200 hS200
                                    · have h24 : k + 1 = 24 := (nI_eq (a := k + 1) (b := 24) (by omega) (by omega)).mp c212
                                      refine lv_iconst (v := (-1)) hx hb dX9_goesThrough_214 (by decide) ?_
                                      refine lv_aload_n hx hb dX9_goesThrough_215 rfl (lv_at hl206 5 rfl) ?_
                                      refine kget F hK hP200 9 0 38 iX9 rfl rfl (by decide) (List.mem_of_getElem? (i := 2) rfl) rfl dX9_goesThrough_216 ?_
                                      refine lv_isub hx hb dX9_goesThrough_219 ?_
                                      have q214 : (((-1) - (σ_199 38 0)) = nI N) ∧ (∃ b1 b2 b3 b4 b5 : Int32, σ_199 = mrw (mdo (kread (σ 35) L 24 0 0 (gx, gk, gf, gs)).2.2.1 (kread (σ 35) L 24 0 0 (gx, gk, gf, gs)).2.2.2.1 (kread (σ 35) L 24 0 0 (gx, gk, gf, gs)).2.2.2.2 N σ) b1 b2 b3 b4 b5) := by
                                        have hRR := hRd.trans (kread_D (by omega) hR hu h9)
                                        rw [show 24 - (k + 1) = 0 by omega] at hRR
                                        have hRR : (kread (σ 35) L 24 0 0 (gx, gk, gf, gs)) = (nI (ktok (σ 35) L (kcT (σ 35) L E5).2).1, krq (σ 35) L k E5 (qx5, qk5, qf5, qs5)) := hRR
                                        exact absurd (hyes.symm.trans (congrArg Prod.fst hRR)) (fun q => nI_nm1 (j := (ktok (σ 35) L (kcT (σ 35) L E5).2).1) (show (ktok (σ 35) L (kcT (σ 35) L E5).2).1 < 2147483648 by omega) q.symm)
                                      exact kRi F hr hlocks hS200 dX9_goesThrough_220 σ_199 q214 hP200 hD200
                        · exact absurd (by decide) c194
                      · exact absurd c191 (by decide)
                  · exact absurd c186 (by decide)
                · exact absurd c185 (by decide)
              · exact absurd (by decide) c184
            · exact absurd (by decide) c183
          · exact absurd c180 (by decide)
    exact LOOP5 (23 + 1) 0 (by omega) (by omega) 0 gx gk gf gs (σ 38 0) (σ 39 0) (σ 40 0) (σ 41 0) σ1 (by subst eσ1; exact mrw_at _ _) (Nat.zero_le _) h5 rfl _ _ _ hl3 hP1 hD1 hS1
