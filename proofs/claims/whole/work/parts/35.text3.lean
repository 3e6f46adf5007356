set_option maxHeartbeats 4000000 in
set_option maxRecDepth 100000 in
theorem c_X6_nextToken (l : Launch) (G : kG) (tx : Nat) (yl : Nat) (yk : Nat) (yf : Nat) (ys : Nat) (x : Nat → Int32) (xl : Nat → Int32) (L : Nat) (E : Nat) (hL : x 1 = nI L) (lL : L ≤ 200) (hE : x 7 = nI E) (hEL : E ≤ L) : kM G l yX6_nextToken wsX6_nextToken ({ frames := 1, cells := 0, slots := 0, locals := 21 }) [.ref tx] ([oTx tx yl yk yf ys x, aI G yl 200 xl]) (kQv G (fun (uu : (Nat → Int32)) => uu = upd (upd x 6 (nI (ktok xl L E).1)) 7 (nI (ktok xl L E).2)) (fun (uu : (Nat → Int32)) => [oTx tx yl yk yf ys uu, aI G yl 200 xl])) := by
  refine kStart (cc := cX6_nextToken) (maxL := 1) (ret := none) (by decide) rfl (Nat.le_of_ble_eq_true rfl) (fun pg ev st mi bl mt cd A ls0 F hr hlocks hin hK hP0 hD0 hA hS0 hl0 => ?_)
  obtain ⟨hx, hb, hml, hown, hts⟩ := id F
  have hl0 : lv_has ls0 1 [(0, .ref tx)] := hl0
  have iX6 : ∀ w ∈ u_ws RX6 TX6 8, w ∈ wsX6_nextToken := fun w h => List.mem_cons_of_mem _ (List.mem_append_right _ h)
  refine lv_aload_n hx hb dX6_nextToken_0 rfl (lv_at hl0 0 rfl) ?_
  refine lv_aload_n hx hb dX6_nextToken_1 rfl (lv_at hl0 0 rfl) ?_
  refine kget F hK hP0 6 0 7 iX6 rfl rfl (by decide) (List.mem_of_getElem? (i := 1) rfl) rfl dX6_nextToken_2 ?_
  refine kput F hK hP0 hD0 hS0 (ty0 := tyX6) 6 0 6 iX6 rfl tyX6_ok nmX6 (fun zz => [oTx tx yl yk yf ys zz, aI G yl 200 xl]) x rfl (by decide) (List.mem_of_getElem? (i := 2) rfl) rfl rfl rfl (Nat.le_of_ble_eq_true rfl) rfl dX6_nextToken_5 (fun H1 locs1 x1 ex1 (hP1 : va_P G.1 vwCl ([oTx tx yl yk yf ys x1, aI G yl 200 xl]) H1) (hD1 : va_D A ([oTx tx yl yk yf ys x1, aI G yl 200 xl])) hS1 => ?_)
  clear hP0 hD0 hS0
  have LOOP2 : ∀ (fu k : Nat), k ≤ L → L + 1 ≤ k + fu → ∀ x2 : Nat → Int32, x2 = upd x 6 (nI k) → (kscan ksp xl L E = kscan ksp xl L k) → ∀ (H2 : Heap) (locs2 : List Loc) (ls2 : Array Slot), lv_has ls2 1 [(0, .ref tx)] → va_P G.1 vwCl ([oTx tx yl yk yf ys x2, aI G yl 200 xl]) H2 → va_D A ([oTx tx yl yk yf ys x2, aI G yl 200 xl]) → va_S A st.heap H2 locs2 → W pg l ev ({ frames := 1, cells := 0, slots := 0, locals := 21 }) st mi ([.ref tx] : List Value).toArray bl mt cd H2 locs2 0 0 (MQ bl (kQv G (fun (uu : (Nat → Int32)) => uu = upd (upd x 6 (nI (ktok xl L E).1)) 7 (nI (ktok xl L E).2)) (fun (uu : (Nat → Int32)) => [oTx tx yl yk yf ys uu, aI G yl 200 xl]) A) ([.ref tx] : List Value).toArray st 0 0 A) (F0 mi 8 ls2 []) := by
    intro fu
    induction fu with
    | zero => intro k h1 h2; exact absurd h2 (by omega)
    | succ fu ih =>
      intro k hk hnk x2 ex2 hI H2 locs2 ls2 hl2 hP2 hD2 hS2
      refine lv_aload_n hx hb dX6_nextToken_8 rfl (lv_at hl2 0 rfl) ?_
      refine kget F hK hP2 6 0 6 iX6 rfl rfl (by decide) (List.mem_of_getElem? (i := 2) rfl) rfl dX6_nextToken_9 ?_
      refine lv_aload_n hx hb dX6_nextToken_12 rfl (lv_at hl2 0 rfl) ?_
      refine kget F hK hP2 6 0 1 iX6 rfl rfl (by decide) (List.mem_of_getElem? (i := 3) rfl) rfl dX6_nextToken_13 ?_
      refine lv_icmp_ge (tgt := 45) hx hb dX6_nextToken_16 (by decide) (fun c3 => ?_) (fun c3 => ?_)
      · have lE : L ≤ k := by subst ex2; subst ex1; exact (nI_leI (a := L) (b := k) (by omega) (by omega)).mp (by rw [← hL]; exact c3)
        have hS := hI.trans (kscan_end lE)
        refine lv_aload_n hx hb dX6_nextToken_45 rfl (lv_at hl2 0 rfl) ?_
        refine lv_aload_n hx hb dX6_nextToken_46 rfl (lv_at hl2 0 rfl) ?_
        refine kget F hK hP2 6 0 6 iX6 rfl rfl (by decide) (List.mem_of_getElem? (i := 2) rfl) rfl dX6_nextToken_47 ?_
        refine kput F hK hP2 hD2 hS2 (ty0 := tyX6) 6 0 7 iX6 rfl tyX6_ok nmX6 (fun zz => [oTx tx yl yk yf ys zz, aI G yl 200 xl]) x2 rfl (by decide) (List.mem_of_getElem? (i := 1) rfl) rfl rfl rfl (Nat.le_of_ble_eq_true rfl) rfl dX6_nextToken_50 (fun H4 locs4 x4 ex4 (hP4 : va_P G.1 vwCl ([oTx tx yl yk yf ys x4, aI G yl 200 xl]) H4) (hD4 : va_D A ([oTx tx yl yk yf ys x4, aI G yl 200 xl])) hS4 => ?_)
        clear hP2 hD2 hS2
        refine lv_aload_n hx hb dX6_nextToken_53 rfl (lv_at hl2 0 rfl) ?_
        refine lv_aload_n hx hb dX6_nextToken_54 rfl (lv_at hl2 0 rfl) ?_
        refine kget F hK hP4 6 0 6 iX6 rfl rfl (by decide) (List.mem_of_getElem? (i := 2) rfl) rfl dX6_nextToken_55 ?_
        rw [show (x4 6) = nI k from by subst ex4; subst ex2; subst ex1; rfl]
        refine kVi (wr := []) F hK hP4 hD4 hS4 hA hl2.1 (c_X6_letterAt l G tx yl yk yf ys x4 xl L k (by subst ex4; subst ex2; subst ex1; exact hL) lL (by omega)) [0, 1] [] 6 0 gX6_nextToken_X6_letterAt rfl 1 rfl (by decide +kernel) ⟨Nat.le_of_ble_eq_true rfl, Nat.le_of_ble_eq_true rfl⟩ ⟨Nat.zero_le _, Nat.zero_le _⟩ rfl rfl rfl rfl (by decide) (by decide) (by decide) (Nat.le_of_ble_eq_true rfl) rfl dX6_nextToken_58 (fun r5 u5 H6 locs6 hw5 (hP6 : va_P G.1 vwCl ([oTx tx yl yk yf ys x4, aI G yl 200 xl]) H6) (hD6 : va_D A ([oTx tx yl yk yf ys x4, aI G yl 200 xl])) hS6 => ?_)
        clear hP4 hD4 hS4
        have w5_0 : r5 = if k < L then xl k else -1 := hw5
        have g5 : r5 = (-1) := w5_0.trans (if_neg (by omega))
        clear w5_0
        subst g5
        refine kPSi F hK hP6 hD6 hS6 hA hl2.1 (c_X6_isSmall l G (-1)) (fun _ => rfl) gX6_nextToken_X6_isSmall rfl 1 rfl (by decide +kernel) ⟨Nat.le_of_ble_eq_true rfl, Nat.le_of_ble_eq_true rfl⟩ ⟨Nat.zero_le _, Nat.zero_le _⟩ (Nat.le_of_ble_eq_true rfl) rfl dX6_nextToken_61 (fun r7 u7 H8 locs8 hw7 (hP8 : va_P G.1 vwCl ([oTx tx yl yk yf ys x4, aI G yl 200 xl]) H8) (hD8 : va_D A ([oTx tx yl yk yf ys x4, aI G yl 200 xl])) hS8 => ?_)
        clear hP6 hD6 hS6
        have w7_0 : r7 = ksmall (-1) := hw7
        have g7 : r7 = 0 := w7_0.trans (by decide)
        clear w7_0
        subst g7
        refine lv_if_eq (tgt := 105) hx hb dX6_nextToken_64 (by decide) (fun c9 => ?_) (fun c9 => ?_)
        · refine lv_aload_n hx hb dX6_nextToken_105 rfl (lv_at hl2 0 rfl) ?_
          refine lv_aload_n hx hb dX6_nextToken_106 rfl (lv_at hl2 0 rfl) ?_
          refine kget F hK hP8 6 0 6 iX6 rfl rfl (by decide) (List.mem_of_getElem? (i := 2) rfl) rfl dX6_nextToken_107 ?_
          rw [show (x4 6) = nI k from by subst ex4; subst ex2; subst ex1; rfl]
          refine kVi (wr := []) F hK hP8 hD8 hS8 hA hl2.1 (c_X6_letterAt l G tx yl yk yf ys x4 xl L k (by subst ex4; subst ex2; subst ex1; exact hL) lL (by omega)) [0, 1] [] 6 0 gX6_nextToken_X6_letterAt rfl 1 rfl (by decide +kernel) ⟨Nat.le_of_ble_eq_true rfl, Nat.le_of_ble_eq_true rfl⟩ ⟨Nat.zero_le _, Nat.zero_le _⟩ rfl rfl rfl rfl (by decide) (by decide) (by decide) (Nat.le_of_ble_eq_true rfl) rfl dX6_nextToken_110 (fun r10 u10 H11 locs11 hw10 (hP11 : va_P G.1 vwCl ([oTx tx yl yk yf ys x4, aI G yl 200 xl]) H11) (hD11 : va_D A ([oTx tx yl yk yf ys x4, aI G yl 200 xl])) hS11 => ?_)
          clear hP8 hD8 hS8
          have w10_0 : r10 = if k < L then xl k else -1 := hw10
          have g10 : r10 = (-1) := w10_0.trans (if_neg (by omega))
          clear w10_0
          subst g10
          refine kPSi F hK hP11 hD11 hS11 hA hl2.1 (c_X6_isDigit l G (-1)) (fun _ => rfl) gX6_nextToken_X6_isDigit rfl 1 rfl (by decide +kernel) ⟨Nat.le_of_ble_eq_true rfl, Nat.le_of_ble_eq_true rfl⟩ ⟨Nat.zero_le _, Nat.zero_le _⟩ (Nat.le_of_ble_eq_true rfl) rfl dX6_nextToken_113 (fun r12 u12 H13 locs13 hw12 (hP13 : va_P G.1 vwCl ([oTx tx yl yk yf ys x4, aI G yl 200 xl]) H13) (hD13 : va_D A ([oTx tx yl yk yf ys x4, aI G yl 200 xl])) hS13 => ?_)
          clear hP11 hD11 hS11
          have w12_0 : r12 = kdigit (-1) := hw12
          have g12 : r12 = 0 := w12_0.trans (by decide)
          clear w12_0
          subst g12
          refine lv_if_eq (tgt := 157) hx hb dX6_nextToken_116 (by decide) (fun c14 => ?_) (fun c14 => ?_)
          · refine lv_aload_n hx hb dX6_nextToken_157 rfl (lv_at hl2 0 rfl) ?_
            refine kget F hK hP13 6 0 6 iX6 rfl rfl (by decide) (List.mem_of_getElem? (i := 2) rfl) rfl dX6_nextToken_158 ?_
            refine lv_aload_n hx hb dX6_nextToken_161 rfl (lv_at hl2 0 rfl) ?_
            refine kget F hK hP13 6 0 1 iX6 rfl rfl (by decide) (List.mem_of_getElem? (i := 3) rfl) rfl dX6_nextToken_162 ?_
            refine lv_icmp_ge (tgt := 178) hx hb dX6_nextToken_165 (by decide) (fun c15 => ?_) (fun c15 => ?_)
            · have q16 : x4 = upd (upd x 6 (nI (ktok xl L E).1)) 7 (nI (ktok xl L E).2) := by
                subst ex4
                subst ex2
                subst ex1
                rw [ktok_at hS]
                rw [show ktokE xl L k = k from ktokE_A lE]
                rfl
              exact kRv F hr hlocks hS13 dX6_nextToken_178 x4 q16 hP13 hD13
            · exact absurd (show nI L ≤ nI k from (nI_leI (a := L) (b := k) (by omega) (by omega)).mpr lE) (by rw [← hL]; subst ex4; subst ex2; subst ex1; exact c15)
          · exact absurd (by decide) c14
        · exact absurd (by decide) c9
      · have lE : k < L := by subst ex2; subst ex1; exact Nat.lt_of_not_le (fun q => c3 (by show x 1 ≤ nI k; rw [hL]; exact (nI_leI (a := L) (b := k) (by omega) (by omega)).mpr q))
        refine lv_aload_n hx hb dX6_nextToken_19 rfl (lv_at hl2 0 rfl) ?_
        refine lv_aload_n hx hb dX6_nextToken_20 rfl (lv_at hl2 0 rfl) ?_
        refine kget F hK hP2 6 0 6 iX6 rfl rfl (by decide) (List.mem_of_getElem? (i := 2) rfl) rfl dX6_nextToken_21 ?_
        rw [show (x2 6) = nI k from by subst ex2; subst ex1; rfl]
        refine kVi (wr := []) F hK hP2 hD2 hS2 hA hl2.1 (c_X6_letterAt l G tx yl yk yf ys x2 xl L k (by subst ex2; subst ex1; exact hL) lL (by omega)) [0, 1] [] 6 0 gX6_nextToken_X6_letterAt rfl 1 rfl (by decide +kernel) ⟨Nat.le_of_ble_eq_true rfl, Nat.le_of_ble_eq_true rfl⟩ ⟨Nat.zero_le _, Nat.zero_le _⟩ rfl rfl rfl rfl (by decide) (by decide) (by decide) (Nat.le_of_ble_eq_true rfl) rfl dX6_nextToken_24 (fun r17 u17 H18 locs18 hw17 (hP18 : va_P G.1 vwCl ([oTx tx yl yk yf ys x2, aI G yl 200 xl]) H18) (hD18 : va_D A ([oTx tx yl yk yf ys x2, aI G yl 200 xl])) hS18 => ?_)
        clear hP2 hD2 hS2
        have w17_0 : r17 = if k < L then xl k else -1 := hw17
        have g17 : r17 = xl k := w17_0.trans (if_pos (by omega))
        clear w17_0
        subst g17
        refine lv_bipush (v := 32) hx hb dX6_nextToken_27 (by decide) ?_
        refine lv_icmp_ne (tgt := 45) hx hb dX6_nextToken_29 (by decide) (fun c19 => ?_) (fun c19 => ?_)
        · have hS := hI.trans (kscan_no (L := L) (ksp_f c19))
          refine lv_aload_n hx hb dX6_nextToken_45 rfl (lv_at hl2 0 rfl) ?_
          refine lv_aload_n hx hb dX6_nextToken_46 rfl (lv_at hl2 0 rfl) ?_
          refine kget F hK hP18 6 0 6 iX6 rfl rfl (by decide) (List.mem_of_getElem? (i := 2) rfl) rfl dX6_nextToken_47 ?_
          refine kput F hK hP18 hD18 hS18 (ty0 := tyX6) 6 0 7 iX6 rfl tyX6_ok nmX6 (fun zz => [oTx tx yl yk yf ys zz, aI G yl 200 xl]) x2 rfl (by decide) (List.mem_of_getElem? (i := 1) rfl) rfl rfl rfl (Nat.le_of_ble_eq_true rfl) rfl dX6_nextToken_50 (fun H20 locs20 x20 ex20 (hP20 : va_P G.1 vwCl ([oTx tx yl yk yf ys x20, aI G yl 200 xl]) H20) (hD20 : va_D A ([oTx tx yl yk yf ys x20, aI G yl 200 xl])) hS20 => ?_)
          clear hP18 hD18 hS18
          refine lv_aload_n hx hb dX6_nextToken_53 rfl (lv_at hl2 0 rfl) ?_
          refine lv_aload_n hx hb dX6_nextToken_54 rfl (lv_at hl2 0 rfl) ?_
          refine kget F hK hP20 6 0 6 iX6 rfl rfl (by decide) (List.mem_of_getElem? (i := 2) rfl) rfl dX6_nextToken_55 ?_
          rw [show (x20 6) = nI k from by subst ex20; subst ex2; subst ex1; rfl]
          refine kVi (wr := []) F hK hP20 hD20 hS20 hA hl2.1 (c_X6_letterAt l G tx yl yk yf ys x20 xl L k (by subst ex20; subst ex2; subst ex1; exact hL) lL (by omega)) [0, 1] [] 6 0 gX6_nextToken_X6_letterAt rfl 1 rfl (by decide +kernel) ⟨Nat.le_of_ble_eq_true rfl, Nat.le_of_ble_eq_true rfl⟩ ⟨Nat.zero_le _, Nat.zero_le _⟩ rfl rfl rfl rfl (by decide) (by decide) (by decide) (Nat.le_of_ble_eq_true rfl) rfl dX6_nextToken_58 (fun r21 u21 H22 locs22 hw21 (hP22 : va_P G.1 vwCl ([oTx tx yl yk yf ys x20, aI G yl 200 xl]) H22) (hD22 : va_D A ([oTx tx yl yk yf ys x20, aI G yl 200 xl])) hS22 => ?_)
          clear hP20 hD20 hS20
          have w21_0 : r21 = if k < L then xl k else -1 := hw21
          have g21 : r21 = xl k := w21_0.trans (if_pos (by omega))
          clear w21_0
          subst g21
          refine kPSi F hK hP22 hD22 hS22 hA hl2.1 (c_X6_isSmall l G (xl k)) (fun _ => rfl) gX6_nextToken_X6_isSmall rfl 1 rfl (by decide +kernel) ⟨Nat.le_of_ble_eq_true rfl, Nat.le_of_ble_eq_true rfl⟩ ⟨Nat.zero_le _, Nat.zero_le _⟩ (Nat.le_of_ble_eq_true rfl) rfl dX6_nextToken_61 (fun r23 u23 H24 locs24 hw23 (hP24 : va_P G.1 vwCl ([oTx tx yl yk yf ys x20, aI G yl 200 xl]) H24) (hD24 : va_D A ([oTx tx yl yk yf ys x20, aI G yl 200 xl])) hS24 => ?_)
          clear hP22 hD22 hS22
          have w23_0 : r23 = ksmall (xl k) := hw23
          refine lv_if_eq (tgt := 105) hx hb dX6_nextToken_64 (by decide) (fun c25 => ?_) (fun c25 => ?_)
          · have hs0 : ksm (xl k) = false := by subst w23_0; subst ex20; subst ex2; subst ex1; exact ksm_f c25
            refine lv_aload_n hx hb dX6_nextToken_105 rfl (lv_at hl2 0 rfl) ?_
            refine lv_aload_n hx hb dX6_nextToken_106 rfl (lv_at hl2 0 rfl) ?_
            refine kget F hK hP24 6 0 6 iX6 rfl rfl (by decide) (List.mem_of_getElem? (i := 2) rfl) rfl dX6_nextToken_107 ?_
            rw [show (x20 6) = nI k from by subst w23_0; subst ex20; subst ex2; subst ex1; rfl]
            refine kVi (wr := []) F hK hP24 hD24 hS24 hA hl2.1 (c_X6_letterAt l G tx yl yk yf ys x20 xl L k (by subst w23_0; subst ex20; subst ex2; subst ex1; exact hL) lL (by omega)) [0, 1] [] 6 0 gX6_nextToken_X6_letterAt rfl 1 rfl (by decide +kernel) ⟨Nat.le_of_ble_eq_true rfl, Nat.le_of_ble_eq_true rfl⟩ ⟨Nat.zero_le _, Nat.zero_le _⟩ rfl rfl rfl rfl (by decide) (by decide) (by decide) (Nat.le_of_ble_eq_true rfl) rfl dX6_nextToken_110 (fun r26 u26 H27 locs27 hw26 (hP27 : va_P G.1 vwCl ([oTx tx yl yk yf ys x20, aI G yl 200 xl]) H27) (hD27 : va_D A ([oTx tx yl yk yf ys x20, aI G yl 200 xl])) hS27 => ?_)
            clear hP24 hD24 hS24
            have w26_0 : r26 = if k < L then xl k else -1 := hw26
            have g26 : r26 = xl k := w26_0.trans (if_pos (by omega))
            clear w26_0
            subst g26
            refine kPSi F hK hP27 hD27 hS27 hA hl2.1 (c_X6_isDigit l G (xl k)) (fun _ => rfl) gX6_nextToken_X6_isDigit rfl 1 rfl (by decide +kernel) ⟨Nat.le_of_ble_eq_true rfl, Nat.le_of_ble_eq_true rfl⟩ ⟨Nat.zero_le _, Nat.zero_le _⟩ (Nat.le_of_ble_eq_true rfl) rfl dX6_nextToken_113 (fun r28 u28 H29 locs29 hw28 (hP29 : va_P G.1 vwCl ([oTx tx yl yk yf ys x20, aI G yl 200 xl]) H29) (hD29 : va_D A ([oTx tx yl yk yf ys x20, aI G yl 200 xl])) hS29 => ?_)
            clear hP27 hD27 hS27
            have w28_0 : r28 = kdigit (xl k) := hw28
            refine lv_if_eq (tgt := 157) hx hb dX6_nextToken_116 (by decide) (fun c30 => ?_) (fun c30 => ?_)
            · have hd0 : kdg (xl k) = false := by subst w28_0; subst w23_0; subst ex20; subst ex2; subst ex1; exact kdg_f c30
              refine lv_aload_n hx hb dX6_nextToken_157 rfl (lv_at hl2 0 rfl) ?_
              refine kget F hK hP29 6 0 6 iX6 rfl rfl (by decide) (List.mem_of_getElem? (i := 2) rfl) rfl dX6_nextToken_158 ?_
              refine lv_aload_n hx hb dX6_nextToken_161 rfl (lv_at hl2 0 rfl) ?_
              refine kget F hK hP29 6 0 1 iX6 rfl rfl (by decide) (List.mem_of_getElem? (i := 3) rfl) rfl dX6_nextToken_162 ?_
              refine lv_icmp_ge (tgt := 178) hx hb dX6_nextToken_165 (by decide) (fun c31 => ?_) (fun c31 => ?_)
              · exact absurd (show nI L ≤ nI k from by rw [← hL]; subst w28_0; subst w23_0; subst ex20; subst ex2; subst ex1; exact c31) (fun q => absurd ((nI_leI (a := L) (b := k) (by omega) (by omega)).mp q) (by omega))
              · refine lv_aload_n hx hb dX6_nextToken_168 rfl (lv_at hl2 0 rfl) ?_
                refine lv_dup hx hb dX6_nextToken_169 rfl ?_
                refine kget F hK hP29 6 0 7 iX6 rfl rfl (by decide) (List.mem_of_getElem? (i := 1) rfl) rfl dX6_nextToken_170 ?_
                refine lv_iconst (v := 1) hx hb dX6_nextToken_173 (by decide) ?_
                refine lv_iadd hx hb dX6_nextToken_174 ?_
                refine kput F hK hP29 hD29 hS29 (ty0 := tyX6) 6 0 7 iX6 rfl tyX6_ok nmX6 (fun zz => [oTx tx yl yk yf ys zz, aI G yl 200 xl]) x20 rfl (by decide) (List.mem_of_getElem? (i := 1) rfl) rfl rfl rfl (Nat.le_of_ble_eq_true rfl) rfl dX6_nextToken_175 (fun H32 locs32 x32 ex32 (hP32 : va_P G.1 vwCl ([oTx tx yl yk yf ys x32, aI G yl 200 xl]) H32) (hD32 : va_D A ([oTx tx yl yk yf ys x32, aI G yl 200 xl])) hS32 => ?_)
                clear hP29 hD29 hS29
                have q33 : x32 = upd (upd x 6 (nI (ktok xl L E).1)) 7 (nI (ktok xl L E).2) := by
                  subst ex32
                  subst w28_0
                  subst w23_0
                  subst ex20
                  subst ex2
                  subst ex1
                  rw [ktok_at hS]
                  rw [ktokE_1 lE hs0 hd0]
                  exact ktx_back _ _ _
                exact kRv F hr hlocks hS32 dX6_nextToken_178 x32 q33 hP32 hD32
            · have hd1 : kdg (xl k) = true := by subst w28_0; subst w23_0; subst ex20; subst ex2; subst ex1; exact kdg_t c30
              have LOOP34 : ∀ (fu j : Nat), j ≤ L → L + 1 ≤ j + fu → ∀ x34 : Nat → Int32, x34 = upd (upd x 6 (nI k)) 7 (nI j) → (kscan kdg xl L k = kscan kdg xl L j) → ∀ (H34 : Heap) (locs34 : List Loc) (ls34 : Array Slot), lv_has ls34 1 [(0, .ref tx)] → va_P G.1 vwCl ([oTx tx yl yk yf ys x34, aI G yl 200 xl]) H34 → va_D A ([oTx tx yl yk yf ys x34, aI G yl 200 xl]) → va_S A st.heap H34 locs34 → W pg l ev ({ frames := 1, cells := 0, slots := 0, locals := 21 }) st mi ([.ref tx] : List Value).toArray bl mt cd H34 locs34 0 0 (MQ bl (kQv G (fun (uu : (Nat → Int32)) => uu = upd (upd x 6 (nI (ktok xl L E).1)) 7 (nI (ktok xl L E).2)) (fun (uu : (Nat → Int32)) => [oTx tx yl yk yf ys uu, aI G yl 200 xl]) A) ([.ref tx] : List Value).toArray st 0 0 A) (F0 mi 119 ls34 []) := by
                intro fu
                induction fu with
                | zero => intro j h1 h2; exact absurd h2 (by omega)
                | succ fu ih =>
                  intro j hj hnj x34 ex34 hJI H34 locs34 ls34 hl34 hP34 hD34 hS34
                  refine lv_aload_n hx hb dX6_nextToken_119 rfl (lv_at hl34 0 rfl) ?_
                  refine kget F hK hP34 6 0 7 iX6 rfl rfl (by decide) (List.mem_of_getElem? (i := 1) rfl) rfl dX6_nextToken_120 ?_
                  refine lv_aload_n hx hb dX6_nextToken_123 rfl (lv_at hl34 0 rfl) ?_
                  refine kget F hK hP34 6 0 1 iX6 rfl rfl (by decide) (List.mem_of_getElem? (i := 3) rfl) rfl dX6_nextToken_124 ?_
                  refine lv_icmp_ge (tgt := 178) hx hb dX6_nextToken_127 (by decide) (fun c35 => ?_) (fun c35 => ?_)
                  · have lJ : L ≤ j := by subst ex34; subst w28_0; subst w23_0; subst ex20; subst ex2; subst ex1; exact (nI_leI (a := L) (b := j) (by omega) (by omega)).mp (by rw [← hL]; exact c35)
                    have hJ := hJI.trans (kscan_end lJ)
                    have q36 : x34 = upd (upd x 6 (nI (ktok xl L E).1)) 7 (nI (ktok xl L E).2) := by
                      subst ex34
                      subst w28_0
                      subst w23_0
                      subst ex20
                      subst ex2
                      subst ex1
                      rw [ktok_at hS]
                      rw [ktokE_d lE hs0 hd1 hJ]
                    exact kRv F hr hlocks hS34 dX6_nextToken_178 x34 q36 hP34 hD34
                  · have lJ : j < L := by subst ex34; subst w28_0; subst w23_0; subst ex20; subst ex2; subst ex1; exact Nat.lt_of_not_le (fun q => c35 (by show x 1 ≤ nI j; rw [hL]; exact (nI_leI (a := L) (b := j) (by omega) (by omega)).mpr q))
                    refine lv_aload_n hx hb dX6_nextToken_130 rfl (lv_at hl34 0 rfl) ?_
                    refine lv_aload_n hx hb dX6_nextToken_131 rfl (lv_at hl34 0 rfl) ?_
                    refine kget F hK hP34 6 0 7 iX6 rfl rfl (by decide) (List.mem_of_getElem? (i := 1) rfl) rfl dX6_nextToken_132 ?_
                    rw [show (x34 7) = nI j from by subst ex34; subst w28_0; subst w23_0; subst ex20; subst ex2; subst ex1; rfl]
                    refine kVi (wr := []) F hK hP34 hD34 hS34 hA hl34.1 (c_X6_letterAt l G tx yl yk yf ys x34 xl L j (by subst ex34; subst w28_0; subst w23_0; subst ex20; subst ex2; subst ex1; exact hL) lL (by omega)) [0, 1] [] 6 0 gX6_nextToken_X6_letterAt rfl 1 rfl (by decide +kernel) ⟨Nat.le_of_ble_eq_true rfl, Nat.le_of_ble_eq_true rfl⟩ ⟨Nat.zero_le _, Nat.zero_le _⟩ rfl rfl rfl rfl (by decide) (by decide) (by decide) (Nat.le_of_ble_eq_true rfl) rfl dX6_nextToken_135 (fun r37 u37 H38 locs38 hw37 (hP38 : va_P G.1 vwCl ([oTx tx yl yk yf ys x34, aI G yl 200 xl]) H38) (hD38 : va_D A ([oTx tx yl yk yf ys x34, aI G yl 200 xl])) hS38 => ?_)
                    clear hP34 hD34 hS34
                    have w37_0 : r37 = if j < L then xl j else -1 := hw37
                    have g37 : r37 = xl j := w37_0.trans (if_pos (by omega))
                    clear w37_0
                    subst g37
                    refine kPSi F hK hP38 hD38 hS38 hA hl34.1 (c_X6_isDigit l G (xl j)) (fun _ => rfl) gX6_nextToken_X6_isDigit rfl 1 rfl (by decide +kernel) ⟨Nat.le_of_ble_eq_true rfl, Nat.le_of_ble_eq_true rfl⟩ ⟨Nat.zero_le _, Nat.zero_le _⟩ (Nat.le_of_ble_eq_true rfl) rfl dX6_nextToken_138 (fun r39 u39 H40 locs40 hw39 (hP40 : va_P G.1 vwCl ([oTx tx yl yk yf ys x34, aI G yl 200 xl]) H40) (hD40 : va_D A ([oTx tx yl yk yf ys x34, aI G yl 200 xl])) hS40 => ?_)
                    clear hP38 hD38 hS38
                    have w39_0 : r39 = kdigit (xl j) := hw39
                    refine lv_if_eq (tgt := 178) hx hb dX6_nextToken_141 (by decide) (fun c41 => ?_) (fun c41 => ?_)
                    · have hn : kdg (xl j) = false := by subst w39_0; subst ex34; subst w28_0; subst w23_0; subst ex20; subst ex2; subst ex1; exact kdg_f c41
                      have hJ := hJI.trans (kscan_no (L := L) hn)
                      have q42 : x34 = upd (upd x 6 (nI (ktok xl L E).1)) 7 (nI (ktok xl L E).2) := by
                        subst w39_0
                        subst ex34
                        subst w28_0
                        subst w23_0
                        subst ex20
                        subst ex2
                        subst ex1
                        rw [ktok_at hS]
                        rw [ktokE_d lE hs0 hd1 hJ]
                      exact kRv F hr hlocks hS40 dX6_nextToken_178 x34 q42 hP40 hD40
                    · have hy2 : kdg (xl j) = true := by subst w39_0; subst ex34; subst w28_0; subst w23_0; subst ex20; subst ex2; subst ex1; exact kdg_t c41
                      refine lv_aload_n hx hb dX6_nextToken_144 rfl (lv_at hl34 0 rfl) ?_
                      refine lv_dup hx hb dX6_nextToken_145 rfl ?_
                      refine kget F hK hP40 6 0 7 iX6 rfl rfl (by decide) (List.mem_of_getElem? (i := 1) rfl) rfl dX6_nextToken_146 ?_
                      refine lv_iconst (v := 1) hx hb dX6_nextToken_149 (by decide) ?_
                      refine lv_iadd hx hb dX6_nextToken_150 ?_
                      refine kput F hK hP40 hD40 hS40 (ty0 := tyX6) 6 0 7 iX6 rfl tyX6_ok nmX6 (fun zz => [oTx tx yl yk yf ys zz, aI G yl 200 xl]) x34 rfl (by decide) (List.mem_of_getElem? (i := 1) rfl) rfl rfl rfl (Nat.le_of_ble_eq_true rfl) rfl dX6_nextToken_151 (fun H43 locs43 x43 ex43 (hP43 : va_P G.1 vwCl ([oTx tx yl yk yf ys x43, aI G yl 200 xl]) H43) (hD43 : va_D A ([oTx tx yl yk yf ys x43, aI G yl 200 xl])) hS43 => ?_)
                      clear hP40 hD40 hS40
                      refine lv_goto (tgt := 119) hx hb dX6_nextToken_154 (by decide) ?_
                      exact ih (j + 1) (by omega) (by omega) x43 (by subst ex43; subst w39_0; subst ex34; subst w28_0; subst w23_0; subst ex20; subst ex2; subst ex1; exact ktx_back _ _ _) (hJI.trans (kscan_yes lJ hy2)) _ _ _ hl34 hP43 hD43 hS43
              exact LOOP34 (L + 1) k (by omega) (by omega) x20 (by subst w28_0; subst w23_0; subst ex20; subst ex2; subst ex1; rfl) rfl _ _ _ hl2 hP29 hD29 hS29
          · have hs1 : ksm (xl k) = true := by subst w23_0; subst ex20; subst ex2; subst ex1; exact ksm_t c25
            have LOOP44 : ∀ (fu j : Nat), j ≤ L → L + 1 ≤ j + fu → ∀ x44 : Nat → Int32, x44 = upd (upd x 6 (nI k)) 7 (nI j) → (kscan ksm xl L k = kscan ksm xl L j) → ∀ (H44 : Heap) (locs44 : List Loc) (ls44 : Array Slot), lv_has ls44 1 [(0, .ref tx)] → va_P G.1 vwCl ([oTx tx yl yk yf ys x44, aI G yl 200 xl]) H44 → va_D A ([oTx tx yl yk yf ys x44, aI G yl 200 xl]) → va_S A st.heap H44 locs44 → W pg l ev ({ frames := 1, cells := 0, slots := 0, locals := 21 }) st mi ([.ref tx] : List Value).toArray bl mt cd H44 locs44 0 0 (MQ bl (kQv G (fun (uu : (Nat → Int32)) => uu = upd (upd x 6 (nI (ktok xl L E).1)) 7 (nI (ktok xl L E).2)) (fun (uu : (Nat → Int32)) => [oTx tx yl yk yf ys uu, aI G yl 200 xl]) A) ([.ref tx] : List Value).toArray st 0 0 A) (F0 mi 67 ls44 []) := by
              intro fu
              induction fu with
              | zero => intro j h1 h2; exact absurd h2 (by omega)
              | succ fu ih =>
                intro j hj hnj x44 ex44 hJI H44 locs44 ls44 hl44 hP44 hD44 hS44
                refine lv_aload_n hx hb dX6_nextToken_67 rfl (lv_at hl44 0 rfl) ?_
                refine kget F hK hP44 6 0 7 iX6 rfl rfl (by decide) (List.mem_of_getElem? (i := 1) rfl) rfl dX6_nextToken_68 ?_
                refine lv_aload_n hx hb dX6_nextToken_71 rfl (lv_at hl44 0 rfl) ?_
                refine kget F hK hP44 6 0 1 iX6 rfl rfl (by decide) (List.mem_of_getElem? (i := 3) rfl) rfl dX6_nextToken_72 ?_
                refine lv_icmp_ge (tgt := 178) hx hb dX6_nextToken_75 (by decide) (fun c45 => ?_) (fun c45 => ?_)
                · have lJ : L ≤ j := by subst ex44; subst w23_0; subst ex20; subst ex2; subst ex1; exact (nI_leI (a := L) (b := j) (by omega) (by omega)).mp (by rw [← hL]; exact c45)
                  have hJ := hJI.trans (kscan_end lJ)
                  have q46 : x44 = upd (upd x 6 (nI (ktok xl L E).1)) 7 (nI (ktok xl L E).2) := by
                    subst ex44
                    subst w23_0
                    subst ex20
                    subst ex2
                    subst ex1
                    rw [ktok_at hS]
                    rw [ktokE_s lE hs1 hJ]
                  exact kRv F hr hlocks hS44 dX6_nextToken_178 x44 q46 hP44 hD44
                · have lJ : j < L := by subst ex44; subst w23_0; subst ex20; subst ex2; subst ex1; exact Nat.lt_of_not_le (fun q => c45 (by show x 1 ≤ nI j; rw [hL]; exact (nI_leI (a := L) (b := j) (by omega) (by omega)).mpr q))
                  refine lv_aload_n hx hb dX6_nextToken_78 rfl (lv_at hl44 0 rfl) ?_
                  refine lv_aload_n hx hb dX6_nextToken_79 rfl (lv_at hl44 0 rfl) ?_
                  refine kget F hK hP44 6 0 7 iX6 rfl rfl (by decide) (List.mem_of_getElem? (i := 1) rfl) rfl dX6_nextToken_80 ?_
                  rw [show (x44 7) = nI j from by subst ex44; subst w23_0; subst ex20; subst ex2; subst ex1; rfl]
                  refine kVi (wr := []) F hK hP44 hD44 hS44 hA hl44.1 (c_X6_letterAt l G tx yl yk yf ys x44 xl L j (by subst ex44; subst w23_0; subst ex20; subst ex2; subst ex1; exact hL) lL (by omega)) [0, 1] [] 6 0 gX6_nextToken_X6_letterAt rfl 1 rfl (by decide +kernel) ⟨Nat.le_of_ble_eq_true rfl, Nat.le_of_ble_eq_true rfl⟩ ⟨Nat.zero_le _, Nat.zero_le _⟩ rfl rfl rfl rfl (by decide) (by decide) (by decide) (Nat.le_of_ble_eq_true rfl) rfl dX6_nextToken_83 (fun r47 u47 H48 locs48 hw47 (hP48 : va_P G.1 vwCl ([oTx tx yl yk yf ys x44, aI G yl 200 xl]) H48) (hD48 : va_D A ([oTx tx yl yk yf ys x44, aI G yl 200 xl])) hS48 => ?_)
                  clear hP44 hD44 hS44
                  have w47_0 : r47 = if j < L then xl j else -1 := hw47
                  have g47 : r47 = xl j := w47_0.trans (if_pos (by omega))
                  clear w47_0
                  subst g47
                  refine kPSi F hK hP48 hD48 hS48 hA hl44.1 (c_X6_isSmall l G (xl j)) (fun _ => rfl) gX6_nextToken_X6_isSmall rfl 1 rfl (by decide +kernel) ⟨Nat.le_of_ble_eq_true rfl, Nat.le_of_ble_eq_true rfl⟩ ⟨Nat.zero_le _, Nat.zero_le _⟩ (Nat.le_of_ble_eq_true rfl) rfl dX6_nextToken_86 (fun r49 u49 H50 locs50 hw49 (hP50 : va_P G.1 vwCl ([oTx tx yl yk yf ys x44, aI G yl 200 xl]) H50) (hD50 : va_D A ([oTx tx yl yk yf ys x44, aI G yl 200 xl])) hS50 => ?_)
                  clear hP48 hD48 hS48
                  have w49_0 : r49 = ksmall (xl j) := hw49
                  refine lv_if_eq (tgt := 178) hx hb dX6_nextToken_89 (by decide) (fun c51 => ?_) (fun c51 => ?_)
                  · have hn : ksm (xl j) = false := by subst w49_0; subst ex44; subst w23_0; subst ex20; subst ex2; subst ex1; exact ksm_f c51
                    have hJ := hJI.trans (kscan_no (L := L) hn)
                    have q52 : x44 = upd (upd x 6 (nI (ktok xl L E).1)) 7 (nI (ktok xl L E).2) := by
                      subst w49_0
                      subst ex44
                      subst w23_0
                      subst ex20
                      subst ex2
                      subst ex1
                      rw [ktok_at hS]
                      rw [ktokE_s lE hs1 hJ]
                    exact kRv F hr hlocks hS50 dX6_nextToken_178 x44 q52 hP50 hD50
                  · have hy2 : ksm (xl j) = true := by subst w49_0; subst ex44; subst w23_0; subst ex20; subst ex2; subst ex1; exact ksm_t c51
                    refine lv_aload_n hx hb dX6_nextToken_92 rfl (lv_at hl44 0 rfl) ?_
                    refine lv_dup hx hb dX6_nextToken_93 rfl ?_
                    refine kget F hK hP50 6 0 7 iX6 rfl rfl (by decide) (List.mem_of_getElem? (i := 1) rfl) rfl dX6_nextToken_94 ?_
                    refine lv_iconst (v := 1) hx hb dX6_nextToken_97 (by decide) ?_
                    refine lv_iadd hx hb dX6_nextToken_98 ?_
                    refine kput F hK hP50 hD50 hS50 (ty0 := tyX6) 6 0 7 iX6 rfl tyX6_ok nmX6 (fun zz => [oTx tx yl yk yf ys zz, aI G yl 200 xl]) x44 rfl (by decide) (List.mem_of_getElem? (i := 1) rfl) rfl rfl rfl (Nat.le_of_ble_eq_true rfl) rfl dX6_nextToken_99 (fun H53 locs53 x53 ex53 (hP53 : va_P G.1 vwCl ([oTx tx yl yk yf ys x53, aI G yl 200 xl]) H53) (hD53 : va_D A ([oTx tx yl yk yf ys x53, aI G yl 200 xl])) hS53 => ?_)
                    clear hP50 hD50 hS50
                    refine lv_goto (tgt := 67) hx hb dX6_nextToken_102 (by decide) ?_
                    exact ih (j + 1) (by omega) (by omega) x53 (by subst ex53; subst w49_0; subst ex44; subst w23_0; subst ex20; subst ex2; subst ex1; exact ktx_back _ _ _) (hJI.trans (kscan_yes lJ hy2)) _ _ _ hl44 hP53 hD53 hS53
            exact LOOP44 (L + 1) k (by omega) (by omega) x20 (by subst w23_0; subst ex20; subst ex2; subst ex1; rfl) rfl _ _ _ hl2 hP24 hD24 hS24
        · have hy : ksp (xl k) = true := ksp_t c19
          refine lv_aload_n hx hb dX6_nextToken_32 rfl (lv_at hl2 0 rfl) ?_
          refine lv_dup hx hb dX6_nextToken_33 rfl ?_
          refine kget F hK hP18 6 0 6 iX6 rfl rfl (by decide) (List.mem_of_getElem? (i := 2) rfl) rfl dX6_nextToken_34 ?_
          refine lv_iconst (v := 1) hx hb dX6_nextToken_37 (by decide) ?_
          refine lv_iadd hx hb dX6_nextToken_38 ?_
          refine kput F hK hP18 hD18 hS18 (ty0 := tyX6) 6 0 6 iX6 rfl tyX6_ok nmX6 (fun zz => [oTx tx yl yk yf ys zz, aI G yl 200 xl]) x2 rfl (by decide) (List.mem_of_getElem? (i := 2) rfl) rfl rfl rfl (Nat.le_of_ble_eq_true rfl) rfl dX6_nextToken_39 (fun H54 locs54 x54 ex54 (hP54 : va_P G.1 vwCl ([oTx tx yl yk yf ys x54, aI G yl 200 xl]) H54) (hD54 : va_D A ([oTx tx yl yk yf ys x54, aI G yl 200 xl])) hS54 => ?_)
          clear hP18 hD18 hS18
          refine lv_goto (tgt := 8) hx hb dX6_nextToken_42 (by decide) ?_
          exact ih (k + 1) (by omega) (by omega) x54 (by subst ex54; subst ex2; subst ex1; exact ktx_back _ _ _) (hI.trans (kscan_yes lE hy)) _ _ _ hl2 hP54 hD54 hS54
  exact LOOP2 (L + 1) E (by omega) (by omega) x1 (by subst ex1; rw [hE]) rfl _ _ _ hl0 hP1 hD1 hS1
