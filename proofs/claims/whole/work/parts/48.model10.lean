set_option maxHeartbeats 1000000 in
set_option maxRecDepth 100000 in
theorem c_X9_isWord6 (l : Launch) (G : kG) (h : Nat) (a : Nat → Nat) (σ : kS) (b1 : Int32) (b2 : Int32) (b3 : Int32) (b4 : Int32) (b5 : Int32) (b6 : Int32) (L : Nat) (S : Nat) (E : Nat) (hL : σ 36 0 = nI L) (lL : L ≤ 200) (hS : σ 38 0 = nI S) (hE : σ 37 0 = nI E) (hSE : S ≤ E) (hEL : E ≤ L) (hf : 0 < b6) : kM G l yX9_isWord wsX9_isWord ({ frames := 1, cells := 0, slots := 0, locals := 21 }) [.ref h, .int b1, .int b2, .int b3, .int b4, .int b5, .int b6] (mW G h a σ) (kQi G (fun (rr : Int32) (uu : Unit) => rr = mwd6 (σ 35) L S E (σ 39 0) b1 b2 b3 b4 b5 b6) (fun (uu : Unit) => mW G h a σ)) := by
  refine kStart (cc := cX9_isWord) (maxL := 8) (ret := (some .boolean)) (by decide) rfl (Nat.le_of_ble_eq_true rfl) (fun pg ev st mi bl mt cd A ls0 F hr hlocks hin hK hP0 hD0 hA hS0 hl0 => ?_)
  obtain ⟨hx, hb, hml, hown, hts⟩ := id F
  have hl0 : lv_has ls0 8 [(0, .ref h), (1, .int b1), (2, .int b2), (3, .int b3), (4, .int b4), (5, .int b5), (6, .int b6)] := hl0
  have iX9 : ∀ w ∈ u_ws RX9 TX9 43, w ∈ wsX9_isWord := fun w h => List.mem_cons_of_mem _ (List.mem_append_right _ h)
  refine lv_iload hx hb dX9_isWord_0 (lv_at hl0 6 rfl) ?_
  refine lv_if_le (tgt := 10) hx hb dX9_isWord_2 (by decide) (fun c1 => ?_) (fun c1 => ?_)
  · exact absurd c1 (Int32.not_le.mpr hf)
  · refine lv_bipush (v := 6) hx hb dX9_isWord_5 (by decide) ?_
    refine lv_goto (tgt := 11) hx hb dX9_isWord_7 (by decide) ?_
    refine lv_istore (lv' := [(7, .int 6), (0, .ref h), (1, .int b1), (2, .int b2), (3, .int b3), (4, .int b4), (5, .int b5), (6, .int b6)]) hx hb dX9_isWord_11 hl0 (by decide) rfl (fun ls2 hl2 => ?_)
    clear hl0
    refine lv_aload_n hx hb dX9_isWord_13 rfl (lv_at hl2 1 rfl) ?_
    refine kget F hK hP0 9 0 39 iX9 rfl rfl (by decide) (List.mem_of_getElem? (i := 1) rfl) rfl dX9_isWord_14 ?_
    refine lv_iconst (v := 1) hx hb dX9_isWord_17 (by decide) ?_
    refine lv_icmp_ne (tgt := 129) hx hb dX9_isWord_18 (by decide) (fun c3 => ?_) (fun c3 => ?_)
    · refine lv_iconst (v := 0) hx hb dX9_isWord_129 (by decide) ?_
      have q4 : 0 = mwd6 (σ 35) L S E (σ 39 0) b1 b2 b3 b4 b5 b6 := by
        simp only [mwd6, c3, ↓reduceIte]
      exact kRz F hr hlocks hS0 dX9_isWord_130 rfl () q4 hP0 hD0
    · refine lv_aload_n hx hb dX9_isWord_21 rfl (lv_at hl2 1 rfl) ?_
      refine kget F hK hP0 9 0 37 iX9 rfl rfl (by decide) (List.mem_of_getElem? (i := 2) rfl) rfl dX9_isWord_22 ?_
      refine lv_aload_n hx hb dX9_isWord_25 rfl (lv_at hl2 1 rfl) ?_
      refine kget F hK hP0 9 0 38 iX9 rfl rfl (by decide) (List.mem_of_getElem? (i := 3) rfl) rfl dX9_isWord_26 ?_
      refine lv_isub hx hb dX9_isWord_29 ?_
      refine lv_iload hx hb dX9_isWord_30 (lv_at hl2 0 rfl) ?_
      refine lv_icmp_ne (tgt := 129) hx hb dX9_isWord_32 (by decide) (fun c5 => ?_) (fun c5 => ?_)
      · have hl : ¬ E - S = 6 := fun q => c5 (by rw [hE, hS, nI_sub (by omega), q]; rfl)
        refine lv_iconst (v := 0) hx hb dX9_isWord_129 (by decide) ?_
        have q6 : 0 = mwd6 (σ 35) L S E (σ 39 0) b1 b2 b3 b4 b5 b6 := by
          simp only [mwd6, hl, eq_true c3, ↓reduceIte]
        exact kRz F hr hlocks hS0 dX9_isWord_130 rfl () q6 hP0 hD0
      · have hl : E - S = 6 := (nI_eq (a := E - S) (b := 6) (by omega) (by omega)).mp (by rw [← nI_sub (by omega), ← hE, ← hS]; exact c5)
        refine lv_aload_n hx hb dX9_isWord_35 rfl (lv_at hl2 1 rfl) ?_
        refine lv_aload_n hx hb dX9_isWord_36 rfl (lv_at hl2 1 rfl) ?_
        refine kget F hK hP0 9 0 38 iX9 rfl rfl (by decide) (List.mem_of_getElem? (i := 3) rfl) rfl dX9_isWord_37 ?_
        rw [show (σ 38 0) = nI S from (by exact hS)]
        refine kWVi F hK hP0 hD0 hS0 hA hl2.1 (c_X9_letterAt l G h a σ S L hL lL (by omega)) 9 0 gX9_isWord_X9_letterAt rfl 1 rfl (by decide +kernel) ⟨Nat.le_of_ble_eq_true rfl, Nat.le_of_ble_eq_true rfl⟩ ⟨Nat.zero_le _, Nat.zero_le _⟩ rfl rfl (Nat.le_of_ble_eq_true rfl) rfl dX9_isWord_40 (fun r7 u7 H8 locs8 hw7 (hP8 : va_P G.1 vwCl (mW G h a σ) H8) (hD8 : va_D A (mW G h a σ)) hS8 => ?_)
        clear hP0 hD0 hS0
        have w7_0 : r7 = mlet (σ 35) L S := hw7
        have g7 : r7 = (mlet (σ 35) L S) := (by exact w7_0)
        clear w7_0
        subst g7
        refine lv_iload_n hx hb dX9_isWord_43 rfl (lv_at hl2 2 rfl) ?_
        refine lv_icmp_ne (tgt := 129) hx hb dX9_isWord_44 (by decide) (fun c9 => ?_) (fun c9 => ?_)
        · refine lv_iconst (v := 0) hx hb dX9_isWord_129 (by decide) ?_
          have q10 : 0 = mwd6 (σ 35) L S E (σ 39 0) b1 b2 b3 b4 b5 b6 := by
            simp only [mwd6, eq_true hl, eq_true c3, c9, ↓reduceIte]
          exact kRz F hr hlocks hS8 dX9_isWord_130 rfl () q10 hP8 hD8
        · refine lv_aload_n hx hb dX9_isWord_47 rfl (lv_at hl2 1 rfl) ?_
          refine lv_aload_n hx hb dX9_isWord_48 rfl (lv_at hl2 1 rfl) ?_
          refine kget F hK hP8 9 0 38 iX9 rfl rfl (by decide) (List.mem_of_getElem? (i := 3) rfl) rfl dX9_isWord_49 ?_
          refine lv_iconst (v := 1) hx hb dX9_isWord_52 (by decide) ?_
          refine lv_iadd hx hb dX9_isWord_53 ?_
          rw [show ((σ 38 0) + 1) = nI (S + 1) from (by rw [hS]; exact nI_add S 1)]
          refine kWVi F hK hP8 hD8 hS8 hA hl2.1 (c_X9_letterAt l G h a σ (S + 1) L hL lL (by omega)) 9 0 gX9_isWord_X9_letterAt rfl 1 rfl (by decide +kernel) ⟨Nat.le_of_ble_eq_true rfl, Nat.le_of_ble_eq_true rfl⟩ ⟨Nat.zero_le _, Nat.zero_le _⟩ rfl rfl (Nat.le_of_ble_eq_true rfl) rfl dX9_isWord_54 (fun r11 u11 H12 locs12 hw11 (hP12 : va_P G.1 vwCl (mW G h a σ) H12) (hD12 : va_D A (mW G h a σ)) hS12 => ?_)
          clear hP8 hD8 hS8
          have w11_0 : r11 = mlet (σ 35) L (S + 1) := hw11
          have g11 : r11 = (mlet (σ 35) L (S + 1)) := (by exact w11_0)
          clear w11_0
          subst g11
          refine lv_iload_n hx hb dX9_isWord_57 rfl (lv_at hl2 3 rfl) ?_
          refine lv_icmp_ne (tgt := 129) hx hb dX9_isWord_58 (by decide) (fun c13 => ?_) (fun c13 => ?_)
          · refine lv_iconst (v := 0) hx hb dX9_isWord_129 (by decide) ?_
            have q14 : 0 = mwd6 (σ 35) L S E (σ 39 0) b1 b2 b3 b4 b5 b6 := by
              simp only [mwd6, eq_true hl, eq_true c3, eq_true c9, c13, ↓reduceIte]
            exact kRz F hr hlocks hS12 dX9_isWord_130 rfl () q14 hP12 hD12
          · refine lv_aload_n hx hb dX9_isWord_61 rfl (lv_at hl2 1 rfl) ?_
            refine lv_aload_n hx hb dX9_isWord_62 rfl (lv_at hl2 1 rfl) ?_
            refine kget F hK hP12 9 0 38 iX9 rfl rfl (by decide) (List.mem_of_getElem? (i := 3) rfl) rfl dX9_isWord_63 ?_
            refine lv_iconst (v := 2) hx hb dX9_isWord_66 (by decide) ?_
            refine lv_iadd hx hb dX9_isWord_67 ?_
            rw [show ((σ 38 0) + 2) = nI (S + 2) from (by rw [hS]; exact nI_add S 2)]
            refine kWVi F hK hP12 hD12 hS12 hA hl2.1 (c_X9_letterAt l G h a σ (S + 2) L hL lL (by omega)) 9 0 gX9_isWord_X9_letterAt rfl 1 rfl (by decide +kernel) ⟨Nat.le_of_ble_eq_true rfl, Nat.le_of_ble_eq_true rfl⟩ ⟨Nat.zero_le _, Nat.zero_le _⟩ rfl rfl (Nat.le_of_ble_eq_true rfl) rfl dX9_isWord_68 (fun r15 u15 H16 locs16 hw15 (hP16 : va_P G.1 vwCl (mW G h a σ) H16) (hD16 : va_D A (mW G h a σ)) hS16 => ?_)
            clear hP12 hD12 hS12
            have w15_0 : r15 = mlet (σ 35) L (S + 2) := hw15
            have g15 : r15 = (mlet (σ 35) L (S + 2)) := (by exact w15_0)
            clear w15_0
            subst g15
            refine lv_iload_n hx hb dX9_isWord_71 rfl (lv_at hl2 4 rfl) ?_
            refine lv_icmp_ne (tgt := 129) hx hb dX9_isWord_72 (by decide) (fun c17 => ?_) (fun c17 => ?_)
            · refine lv_iconst (v := 0) hx hb dX9_isWord_129 (by decide) ?_
              have q18 : 0 = mwd6 (σ 35) L S E (σ 39 0) b1 b2 b3 b4 b5 b6 := by
                simp only [mwd6, eq_true hl, eq_true c3, eq_true c9, eq_true c13, c17, ↓reduceIte]
              exact kRz F hr hlocks hS16 dX9_isWord_130 rfl () q18 hP16 hD16
            · refine lv_aload_n hx hb dX9_isWord_75 rfl (lv_at hl2 1 rfl) ?_
              refine lv_aload_n hx hb dX9_isWord_76 rfl (lv_at hl2 1 rfl) ?_
              refine kget F hK hP16 9 0 38 iX9 rfl rfl (by decide) (List.mem_of_getElem? (i := 3) rfl) rfl dX9_isWord_77 ?_
              refine lv_iconst (v := 3) hx hb dX9_isWord_80 (by decide) ?_
              refine lv_iadd hx hb dX9_isWord_81 ?_
              rw [show ((σ 38 0) + 3) = nI (S + 3) from (by rw [hS]; exact nI_add S 3)]
              refine kWVi F hK hP16 hD16 hS16 hA hl2.1 (c_X9_letterAt l G h a σ (S + 3) L hL lL (by omega)) 9 0 gX9_isWord_X9_letterAt rfl 1 rfl (by decide +kernel) ⟨Nat.le_of_ble_eq_true rfl, Nat.le_of_ble_eq_true rfl⟩ ⟨Nat.zero_le _, Nat.zero_le _⟩ rfl rfl (Nat.le_of_ble_eq_true rfl) rfl dX9_isWord_82 (fun r19 u19 H20 locs20 hw19 (hP20 : va_P G.1 vwCl (mW G h a σ) H20) (hD20 : va_D A (mW G h a σ)) hS20 => ?_)
              clear hP16 hD16 hS16
              have w19_0 : r19 = mlet (σ 35) L (S + 3) := hw19
              have g19 : r19 = (mlet (σ 35) L (S + 3)) := (by exact w19_0)
              clear w19_0
              subst g19
              refine lv_iload hx hb dX9_isWord_85 (lv_at hl2 5 rfl) ?_
              refine lv_icmp_ne (tgt := 129) hx hb dX9_isWord_87 (by decide) (fun c21 => ?_) (fun c21 => ?_)
              · refine lv_iconst (v := 0) hx hb dX9_isWord_129 (by decide) ?_
                have q22 : 0 = mwd6 (σ 35) L S E (σ 39 0) b1 b2 b3 b4 b5 b6 := by
                  simp only [mwd6, eq_true hl, eq_true c3, eq_true c9, eq_true c13, eq_true c17, c21, ↓reduceIte]
                exact kRz F hr hlocks hS20 dX9_isWord_130 rfl () q22 hP20 hD20
              · refine lv_aload_n hx hb dX9_isWord_90 rfl (lv_at hl2 1 rfl) ?_
                refine lv_aload_n hx hb dX9_isWord_91 rfl (lv_at hl2 1 rfl) ?_
                refine kget F hK hP20 9 0 38 iX9 rfl rfl (by decide) (List.mem_of_getElem? (i := 3) rfl) rfl dX9_isWord_92 ?_
                refine lv_iconst (v := 4) hx hb dX9_isWord_95 (by decide) ?_
                refine lv_iadd hx hb dX9_isWord_96 ?_
                rw [show ((σ 38 0) + 4) = nI (S + 4) from (by rw [hS]; exact nI_add S 4)]
                refine kWVi F hK hP20 hD20 hS20 hA hl2.1 (c_X9_letterAt l G h a σ (S + 4) L hL lL (by omega)) 9 0 gX9_isWord_X9_letterAt rfl 1 rfl (by decide +kernel) ⟨Nat.le_of_ble_eq_true rfl, Nat.le_of_ble_eq_true rfl⟩ ⟨Nat.zero_le _, Nat.zero_le _⟩ rfl rfl (Nat.le_of_ble_eq_true rfl) rfl dX9_isWord_97 (fun r23 u23 H24 locs24 hw23 (hP24 : va_P G.1 vwCl (mW G h a σ) H24) (hD24 : va_D A (mW G h a σ)) hS24 => ?_)
                clear hP20 hD20 hS20
                have w23_0 : r23 = mlet (σ 35) L (S + 4) := hw23
                have g23 : r23 = (mlet (σ 35) L (S + 4)) := (by exact w23_0)
                clear w23_0
                subst g23
                refine lv_iload hx hb dX9_isWord_100 (lv_at hl2 6 rfl) ?_
                refine lv_icmp_ne (tgt := 129) hx hb dX9_isWord_102 (by decide) (fun c25 => ?_) (fun c25 => ?_)
                · refine lv_iconst (v := 0) hx hb dX9_isWord_129 (by decide) ?_
                  have q26 : 0 = mwd6 (σ 35) L S E (σ 39 0) b1 b2 b3 b4 b5 b6 := by
                    simp only [mwd6, eq_true hl, eq_true c3, eq_true c9, eq_true c13, eq_true c17, eq_true c21, c25, ↓reduceIte]
                  exact kRz F hr hlocks hS24 dX9_isWord_130 rfl () q26 hP24 hD24
                · refine lv_iload hx hb dX9_isWord_105 (lv_at hl2 7 rfl) ?_
                  refine lv_if_eq (tgt := 125) hx hb dX9_isWord_107 (by decide) (fun c27 => ?_) (fun c27 => ?_)
                  · exact absurd (show b6 = 0 from c27) (fun q => by rw [q] at hf; exact absurd hf (by decide))
                  · refine lv_aload_n hx hb dX9_isWord_110 rfl (lv_at hl2 1 rfl) ?_
                    refine lv_aload_n hx hb dX9_isWord_111 rfl (lv_at hl2 1 rfl) ?_
                    refine kget F hK hP24 9 0 38 iX9 rfl rfl (by decide) (List.mem_of_getElem? (i := 3) rfl) rfl dX9_isWord_112 ?_
                    refine lv_iconst (v := 5) hx hb dX9_isWord_115 (by decide) ?_
                    refine lv_iadd hx hb dX9_isWord_116 ?_
                    rw [show ((σ 38 0) + 5) = nI (S + 5) from (by rw [hS]; exact nI_add S 5)]
                    refine kWVi F hK hP24 hD24 hS24 hA hl2.1 (c_X9_letterAt l G h a σ (S + 5) L hL lL (by omega)) 9 0 gX9_isWord_X9_letterAt rfl 1 rfl (by decide +kernel) ⟨Nat.le_of_ble_eq_true rfl, Nat.le_of_ble_eq_true rfl⟩ ⟨Nat.zero_le _, Nat.zero_le _⟩ rfl rfl (Nat.le_of_ble_eq_true rfl) rfl dX9_isWord_117 (fun r28 u28 H29 locs29 hw28 (hP29 : va_P G.1 vwCl (mW G h a σ) H29) (hD29 : va_D A (mW G h a σ)) hS29 => ?_)
                    clear hP24 hD24 hS24
                    have w28_0 : r28 = mlet (σ 35) L (S + 5) := hw28
                    have g28 : r28 = (mlet (σ 35) L (S + 5)) := (by exact w28_0)
                    clear w28_0
                    subst g28
                    refine lv_iload hx hb dX9_isWord_120 (lv_at hl2 7 rfl) ?_
                    refine lv_icmp_ne (tgt := 129) hx hb dX9_isWord_122 (by decide) (fun c30 => ?_) (fun c30 => ?_)
                    · refine lv_iconst (v := 0) hx hb dX9_isWord_129 (by decide) ?_
                      have q31 : 0 = mwd6 (σ 35) L S E (σ 39 0) b1 b2 b3 b4 b5 b6 := by
                        simp only [mwd6, eq_true hl, eq_true c3, eq_true c9, eq_true c13, eq_true c17, eq_true c21, eq_true c25, c27, c30, ↓reduceIte]
                      exact kRz F hr hlocks hS29 dX9_isWord_130 rfl () q31 hP29 hD29
                    · refine lv_iconst (v := 1) hx hb dX9_isWord_125 (by decide) ?_
                      refine lv_goto (tgt := 130) hx hb dX9_isWord_126 (by decide) ?_
                      have q32 : 1 = mwd6 (σ 35) L S E (σ 39 0) b1 b2 b3 b4 b5 b6 := by
                        simp only [mwd6, eq_true hl, eq_true c3, eq_true c9, eq_true c13, eq_true c17, eq_true c21, eq_true c25, c27, eq_true c30, ↓reduceIte]
                      exact kRz F hr hlocks hS29 dX9_isWord_130 rfl () q32 hP29 hD29
set_option maxHeartbeats 1000000 in
set_option maxRecDepth 100000 in
theorem c_X9_isWord5 (l : Launch) (G : kG) (h : Nat) (a : Nat → Nat) (σ : kS) (b1 : Int32) (b2 : Int32) (b3 : Int32) (b4 : Int32) (b5 : Int32) (L : Nat) (S : Nat) (E : Nat) (hL : σ 36 0 = nI L) (lL : L ≤ 200) (hS : σ 38 0 = nI S) (hE : σ 37 0 = nI E) (hSE : S ≤ E) (hEL : E ≤ L) : kM G l yX9_isWord wsX9_isWord ({ frames := 1, cells := 0, slots := 0, locals := 21 }) [.ref h, .int b1, .int b2, .int b3, .int b4, .int b5, .int 0] (mW G h a σ) (kQi G (fun (rr : Int32) (uu : Unit) => rr = mwd5 (σ 35) L S E (σ 39 0) b1 b2 b3 b4 b5) (fun (uu : Unit) => mW G h a σ)) := by
  refine kStart (cc := cX9_isWord) (maxL := 8) (ret := (some .boolean)) (by decide) rfl (Nat.le_of_ble_eq_true rfl) (fun pg ev st mi bl mt cd A ls0 F hr hlocks hin hK hP0 hD0 hA hS0 hl0 => ?_)
  obtain ⟨hx, hb, hml, hown, hts⟩ := id F
  have hl0 : lv_has ls0 8 [(0, .ref h), (1, .int b1), (2, .int b2), (3, .int b3), (4, .int b4), (5, .int b5), (6, .int 0)] := hl0
  have iX9 : ∀ w ∈ u_ws RX9 TX9 43, w ∈ wsX9_isWord := fun w h => List.mem_cons_of_mem _ (List.mem_append_right _ h)
  refine lv_iload hx hb dX9_isWord_0 (lv_at hl0 6 rfl) ?_
  refine lv_if_le (tgt := 10) hx hb dX9_isWord_2 (by decide) (fun c1 => ?_) (fun c1 => ?_)
  · refine lv_iconst (v := 5) hx hb dX9_isWord_10 (by decide) ?_
    refine lv_istore (lv' := [(7, .int 5), (0, .ref h), (1, .int b1), (2, .int b2), (3, .int b3), (4, .int b4), (5, .int b5), (6, .int 0)]) hx hb dX9_isWord_11 hl0 (by decide) rfl (fun ls2 hl2 => ?_)
    clear hl0
    refine lv_aload_n hx hb dX9_isWord_13 rfl (lv_at hl2 1 rfl) ?_
    refine kget F hK hP0 9 0 39 iX9 rfl rfl (by decide) (List.mem_of_getElem? (i := 1) rfl) rfl dX9_isWord_14 ?_
    refine lv_iconst (v := 1) hx hb dX9_isWord_17 (by decide) ?_
    refine lv_icmp_ne (tgt := 129) hx hb dX9_isWord_18 (by decide) (fun c3 => ?_) (fun c3 => ?_)
    · refine lv_iconst (v := 0) hx hb dX9_isWord_129 (by decide) ?_
      have q4 : 0 = mwd5 (σ 35) L S E (σ 39 0) b1 b2 b3 b4 b5 := by
        simp only [mwd5, eq_true c1, c3, ↓reduceIte]
      exact kRz F hr hlocks hS0 dX9_isWord_130 rfl () q4 hP0 hD0
    · refine lv_aload_n hx hb dX9_isWord_21 rfl (lv_at hl2 1 rfl) ?_
      refine kget F hK hP0 9 0 37 iX9 rfl rfl (by decide) (List.mem_of_getElem? (i := 2) rfl) rfl dX9_isWord_22 ?_
      refine lv_aload_n hx hb dX9_isWord_25 rfl (lv_at hl2 1 rfl) ?_
      refine kget F hK hP0 9 0 38 iX9 rfl rfl (by decide) (List.mem_of_getElem? (i := 3) rfl) rfl dX9_isWord_26 ?_
      refine lv_isub hx hb dX9_isWord_29 ?_
      refine lv_iload hx hb dX9_isWord_30 (lv_at hl2 0 rfl) ?_
      refine lv_icmp_ne (tgt := 129) hx hb dX9_isWord_32 (by decide) (fun c5 => ?_) (fun c5 => ?_)
      · have hl : ¬ E - S = 5 := fun q => c5 (by rw [hE, hS, nI_sub (by omega), q]; rfl)
        refine lv_iconst (v := 0) hx hb dX9_isWord_129 (by decide) ?_
        have q6 : 0 = mwd5 (σ 35) L S E (σ 39 0) b1 b2 b3 b4 b5 := by
          simp only [mwd5, hl, eq_true c1, eq_true c3, ↓reduceIte]
        exact kRz F hr hlocks hS0 dX9_isWord_130 rfl () q6 hP0 hD0
      · have hl : E - S = 5 := (nI_eq (a := E - S) (b := 5) (by omega) (by omega)).mp (by rw [← nI_sub (by omega), ← hE, ← hS]; exact c5)
        refine lv_aload_n hx hb dX9_isWord_35 rfl (lv_at hl2 1 rfl) ?_
        refine lv_aload_n hx hb dX9_isWord_36 rfl (lv_at hl2 1 rfl) ?_
        refine kget F hK hP0 9 0 38 iX9 rfl rfl (by decide) (List.mem_of_getElem? (i := 3) rfl) rfl dX9_isWord_37 ?_
        rw [show (σ 38 0) = nI S from (by exact hS)]
        refine kWVi F hK hP0 hD0 hS0 hA hl2.1 (c_X9_letterAt l G h a σ S L hL lL (by omega)) 9 0 gX9_isWord_X9_letterAt rfl 1 rfl (by decide +kernel) ⟨Nat.le_of_ble_eq_true rfl, Nat.le_of_ble_eq_true rfl⟩ ⟨Nat.zero_le _, Nat.zero_le _⟩ rfl rfl (Nat.le_of_ble_eq_true rfl) rfl dX9_isWord_40 (fun r7 u7 H8 locs8 hw7 (hP8 : va_P G.1 vwCl (mW G h a σ) H8) (hD8 : va_D A (mW G h a σ)) hS8 => ?_)
        clear hP0 hD0 hS0
        have w7_0 : r7 = mlet (σ 35) L S := hw7
        have g7 : r7 = (mlet (σ 35) L S) := (by exact w7_0)
        clear w7_0
        subst g7
        refine lv_iload_n hx hb dX9_isWord_43 rfl (lv_at hl2 2 rfl) ?_
        refine lv_icmp_ne (tgt := 129) hx hb dX9_isWord_44 (by decide) (fun c9 => ?_) (fun c9 => ?_)
        · refine lv_iconst (v := 0) hx hb dX9_isWord_129 (by decide) ?_
          have q10 : 0 = mwd5 (σ 35) L S E (σ 39 0) b1 b2 b3 b4 b5 := by
            simp only [mwd5, eq_true hl, eq_true c1, eq_true c3, c9, ↓reduceIte]
          exact kRz F hr hlocks hS8 dX9_isWord_130 rfl () q10 hP8 hD8
        · refine lv_aload_n hx hb dX9_isWord_47 rfl (lv_at hl2 1 rfl) ?_
          refine lv_aload_n hx hb dX9_isWord_48 rfl (lv_at hl2 1 rfl) ?_
          refine kget F hK hP8 9 0 38 iX9 rfl rfl (by decide) (List.mem_of_getElem? (i := 3) rfl) rfl dX9_isWord_49 ?_
          refine lv_iconst (v := 1) hx hb dX9_isWord_52 (by decide) ?_
          refine lv_iadd hx hb dX9_isWord_53 ?_
          rw [show ((σ 38 0) + 1) = nI (S + 1) from (by rw [hS]; exact nI_add S 1)]
          refine kWVi F hK hP8 hD8 hS8 hA hl2.1 (c_X9_letterAt l G h a σ (S + 1) L hL lL (by omega)) 9 0 gX9_isWord_X9_letterAt rfl 1 rfl (by decide +kernel) ⟨Nat.le_of_ble_eq_true rfl, Nat.le_of_ble_eq_true rfl⟩ ⟨Nat.zero_le _, Nat.zero_le _⟩ rfl rfl (Nat.le_of_ble_eq_true rfl) rfl dX9_isWord_54 (fun r11 u11 H12 locs12 hw11 (hP12 : va_P G.1 vwCl (mW G h a σ) H12) (hD12 : va_D A (mW G h a σ)) hS12 => ?_)
          clear hP8 hD8 hS8
          have w11_0 : r11 = mlet (σ 35) L (S + 1) := hw11
          have g11 : r11 = (mlet (σ 35) L (S + 1)) := (by exact w11_0)
          clear w11_0
          subst g11
          refine lv_iload_n hx hb dX9_isWord_57 rfl (lv_at hl2 3 rfl) ?_
          refine lv_icmp_ne (tgt := 129) hx hb dX9_isWord_58 (by decide) (fun c13 => ?_) (fun c13 => ?_)
          · refine lv_iconst (v := 0) hx hb dX9_isWord_129 (by decide) ?_
            have q14 : 0 = mwd5 (σ 35) L S E (σ 39 0) b1 b2 b3 b4 b5 := by
              simp only [mwd5, eq_true hl, eq_true c1, eq_true c3, eq_true c9, c13, ↓reduceIte]
            exact kRz F hr hlocks hS12 dX9_isWord_130 rfl () q14 hP12 hD12
          · refine lv_aload_n hx hb dX9_isWord_61 rfl (lv_at hl2 1 rfl) ?_
            refine lv_aload_n hx hb dX9_isWord_62 rfl (lv_at hl2 1 rfl) ?_
            refine kget F hK hP12 9 0 38 iX9 rfl rfl (by decide) (List.mem_of_getElem? (i := 3) rfl) rfl dX9_isWord_63 ?_
            refine lv_iconst (v := 2) hx hb dX9_isWord_66 (by decide) ?_
            refine lv_iadd hx hb dX9_isWord_67 ?_
            rw [show ((σ 38 0) + 2) = nI (S + 2) from (by rw [hS]; exact nI_add S 2)]
            refine kWVi F hK hP12 hD12 hS12 hA hl2.1 (c_X9_letterAt l G h a σ (S + 2) L hL lL (by omega)) 9 0 gX9_isWord_X9_letterAt rfl 1 rfl (by decide +kernel) ⟨Nat.le_of_ble_eq_true rfl, Nat.le_of_ble_eq_true rfl⟩ ⟨Nat.zero_le _, Nat.zero_le _⟩ rfl rfl (Nat.le_of_ble_eq_true rfl) rfl dX9_isWord_68 (fun r15 u15 H16 locs16 hw15 (hP16 : va_P G.1 vwCl (mW G h a σ) H16) (hD16 : va_D A (mW G h a σ)) hS16 => ?_)
            clear hP12 hD12 hS12
            have w15_0 : r15 = mlet (σ 35) L (S + 2) := hw15
            have g15 : r15 = (mlet (σ 35) L (S + 2)) := (by exact w15_0)
            clear w15_0
            subst g15
            refine lv_iload_n hx hb dX9_isWord_71 rfl (lv_at hl2 4 rfl) ?_
            refine lv_icmp_ne (tgt := 129) hx hb dX9_isWord_72 (by decide) (fun c17 => ?_) (fun c17 => ?_)
            · refine lv_iconst (v := 0) hx hb dX9_isWord_129 (by decide) ?_
              have q18 : 0 = mwd5 (σ 35) L S E (σ 39 0) b1 b2 b3 b4 b5 := by
                simp only [mwd5, eq_true hl, eq_true c1, eq_true c3, eq_true c9, eq_true c13, c17, ↓reduceIte]
              exact kRz F hr hlocks hS16 dX9_isWord_130 rfl () q18 hP16 hD16
            · refine lv_aload_n hx hb dX9_isWord_75 rfl (lv_at hl2 1 rfl) ?_
              refine lv_aload_n hx hb dX9_isWord_76 rfl (lv_at hl2 1 rfl) ?_
              refine kget F hK hP16 9 0 38 iX9 rfl rfl (by decide) (List.mem_of_getElem? (i := 3) rfl) rfl dX9_isWord_77 ?_
              refine lv_iconst (v := 3) hx hb dX9_isWord_80 (by decide) ?_
              refine lv_iadd hx hb dX9_isWord_81 ?_
              rw [show ((σ 38 0) + 3) = nI (S + 3) from (by rw [hS]; exact nI_add S 3)]
              refine kWVi F hK hP16 hD16 hS16 hA hl2.1 (c_X9_letterAt l G h a σ (S + 3) L hL lL (by omega)) 9 0 gX9_isWord_X9_letterAt rfl 1 rfl (by decide +kernel) ⟨Nat.le_of_ble_eq_true rfl, Nat.le_of_ble_eq_true rfl⟩ ⟨Nat.zero_le _, Nat.zero_le _⟩ rfl rfl (Nat.le_of_ble_eq_true rfl) rfl dX9_isWord_82 (fun r19 u19 H20 locs20 hw19 (hP20 : va_P G.1 vwCl (mW G h a σ) H20) (hD20 : va_D A (mW G h a σ)) hS20 => ?_)
              clear hP16 hD16 hS16
              have w19_0 : r19 = mlet (σ 35) L (S + 3) := hw19
              have g19 : r19 = (mlet (σ 35) L (S + 3)) := (by exact w19_0)
              clear w19_0
              subst g19
              refine lv_iload hx hb dX9_isWord_85 (lv_at hl2 5 rfl) ?_
              refine lv_icmp_ne (tgt := 129) hx hb dX9_isWord_87 (by decide) (fun c21 => ?_) (fun c21 => ?_)
              · refine lv_iconst (v := 0) hx hb dX9_isWord_129 (by decide) ?_
                have q22 : 0 = mwd5 (σ 35) L S E (σ 39 0) b1 b2 b3 b4 b5 := by
                  simp only [mwd5, eq_true hl, eq_true c1, eq_true c3, eq_true c9, eq_true c13, eq_true c17, c21, ↓reduceIte]
                exact kRz F hr hlocks hS20 dX9_isWord_130 rfl () q22 hP20 hD20
              · refine lv_aload_n hx hb dX9_isWord_90 rfl (lv_at hl2 1 rfl) ?_
                refine lv_aload_n hx hb dX9_isWord_91 rfl (lv_at hl2 1 rfl) ?_
                refine kget F hK hP20 9 0 38 iX9 rfl rfl (by decide) (List.mem_of_getElem? (i := 3) rfl) rfl dX9_isWord_92 ?_
                refine lv_iconst (v := 4) hx hb dX9_isWord_95 (by decide) ?_
                refine lv_iadd hx hb dX9_isWord_96 ?_
                rw [show ((σ 38 0) + 4) = nI (S + 4) from (by rw [hS]; exact nI_add S 4)]
                refine kWVi F hK hP20 hD20 hS20 hA hl2.1 (c_X9_letterAt l G h a σ (S + 4) L hL lL (by omega)) 9 0 gX9_isWord_X9_letterAt rfl 1 rfl (by decide +kernel) ⟨Nat.le_of_ble_eq_true rfl, Nat.le_of_ble_eq_true rfl⟩ ⟨Nat.zero_le _, Nat.zero_le _⟩ rfl rfl (Nat.le_of_ble_eq_true rfl) rfl dX9_isWord_97 (fun r23 u23 H24 locs24 hw23 (hP24 : va_P G.1 vwCl (mW G h a σ) H24) (hD24 : va_D A (mW G h a σ)) hS24 => ?_)
                clear hP20 hD20 hS20
                have w23_0 : r23 = mlet (σ 35) L (S + 4) := hw23
                have g23 : r23 = (mlet (σ 35) L (S + 4)) := (by exact w23_0)
                clear w23_0
                subst g23
                refine lv_iload hx hb dX9_isWord_100 (lv_at hl2 6 rfl) ?_
                refine lv_icmp_ne (tgt := 129) hx hb dX9_isWord_102 (by decide) (fun c25 => ?_) (fun c25 => ?_)
                · refine lv_iconst (v := 0) hx hb dX9_isWord_129 (by decide) ?_
                  have q26 : 0 = mwd5 (σ 35) L S E (σ 39 0) b1 b2 b3 b4 b5 := by
                    simp only [mwd5, eq_true hl, eq_true c1, eq_true c3, eq_true c9, eq_true c13, eq_true c17, eq_true c21, c25, ↓reduceIte]
                  exact kRz F hr hlocks hS24 dX9_isWord_130 rfl () q26 hP24 hD24
                · refine lv_iload hx hb dX9_isWord_105 (lv_at hl2 7 rfl) ?_
                  refine lv_if_eq (tgt := 125) hx hb dX9_isWord_107 (by decide) (fun c27 => ?_) (fun c27 => ?_)
                  · refine lv_iconst (v := 1) hx hb dX9_isWord_125 (by decide) ?_
                    refine lv_goto (tgt := 130) hx hb dX9_isWord_126 (by decide) ?_
                    have q28 : 1 = mwd5 (σ 35) L S E (σ 39 0) b1 b2 b3 b4 b5 := by
                      simp only [mwd5, eq_true hl, eq_true c1, eq_true c3, eq_true c9, eq_true c13, eq_true c17, eq_true c21, eq_true c25, eq_true c27, ↓reduceIte]
                    exact kRz F hr hlocks hS24 dX9_isWord_130 rfl () q28 hP24 hD24
                  · exact absurd (by decide) c27
  · exact absurd (by decide) c1
set_option maxHeartbeats 1000000 in
set_option maxRecDepth 100000 in
theorem c_X9_clause (l : Launch) (G : kG) (h : Nat) (a : Nat → Nat) (σ : kS) (L : Nat) (S : Nat) (E : Nat) (hL : σ 36 0 = nI L) (lL : L ≤ 200) (hS : σ 38 0 = nI S) (hE : σ 37 0 = nI E) (hSE : S ≤ E) (hEL : E ≤ L) (h39 : σ 39 0 = mtk (σ 35) L S) : kM G l yX9_clause wsX9_clause ({ frames := 2, cells := 0, slots := 0, locals := 48 }) [.ref h] (mW G h a σ) (kQi G (fun (rr : Int32) (uu : Unit) => rr = kckind (σ 35) S E) (fun (uu : Unit) => mW G h a σ)) := by
  refine kStart (cc := cX9_clause) (maxL := 1) (ret := (some .int)) (by decide) rfl (Nat.le_of_ble_eq_true rfl) (fun pg ev st mi bl mt cd A ls0 F hr hlocks hin hK hP0 hD0 hA hS0 hl0 => ?_)
  obtain ⟨hx, hb, hml, hown, hts⟩ := id F
  have hl0 : lv_has ls0 1 [(0, .ref h)] := hl0
  refine lv_aload_n hx hb dX9_clause_0 rfl (lv_at hl0 0 rfl) ?_
  refine lv_bipush (v := 99) hx hb dX9_clause_1 (by decide) ?_
  refine lv_bipush (v := 108) hx hb dX9_clause_3 (by decide) ?_
  refine lv_bipush (v := 105) hx hb dX9_clause_5 (by decide) ?_
  refine lv_bipush (v := 101) hx hb dX9_clause_7 (by decide) ?_
  refine lv_bipush (v := 110) hx hb dX9_clause_9 (by decide) ?_
  refine lv_bipush (v := 116) hx hb dX9_clause_11 (by decide) ?_
  refine kWVi F hK hP0 hD0 hS0 hA hl0.1 (c_X9_isWord6 l G h a σ 99 108 105 101 110 116 L S E hL lL hS hE hSE hEL (by decide)) 9 0 gX9_clause_X9_isWord rfl 6 rfl (by decide +kernel) ⟨Nat.le_of_ble_eq_true rfl, Nat.le_of_ble_eq_true rfl⟩ ⟨Nat.zero_le _, Nat.zero_le _⟩ rfl rfl (Nat.le_of_ble_eq_true rfl) rfl dX9_clause_13 (fun r1 u1 H2 locs2 hw1 (hP2 : va_P G.1 vwCl (mW G h a σ) H2) (hD2 : va_D A (mW G h a σ)) hS2 => ?_)
  clear hP0 hD0 hS0
  have w1_0 : r1 = mwd6 (σ 35) L S E (σ 39 0) 99 108 105 101 110 116 := hw1
  have g1 : r1 = (bI (kwd 0 (σ 35) S E)) := (by rw [h39] at w1_0; exact w1_0.trans (mwd6_eq (i := 0) rfl rfl (by decide) hEL))
  clear w1_0
  subst g1
  refine lv_if_eq (tgt := 21) hx hb dX9_clause_16 (by decide) (fun c3 => ?_) (fun c3 => ?_)
  · refine lv_aload_n hx hb dX9_clause_21 rfl (lv_at hl0 0 rfl) ?_
    refine lv_bipush (v := 115) hx hb dX9_clause_22 (by decide) ?_
    refine lv_bipush (v := 101) hx hb dX9_clause_24 (by decide) ?_
    refine lv_bipush (v := 114) hx hb dX9_clause_26 (by decide) ?_
    refine lv_bipush (v := 118) hx hb dX9_clause_28 (by decide) ?_
    refine lv_bipush (v := 101) hx hb dX9_clause_30 (by decide) ?_
    refine lv_bipush (v := 114) hx hb dX9_clause_32 (by decide) ?_
    refine kWVi F hK hP2 hD2 hS2 hA hl0.1 (c_X9_isWord6 l G h a σ 115 101 114 118 101 114 L S E hL lL hS hE hSE hEL (by decide)) 9 0 gX9_clause_X9_isWord rfl 6 rfl (by decide +kernel) ⟨Nat.le_of_ble_eq_true rfl, Nat.le_of_ble_eq_true rfl⟩ ⟨Nat.zero_le _, Nat.zero_le _⟩ rfl rfl (Nat.le_of_ble_eq_true rfl) rfl dX9_clause_34 (fun r4 u4 H5 locs5 hw4 (hP5 : va_P G.1 vwCl (mW G h a σ) H5) (hD5 : va_D A (mW G h a σ)) hS5 => ?_)
    clear hP2 hD2 hS2
    have w4_0 : r4 = mwd6 (σ 35) L S E (σ 39 0) 115 101 114 118 101 114 := hw4
    have g4 : r4 = (bI (kwd 1 (σ 35) S E)) := (by rw [h39] at w4_0; exact w4_0.trans (mwd6_eq (i := 1) rfl rfl (by decide) hEL))
    clear w4_0
    subst g4
    refine lv_if_eq (tgt := 42) hx hb dX9_clause_37 (by decide) (fun c6 => ?_) (fun c6 => ?_)
    · refine lv_aload_n hx hb dX9_clause_42 rfl (lv_at hl0 0 rfl) ?_
      refine lv_bipush (v := 115) hx hb dX9_clause_43 (by decide) ?_
      refine lv_bipush (v := 101) hx hb dX9_clause_45 (by decide) ?_
      refine lv_bipush (v := 99) hx hb dX9_clause_47 (by decide) ?_
      refine lv_bipush (v := 114) hx hb dX9_clause_49 (by decide) ?_
      refine lv_bipush (v := 101) hx hb dX9_clause_51 (by decide) ?_
      refine lv_bipush (v := 116) hx hb dX9_clause_53 (by decide) ?_
      refine kWVi F hK hP5 hD5 hS5 hA hl0.1 (c_X9_isWord6 l G h a σ 115 101 99 114 101 116 L S E hL lL hS hE hSE hEL (by decide)) 9 0 gX9_clause_X9_isWord rfl 6 rfl (by decide +kernel) ⟨Nat.le_of_ble_eq_true rfl, Nat.le_of_ble_eq_true rfl⟩ ⟨Nat.zero_le _, Nat.zero_le _⟩ rfl rfl (Nat.le_of_ble_eq_true rfl) rfl dX9_clause_55 (fun r7 u7 H8 locs8 hw7 (hP8 : va_P G.1 vwCl (mW G h a σ) H8) (hD8 : va_D A (mW G h a σ)) hS8 => ?_)
      clear hP5 hD5 hS5
      have w7_0 : r7 = mwd6 (σ 35) L S E (σ 39 0) 115 101 99 114 101 116 := hw7
      have g7 : r7 = (bI (kwd 2 (σ 35) S E)) := (by rw [h39] at w7_0; exact w7_0.trans (mwd6_eq (i := 2) rfl rfl (by decide) hEL))
      clear w7_0
      subst g7
      refine lv_if_eq (tgt := 63) hx hb dX9_clause_58 (by decide) (fun c9 => ?_) (fun c9 => ?_)
      · refine lv_aload_n hx hb dX9_clause_63 rfl (lv_at hl0 0 rfl) ?_
        refine lv_bipush (v := 103) hx hb dX9_clause_64 (by decide) ?_
        refine lv_bipush (v := 117) hx hb dX9_clause_66 (by decide) ?_
        refine lv_bipush (v := 101) hx hb dX9_clause_68 (by decide) ?_
        refine lv_bipush (v := 115) hx hb dX9_clause_70 (by decide) ?_
        refine lv_bipush (v := 115) hx hb dX9_clause_72 (by decide) ?_
        refine lv_iconst (v := 0) hx hb dX9_clause_74 (by decide) ?_
        refine kWVi F hK hP8 hD8 hS8 hA hl0.1 (c_X9_isWord5 l G h a σ 103 117 101 115 115 L S E hL lL hS hE hSE hEL) 9 0 gX9_clause_X9_isWord rfl 6 rfl (by decide +kernel) ⟨Nat.le_of_ble_eq_true rfl, Nat.le_of_ble_eq_true rfl⟩ ⟨Nat.zero_le _, Nat.zero_le _⟩ rfl rfl (Nat.le_of_ble_eq_true rfl) rfl dX9_clause_75 (fun r10 u10 H11 locs11 hw10 (hP11 : va_P G.1 vwCl (mW G h a σ) H11) (hD11 : va_D A (mW G h a σ)) hS11 => ?_)
        clear hP8 hD8 hS8
        have w10_0 : r10 = mwd5 (σ 35) L S E (σ 39 0) 103 117 101 115 115 := hw10
        have g10 : r10 = (bI (kwd 3 (σ 35) S E)) := (by rw [h39] at w10_0; exact w10_0.trans (mwd5_eq (i := 3) rfl rfl (by decide) hEL))
        clear w10_0
        subst g10
        refine lv_if_eq (tgt := 85) hx hb dX9_clause_78 (by decide) (fun c12 => ?_) (fun c12 => ?_)
        · refine lv_aload_n hx hb dX9_clause_85 rfl (lv_at hl0 0 rfl) ?_
          refine lv_bipush (v := 101) hx hb dX9_clause_86 (by decide) ?_
          refine lv_bipush (v := 97) hx hb dX9_clause_88 (by decide) ?_
          refine lv_bipush (v := 114) hx hb dX9_clause_90 (by decide) ?_
          refine lv_bipush (v := 108) hx hb dX9_clause_92 (by decide) ?_
          refine lv_bipush (v := 121) hx hb dX9_clause_94 (by decide) ?_
          refine lv_iconst (v := 0) hx hb dX9_clause_96 (by decide) ?_
          refine kWVi F hK hP11 hD11 hS11 hA hl0.1 (c_X9_isWord5 l G h a σ 101 97 114 108 121 L S E hL lL hS hE hSE hEL) 9 0 gX9_clause_X9_isWord rfl 6 rfl (by decide +kernel) ⟨Nat.le_of_ble_eq_true rfl, Nat.le_of_ble_eq_true rfl⟩ ⟨Nat.zero_le _, Nat.zero_le _⟩ rfl rfl (Nat.le_of_ble_eq_true rfl) rfl dX9_clause_97 (fun r13 u13 H14 locs14 hw13 (hP14 : va_P G.1 vwCl (mW G h a σ) H14) (hD14 : va_D A (mW G h a σ)) hS14 => ?_)
          clear hP11 hD11 hS11
          have w13_0 : r13 = mwd5 (σ 35) L S E (σ 39 0) 101 97 114 108 121 := hw13
          have g13 : r13 = (bI (kwd 4 (σ 35) S E)) := (by rw [h39] at w13_0; exact w13_0.trans (mwd5_eq (i := 4) rfl rfl (by decide) hEL))
          clear w13_0
          subst g13
          refine lv_if_eq (tgt := 107) hx hb dX9_clause_100 (by decide) (fun c15 => ?_) (fun c15 => ?_)
          · refine lv_iconst (v := (-1)) hx hb dX9_clause_107 (by decide) ?_
            have q16 : (-1) = kckind (σ 35) S E := by
              first | (simp only [kckind, eq_true c3, eq_true c6, eq_true c9, eq_true c12, eq_true c15, eq_self, ↓reduceIte, and_self, and_true, true_and]; done) | (simp only [kckind, eq_true c3, eq_true c6, eq_true c9, eq_true c12, eq_true c15, eq_self, ↓reduceIte, and_self, and_true, true_and]; (try and_intros) <;> rfl)
            exact kRi F hr hlocks hS14 dX9_clause_108 () q16 hP14 hD14
          · refine lv_iconst (v := 4) hx hb dX9_clause_103 (by decide) ?_
            refine lv_goto (tgt := 108) hx hb dX9_clause_104 (by decide) ?_
            have q17 : 4 = kckind (σ 35) S E := by
              first | (simp only [kckind, eq_true c3, eq_true c6, eq_true c9, eq_true c12, c15, eq_self, ↓reduceIte, and_self, and_true, true_and]; done) | (simp only [kckind, eq_true c3, eq_true c6, eq_true c9, eq_true c12, c15, eq_self, ↓reduceIte, and_self, and_true, true_and]; (try and_intros) <;> rfl)
            exact kRi F hr hlocks hS14 dX9_clause_108 () q17 hP14 hD14
        · refine lv_iconst (v := 3) hx hb dX9_clause_81 (by decide) ?_
          refine lv_goto (tgt := 108) hx hb dX9_clause_82 (by decide) ?_
          have q18 : 3 = kckind (σ 35) S E := by
            first | (simp only [kckind, eq_true c3, eq_true c6, eq_true c9, c12, eq_self, ↓reduceIte, and_self, and_true, true_and]; done) | (simp only [kckind, eq_true c3, eq_true c6, eq_true c9, c12, eq_self, ↓reduceIte, and_self, and_true, true_and]; (try and_intros) <;> rfl)
          exact kRi F hr hlocks hS11 dX9_clause_108 () q18 hP11 hD11
      · refine lv_iconst (v := 2) hx hb dX9_clause_61 (by decide) ?_
        have q19 : 2 = kckind (σ 35) S E := by
          first | (simp only [kckind, eq_true c3, eq_true c6, c9, eq_self, ↓reduceIte, and_self, and_true, true_and]; done) | (simp only [kckind, eq_true c3, eq_true c6, c9, eq_self, ↓reduceIte, and_self, and_true, true_and]; (try and_intros) <;> rfl)
        exact kRi F hr hlocks hS8 dX9_clause_62 () q19 hP8 hD8
    · refine lv_iconst (v := 1) hx hb dX9_clause_40 (by decide) ?_
      have q20 : 1 = kckind (σ 35) S E := by
        first | (simp only [kckind, eq_true c3, c6, eq_self, ↓reduceIte, and_self, and_true, true_and]; done) | (simp only [kckind, eq_true c3, c6, eq_self, ↓reduceIte, and_self, and_true, true_and]; (try and_intros) <;> rfl)
      exact kRi F hr hlocks hS5 dX9_clause_41 () q20 hP5 hD5
  · refine lv_iconst (v := 0) hx hb dX9_clause_19 (by decide) ?_
    have q21 : 0 = kckind (σ 35) S E := by
      first | (simp only [kckind, c3, eq_self, ↓reduceIte, and_self, and_true, true_and]; done) | (simp only [kckind, c3, eq_self, ↓reduceIte, and_self, and_true, true_and]; (try and_intros) <;> rfl)
    exact kRi F hr hlocks hS2 dX9_clause_20 () q21 hP2 hD2
set_option maxHeartbeats 1000000 in
set_option maxRecDepth 100000 in
theorem c_X9_isNumber (l : Launch) (G : kG) (h : Nat) (a : Nat → Nat) (σ : kS) (v : Int32) (w0 : Int32) (L : Nat) (S : Nat) (h39 : σ 39 0 = mtk (σ 35) L S) (h40 : σ 40 0 = mvl (σ 35) L S) (h41 : σ 41 0 = mdi (σ 35) L S) (hLL : L ≤ 200) (hSL : S ≤ L) (ha : ¬ v < 0) : kM G l yX9_isNumber wsX9_isNumber ({ frames := 1, cells := 0, slots := 0, locals := 25 }) [.ref h, .int v, .int w0] (mW G h a σ) (kQi G (fun (rr : Int32) (uu : Unit) => rr = if knum (σ 35) S (ktokE (σ 35) L S) v w0 = -1 then (0 : Int32) else 1) (fun (uu : Unit) => mW G h a σ)) := by
  refine kStart (cc := cX9_isNumber) (maxL := 3) (ret := (some .boolean)) (by decide) rfl (Nat.le_of_ble_eq_true rfl) (fun pg ev st mi bl mt cd A ls0 F hr hlocks hin hK hP0 hD0 hA hS0 hl0 => ?_)
  obtain ⟨hx, hb, hml, hown, hts⟩ := id F
  have hl0 : lv_has ls0 3 [(0, .ref h), (1, .int v), (2, .int w0)] := hl0
  have iX9 : ∀ w ∈ u_ws RX9 TX9 43, w ∈ wsX9_isNumber := fun w h => List.mem_cons_of_mem _ (List.mem_append_right _ h)
  refine lv_aload_n hx hb dX9_isNumber_0 rfl (lv_at hl0 0 rfl) ?_
  refine kget F hK hP0 9 0 39 iX9 rfl rfl (by decide) (List.mem_of_getElem? (i := 1) rfl) rfl dX9_isNumber_1 ?_
  refine lv_iconst (v := 2) hx hb dX9_isNumber_4 (by decide) ?_
  refine lv_icmp_ne (tgt := 35) hx hb dX9_isNumber_5 (by decide) (fun c1 => ?_) (fun c1 => ?_)
  · refine lv_iconst (v := 0) hx hb dX9_isNumber_35 (by decide) ?_
    have q2 : 0 = if knum (σ 35) S (ktokE (σ 35) L S) v w0 = -1 then (0 : Int32) else 1 := by
      rw [← (mnum_eq hLL hSL ha).1]
      subst_vars
      unfold mnum
      rw [← h39, ← h40, ← h41]
      simp only [c1, ↓reduceIte]
    exact kRz F hr hlocks hS0 dX9_isNumber_36 rfl () q2 hP0 hD0
  · refine lv_aload_n hx hb dX9_isNumber_8 rfl (lv_at hl0 0 rfl) ?_
    refine kget F hK hP0 9 0 41 iX9 rfl rfl (by decide) (List.mem_of_getElem? (i := 2) rfl) rfl dX9_isNumber_9 ?_
    refine lv_iconst (v := 4) hx hb dX9_isNumber_12 (by decide) ?_
    refine lv_icmp_ge (tgt := 35) hx hb dX9_isNumber_13 (by decide) (fun c3 => ?_) (fun c3 => ?_)
    · refine lv_iconst (v := 0) hx hb dX9_isNumber_35 (by decide) ?_
      have q4 : 0 = if knum (σ 35) S (ktokE (σ 35) L S) v w0 = -1 then (0 : Int32) else 1 := by
        rw [← (mnum_eq hLL hSL ha).1]
        subst_vars
        unfold mnum
        rw [← h39, ← h40, ← h41]
        simp only [eq_true c1, eq_true c3, ↓reduceIte]
      exact kRz F hr hlocks hS0 dX9_isNumber_36 rfl () q4 hP0 hD0
    · refine lv_aload_n hx hb dX9_isNumber_16 rfl (lv_at hl0 0 rfl) ?_
      refine kget F hK hP0 9 0 40 iX9 rfl rfl (by decide) (List.mem_of_getElem? (i := 3) rfl) rfl dX9_isNumber_17 ?_
      refine lv_i2l (v := (σ 40 0).toInt64) hx hb dX9_isNumber_20 rfl ?_
      refine lv_iload_n hx hb dX9_isNumber_21 rfl (lv_at hl0 1 rfl) ?_
      refine lv_i2l (v := v.toInt64) hx hb dX9_isNumber_22 rfl ?_
      refine lv_iload_n hx hb dX9_isNumber_23 rfl (lv_at hl0 2 rfl) ?_
      refine lv_i2l (v := w0.toInt64) hx hb dX9_isNumber_24 rfl ?_
      refine kPSi F hK hP0 hD0 hS0 hA hl0.1 (c_X9_in l G ((σ 40 0).toInt64) v.toInt64 w0.toInt64) (fun _ => rfl) gX9_isNumber_X9_in rfl 3 rfl (by decide +kernel) ⟨Nat.le_of_ble_eq_true rfl, Nat.le_of_ble_eq_true rfl⟩ ⟨Nat.zero_le _, Nat.zero_le _⟩ (Nat.le_of_ble_eq_true rfl) rfl dX9_isNumber_25 (fun r5 u5 H6 locs6 hw5 (hP6 : va_P G.1 vwCl (mW G h a σ) H6) (hD6 : va_D A (mW G h a σ)) hS6 => ?_)
      clear hP0 hD0 hS0
      have w5_0 : r5 = kinL ((σ 40 0).toInt64) v.toInt64 w0.toInt64 := hw5
      refine lv_if_eq (tgt := 35) hx hb dX9_isNumber_28 (by decide) (fun c7 => ?_) (fun c7 => ?_)
      · refine lv_iconst (v := 0) hx hb dX9_isNumber_35 (by decide) ?_
        have q8 : 0 = if knum (σ 35) S (ktokE (σ 35) L S) v w0 = -1 then (0 : Int32) else 1 := by
          rw [← (mnum_eq hLL hSL ha).1]
          subst_vars
          unfold mnum
          rw [← h39, ← h40, ← h41]
          simp only [eq_true c1, c3, eq_true c7, ↓reduceIte]
        exact kRz F hr hlocks hS6 dX9_isNumber_36 rfl () q8 hP6 hD6
      · refine lv_iconst (v := 1) hx hb dX9_isNumber_31 (by decide) ?_
        refine lv_goto (tgt := 36) hx hb dX9_isNumber_32 (by decide) ?_
        have q9 : 1 = if knum (σ 35) S (ktokE (σ 35) L S) v w0 = -1 then (0 : Int32) else 1 := by
          rw [← (mnum_eq hLL hSL ha).1]
          subst_vars
          unfold mnum
          rw [← h39, ← h40, ← h41]
          simp only [eq_true c1, c3, c7, ↓reduceIte]
        exact kRz F hr hlocks hS6 dX9_isNumber_36 rfl () q9 hP6 hD6
set_option maxHeartbeats 1000000 in
set_option maxRecDepth 100000 in
theorem c_X9_does (l : Launch) (G : kG) (h : Nat) (a : Nat → Nat) (σ : kS) (kd : Int32) (v : Int32) (w0 : Int32) (hk : kd = 0 ∨ kd = 1 ∨ kd = 2 ∨ kd = 3 ∨ kd = 4) (h2 : kd = 2 → v = 0 ∨ v = 1) : kM G l yX9_does wsX9_does ({ frames := 0, cells := 0, slots := 0, locals := 0 }) [.ref h, .int kd, .int v, .int w0] (mW G h a σ) (kQv G (fun (uu : kS) => uu = mdoes σ kd v w0) (fun (uu : kS) => mW G h a uu)) := by
  refine kStart (cc := cX9_does) (maxL := 4) (ret := none) (by decide) rfl (Nat.le_of_ble_eq_true rfl) (fun pg ev st mi bl mt cd A ls0 F hr hlocks hin hK hP0 hD0 hA hS0 hl0 => ?_)
  obtain ⟨hx, hb, hml, hown, hts⟩ := id F
  have hl0 : lv_has ls0 4 [(0, .ref h), (1, .int kd), (2, .int v), (3, .int w0)] := hl0
  have iX9 : ∀ w ∈ u_ws RX9 TX9 43, w ∈ wsX9_does := fun w h => List.mem_cons_of_mem _ (List.mem_append_right _ h)
  rcases hk with rfl | rfl | rfl | rfl | rfl
  · skip
    refine lv_iload_n hx hb dX9_does_0 rfl (lv_at hl0 1 rfl) ?_
    refine lv_iconst (v := 2) hx hb dX9_does_1 (by decide) ?_
    refine lv_icmp_ge (tgt := 22) hx hb dX9_does_2 (by decide) (fun c1 => ?_) (fun c1 => ?_)
    · exact absurd c1 (by decide)
    · refine lv_aload_n hx hb dX9_does_5 rfl (lv_at hl0 0 rfl) ?_
      refine kget F hK hP0 9 0 0 iX9 rfl rfl (by decide) (List.mem_of_getElem? (i := 1) rfl) rfl dX9_does_6 ?_
      refine lv_iload_n hx hb dX9_does_9 rfl (lv_at hl0 1 rfl) ?_
      refine lv_iload_n hx hb dX9_does_10 rfl (lv_at hl0 2 rfl) ?_
      refine kMst F hK hP0 hD0 hS0 0 1 0 rfl rfl (by decide) (Nat.le_of_ble_eq_true rfl) rfl dX9_does_11 (fun H2 locs2 σ2 eσ2 hP2 hD2 hS2 => ?_)
      clear hP0 hD0 hS0
      refine lv_aload_n hx hb dX9_does_12 rfl (lv_at hl0 0 rfl) ?_
      refine kget F hK hP2 9 0 1 iX9 rfl rfl (by decide) (List.mem_of_getElem? (i := 2) rfl) rfl dX9_does_13 ?_
      refine lv_iload_n hx hb dX9_does_16 rfl (lv_at hl0 1 rfl) ?_
      refine lv_iload_n hx hb dX9_does_17 rfl (lv_at hl0 3 rfl) ?_
      refine kMst F hK hP2 hD2 hS2 1 2 0 rfl rfl (by decide) (Nat.le_of_ble_eq_true rfl) rfl dX9_does_18 (fun H3 locs3 σ3 eσ3 hP3 hD3 hS3 => ?_)
      clear hP2 hD2 hS2
      refine lv_goto (tgt := 55) hx hb dX9_does_19 (by decide) ?_
      have q4 : σ3 = mdoes σ 0 v w0 := by
        subst eσ3
        subst eσ2
        first | rfl | (simp only [mdoes, show ¬ ((0 : Int32) = 1) from by decide, show ¬ ((0 : Int32) = 2) from by decide, show ¬ ((0 : Int32) = 3) from by decide, show ¬ ((1 : Int32) = 0) from by decide, show ¬ ((1 : Int32) = 2) from by decide, show ¬ ((1 : Int32) = 3) from by decide, show ¬ ((2 : Int32) = 0) from by decide, show ¬ ((2 : Int32) = 1) from by decide, show ¬ ((2 : Int32) = 3) from by decide, show ¬ ((3 : Int32) = 0) from by decide, show ¬ ((3 : Int32) = 1) from by decide, show ¬ ((3 : Int32) = 2) from by decide, show ¬ ((4 : Int32) = 0) from by decide, show ¬ ((4 : Int32) = 1) from by decide, show ¬ ((4 : Int32) = 2) from by decide, show ¬ ((4 : Int32) = 3) from by decide, ↓reduceIte]; done) | (simp only [mdoes, show ¬ ((0 : Int32) = 1) from by decide, show ¬ ((0 : Int32) = 2) from by decide, show ¬ ((0 : Int32) = 3) from by decide, show ¬ ((1 : Int32) = 0) from by decide, show ¬ ((1 : Int32) = 2) from by decide, show ¬ ((1 : Int32) = 3) from by decide, show ¬ ((2 : Int32) = 0) from by decide, show ¬ ((2 : Int32) = 1) from by decide, show ¬ ((2 : Int32) = 3) from by decide, show ¬ ((3 : Int32) = 0) from by decide, show ¬ ((3 : Int32) = 1) from by decide, show ¬ ((3 : Int32) = 2) from by decide, show ¬ ((4 : Int32) = 0) from by decide, show ¬ ((4 : Int32) = 1) from by decide, show ¬ ((4 : Int32) = 2) from by decide, show ¬ ((4 : Int32) = 3) from by decide, ↓reduceIte]; rfl)
      exact kRv F hr hlocks hS3 dX9_does_55 σ3 q4 hP3 hD3
  · skip
    refine lv_iload_n hx hb dX9_does_0 rfl (lv_at hl0 1 rfl) ?_
    refine lv_iconst (v := 2) hx hb dX9_does_1 (by decide) ?_
    refine lv_icmp_ge (tgt := 22) hx hb dX9_does_2 (by decide) (fun c5 => ?_) (fun c5 => ?_)
    · exact absurd c5 (by decide)
    · refine lv_aload_n hx hb dX9_does_5 rfl (lv_at hl0 0 rfl) ?_
      refine kget F hK hP0 9 0 0 iX9 rfl rfl (by decide) (List.mem_of_getElem? (i := 1) rfl) rfl dX9_does_6 ?_
      refine lv_iload_n hx hb dX9_does_9 rfl (lv_at hl0 1 rfl) ?_
      refine lv_iload_n hx hb dX9_does_10 rfl (lv_at hl0 2 rfl) ?_
      refine kMst F hK hP0 hD0 hS0 0 1 1 rfl rfl (by decide) (Nat.le_of_ble_eq_true rfl) rfl dX9_does_11 (fun H6 locs6 σ6 eσ6 hP6 hD6 hS6 => ?_)
      clear hP0 hD0 hS0
      refine lv_aload_n hx hb dX9_does_12 rfl (lv_at hl0 0 rfl) ?_
      refine kget F hK hP6 9 0 1 iX9 rfl rfl (by decide) (List.mem_of_getElem? (i := 2) rfl) rfl dX9_does_13 ?_
      refine lv_iload_n hx hb dX9_does_16 rfl (lv_at hl0 1 rfl) ?_
      refine lv_iload_n hx hb dX9_does_17 rfl (lv_at hl0 3 rfl) ?_
      refine kMst F hK hP6 hD6 hS6 1 2 1 rfl rfl (by decide) (Nat.le_of_ble_eq_true rfl) rfl dX9_does_18 (fun H7 locs7 σ7 eσ7 hP7 hD7 hS7 => ?_)
      clear hP6 hD6 hS6
      refine lv_goto (tgt := 55) hx hb dX9_does_19 (by decide) ?_
      have q8 : σ7 = mdoes σ 1 v w0 := by
        subst eσ7
        subst eσ6
        first | rfl | (simp only [mdoes, show ¬ ((0 : Int32) = 1) from by decide, show ¬ ((0 : Int32) = 2) from by decide, show ¬ ((0 : Int32) = 3) from by decide, show ¬ ((1 : Int32) = 0) from by decide, show ¬ ((1 : Int32) = 2) from by decide, show ¬ ((1 : Int32) = 3) from by decide, show ¬ ((2 : Int32) = 0) from by decide, show ¬ ((2 : Int32) = 1) from by decide, show ¬ ((2 : Int32) = 3) from by decide, show ¬ ((3 : Int32) = 0) from by decide, show ¬ ((3 : Int32) = 1) from by decide, show ¬ ((3 : Int32) = 2) from by decide, show ¬ ((4 : Int32) = 0) from by decide, show ¬ ((4 : Int32) = 1) from by decide, show ¬ ((4 : Int32) = 2) from by decide, show ¬ ((4 : Int32) = 3) from by decide, ↓reduceIte]; done) | (simp only [mdoes, show ¬ ((0 : Int32) = 1) from by decide, show ¬ ((0 : Int32) = 2) from by decide, show ¬ ((0 : Int32) = 3) from by decide, show ¬ ((1 : Int32) = 0) from by decide, show ¬ ((1 : Int32) = 2) from by decide, show ¬ ((1 : Int32) = 3) from by decide, show ¬ ((2 : Int32) = 0) from by decide, show ¬ ((2 : Int32) = 1) from by decide, show ¬ ((2 : Int32) = 3) from by decide, show ¬ ((3 : Int32) = 0) from by decide, show ¬ ((3 : Int32) = 1) from by decide, show ¬ ((3 : Int32) = 2) from by decide, show ¬ ((4 : Int32) = 0) from by decide, show ¬ ((4 : Int32) = 1) from by decide, show ¬ ((4 : Int32) = 2) from by decide, show ¬ ((4 : Int32) = 3) from by decide, ↓reduceIte]; rfl)
      exact kRv F hr hlocks hS7 dX9_does_55 σ7 q8 hP7 hD7
  · rcases h2 rfl with rfl | rfl
    · skip
      refine lv_iload_n hx hb dX9_does_0 rfl (lv_at hl0 1 rfl) ?_
      refine lv_iconst (v := 2) hx hb dX9_does_1 (by decide) ?_
      refine lv_icmp_ge (tgt := 22) hx hb dX9_does_2 (by decide) (fun c9 => ?_) (fun c9 => ?_)
      · refine lv_iload_n hx hb dX9_does_22 rfl (lv_at hl0 1 rfl) ?_
        refine lv_iconst (v := 2) hx hb dX9_does_23 (by decide) ?_
        refine lv_icmp_ne (tgt := 37) hx hb dX9_does_24 (by decide) (fun c10 => ?_) (fun c10 => ?_)
        · exact absurd (by decide) c10
        · refine lv_aload_n hx hb dX9_does_27 rfl (lv_at hl0 0 rfl) ?_
          refine kget F hK hP0 9 0 2 iX9 rfl rfl (by decide) (List.mem_of_getElem? (i := 3) rfl) rfl dX9_does_28 ?_
          refine lv_iload_n hx hb dX9_does_31 rfl (lv_at hl0 2 rfl) ?_
          refine lv_iload_n hx hb dX9_does_32 rfl (lv_at hl0 3 rfl) ?_
          refine kMst F hK hP0 hD0 hS0 2 3 0 rfl rfl (by decide) (Nat.le_of_ble_eq_true rfl) rfl dX9_does_33 (fun H11 locs11 σ11 eσ11 hP11 hD11 hS11 => ?_)
          clear hP0 hD0 hS0
          refine lv_goto (tgt := 55) hx hb dX9_does_34 (by decide) ?_
          have q12 : σ11 = mdoes σ 2 0 w0 := by
            subst eσ11
            first | rfl | (simp only [mdoes, show ¬ ((0 : Int32) = 1) from by decide, show ¬ ((0 : Int32) = 2) from by decide, show ¬ ((0 : Int32) = 3) from by decide, show ¬ ((1 : Int32) = 0) from by decide, show ¬ ((1 : Int32) = 2) from by decide, show ¬ ((1 : Int32) = 3) from by decide, show ¬ ((2 : Int32) = 0) from by decide, show ¬ ((2 : Int32) = 1) from by decide, show ¬ ((2 : Int32) = 3) from by decide, show ¬ ((3 : Int32) = 0) from by decide, show ¬ ((3 : Int32) = 1) from by decide, show ¬ ((3 : Int32) = 2) from by decide, show ¬ ((4 : Int32) = 0) from by decide, show ¬ ((4 : Int32) = 1) from by decide, show ¬ ((4 : Int32) = 2) from by decide, show ¬ ((4 : Int32) = 3) from by decide, ↓reduceIte]; done) | (simp only [mdoes, show ¬ ((0 : Int32) = 1) from by decide, show ¬ ((0 : Int32) = 2) from by decide, show ¬ ((0 : Int32) = 3) from by decide, show ¬ ((1 : Int32) = 0) from by decide, show ¬ ((1 : Int32) = 2) from by decide, show ¬ ((1 : Int32) = 3) from by decide, show ¬ ((2 : Int32) = 0) from by decide, show ¬ ((2 : Int32) = 1) from by decide, show ¬ ((2 : Int32) = 3) from by decide, show ¬ ((3 : Int32) = 0) from by decide, show ¬ ((3 : Int32) = 1) from by decide, show ¬ ((3 : Int32) = 2) from by decide, show ¬ ((4 : Int32) = 0) from by decide, show ¬ ((4 : Int32) = 1) from by decide, show ¬ ((4 : Int32) = 2) from by decide, show ¬ ((4 : Int32) = 3) from by decide, ↓reduceIte]; rfl)
          exact kRv F hr hlocks hS11 dX9_does_55 σ11 q12 hP11 hD11
      · exact absurd (by decide) c9
    · skip
      refine lv_iload_n hx hb dX9_does_0 rfl (lv_at hl0 1 rfl) ?_
      refine lv_iconst (v := 2) hx hb dX9_does_1 (by decide) ?_
      refine lv_icmp_ge (tgt := 22) hx hb dX9_does_2 (by decide) (fun c13 => ?_) (fun c13 => ?_)
      · refine lv_iload_n hx hb dX9_does_22 rfl (lv_at hl0 1 rfl) ?_
        refine lv_iconst (v := 2) hx hb dX9_does_23 (by decide) ?_
        refine lv_icmp_ne (tgt := 37) hx hb dX9_does_24 (by decide) (fun c14 => ?_) (fun c14 => ?_)
        · exact absurd (by decide) c14
        · refine lv_aload_n hx hb dX9_does_27 rfl (lv_at hl0 0 rfl) ?_
          refine kget F hK hP0 9 0 2 iX9 rfl rfl (by decide) (List.mem_of_getElem? (i := 3) rfl) rfl dX9_does_28 ?_
          refine lv_iload_n hx hb dX9_does_31 rfl (lv_at hl0 2 rfl) ?_
          refine lv_iload_n hx hb dX9_does_32 rfl (lv_at hl0 3 rfl) ?_
          refine kMst F hK hP0 hD0 hS0 2 3 1 rfl rfl (by decide) (Nat.le_of_ble_eq_true rfl) rfl dX9_does_33 (fun H15 locs15 σ15 eσ15 hP15 hD15 hS15 => ?_)
          clear hP0 hD0 hS0
          refine lv_goto (tgt := 55) hx hb dX9_does_34 (by decide) ?_
          have q16 : σ15 = mdoes σ 2 1 w0 := by
            subst eσ15
            first | rfl | (simp only [mdoes, show ¬ ((0 : Int32) = 1) from by decide, show ¬ ((0 : Int32) = 2) from by decide, show ¬ ((0 : Int32) = 3) from by decide, show ¬ ((1 : Int32) = 0) from by decide, show ¬ ((1 : Int32) = 2) from by decide, show ¬ ((1 : Int32) = 3) from by decide, show ¬ ((2 : Int32) = 0) from by decide, show ¬ ((2 : Int32) = 1) from by decide, show ¬ ((2 : Int32) = 3) from by decide, show ¬ ((3 : Int32) = 0) from by decide, show ¬ ((3 : Int32) = 1) from by decide, show ¬ ((3 : Int32) = 2) from by decide, show ¬ ((4 : Int32) = 0) from by decide, show ¬ ((4 : Int32) = 1) from by decide, show ¬ ((4 : Int32) = 2) from by decide, show ¬ ((4 : Int32) = 3) from by decide, ↓reduceIte]; done) | (simp only [mdoes, show ¬ ((0 : Int32) = 1) from by decide, show ¬ ((0 : Int32) = 2) from by decide, show ¬ ((0 : Int32) = 3) from by decide, show ¬ ((1 : Int32) = 0) from by decide, show ¬ ((1 : Int32) = 2) from by decide, show ¬ ((1 : Int32) = 3) from by decide, show ¬ ((2 : Int32) = 0) from by decide, show ¬ ((2 : Int32) = 1) from by decide, show ¬ ((2 : Int32) = 3) from by decide, show ¬ ((3 : Int32) = 0) from by decide, show ¬ ((3 : Int32) = 1) from by decide, show ¬ ((3 : Int32) = 2) from by decide, show ¬ ((4 : Int32) = 0) from by decide, show ¬ ((4 : Int32) = 1) from by decide, show ¬ ((4 : Int32) = 2) from by decide, show ¬ ((4 : Int32) = 3) from by decide, ↓reduceIte]; rfl)
          exact kRv F hr hlocks hS15 dX9_does_55 σ15 q16 hP15 hD15
      · exact absurd (by decide) c13
  · skip
    refine lv_iload_n hx hb dX9_does_0 rfl (lv_at hl0 1 rfl) ?_
    refine lv_iconst (v := 2) hx hb dX9_does_1 (by decide) ?_
    refine lv_icmp_ge (tgt := 22) hx hb dX9_does_2 (by decide) (fun c17 => ?_) (fun c17 => ?_)
    · refine lv_iload_n hx hb dX9_does_22 rfl (lv_at hl0 1 rfl) ?_
      refine lv_iconst (v := 2) hx hb dX9_does_23 (by decide) ?_
      refine lv_icmp_ne (tgt := 37) hx hb dX9_does_24 (by decide) (fun c18 => ?_) (fun c18 => ?_)
      · refine lv_iload_n hx hb dX9_does_37 rfl (lv_at hl0 1 rfl) ?_
        refine lv_iconst (v := 3) hx hb dX9_does_38 (by decide) ?_
        refine lv_icmp_ne (tgt := 50) hx hb dX9_does_39 (by decide) (fun c19 => ?_) (fun c19 => ?_)
        · exact absurd (by decide) c19
        · refine lv_aload_n hx hb dX9_does_42 rfl (lv_at hl0 0 rfl) ?_
          refine lv_iload_n hx hb dX9_does_43 rfl (lv_at hl0 2 rfl) ?_
          refine kMput F hK hP0 hD0 hS0 12 iX9 rfl (by decide) (List.mem_of_getElem? (i := 4) rfl) rfl rfl rfl (Nat.le_of_ble_eq_true rfl) rfl dX9_does_44 (fun H20 locs20 σ20 eσ20 hP20 hD20 hS20 => ?_)
          clear hP0 hD0 hS0
          refine lv_goto (tgt := 55) hx hb dX9_does_47 (by decide) ?_
          have q21 : σ20 = mdoes σ 3 v w0 := by
            subst eσ20
            first | rfl | (simp only [mdoes, show ¬ ((0 : Int32) = 1) from by decide, show ¬ ((0 : Int32) = 2) from by decide, show ¬ ((0 : Int32) = 3) from by decide, show ¬ ((1 : Int32) = 0) from by decide, show ¬ ((1 : Int32) = 2) from by decide, show ¬ ((1 : Int32) = 3) from by decide, show ¬ ((2 : Int32) = 0) from by decide, show ¬ ((2 : Int32) = 1) from by decide, show ¬ ((2 : Int32) = 3) from by decide, show ¬ ((3 : Int32) = 0) from by decide, show ¬ ((3 : Int32) = 1) from by decide, show ¬ ((3 : Int32) = 2) from by decide, show ¬ ((4 : Int32) = 0) from by decide, show ¬ ((4 : Int32) = 1) from by decide, show ¬ ((4 : Int32) = 2) from by decide, show ¬ ((4 : Int32) = 3) from by decide, ↓reduceIte]; done) | (simp only [mdoes, show ¬ ((0 : Int32) = 1) from by decide, show ¬ ((0 : Int32) = 2) from by decide, show ¬ ((0 : Int32) = 3) from by decide, show ¬ ((1 : Int32) = 0) from by decide, show ¬ ((1 : Int32) = 2) from by decide, show ¬ ((1 : Int32) = 3) from by decide, show ¬ ((2 : Int32) = 0) from by decide, show ¬ ((2 : Int32) = 1) from by decide, show ¬ ((2 : Int32) = 3) from by decide, show ¬ ((3 : Int32) = 0) from by decide, show ¬ ((3 : Int32) = 1) from by decide, show ¬ ((3 : Int32) = 2) from by decide, show ¬ ((4 : Int32) = 0) from by decide, show ¬ ((4 : Int32) = 1) from by decide, show ¬ ((4 : Int32) = 2) from by decide, show ¬ ((4 : Int32) = 3) from by decide, ↓reduceIte]; rfl)
          exact kRv F hr hlocks hS20 dX9_does_55 σ20 q21 hP20 hD20
      · exact absurd c18 (by decide)
    · exact absurd (by decide) c17
  · skip
    refine lv_iload_n hx hb dX9_does_0 rfl (lv_at hl0 1 rfl) ?_
    refine lv_iconst (v := 2) hx hb dX9_does_1 (by decide) ?_
    refine lv_icmp_ge (tgt := 22) hx hb dX9_does_2 (by decide) (fun c22 => ?_) (fun c22 => ?_)
    · refine lv_iload_n hx hb dX9_does_22 rfl (lv_at hl0 1 rfl) ?_
      refine lv_iconst (v := 2) hx hb dX9_does_23 (by decide) ?_
      refine lv_icmp_ne (tgt := 37) hx hb dX9_does_24 (by decide) (fun c23 => ?_) (fun c23 => ?_)
      · refine lv_iload_n hx hb dX9_does_37 rfl (lv_at hl0 1 rfl) ?_
        refine lv_iconst (v := 3) hx hb dX9_does_38 (by decide) ?_
        refine lv_icmp_ne (tgt := 50) hx hb dX9_does_39 (by decide) (fun c24 => ?_) (fun c24 => ?_)
        · refine lv_aload_n hx hb dX9_does_50 rfl (lv_at hl0 0 rfl) ?_
          refine lv_iload_n hx hb dX9_does_51 rfl (lv_at hl0 2 rfl) ?_
          refine kMput F hK hP0 hD0 hS0 13 iX9 rfl (by decide) (List.mem_of_getElem? (i := 5) rfl) rfl rfl rfl (Nat.le_of_ble_eq_true rfl) rfl dX9_does_52 (fun H25 locs25 σ25 eσ25 hP25 hD25 hS25 => ?_)
          clear hP0 hD0 hS0
          have q26 : σ25 = mdoes σ 4 v w0 := by
            subst eσ25
            first | rfl | (simp only [mdoes, show ¬ ((0 : Int32) = 1) from by decide, show ¬ ((0 : Int32) = 2) from by decide, show ¬ ((0 : Int32) = 3) from by decide, show ¬ ((1 : Int32) = 0) from by decide, show ¬ ((1 : Int32) = 2) from by decide, show ¬ ((1 : Int32) = 3) from by decide, show ¬ ((2 : Int32) = 0) from by decide, show ¬ ((2 : Int32) = 1) from by decide, show ¬ ((2 : Int32) = 3) from by decide, show ¬ ((3 : Int32) = 0) from by decide, show ¬ ((3 : Int32) = 1) from by decide, show ¬ ((3 : Int32) = 2) from by decide, show ¬ ((4 : Int32) = 0) from by decide, show ¬ ((4 : Int32) = 1) from by decide, show ¬ ((4 : Int32) = 2) from by decide, show ¬ ((4 : Int32) = 3) from by decide, ↓reduceIte]; done) | (simp only [mdoes, show ¬ ((0 : Int32) = 1) from by decide, show ¬ ((0 : Int32) = 2) from by decide, show ¬ ((0 : Int32) = 3) from by decide, show ¬ ((1 : Int32) = 0) from by decide, show ¬ ((1 : Int32) = 2) from by decide, show ¬ ((1 : Int32) = 3) from by decide, show ¬ ((2 : Int32) = 0) from by decide, show ¬ ((2 : Int32) = 1) from by decide, show ¬ ((2 : Int32) = 3) from by decide, show ¬ ((3 : Int32) = 0) from by decide, show ¬ ((3 : Int32) = 1) from by decide, show ¬ ((3 : Int32) = 2) from by decide, show ¬ ((4 : Int32) = 0) from by decide, show ¬ ((4 : Int32) = 1) from by decide, show ¬ ((4 : Int32) = 2) from by decide, show ¬ ((4 : Int32) = 3) from by decide, ↓reduceIte]; rfl)
          exact kRv F hr hlocks hS25 dX9_does_55 σ25 q26 hP25 hD25
        · exact absurd c24 (by decide)
      · exact absurd c23 (by decide)
    · exact absurd (by decide) c22
set_option maxHeartbeats 1000000 in
set_option maxRecDepth 100000 in
theorem c_X9_type (l : Launch) (G : kG) (h : Nat) (a : Nat → Nat) (σ : kS) (v : Int32) (L : Nat) (hL : σ 36 0 = nI L) (lL : L ≤ 200) : kM G l yX9_type wsX9_type ({ frames := 1, cells := 0, slots := 0, locals := 25 }) [.ref h, .int v] (mW G h a σ) (kQi G (fun (rr : Int32) (uu : kS) => (rr = (mtype σ v L).1) ∧ (uu = (mtype σ v L).2)) (fun (uu : kS) => mW G h a uu)) := by
  refine kStart (cc := cX9_type) (maxL := 2) (ret := (some .int)) (by decide) rfl (Nat.le_of_ble_eq_true rfl) (fun pg ev st mi bl mt cd A ls0 F hr hlocks hin hK hP0 hD0 hA hS0 hl0 => ?_)
  obtain ⟨hx, hb, hml, hown, hts⟩ := id F
  have hl0 : lv_has ls0 2 [(0, .ref h), (1, .int v)] := hl0
  have iX9 : ∀ w ∈ u_ws RX9 TX9 43, w ∈ wsX9_type := fun w h => List.mem_cons_of_mem _ (List.mem_append_right _ h)
  refine lv_iload_n hx hb dX9_type_0 rfl (lv_at hl0 1 rfl) ?_
  refine lv_i2l (v := v.toInt64) hx hb dX9_type_1 rfl ?_
  refine lv_lconst (v := 0) hx hb dX9_type_2 (by decide) ?_
  refine lv_ldc2 (v := 255) hx hb hown (hts _ (List.mem_of_getElem? (i := 1) rfl)) dX9_type_3 ?_
  refine kPSi F hK hP0 hD0 hS0 hA hl0.1 (c_X9_in l G v.toInt64 0 255) (fun _ => rfl) gX9_type_X9_in rfl 3 rfl (by decide +kernel) ⟨Nat.le_of_ble_eq_true rfl, Nat.le_of_ble_eq_true rfl⟩ ⟨Nat.zero_le _, Nat.zero_le _⟩ (Nat.le_of_ble_eq_true rfl) rfl dX9_type_6 (fun r1 u1 H2 locs2 hw1 (hP2 : va_P G.1 vwCl (mW G h a σ) H2) (hD2 : va_D A (mW G h a σ)) hS2 => ?_)
  clear hP0 hD0 hS0
  have w1_0 : r1 = kinL v.toInt64 0 255 := hw1
  refine lv_if_ne (tgt := 15) hx hb dX9_type_9 (by decide) (fun c3 => ?_) (fun c3 => ?_)
  · refine lv_aload_n hx hb dX9_type_15 rfl (lv_at hl0 0 rfl) ?_
    refine kget F hK hP2 9 0 36 iX9 rfl rfl (by decide) (List.mem_of_getElem? (i := 2) rfl) rfl dX9_type_16 ?_
    refine lv_sipush (v := 200) hx hb dX9_type_19 (by decide) ?_
    refine lv_icmp_ne (tgt := 28) hx hb dX9_type_22 (by decide) (fun c4 => ?_) (fun c4 => ?_)
    · rw [hL] at c4
      have lE : ¬ L = 200 := fun q => c4 (by rw [q]; rfl)
      refine lv_aload_n hx hb dX9_type_28 rfl (lv_at hl0 0 rfl) ?_
      refine kget F hK hP2 9 0 35 iX9 rfl rfl (by decide) (List.mem_of_getElem? (i := 3) rfl) rfl dX9_type_29 ?_
      refine lv_aload_n hx hb dX9_type_32 rfl (lv_at hl0 0 rfl) ?_
      refine kget F hK hP2 9 0 36 iX9 rfl rfl (by decide) (List.mem_of_getElem? (i := 2) rfl) rfl dX9_type_33 ?_
      refine lv_iload_n hx hb dX9_type_36 rfl (lv_at hl0 1 rfl) ?_
      refine kMst F hK hP2 hD2 hS2 35 23 L rfl hL (by omega) (Nat.le_of_ble_eq_true rfl) rfl dX9_type_37 (fun H5 locs5 σ5 eσ5 hP5 hD5 hS5 => ?_)
      clear hP2 hD2 hS2
      refine lv_aload_n hx hb dX9_type_38 rfl (lv_at hl0 0 rfl) ?_
      refine lv_dup hx hb dX9_type_39 rfl ?_
      refine kget F hK hP5 9 0 36 iX9 rfl rfl (by decide) (List.mem_of_getElem? (i := 2) rfl) rfl dX9_type_40 ?_
      refine lv_iconst (v := 1) hx hb dX9_type_43 (by decide) ?_
      refine lv_iadd hx hb dX9_type_44 ?_
      refine kMput F hK hP5 hD5 hS5 36 iX9 rfl (by decide) (List.mem_of_getElem? (i := 2) rfl) rfl rfl rfl (Nat.le_of_ble_eq_true rfl) rfl dX9_type_45 (fun H6 locs6 σ6 eσ6 hP6 hD6 hS6 => ?_)
      clear hP5 hD5 hS5
      refine lv_aload_n hx hb dX9_type_48 rfl (lv_at hl0 0 rfl) ?_
      refine kget F hK hP6 9 0 36 iX9 rfl rfl (by decide) (List.mem_of_getElem? (i := 2) rfl) rfl dX9_type_49 ?_
      have q7 : ((σ6 36 0) = (mtype σ v L).1) ∧ (σ6 = (mtype σ v L).2) := by
        subst eσ6
        subst eσ5
        subst w1_0
        and_intros <;> first | (simp only [mtype, c3, lE, ↓reduceIte]; done) | (simp only [mtype, c3, lE, ↓reduceIte]; rfl)
      exact kRi F hr hlocks hS6 dX9_type_52 σ6 q7 hP6 hD6
    · rw [hL] at c4
      have lE : L = 200 := (nI_eq (a := L) (b := 200) (by omega) (by omega)).mp c4
      refine lv_bipush (v := (-5)) hx hb dX9_type_25 (by decide) ?_
      have q8 : ((-5) = (mtype σ v L).1) ∧ (σ = (mtype σ v L).2) := by
        subst w1_0
        and_intros <;> first | (simp only [mtype, c3, eq_true lE, ↓reduceIte]; done) | (simp only [mtype, c3, eq_true lE, ↓reduceIte]; rfl)
      exact kRi F hr hlocks hS2 dX9_type_27 σ q8 hP2 hD2
  · refine lv_bipush (v := (-3)) hx hb dX9_type_12 (by decide) ?_
    have q9 : ((-3) = (mtype σ v L).1) ∧ (σ = (mtype σ v L).2) := by
      subst w1_0
      and_intros <;> first | (simp only [mtype, eq_true c3, ↓reduceIte]; done) | (simp only [mtype, eq_true c3, ↓reduceIte]; rfl)
    exact kRi F hr hlocks hS2 dX9_type_14 σ q9 hP2 hD2
set_option maxHeartbeats 1000000 in
set_option maxRecDepth 100000 in
theorem c_X9_erase (l : Launch) (G : kG) (h : Nat) (a : Nat → Nat) (σ : kS) : kM G l yX9_erase wsX9_erase ({ frames := 0, cells := 0, slots := 0, locals := 0 }) [.ref h] (mW G h a σ) (kQi G (fun (rr : Int32) (uu : kS) => (rr = σ 36 0) ∧ (uu = su σ 36 0 0)) (fun (uu : kS) => mW G h a uu)) := by
  refine kStart (cc := cX9_erase) (maxL := 2) (ret := (some .int)) (by decide) rfl (Nat.le_of_ble_eq_true rfl) (fun pg ev st mi bl mt cd A ls0 F hr hlocks hin hK hP0 hD0 hA hS0 hl0 => ?_)
  obtain ⟨hx, hb, hml, hown, hts⟩ := id F
  have hl0 : lv_has ls0 2 [(0, .ref h)] := hl0
  have iX9 : ∀ w ∈ u_ws RX9 TX9 43, w ∈ wsX9_erase := fun w h => List.mem_cons_of_mem _ (List.mem_append_right _ h)
  refine lv_aload_n hx hb dX9_erase_0 rfl (lv_at hl0 0 rfl) ?_
  refine kget F hK hP0 9 0 36 iX9 rfl rfl (by decide) (List.mem_of_getElem? (i := 1) rfl) rfl dX9_erase_1 ?_
  refine lv_istore_n (lv' := [(1, .int (σ 36 0)), (0, .ref h)]) hx hb dX9_erase_4 rfl hl0 (by decide) rfl (fun ls1 hl1 => ?_)
  clear hl0
  refine lv_aload_n hx hb dX9_erase_5 rfl (lv_at hl1 1 rfl) ?_
  refine lv_iconst (v := 0) hx hb dX9_erase_6 (by decide) ?_
  refine kMput F hK hP0 hD0 hS0 36 iX9 rfl (by decide) (List.mem_of_getElem? (i := 1) rfl) rfl rfl rfl (Nat.le_of_ble_eq_true rfl) rfl dX9_erase_7 (fun H2 locs2 σ2 eσ2 hP2 hD2 hS2 => ?_)
  clear hP0 hD0 hS0
  refine lv_iload_n hx hb dX9_erase_10 rfl (lv_at hl1 0 rfl) ?_
  have q3 : ((σ 36 0) = σ 36 0) ∧ (σ2 = su σ 36 0 0) := by
    subst eσ2
    and_intros <;> rfl
  exact kRi F hr hlocks hS2 dX9_erase_11 σ2 q3 hP2 hD2
