set_option maxHeartbeats 1000000 in
set_option maxRecDepth 100000 in
theorem c_X9_makesHello (l : Launch) (G : kG) (h : Nat) (a : Nat → Nat) (σ : kS) (g : Int32) (S : Nat) (Mn : Nat) (hs : σ 2 0 = nI S) (hS : S ≤ 2147483646) (hM : σ 26 1 = nI Mn) (hM8 : Mn ≤ 8) : kM G l yX9_makesHello wsX9_makesHello ({ frames := 2, cells := 0, slots := 0, locals := 46 }) [.ref h, .int g] (mW G h a σ) (kQv G (fun (uu : kS) => uu = mhello σ g S Mn) (fun (uu : kS) => mW G h a uu)) := by
  refine kStart (cc := cX9_makesHello) (maxL := 2) (ret := none) (by decide) rfl (Nat.le_of_ble_eq_true rfl) (fun pg ev st mi bl mt cd A ls0 F hr hlocks hin hK hP0 hD0 hA hS0 hl0 => ?_)
  obtain ⟨hx, hb, hml, hown, hts⟩ := id F
  have hl0 : lv_has ls0 2 [(0, .ref h), (1, .int g)] := hl0
  have iX9 : ∀ w ∈ u_ws RX9 TX9 43, w ∈ wsX9_makesHello := fun w h => List.mem_cons_of_mem _ (List.mem_append_right _ h)
  refine lv_aload_n hx hb dX9_makesHello_0 rfl (lv_at hl0 0 rfl) ?_
  refine lv_iconst (v := 1) hx hb dX9_makesHello_1 (by decide) ?_
  refine kWVv F hK hP0 hD0 hS0 hA hl0.1 (c_X9_clears l G h a σ 1) 9 0 gX9_makesHello_X9_clears rfl 1 rfl (by decide +kernel) ⟨Nat.le_of_ble_eq_true rfl, Nat.le_of_ble_eq_true rfl⟩ ⟨Nat.zero_le _, Nat.zero_le _⟩ rfl rfl (Nat.le_of_ble_eq_true rfl) rfl dX9_makesHello_2 (fun σ_1 H2 locs2 hw1 (hP2 : va_P G.1 vwCl (mW G h a σ_1) H2) (hD2 : va_D A (mW G h a σ_1)) hS2 => ?_)
  clear hP0 hD0 hS0
  have w1_0 : σ_1 = mclr σ 1 := hw1
  refine lv_aload_n hx hb dX9_makesHello_5 rfl (lv_at hl0 0 rfl) ?_
  refine lv_iload_n hx hb dX9_makesHello_6 rfl (lv_at hl0 1 rfl) ?_
  refine kMput F hK hP2 hD2 hS2 16 iX9 rfl (by decide) (List.mem_of_getElem? (i := 1) rfl) rfl rfl rfl (Nat.le_of_ble_eq_true rfl) rfl dX9_makesHello_7 (fun H3 locs3 σ3 eσ3 hP3 hD3 hS3 => ?_)
  clear hP2 hD2 hS2
  refine lv_aload_n hx hb dX9_makesHello_10 rfl (lv_at hl0 0 rfl) ?_
  refine lv_aload_n hx hb dX9_makesHello_11 rfl (lv_at hl0 0 rfl) ?_
  refine kget F hK hP3 9 0 15 iX9 rfl rfl (by decide) (List.mem_of_getElem? (i := 2) rfl) rfl dX9_makesHello_12 ?_
  refine lv_iconst (v := 0) hx hb dX9_makesHello_15 (by decide) ?_
  refine kild F hK hP3 13 0 rfl rfl (by decide) (Nat.le_of_ble_eq_true rfl) dX9_makesHello_16 ?_
  rw [show (σ3 15 0) = (σ 15 0) from by subst eσ3; subst w1_0; first | rfl | (simp only [msend]; (repeat' split) <;> rfl)]
  refine lv_iconst (v := 1) hx hb dX9_makesHello_17 (by decide) ?_
  refine lv_icmp_ne (tgt := 25) hx hb dX9_makesHello_18 (by decide) (fun c4 => ?_) (fun c4 => ?_)
  · refine lv_iconst (v := 0) hx hb dX9_makesHello_25 (by decide) ?_
    refine kMput F hK hP3 hD3 hS3 17 iX9 rfl (by decide) (List.mem_of_getElem? (i := 3) rfl) rfl rfl rfl (Nat.le_of_ble_eq_true rfl) rfl dX9_makesHello_26 (fun H5 locs5 σ5 eσ5 hP5 hD5 hS5 => ?_)
    clear hP3 hD3 hS3
    refine lv_aload_n hx hb dX9_makesHello_29 rfl (lv_at hl0 0 rfl) ?_
    refine lv_aload_n hx hb dX9_makesHello_30 rfl (lv_at hl0 0 rfl) ?_
    refine kget F hK hP5 9 0 15 iX9 rfl rfl (by decide) (List.mem_of_getElem? (i := 2) rfl) rfl dX9_makesHello_31 ?_
    refine lv_iconst (v := 4) hx hb dX9_makesHello_34 (by decide) ?_
    refine kild F hK hP5 13 4 rfl rfl (by decide) (Nat.le_of_ble_eq_true rfl) dX9_makesHello_35 ?_
    rw [show (σ5 15 4) = (σ 15 4) from by subst eσ5; subst eσ3; subst w1_0; first | rfl | (simp only [msend]; (repeat' split) <;> rfl)]
    refine kMput F hK hP5 hD5 hS5 18 iX9 rfl (by decide) (List.mem_of_getElem? (i := 4) rfl) rfl rfl rfl (Nat.le_of_ble_eq_true rfl) rfl dX9_makesHello_36 (fun H6 locs6 σ6 eσ6 hP6 hD6 hS6 => ?_)
    clear hP5 hD5 hS5
    refine lv_aload_n hx hb dX9_makesHello_39 rfl (lv_at hl0 0 rfl) ?_
    refine kget F hK hP6 9 0 29 iX9 rfl rfl (by decide) (List.mem_of_getElem? (i := 5) rfl) rfl dX9_makesHello_40 ?_
    refine lv_iconst (v := 1) hx hb dX9_makesHello_43 (by decide) ?_
    refine lv_aload_n hx hb dX9_makesHello_44 rfl (lv_at hl0 0 rfl) ?_
    refine kget F hK hP6 9 0 0 iX9 rfl rfl (by decide) (List.mem_of_getElem? (i := 6) rfl) rfl dX9_makesHello_45 ?_
    refine lv_iconst (v := 0) hx hb dX9_makesHello_48 (by decide) ?_
    refine kild F hK hP6 1 0 rfl rfl (by decide) (Nat.le_of_ble_eq_true rfl) dX9_makesHello_49 ?_
    rw [show (σ6 0 0) = (σ 0 0) from by subst eσ6; subst eσ5; subst eσ3; subst w1_0; first | rfl | (simp only [msend]; (repeat' split) <;> rfl)]
    refine kMst F hK hP6 hD6 hS6 29 20 1 rfl rfl (by decide) (Nat.le_of_ble_eq_true rfl) rfl dX9_makesHello_50 (fun H7 locs7 σ7 eσ7 hP7 hD7 hS7 => ?_)
    clear hP6 hD6 hS6
    refine lv_aload_n hx hb dX9_makesHello_51 rfl (lv_at hl0 0 rfl) ?_
    refine kget F hK hP7 9 0 29 iX9 rfl rfl (by decide) (List.mem_of_getElem? (i := 5) rfl) rfl dX9_makesHello_52 ?_
    refine lv_iconst (v := 2) hx hb dX9_makesHello_55 (by decide) ?_
    refine lv_aload_n hx hb dX9_makesHello_56 rfl (lv_at hl0 0 rfl) ?_
    refine kget F hK hP7 9 0 1 iX9 rfl rfl (by decide) (List.mem_of_getElem? (i := 7) rfl) rfl dX9_makesHello_57 ?_
    refine lv_iconst (v := 0) hx hb dX9_makesHello_60 (by decide) ?_
    refine kild F hK hP7 2 0 rfl rfl (by decide) (Nat.le_of_ble_eq_true rfl) dX9_makesHello_61 ?_
    rw [show (σ7 1 0) = (σ 1 0) from by subst eσ7; subst eσ6; subst eσ5; subst eσ3; subst w1_0; first | rfl | (simp only [msend]; (repeat' split) <;> rfl)]
    refine kMst F hK hP7 hD7 hS7 29 20 2 rfl rfl (by decide) (Nat.le_of_ble_eq_true rfl) rfl dX9_makesHello_62 (fun H8 locs8 σ8 eσ8 hP8 hD8 hS8 => ?_)
    clear hP7 hD7 hS7
    refine lv_aload_n hx hb dX9_makesHello_63 rfl (lv_at hl0 0 rfl) ?_
    refine kget F hK hP8 9 0 29 iX9 rfl rfl (by decide) (List.mem_of_getElem? (i := 5) rfl) rfl dX9_makesHello_64 ?_
    refine lv_iconst (v := 3) hx hb dX9_makesHello_67 (by decide) ?_
    refine lv_iload_n hx hb dX9_makesHello_68 rfl (lv_at hl0 1 rfl) ?_
    refine kMst F hK hP8 hD8 hS8 29 20 3 rfl rfl (by decide) (Nat.le_of_ble_eq_true rfl) rfl dX9_makesHello_69 (fun H9 locs9 σ9 eσ9 hP9 hD9 hS9 => ?_)
    clear hP8 hD8 hS8
    refine lv_aload_n hx hb dX9_makesHello_70 rfl (lv_at hl0 0 rfl) ?_
    refine kget F hK hP9 9 0 29 iX9 rfl rfl (by decide) (List.mem_of_getElem? (i := 5) rfl) rfl dX9_makesHello_71 ?_
    refine lv_iconst (v := 4) hx hb dX9_makesHello_74 (by decide) ?_
    refine lv_iload_n hx hb dX9_makesHello_75 rfl (lv_at hl0 1 rfl) ?_
    refine lv_aload_n hx hb dX9_makesHello_76 rfl (lv_at hl0 0 rfl) ?_
    refine kget F hK hP9 9 0 2 iX9 rfl rfl (by decide) (List.mem_of_getElem? (i := 8) rfl) rfl dX9_makesHello_77 ?_
    refine lv_iconst (v := 0) hx hb dX9_makesHello_80 (by decide) ?_
    refine kild F hK hP9 3 0 rfl rfl (by decide) (Nat.le_of_ble_eq_true rfl) dX9_makesHello_81 ?_
    rw [show (σ9 2 0) = (σ 2 0) from by subst eσ9; subst eσ8; subst eσ7; subst eσ6; subst eσ5; subst eσ3; subst w1_0; first | rfl | (simp only [msend]; (repeat' split) <;> rfl)]
    refine kPSi F hK hP9 hD9 hS9 hA hl0.1 (c_X9_shareOf l G g (σ 2 0) S hs hS) (fun _ => rfl) gX9_makesHello_X9_shareOf rfl 2 rfl (by decide +kernel) ⟨Nat.le_of_ble_eq_true rfl, Nat.le_of_ble_eq_true rfl⟩ ⟨Nat.zero_le _, Nat.zero_le _⟩ (Nat.le_of_ble_eq_true rfl) rfl dX9_makesHello_82 (fun r10 u10 H11 locs11 hw10 (hP11 : va_P G.1 vwCl (mW G h a σ9) H11) (hD11 : va_D A (mW G h a σ9)) hS11 => ?_)
    clear hP9 hD9 hS9
    have w10_0 : r10 = mshare g S := hw10
    refine kMst F hK hP11 hD11 hS11 29 20 4 rfl rfl (by decide) (Nat.le_of_ble_eq_true rfl) rfl dX9_makesHello_85 (fun H12 locs12 σ12 eσ12 hP12 hD12 hS12 => ?_)
    clear hP11 hD11 hS11
    refine lv_aload_n hx hb dX9_makesHello_86 rfl (lv_at hl0 0 rfl) ?_
    refine kget F hK hP12 9 0 29 iX9 rfl rfl (by decide) (List.mem_of_getElem? (i := 5) rfl) rfl dX9_makesHello_87 ?_
    refine lv_bipush (v := 8) hx hb dX9_makesHello_90 (by decide) ?_
    refine lv_iconst (v := (-1)) hx hb dX9_makesHello_92 (by decide) ?_
    refine kMst F hK hP12 hD12 hS12 29 20 8 rfl rfl (by decide) (Nat.le_of_ble_eq_true rfl) rfl dX9_makesHello_93 (fun H13 locs13 σ13 eσ13 hP13 hD13 hS13 => ?_)
    clear hP12 hD12 hS12
    refine lv_aload_n hx hb dX9_makesHello_94 rfl (lv_at hl0 0 rfl) ?_
    refine kget F hK hP13 9 0 17 iX9 rfl rfl (by decide) (List.mem_of_getElem? (i := 3) rfl) rfl dX9_makesHello_95 ?_
    rw [show (σ13 17 0) = 0 from by subst eσ13; subst eσ12; subst eσ9; subst eσ8; subst eσ7; subst eσ6; subst eσ5; subst eσ3; subst w1_0; first | rfl | (simp only [msend]; (repeat' split) <;> rfl)]
    refine lv_if_eq (tgt := 181) hx hb dX9_makesHello_98 (by decide) (fun c14 => ?_) (fun c14 => ?_)
    · refine lv_aload_n hx hb dX9_makesHello_181 rfl (lv_at hl0 0 rfl) ?_
      refine lv_iconst (v := 0) hx hb dX9_makesHello_182 (by decide) ?_
      refine lv_bipush (v := 8) hx hb dX9_makesHello_183 (by decide) ?_
      refine kWVv F hK hP13 hD13 hS13 hA hl0.1 (c_X9_takes l G h a σ13 0 8 (by first | assumption | decide | omega) (by first | assumption | decide | omega)) 9 0 gX9_makesHello_X9_takes rfl 2 rfl (by decide +kernel) ⟨Nat.le_of_ble_eq_true rfl, Nat.le_of_ble_eq_true rfl⟩ ⟨Nat.zero_le _, Nat.zero_le _⟩ rfl rfl (Nat.le_of_ble_eq_true rfl) rfl dX9_makesHello_185 (fun σ_15 H16 locs16 hw15 (hP16 : va_P G.1 vwCl (mW G h a σ_15) H16) (hD16 : va_D A (mW G h a σ_15)) hS16 => ?_)
      clear hP13 hD13 hS13
      have w15_0 : σ_15 = mtakes σ13 0 (8 + 1) := hw15
      refine lv_aload_n hx hb dX9_makesHello_188 rfl (lv_at hl0 0 rfl) ?_
      refine lv_iconst (v := 1) hx hb dX9_makesHello_189 (by decide) ?_
      refine kWVv F hK hP16 hD16 hS16 hA hl0.1 (c_X9_sends l G h a σ_15 1 Mn (by first | assumption | decide | omega) (by subst w15_0; subst eσ13; subst eσ12; subst w10_0; subst eσ9; subst eσ8; subst eσ7; subst eσ6; subst eσ5; subst eσ3; subst w1_0; exact hM) hM8) 9 0 gX9_makesHello_X9_sends rfl 1 rfl (by decide +kernel) ⟨Nat.le_of_ble_eq_true rfl, Nat.le_of_ble_eq_true rfl⟩ ⟨Nat.zero_le _, Nat.zero_le _⟩ rfl rfl (Nat.le_of_ble_eq_true rfl) rfl dX9_makesHello_190 (fun σ_17 H18 locs18 hw17 (hP18 : va_P G.1 vwCl (mW G h a σ_17) H18) (hD18 : va_D A (mW G h a σ_17)) hS18 => ?_)
      clear hP16 hD16 hS16
      have w17_0 : σ_17 = msend σ_15 1 Mn := hw17
      have q19 : σ_17 = mhello σ g S Mn := by
        subst w17_0
        subst w15_0
        subst eσ13
        subst eσ12
        subst w10_0
        subst eσ9
        subst eσ8
        subst eσ7
        subst eσ6
        subst eσ5
        subst eσ3
        subst w1_0
        first | (simp only [mhello, mhelX, mhel1, mhel2, c4, eq_true c14, eq_self, ↓reduceIte, and_self, and_true, true_and]; done) | (simp only [mhello, mhelX, mhel1, mhel2, c4, eq_true c14, eq_self, ↓reduceIte, and_self, and_true, true_and]; (try and_intros) <;> rfl)
      exact kRv F hr hlocks hS18 dX9_makesHello_193 σ_17 q19 hP18 hD18
    · exact absurd (by decide) c14
  · refine lv_iconst (v := 1) hx hb dX9_makesHello_21 (by decide) ?_
    refine lv_goto (tgt := 26) hx hb dX9_makesHello_22 (by decide) ?_
    refine kMput F hK hP3 hD3 hS3 17 iX9 rfl (by decide) (List.mem_of_getElem? (i := 3) rfl) rfl rfl rfl (Nat.le_of_ble_eq_true rfl) rfl dX9_makesHello_26 (fun H20 locs20 σ20 eσ20 hP20 hD20 hS20 => ?_)
    clear hP3 hD3 hS3
    refine lv_aload_n hx hb dX9_makesHello_29 rfl (lv_at hl0 0 rfl) ?_
    refine lv_aload_n hx hb dX9_makesHello_30 rfl (lv_at hl0 0 rfl) ?_
    refine kget F hK hP20 9 0 15 iX9 rfl rfl (by decide) (List.mem_of_getElem? (i := 2) rfl) rfl dX9_makesHello_31 ?_
    refine lv_iconst (v := 4) hx hb dX9_makesHello_34 (by decide) ?_
    refine kild F hK hP20 13 4 rfl rfl (by decide) (Nat.le_of_ble_eq_true rfl) dX9_makesHello_35 ?_
    rw [show (σ20 15 4) = (σ 15 4) from by subst eσ20; subst eσ3; subst w1_0; first | rfl | (simp only [msend]; (repeat' split) <;> rfl)]
    refine kMput F hK hP20 hD20 hS20 18 iX9 rfl (by decide) (List.mem_of_getElem? (i := 4) rfl) rfl rfl rfl (Nat.le_of_ble_eq_true rfl) rfl dX9_makesHello_36 (fun H21 locs21 σ21 eσ21 hP21 hD21 hS21 => ?_)
    clear hP20 hD20 hS20
    refine lv_aload_n hx hb dX9_makesHello_39 rfl (lv_at hl0 0 rfl) ?_
    refine kget F hK hP21 9 0 29 iX9 rfl rfl (by decide) (List.mem_of_getElem? (i := 5) rfl) rfl dX9_makesHello_40 ?_
    refine lv_iconst (v := 1) hx hb dX9_makesHello_43 (by decide) ?_
    refine lv_aload_n hx hb dX9_makesHello_44 rfl (lv_at hl0 0 rfl) ?_
    refine kget F hK hP21 9 0 0 iX9 rfl rfl (by decide) (List.mem_of_getElem? (i := 6) rfl) rfl dX9_makesHello_45 ?_
    refine lv_iconst (v := 0) hx hb dX9_makesHello_48 (by decide) ?_
    refine kild F hK hP21 1 0 rfl rfl (by decide) (Nat.le_of_ble_eq_true rfl) dX9_makesHello_49 ?_
    rw [show (σ21 0 0) = (σ 0 0) from by subst eσ21; subst eσ20; subst eσ3; subst w1_0; first | rfl | (simp only [msend]; (repeat' split) <;> rfl)]
    refine kMst F hK hP21 hD21 hS21 29 20 1 rfl rfl (by decide) (Nat.le_of_ble_eq_true rfl) rfl dX9_makesHello_50 (fun H22 locs22 σ22 eσ22 hP22 hD22 hS22 => ?_)
    clear hP21 hD21 hS21
    refine lv_aload_n hx hb dX9_makesHello_51 rfl (lv_at hl0 0 rfl) ?_
    refine kget F hK hP22 9 0 29 iX9 rfl rfl (by decide) (List.mem_of_getElem? (i := 5) rfl) rfl dX9_makesHello_52 ?_
    refine lv_iconst (v := 2) hx hb dX9_makesHello_55 (by decide) ?_
    refine lv_aload_n hx hb dX9_makesHello_56 rfl (lv_at hl0 0 rfl) ?_
    refine kget F hK hP22 9 0 1 iX9 rfl rfl (by decide) (List.mem_of_getElem? (i := 7) rfl) rfl dX9_makesHello_57 ?_
    refine lv_iconst (v := 0) hx hb dX9_makesHello_60 (by decide) ?_
    refine kild F hK hP22 2 0 rfl rfl (by decide) (Nat.le_of_ble_eq_true rfl) dX9_makesHello_61 ?_
    rw [show (σ22 1 0) = (σ 1 0) from by subst eσ22; subst eσ21; subst eσ20; subst eσ3; subst w1_0; first | rfl | (simp only [msend]; (repeat' split) <;> rfl)]
    refine kMst F hK hP22 hD22 hS22 29 20 2 rfl rfl (by decide) (Nat.le_of_ble_eq_true rfl) rfl dX9_makesHello_62 (fun H23 locs23 σ23 eσ23 hP23 hD23 hS23 => ?_)
    clear hP22 hD22 hS22
    refine lv_aload_n hx hb dX9_makesHello_63 rfl (lv_at hl0 0 rfl) ?_
    refine kget F hK hP23 9 0 29 iX9 rfl rfl (by decide) (List.mem_of_getElem? (i := 5) rfl) rfl dX9_makesHello_64 ?_
    refine lv_iconst (v := 3) hx hb dX9_makesHello_67 (by decide) ?_
    refine lv_iload_n hx hb dX9_makesHello_68 rfl (lv_at hl0 1 rfl) ?_
    refine kMst F hK hP23 hD23 hS23 29 20 3 rfl rfl (by decide) (Nat.le_of_ble_eq_true rfl) rfl dX9_makesHello_69 (fun H24 locs24 σ24 eσ24 hP24 hD24 hS24 => ?_)
    clear hP23 hD23 hS23
    refine lv_aload_n hx hb dX9_makesHello_70 rfl (lv_at hl0 0 rfl) ?_
    refine kget F hK hP24 9 0 29 iX9 rfl rfl (by decide) (List.mem_of_getElem? (i := 5) rfl) rfl dX9_makesHello_71 ?_
    refine lv_iconst (v := 4) hx hb dX9_makesHello_74 (by decide) ?_
    refine lv_iload_n hx hb dX9_makesHello_75 rfl (lv_at hl0 1 rfl) ?_
    refine lv_aload_n hx hb dX9_makesHello_76 rfl (lv_at hl0 0 rfl) ?_
    refine kget F hK hP24 9 0 2 iX9 rfl rfl (by decide) (List.mem_of_getElem? (i := 8) rfl) rfl dX9_makesHello_77 ?_
    refine lv_iconst (v := 0) hx hb dX9_makesHello_80 (by decide) ?_
    refine kild F hK hP24 3 0 rfl rfl (by decide) (Nat.le_of_ble_eq_true rfl) dX9_makesHello_81 ?_
    rw [show (σ24 2 0) = (σ 2 0) from by subst eσ24; subst eσ23; subst eσ22; subst eσ21; subst eσ20; subst eσ3; subst w1_0; first | rfl | (simp only [msend]; (repeat' split) <;> rfl)]
    refine kPSi F hK hP24 hD24 hS24 hA hl0.1 (c_X9_shareOf l G g (σ 2 0) S hs hS) (fun _ => rfl) gX9_makesHello_X9_shareOf rfl 2 rfl (by decide +kernel) ⟨Nat.le_of_ble_eq_true rfl, Nat.le_of_ble_eq_true rfl⟩ ⟨Nat.zero_le _, Nat.zero_le _⟩ (Nat.le_of_ble_eq_true rfl) rfl dX9_makesHello_82 (fun r25 u25 H26 locs26 hw25 (hP26 : va_P G.1 vwCl (mW G h a σ24) H26) (hD26 : va_D A (mW G h a σ24)) hS26 => ?_)
    clear hP24 hD24 hS24
    have w25_0 : r25 = mshare g S := hw25
    refine kMst F hK hP26 hD26 hS26 29 20 4 rfl rfl (by decide) (Nat.le_of_ble_eq_true rfl) rfl dX9_makesHello_85 (fun H27 locs27 σ27 eσ27 hP27 hD27 hS27 => ?_)
    clear hP26 hD26 hS26
    refine lv_aload_n hx hb dX9_makesHello_86 rfl (lv_at hl0 0 rfl) ?_
    refine kget F hK hP27 9 0 29 iX9 rfl rfl (by decide) (List.mem_of_getElem? (i := 5) rfl) rfl dX9_makesHello_87 ?_
    refine lv_bipush (v := 8) hx hb dX9_makesHello_90 (by decide) ?_
    refine lv_iconst (v := (-1)) hx hb dX9_makesHello_92 (by decide) ?_
    refine kMst F hK hP27 hD27 hS27 29 20 8 rfl rfl (by decide) (Nat.le_of_ble_eq_true rfl) rfl dX9_makesHello_93 (fun H28 locs28 σ28 eσ28 hP28 hD28 hS28 => ?_)
    clear hP27 hD27 hS27
    refine lv_aload_n hx hb dX9_makesHello_94 rfl (lv_at hl0 0 rfl) ?_
    refine kget F hK hP28 9 0 17 iX9 rfl rfl (by decide) (List.mem_of_getElem? (i := 3) rfl) rfl dX9_makesHello_95 ?_
    rw [show (σ28 17 0) = 1 from by subst eσ28; subst eσ27; subst eσ24; subst eσ23; subst eσ22; subst eσ21; subst eσ20; subst eσ3; subst w1_0; first | rfl | (simp only [msend]; (repeat' split) <;> rfl)]
    refine lv_if_eq (tgt := 181) hx hb dX9_makesHello_98 (by decide) (fun c29 => ?_) (fun c29 => ?_)
    · exact absurd c29 (by decide)
    · refine lv_aload_n hx hb dX9_makesHello_101 rfl (lv_at hl0 0 rfl) ?_
      refine kget F hK hP28 9 0 29 iX9 rfl rfl (by decide) (List.mem_of_getElem? (i := 5) rfl) rfl dX9_makesHello_102 ?_
      refine lv_iconst (v := 5) hx hb dX9_makesHello_105 (by decide) ?_
      refine lv_aload_n hx hb dX9_makesHello_106 rfl (lv_at hl0 0 rfl) ?_
      refine kget F hK hP28 9 0 15 iX9 rfl rfl (by decide) (List.mem_of_getElem? (i := 2) rfl) rfl dX9_makesHello_107 ?_
      refine lv_iconst (v := 1) hx hb dX9_makesHello_110 (by decide) ?_
      refine kild F hK hP28 13 1 rfl rfl (by decide) (Nat.le_of_ble_eq_true rfl) dX9_makesHello_111 ?_
      rw [show (σ28 15 1) = (σ 15 1) from by subst eσ28; subst eσ27; subst eσ24; subst eσ23; subst eσ22; subst eσ21; subst eσ20; subst eσ3; subst w1_0; first | rfl | (simp only [msend]; (repeat' split) <;> rfl)]
      refine kMst F hK hP28 hD28 hS28 29 20 5 rfl rfl (by decide) (Nat.le_of_ble_eq_true rfl) rfl dX9_makesHello_112 (fun H30 locs30 σ30 eσ30 hP30 hD30 hS30 => ?_)
      clear hP28 hD28 hS28
      refine lv_aload_n hx hb dX9_makesHello_113 rfl (lv_at hl0 0 rfl) ?_
      refine kget F hK hP30 9 0 29 iX9 rfl rfl (by decide) (List.mem_of_getElem? (i := 5) rfl) rfl dX9_makesHello_114 ?_
      refine lv_bipush (v := 6) hx hb dX9_makesHello_117 (by decide) ?_
      refine lv_aload_n hx hb dX9_makesHello_119 rfl (lv_at hl0 0 rfl) ?_
      refine kget F hK hP30 9 0 14 iX9 rfl rfl (by decide) (List.mem_of_getElem? (i := 9) rfl) rfl dX9_makesHello_120 ?_
      rw [show (σ30 14 0) = (σ 14 0) from by subst eσ30; subst eσ28; subst eσ27; subst eσ24; subst eσ23; subst eσ22; subst eσ21; subst eσ20; subst eσ3; subst w1_0; first | rfl | (simp only [msend]; (repeat' split) <;> rfl)]
      refine lv_aload_n hx hb dX9_makesHello_123 rfl (lv_at hl0 0 rfl) ?_
      refine kget F hK hP30 9 0 15 iX9 rfl rfl (by decide) (List.mem_of_getElem? (i := 2) rfl) rfl dX9_makesHello_124 ?_
      refine lv_iconst (v := 3) hx hb dX9_makesHello_127 (by decide) ?_
      refine kild F hK hP30 13 3 rfl rfl (by decide) (Nat.le_of_ble_eq_true rfl) dX9_makesHello_128 ?_
      rw [show (σ30 15 3) = (σ 15 3) from by subst eσ30; subst eσ28; subst eσ27; subst eσ24; subst eσ23; subst eσ22; subst eσ21; subst eσ20; subst eσ3; subst w1_0; first | rfl | (simp only [msend]; (repeat' split) <;> rfl)]
      refine lv_isub hx hb dX9_makesHello_129 ?_
      refine lv_aload_n hx hb dX9_makesHello_130 rfl (lv_at hl0 0 rfl) ?_
      refine kget F hK hP30 9 0 15 iX9 rfl rfl (by decide) (List.mem_of_getElem? (i := 2) rfl) rfl dX9_makesHello_131 ?_
      refine lv_iconst (v := 5) hx hb dX9_makesHello_134 (by decide) ?_
      refine kild F hK hP30 13 5 rfl rfl (by decide) (Nat.le_of_ble_eq_true rfl) dX9_makesHello_135 ?_
      rw [show (σ30 15 5) = (σ 15 5) from by subst eσ30; subst eσ28; subst eσ27; subst eσ24; subst eσ23; subst eσ22; subst eσ21; subst eσ20; subst eσ3; subst w1_0; first | rfl | (simp only [msend]; (repeat' split) <;> rfl)]
      refine lv_iadd hx hb dX9_makesHello_136 ?_
      refine kMst F hK hP30 hD30 hS30 29 20 6 rfl rfl (by decide) (Nat.le_of_ble_eq_true rfl) rfl dX9_makesHello_137 (fun H31 locs31 σ31 eσ31 hP31 hD31 hS31 => ?_)
      clear hP30 hD30 hS30
      refine lv_aload_n hx hb dX9_makesHello_138 rfl (lv_at hl0 0 rfl) ?_
      refine kget F hK hP31 9 0 29 iX9 rfl rfl (by decide) (List.mem_of_getElem? (i := 5) rfl) rfl dX9_makesHello_139 ?_
      refine lv_bipush (v := 7) hx hb dX9_makesHello_142 (by decide) ?_
      refine lv_aload_n hx hb dX9_makesHello_144 rfl (lv_at hl0 0 rfl) ?_
      refine lv_aload_n hx hb dX9_makesHello_145 rfl (lv_at hl0 0 rfl) ?_
      refine kget F hK hP31 9 0 18 iX9 rfl rfl (by decide) (List.mem_of_getElem? (i := 4) rfl) rfl dX9_makesHello_146 ?_
      rw [show (σ31 18 0) = (σ 15 4) from by subst eσ31; subst eσ30; subst eσ28; subst eσ27; subst eσ24; subst eσ23; subst eσ22; subst eσ21; subst eσ20; subst eσ3; subst w1_0; first | rfl | (simp only [msend]; (repeat' split) <;> rfl)]
      refine lv_aload_n hx hb dX9_makesHello_149 rfl (lv_at hl0 0 rfl) ?_
      refine kget F hK hP31 9 0 5 iX9 rfl rfl (by decide) (List.mem_of_getElem? (i := 10) rfl) rfl dX9_makesHello_150 ?_
      refine lv_iconst (v := 0) hx hb dX9_makesHello_153 (by decide) ?_
      refine kild F hK hP31 6 0 rfl rfl (by decide) (Nat.le_of_ble_eq_true rfl) dX9_makesHello_154 ?_
      rw [show (σ31 5 0) = (σ 5 0) from by subst eσ31; subst eσ30; subst eσ28; subst eσ27; subst eσ24; subst eσ23; subst eσ22; subst eσ21; subst eσ20; subst eσ3; subst w1_0; first | rfl | (simp only [msend]; (repeat' split) <;> rfl)]
      refine kWVi F hK hP31 hD31 hS31 hA hl0.1 (c_X9_binder l G h a σ31 (σ 15 4) (σ 5 0)) 9 0 gX9_makesHello_X9_binder rfl 2 rfl (by decide +kernel) ⟨Nat.le_of_ble_eq_true rfl, Nat.le_of_ble_eq_true rfl⟩ ⟨Nat.zero_le _, Nat.zero_le _⟩ rfl rfl (Nat.le_of_ble_eq_true rfl) rfl dX9_makesHello_155 (fun r32 u32 H33 locs33 hw32 (hP33 : va_P G.1 vwCl (mW G h a σ31) H33) (hD33 : va_D A (mW G h a σ31)) hS33 => ?_)
      clear hP31 hD31 hS31
      have w32_0 : r32 = kbind (σ 15 4) (σ 5 0) (σ31 29) := hw32
      refine kMst F hK hP33 hD33 hS33 29 20 7 rfl rfl (by decide) (Nat.le_of_ble_eq_true rfl) rfl dX9_makesHello_158 (fun H34 locs34 σ34 eσ34 hP34 hD34 hS34 => ?_)
      clear hP33 hD33 hS33
      refine lv_aload_n hx hb dX9_makesHello_159 rfl (lv_at hl0 0 rfl) ?_
      refine kget F hK hP34 9 0 29 iX9 rfl rfl (by decide) (List.mem_of_getElem? (i := 5) rfl) rfl dX9_makesHello_160 ?_
      refine lv_bipush (v := 8) hx hb dX9_makesHello_163 (by decide) ?_
      refine lv_aload_n hx hb dX9_makesHello_165 rfl (lv_at hl0 0 rfl) ?_
      refine kget F hK hP34 9 0 19 iX9 rfl rfl (by decide) (List.mem_of_getElem? (i := 11) rfl) rfl dX9_makesHello_166 ?_
      rw [show (σ34 19 0) = (σ 19 0) from by subst eσ34; subst eσ31; subst eσ30; subst eσ28; subst eσ27; subst eσ24; subst eσ23; subst eσ22; subst eσ21; subst eσ20; subst eσ3; subst w1_0; first | rfl | (simp only [msend]; (repeat' split) <;> rfl)]
      refine lv_if_eq (tgt := 176) hx hb dX9_makesHello_169 (by decide) (fun c35 => ?_) (fun c35 => ?_)
      · refine lv_aload_n hx hb dX9_makesHello_176 rfl (lv_at hl0 0 rfl) ?_
        refine kget F hK hP34 9 0 13 iX9 rfl rfl (by decide) (List.mem_of_getElem? (i := 12) rfl) rfl dX9_makesHello_177 ?_
        rw [show (σ34 13 0) = (σ 13 0) from by subst eσ34; subst eσ31; subst eσ30; subst eσ28; subst eσ27; subst eσ24; subst eσ23; subst eσ22; subst eσ21; subst eσ20; subst eσ3; subst w1_0; first | rfl | (simp only [msend]; (repeat' split) <;> rfl)]
        refine kMst F hK hP34 hD34 hS34 29 20 8 rfl rfl (by decide) (Nat.le_of_ble_eq_true rfl) rfl dX9_makesHello_180 (fun H36 locs36 σ36 eσ36 hP36 hD36 hS36 => ?_)
        clear hP34 hD34 hS34
        refine lv_aload_n hx hb dX9_makesHello_181 rfl (lv_at hl0 0 rfl) ?_
        refine lv_iconst (v := 0) hx hb dX9_makesHello_182 (by decide) ?_
        refine lv_bipush (v := 8) hx hb dX9_makesHello_183 (by decide) ?_
        refine kWVv F hK hP36 hD36 hS36 hA hl0.1 (c_X9_takes l G h a σ36 0 8 (by first | assumption | decide | omega) (by first | assumption | decide | omega)) 9 0 gX9_makesHello_X9_takes rfl 2 rfl (by decide +kernel) ⟨Nat.le_of_ble_eq_true rfl, Nat.le_of_ble_eq_true rfl⟩ ⟨Nat.zero_le _, Nat.zero_le _⟩ rfl rfl (Nat.le_of_ble_eq_true rfl) rfl dX9_makesHello_185 (fun σ_37 H38 locs38 hw37 (hP38 : va_P G.1 vwCl (mW G h a σ_37) H38) (hD38 : va_D A (mW G h a σ_37)) hS38 => ?_)
        clear hP36 hD36 hS36
        have w37_0 : σ_37 = mtakes σ36 0 (8 + 1) := hw37
        refine lv_aload_n hx hb dX9_makesHello_188 rfl (lv_at hl0 0 rfl) ?_
        refine lv_iconst (v := 1) hx hb dX9_makesHello_189 (by decide) ?_
        refine kWVv F hK hP38 hD38 hS38 hA hl0.1 (c_X9_sends l G h a σ_37 1 Mn (by first | assumption | decide | omega) (by subst w37_0; subst eσ36; subst eσ34; subst w32_0; subst eσ31; subst eσ30; subst eσ28; subst eσ27; subst w25_0; subst eσ24; subst eσ23; subst eσ22; subst eσ21; subst eσ20; subst eσ3; subst w1_0; exact hM) hM8) 9 0 gX9_makesHello_X9_sends rfl 1 rfl (by decide +kernel) ⟨Nat.le_of_ble_eq_true rfl, Nat.le_of_ble_eq_true rfl⟩ ⟨Nat.zero_le _, Nat.zero_le _⟩ rfl rfl (Nat.le_of_ble_eq_true rfl) rfl dX9_makesHello_190 (fun σ_39 H40 locs40 hw39 (hP40 : va_P G.1 vwCl (mW G h a σ_39) H40) (hD40 : va_D A (mW G h a σ_39)) hS40 => ?_)
        clear hP38 hD38 hS38
        have w39_0 : σ_39 = msend σ_37 1 Mn := hw39
        have q41 : σ_39 = mhello σ g S Mn := by
          subst w39_0
          subst w37_0
          subst eσ36
          subst eσ34
          subst w32_0
          subst eσ31
          subst eσ30
          subst eσ28
          subst eσ27
          subst w25_0
          subst eσ24
          subst eσ23
          subst eσ22
          subst eσ21
          subst eσ20
          subst eσ3
          subst w1_0
          first | (simp only [mhello, mhelX, mhel1, mhel2, eq_true c4, c29, eq_true c35, eq_self, ↓reduceIte, and_self, and_true, true_and]; done) | (simp only [mhello, mhelX, mhel1, mhel2, eq_true c4, c29, eq_true c35, eq_self, ↓reduceIte, and_self, and_true, true_and]; (try and_intros) <;> rfl)
        exact kRv F hr hlocks hS40 dX9_makesHello_193 σ_39 q41 hP40 hD40
      · refine lv_iconst (v := (-1)) hx hb dX9_makesHello_172 (by decide) ?_
        refine lv_goto (tgt := 180) hx hb dX9_makesHello_173 (by decide) ?_
        refine kMst F hK hP34 hD34 hS34 29 20 8 rfl rfl (by decide) (Nat.le_of_ble_eq_true rfl) rfl dX9_makesHello_180 (fun H42 locs42 σ42 eσ42 hP42 hD42 hS42 => ?_)
        clear hP34 hD34 hS34
        refine lv_aload_n hx hb dX9_makesHello_181 rfl (lv_at hl0 0 rfl) ?_
        refine lv_iconst (v := 0) hx hb dX9_makesHello_182 (by decide) ?_
        refine lv_bipush (v := 8) hx hb dX9_makesHello_183 (by decide) ?_
        refine kWVv F hK hP42 hD42 hS42 hA hl0.1 (c_X9_takes l G h a σ42 0 8 (by first | assumption | decide | omega) (by first | assumption | decide | omega)) 9 0 gX9_makesHello_X9_takes rfl 2 rfl (by decide +kernel) ⟨Nat.le_of_ble_eq_true rfl, Nat.le_of_ble_eq_true rfl⟩ ⟨Nat.zero_le _, Nat.zero_le _⟩ rfl rfl (Nat.le_of_ble_eq_true rfl) rfl dX9_makesHello_185 (fun σ_43 H44 locs44 hw43 (hP44 : va_P G.1 vwCl (mW G h a σ_43) H44) (hD44 : va_D A (mW G h a σ_43)) hS44 => ?_)
        clear hP42 hD42 hS42
        have w43_0 : σ_43 = mtakes σ42 0 (8 + 1) := hw43
        refine lv_aload_n hx hb dX9_makesHello_188 rfl (lv_at hl0 0 rfl) ?_
        refine lv_iconst (v := 1) hx hb dX9_makesHello_189 (by decide) ?_
        refine kWVv F hK hP44 hD44 hS44 hA hl0.1 (c_X9_sends l G h a σ_43 1 Mn (by first | assumption | decide | omega) (by subst w43_0; subst eσ42; subst eσ34; subst w32_0; subst eσ31; subst eσ30; subst eσ28; subst eσ27; subst w25_0; subst eσ24; subst eσ23; subst eσ22; subst eσ21; subst eσ20; subst eσ3; subst w1_0; exact hM) hM8) 9 0 gX9_makesHello_X9_sends rfl 1 rfl (by decide +kernel) ⟨Nat.le_of_ble_eq_true rfl, Nat.le_of_ble_eq_true rfl⟩ ⟨Nat.zero_le _, Nat.zero_le _⟩ rfl rfl (Nat.le_of_ble_eq_true rfl) rfl dX9_makesHello_190 (fun σ_45 H46 locs46 hw45 (hP46 : va_P G.1 vwCl (mW G h a σ_45) H46) (hD46 : va_D A (mW G h a σ_45)) hS46 => ?_)
        clear hP44 hD44 hS44
        have w45_0 : σ_45 = msend σ_43 1 Mn := hw45
        have q47 : σ_45 = mhello σ g S Mn := by
          subst w45_0
          subst w43_0
          subst eσ42
          subst eσ34
          subst w32_0
          subst eσ31
          subst eσ30
          subst eσ28
          subst eσ27
          subst w25_0
          subst eσ24
          subst eσ23
          subst eσ22
          subst eσ21
          subst eσ20
          subst eσ3
          subst w1_0
          first | (simp only [mhello, mhelX, mhel1, mhel2, eq_true c4, c29, c35, eq_self, ↓reduceIte, and_self, and_true, true_and]; done) | (simp only [mhello, mhelX, mhel1, mhel2, eq_true c4, c29, c35, eq_self, ↓reduceIte, and_self, and_true, true_and]; (try and_intros) <;> rfl)
        exact kRv F hr hlocks hS46 dX9_makesHello_193 σ_45 q47 hP46 hD46
set_option maxHeartbeats 1000000 in
set_option maxRecDepth 100000 in
theorem c_X9_comesRetry (l : Launch) (G : kG) (h : Nat) (a : Nat → Nat) (σ : kS) (S : Nat) (Mn : Nat) (hs : σ 2 0 = nI S) (hS : S ≤ 2147483646) (hM : σ 26 1 = nI Mn) (hM8 : Mn ≤ 8) : kM G l yX9_comesRetry wsX9_comesRetry ({ frames := 3, cells := 0, slots := 0, locals := 67 }) [.ref h] (mW G h a σ) (kQv G (fun (uu : kS) => uu = mretry σ S Mn) (fun (uu : kS) => mW G h a uu)) := by
  refine kStart (cc := cX9_comesRetry) (maxL := 2) (ret := none) (by decide) rfl (Nat.le_of_ble_eq_true rfl) (fun pg ev st mi bl mt cd A ls0 F hr hlocks hin hK hP0 hD0 hA hS0 hl0 => ?_)
  obtain ⟨hx, hb, hml, hown, hts⟩ := id F
  have hl0 : lv_has ls0 2 [(0, .ref h)] := hl0
  have iX9 : ∀ w ∈ u_ws RX9 TX9 43, w ∈ wsX9_comesRetry := fun w h => List.mem_cons_of_mem _ (List.mem_append_right _ h)
  refine lv_aload_n hx hb dX9_comesRetry_0 rfl (lv_at hl0 0 rfl) ?_
  refine kget F hK hP0 9 0 29 iX9 rfl rfl (by decide) (List.mem_of_getElem? (i := 1) rfl) rfl dX9_comesRetry_1 ?_
  refine lv_iconst (v := 1) hx hb dX9_comesRetry_4 (by decide) ?_
  refine kild F hK hP0 20 1 rfl rfl (by decide) (Nat.le_of_ble_eq_true rfl) dX9_comesRetry_5 ?_
  refine lv_istore_n (lv' := [(1, .int (σ 29 1)), (0, .ref h)]) hx hb dX9_comesRetry_6 rfl hl0 (by decide) rfl (fun ls1 hl1 => ?_)
  clear hl0
  refine lv_iload_n hx hb dX9_comesRetry_7 rfl (lv_at hl1 0 rfl) ?_
  refine lv_i2l (v := (σ 29 1).toInt64) hx hb dX9_comesRetry_8 rfl ?_
  refine lv_lconst (v := 0) hx hb dX9_comesRetry_9 (by decide) ?_
  refine lv_ldc2 (v := 3) hx hb hown (hts _ (List.mem_of_getElem? (i := 2) rfl)) dX9_comesRetry_10 ?_
  refine kPSi F hK hP0 hD0 hS0 hA hl1.1 (c_X9_in l G ((σ 29 1).toInt64) 0 3) (fun _ => rfl) gX9_comesRetry_X9_in rfl 3 rfl (by decide +kernel) ⟨Nat.le_of_ble_eq_true rfl, Nat.le_of_ble_eq_true rfl⟩ ⟨Nat.zero_le _, Nat.zero_le _⟩ (Nat.le_of_ble_eq_true rfl) rfl dX9_comesRetry_13 (fun r2 u2 H3 locs3 hw2 (hP3 : va_P G.1 vwCl (mW G h a σ) H3) (hD3 : va_D A (mW G h a σ)) hS3 => ?_)
  clear hP0 hD0 hS0
  have w2_0 : r2 = kinL ((σ 29 1).toInt64) 0 3 := hw2
  refine lv_if_eq (tgt := 47) hx hb dX9_comesRetry_16 (by decide) (fun c4 => ?_) (fun c4 => ?_)
  · refine lv_aload_n hx hb dX9_comesRetry_47 rfl (lv_at hl1 1 rfl) ?_
    refine lv_iconst (v := 0) hx hb dX9_comesRetry_48 (by decide) ?_
    refine lv_iconst (v := 4) hx hb dX9_comesRetry_49 (by decide) ?_
    refine kWVv F hK hP3 hD3 hS3 hA hl1.1 (c_X9_fails l G h a σ 0 4 (by first | assumption | decide | omega)) 9 0 gX9_comesRetry_X9_fails rfl 2 rfl (by decide +kernel) ⟨Nat.le_of_ble_eq_true rfl, Nat.le_of_ble_eq_true rfl⟩ ⟨Nat.zero_le _, Nat.zero_le _⟩ rfl rfl (Nat.le_of_ble_eq_true rfl) rfl dX9_comesRetry_50 (fun σ_5 H6 locs6 hw5 (hP6 : va_P G.1 vwCl (mW G h a σ_5) H6) (hD6 : va_D A (mW G h a σ_5)) hS6 => ?_)
    clear hP3 hD3 hS3
    have w5_0 : σ_5 = mfail σ 0 4 := hw5
    have q7 : σ_5 = mretry σ S Mn := by
      subst w5_0
      subst w2_0
      first | (simp only [mretry, eq_true c4, eq_self, ↓reduceIte, and_self, and_true, true_and]; done) | (simp only [mretry, eq_true c4, eq_self, ↓reduceIte, and_self, and_true, true_and]; (try and_intros) <;> rfl)
    exact kRv F hr hlocks hS6 dX9_comesRetry_53 σ_5 q7 hP6 hD6
  · refine lv_aload_n hx hb dX9_comesRetry_19 rfl (lv_at hl1 1 rfl) ?_
    refine kget F hK hP3 9 0 1 iX9 rfl rfl (by decide) (List.mem_of_getElem? (i := 3) rfl) rfl dX9_comesRetry_20 ?_
    refine lv_iconst (v := 0) hx hb dX9_comesRetry_23 (by decide) ?_
    refine kild F hK hP3 2 0 rfl rfl (by decide) (Nat.le_of_ble_eq_true rfl) dX9_comesRetry_24 ?_
    refine lv_iload_n hx hb dX9_comesRetry_25 rfl (lv_at hl1 0 rfl) ?_
    refine kPSi F hK hP3 hD3 hS3 hA hl1.1 (c_X9_has l G (σ 1 0) (σ 29 1)) (fun _ => rfl) gX9_comesRetry_X9_has rfl 2 rfl (by decide +kernel) ⟨Nat.le_of_ble_eq_true rfl, Nat.le_of_ble_eq_true rfl⟩ ⟨Nat.zero_le _, Nat.zero_le _⟩ (Nat.le_of_ble_eq_true rfl) rfl dX9_comesRetry_26 (fun r8 u8 H9 locs9 hw8 (hP9 : va_P G.1 vwCl (mW G h a σ) H9) (hD9 : va_D A (mW G h a σ)) hS9 => ?_)
    clear hP3 hD3 hS3
    have w8_0 : r8 = mhas (σ 1 0) (σ 29 1) := hw8
    refine lv_if_eq (tgt := 47) hx hb dX9_comesRetry_29 (by decide) (fun c10 => ?_) (fun c10 => ?_)
    · refine lv_aload_n hx hb dX9_comesRetry_47 rfl (lv_at hl1 1 rfl) ?_
      refine lv_iconst (v := 0) hx hb dX9_comesRetry_48 (by decide) ?_
      refine lv_iconst (v := 4) hx hb dX9_comesRetry_49 (by decide) ?_
      refine kWVv F hK hP9 hD9 hS9 hA hl1.1 (c_X9_fails l G h a σ 0 4 (by first | assumption | decide | omega)) 9 0 gX9_comesRetry_X9_fails rfl 2 rfl (by decide +kernel) ⟨Nat.le_of_ble_eq_true rfl, Nat.le_of_ble_eq_true rfl⟩ ⟨Nat.zero_le _, Nat.zero_le _⟩ rfl rfl (Nat.le_of_ble_eq_true rfl) rfl dX9_comesRetry_50 (fun σ_11 H12 locs12 hw11 (hP12 : va_P G.1 vwCl (mW G h a σ_11) H12) (hD12 : va_D A (mW G h a σ_11)) hS12 => ?_)
      clear hP9 hD9 hS9
      have w11_0 : σ_11 = mfail σ 0 4 := hw11
      have q13 : σ_11 = mretry σ S Mn := by
        subst w11_0
        subst w8_0
        subst w2_0
        first | (simp only [mretry, c4, eq_true c10, eq_self, ↓reduceIte, and_self, and_true, true_and]; done) | (simp only [mretry, c4, eq_true c10, eq_self, ↓reduceIte, and_self, and_true, true_and]; (try and_intros) <;> rfl)
      exact kRv F hr hlocks hS12 dX9_comesRetry_53 σ_11 q13 hP12 hD12
    · refine lv_iload_n hx hb dX9_comesRetry_32 rfl (lv_at hl1 0 rfl) ?_
      refine lv_aload_n hx hb dX9_comesRetry_33 rfl (lv_at hl1 1 rfl) ?_
      refine kget F hK hP9 9 0 16 iX9 rfl rfl (by decide) (List.mem_of_getElem? (i := 4) rfl) rfl dX9_comesRetry_34 ?_
      refine lv_icmp_eq (tgt := 47) hx hb dX9_comesRetry_37 (by decide) (fun c14 => ?_) (fun c14 => ?_)
      · refine lv_aload_n hx hb dX9_comesRetry_47 rfl (lv_at hl1 1 rfl) ?_
        refine lv_iconst (v := 0) hx hb dX9_comesRetry_48 (by decide) ?_
        refine lv_iconst (v := 4) hx hb dX9_comesRetry_49 (by decide) ?_
        refine kWVv F hK hP9 hD9 hS9 hA hl1.1 (c_X9_fails l G h a σ 0 4 (by first | assumption | decide | omega)) 9 0 gX9_comesRetry_X9_fails rfl 2 rfl (by decide +kernel) ⟨Nat.le_of_ble_eq_true rfl, Nat.le_of_ble_eq_true rfl⟩ ⟨Nat.zero_le _, Nat.zero_le _⟩ rfl rfl (Nat.le_of_ble_eq_true rfl) rfl dX9_comesRetry_50 (fun σ_15 H16 locs16 hw15 (hP16 : va_P G.1 vwCl (mW G h a σ_15) H16) (hD16 : va_D A (mW G h a σ_15)) hS16 => ?_)
        clear hP9 hD9 hS9
        have w15_0 : σ_15 = mfail σ 0 4 := hw15
        have q17 : σ_15 = mretry σ S Mn := by
          subst w15_0
          subst w8_0
          subst w2_0
          first | (simp only [mretry, c4, c10, eq_true c14, eq_self, ↓reduceIte, and_self, and_true, true_and]; done) | (simp only [mretry, c4, c10, eq_true c14, eq_self, ↓reduceIte, and_self, and_true, true_and]; (try and_intros) <;> rfl)
        exact kRv F hr hlocks hS16 dX9_comesRetry_53 σ_15 q17 hP16 hD16
      · refine lv_aload_n hx hb dX9_comesRetry_40 rfl (lv_at hl1 1 rfl) ?_
        refine kget F hK hP9 9 0 19 iX9 rfl rfl (by decide) (List.mem_of_getElem? (i := 5) rfl) rfl dX9_comesRetry_41 ?_
        refine lv_if_eq (tgt := 54) hx hb dX9_comesRetry_44 (by decide) (fun c18 => ?_) (fun c18 => ?_)
        · refine lv_aload_n hx hb dX9_comesRetry_54 rfl (lv_at hl1 1 rfl) ?_
          refine lv_iconst (v := 0) hx hb dX9_comesRetry_55 (by decide) ?_
          refine lv_bipush (v := 8) hx hb dX9_comesRetry_56 (by decide) ?_
          refine kWVv F hK hP9 hD9 hS9 hA hl1.1 (c_X9_takes l G h a σ 0 8 (by first | assumption | decide | omega) (by first | assumption | decide | omega)) 9 0 gX9_comesRetry_X9_takes rfl 2 rfl (by decide +kernel) ⟨Nat.le_of_ble_eq_true rfl, Nat.le_of_ble_eq_true rfl⟩ ⟨Nat.zero_le _, Nat.zero_le _⟩ rfl rfl (Nat.le_of_ble_eq_true rfl) rfl dX9_comesRetry_58 (fun σ_19 H20 locs20 hw19 (hP20 : va_P G.1 vwCl (mW G h a σ_19) H20) (hD20 : va_D A (mW G h a σ_19)) hS20 => ?_)
          clear hP9 hD9 hS9
          have w19_0 : σ_19 = mtakes σ 0 (8 + 1) := hw19
          refine lv_aload_n hx hb dX9_comesRetry_61 rfl (lv_at hl1 1 rfl) ?_
          refine lv_iconst (v := 1) hx hb dX9_comesRetry_62 (by decide) ?_
          refine kMput F hK hP20 hD20 hS20 19 iX9 rfl (by decide) (List.mem_of_getElem? (i := 5) rfl) rfl rfl rfl (Nat.le_of_ble_eq_true rfl) rfl dX9_comesRetry_63 (fun H21 locs21 σ21 eσ21 hP21 hD21 hS21 => ?_)
          clear hP20 hD20 hS20
          refine lv_aload_n hx hb dX9_comesRetry_66 rfl (lv_at hl1 1 rfl) ?_
          refine lv_iload_n hx hb dX9_comesRetry_67 rfl (lv_at hl1 0 rfl) ?_
          refine kWVv F hK hP21 hD21 hS21 hA hl1.1 (c_X9_makesHello l G h a σ21 (σ 29 1) S Mn (by subst eσ21; subst w19_0; subst w8_0; subst w2_0; exact hs) hS (by subst eσ21; subst w19_0; subst w8_0; subst w2_0; exact hM) hM8) 9 0 gX9_comesRetry_X9_makesHello rfl 1 rfl (by decide +kernel) ⟨Nat.le_of_ble_eq_true rfl, Nat.le_of_ble_eq_true rfl⟩ ⟨Nat.zero_le _, Nat.zero_le _⟩ rfl rfl (Nat.le_of_ble_eq_true rfl) rfl dX9_comesRetry_68 (fun σ_22 H23 locs23 hw22 (hP23 : va_P G.1 vwCl (mW G h a σ_22) H23) (hD23 : va_D A (mW G h a σ_22)) hS23 => ?_)
          clear hP21 hD21 hS21
          have w22_0 : σ_22 = mhello σ21 (σ 29 1) S Mn := hw22
          have q24 : σ_22 = mretry σ S Mn := by
            subst w22_0
            subst eσ21
            subst w19_0
            subst w8_0
            subst w2_0
            first | (simp only [mretry, c4, c10, c14, eq_true c18, eq_self, ↓reduceIte, and_self, and_true, true_and]; done) | (simp only [mretry, c4, c10, c14, eq_true c18, eq_self, ↓reduceIte, and_self, and_true, true_and]; (try and_intros) <;> rfl)
          exact kRv F hr hlocks hS23 dX9_comesRetry_71 σ_22 q24 hP23 hD23
        · refine lv_aload_n hx hb dX9_comesRetry_47 rfl (lv_at hl1 1 rfl) ?_
          refine lv_iconst (v := 0) hx hb dX9_comesRetry_48 (by decide) ?_
          refine lv_iconst (v := 4) hx hb dX9_comesRetry_49 (by decide) ?_
          refine kWVv F hK hP9 hD9 hS9 hA hl1.1 (c_X9_fails l G h a σ 0 4 (by first | assumption | decide | omega)) 9 0 gX9_comesRetry_X9_fails rfl 2 rfl (by decide +kernel) ⟨Nat.le_of_ble_eq_true rfl, Nat.le_of_ble_eq_true rfl⟩ ⟨Nat.zero_le _, Nat.zero_le _⟩ rfl rfl (Nat.le_of_ble_eq_true rfl) rfl dX9_comesRetry_50 (fun σ_25 H26 locs26 hw25 (hP26 : va_P G.1 vwCl (mW G h a σ_25) H26) (hD26 : va_D A (mW G h a σ_25)) hS26 => ?_)
          clear hP9 hD9 hS9
          have w25_0 : σ_25 = mfail σ 0 4 := hw25
          have q27 : σ_25 = mretry σ S Mn := by
            subst w25_0
            subst w8_0
            subst w2_0
            first | (simp only [mretry, c4, c10, c14, c18, eq_self, ↓reduceIte, and_self, and_true, true_and]; done) | (simp only [mretry, c4, c10, c14, c18, eq_self, ↓reduceIte, and_self, and_true, true_and]; (try and_intros) <;> rfl)
          exact kRv F hr hlocks hS26 dX9_comesRetry_53 σ_25 q27 hP26 hD26
set_option maxHeartbeats 1000000 in
set_option maxRecDepth 100000 in
theorem c_X9_comesGreeting (l : Launch) (G : kG) (h : Nat) (a : Nat → Nat) (σ : kS) (S : Nat) (Mn : Nat) (hs : σ 2 0 = nI S) (hS : S ≤ 2147483646) (hM : σ 26 1 = nI Mn) (hM8 : Mn ≤ 8) : kM G l yX9_comesGreeting wsX9_comesGreeting ({ frames := 3, cells := 0, slots := 0, locals := 69 }) [.ref h] (mW G h a σ) (kQv G (fun (uu : kS) => uu = mgreet σ S Mn) (fun (uu : kS) => mW G h a uu)) := by
  refine kStart (cc := cX9_comesGreeting) (maxL := 3) (ret := none) (by decide) rfl (Nat.le_of_ble_eq_true rfl) (fun pg ev st mi bl mt cd A ls0 F hr hlocks hin hK hP0 hD0 hA hS0 hl0 => ?_)
  obtain ⟨hx, hb, hml, hown, hts⟩ := id F
  have hl0 : lv_has ls0 3 [(0, .ref h)] := hl0
  have iX9 : ∀ w ∈ u_ws RX9 TX9 43, w ∈ wsX9_comesGreeting := fun w h => List.mem_cons_of_mem _ (List.mem_append_right _ h)
  refine lv_aload_n hx hb dX9_comesGreeting_0 rfl (lv_at hl0 0 rfl) ?_
  refine kget F hK hP0 9 0 29 iX9 rfl rfl (by decide) (List.mem_of_getElem? (i := 1) rfl) rfl dX9_comesGreeting_1 ?_
  refine lv_iconst (v := 1) hx hb dX9_comesGreeting_4 (by decide) ?_
  refine kild F hK hP0 20 1 rfl rfl (by decide) (Nat.le_of_ble_eq_true rfl) dX9_comesGreeting_5 ?_
  refine lv_istore_n (lv' := [(1, .int (σ 29 1)), (0, .ref h)]) hx hb dX9_comesGreeting_6 rfl hl0 (by decide) rfl (fun ls1 hl1 => ?_)
  clear hl0
  refine lv_aload_n hx hb dX9_comesGreeting_7 rfl (lv_at hl1 1 rfl) ?_
  refine kget F hK hP0 9 0 0 iX9 rfl rfl (by decide) (List.mem_of_getElem? (i := 2) rfl) rfl dX9_comesGreeting_8 ?_
  refine lv_iconst (v := 0) hx hb dX9_comesGreeting_11 (by decide) ?_
  refine kild F hK hP0 1 0 rfl rfl (by decide) (Nat.le_of_ble_eq_true rfl) dX9_comesGreeting_12 ?_
  refine lv_iload_n hx hb dX9_comesGreeting_13 rfl (lv_at hl1 0 rfl) ?_
  refine kPSi F hK hP0 hD0 hS0 hA hl1.1 (c_X9_hasVersion l G (σ 0 0) (σ 29 1)) (fun _ => rfl) gX9_comesGreeting_X9_hasVersion rfl 2 rfl (by decide +kernel) ⟨Nat.le_of_ble_eq_true rfl, Nat.le_of_ble_eq_true rfl⟩ ⟨Nat.zero_le _, Nat.zero_le _⟩ (Nat.le_of_ble_eq_true rfl) rfl dX9_comesGreeting_14 (fun r2 u2 H3 locs3 hw2 (hP3 : va_P G.1 vwCl (mW G h a σ) H3) (hD3 : va_D A (mW G h a σ)) hS3 => ?_)
  clear hP0 hD0 hS0
  have w2_0 : r2 = mhasV (σ 0 0) (σ 29 1) := hw2
  refine lv_if_ne (tgt := 24) hx hb dX9_comesGreeting_17 (by decide) (fun c4 => ?_) (fun c4 => ?_)
  · refine lv_aload_n hx hb dX9_comesGreeting_24 rfl (lv_at hl1 1 rfl) ?_
    refine kget F hK hP3 9 0 29 iX9 rfl rfl (by decide) (List.mem_of_getElem? (i := 1) rfl) rfl dX9_comesGreeting_25 ?_
    refine lv_iconst (v := 2) hx hb dX9_comesGreeting_28 (by decide) ?_
    refine kild F hK hP3 20 2 rfl rfl (by decide) (Nat.le_of_ble_eq_true rfl) dX9_comesGreeting_29 ?_
    refine lv_aload_n hx hb dX9_comesGreeting_30 rfl (lv_at hl1 1 rfl) ?_
    refine kget F hK hP3 9 0 16 iX9 rfl rfl (by decide) (List.mem_of_getElem? (i := 3) rfl) rfl dX9_comesGreeting_31 ?_
    refine lv_icmp_eq (tgt := 41) hx hb dX9_comesGreeting_34 (by decide) (fun c5 => ?_) (fun c5 => ?_)
    · refine lv_aload_n hx hb dX9_comesGreeting_41 rfl (lv_at hl1 1 rfl) ?_
      refine kget F hK hP3 9 0 29 iX9 rfl rfl (by decide) (List.mem_of_getElem? (i := 1) rfl) rfl dX9_comesGreeting_42 ?_
      refine lv_iconst (v := 4) hx hb dX9_comesGreeting_45 (by decide) ?_
      refine kild F hK hP3 20 4 rfl rfl (by decide) (Nat.le_of_ble_eq_true rfl) dX9_comesGreeting_46 ?_
      refine lv_if_eq (tgt := 68) hx hb dX9_comesGreeting_47 (by decide) (fun c6 => ?_) (fun c6 => ?_)
      · refine lv_aload_n hx hb dX9_comesGreeting_68 rfl (lv_at hl1 1 rfl) ?_
        refine kget F hK hP3 9 0 29 iX9 rfl rfl (by decide) (List.mem_of_getElem? (i := 1) rfl) rfl dX9_comesGreeting_69 ?_
        refine lv_iconst (v := 3) hx hb dX9_comesGreeting_72 (by decide) ?_
        refine kild F hK hP3 20 3 rfl rfl (by decide) (Nat.le_of_ble_eq_true rfl) dX9_comesGreeting_73 ?_
        refine lv_i2l (v := (σ 29 3).toInt64) hx hb dX9_comesGreeting_74 rfl ?_
        refine lv_lconst (v := 1) hx hb dX9_comesGreeting_75 (by decide) ?_
        refine lv_aload_n hx hb dX9_comesGreeting_76 rfl (lv_at hl1 1 rfl) ?_
        refine kget F hK hP3 9 0 16 iX9 rfl rfl (by decide) (List.mem_of_getElem? (i := 3) rfl) rfl dX9_comesGreeting_77 ?_
        refine kPSi F hK hP3 hD3 hS3 hA hl1.1 (c_X9_prime l G (σ 16 0)) (fun _ => rfl) gX9_comesGreeting_X9_prime rfl 1 rfl (by decide +kernel) ⟨Nat.le_of_ble_eq_true rfl, Nat.le_of_ble_eq_true rfl⟩ ⟨Nat.zero_le _, Nat.zero_le _⟩ (Nat.le_of_ble_eq_true rfl) rfl dX9_comesGreeting_80 (fun r7 u7 H8 locs8 hw7 (hP8 : va_P G.1 vwCl (mW G h a σ) H8) (hD8 : va_D A (mW G h a σ)) hS8 => ?_)
        clear hP3 hD3 hS3
        have w7_0 : r7 = kprime (σ 16 0) := hw7
        refine lv_iconst (v := 1) hx hb dX9_comesGreeting_83 (by decide) ?_
        refine lv_isub hx hb dX9_comesGreeting_84 ?_
        refine lv_i2l (v := (r7 - 1).toInt64) hx hb dX9_comesGreeting_85 rfl ?_
        refine kPSi F hK hP8 hD8 hS8 hA hl1.1 (c_X9_in l G ((σ 29 3).toInt64) 1 ((r7 - 1).toInt64)) (fun _ => rfl) gX9_comesGreeting_X9_in rfl 3 rfl (by decide +kernel) ⟨Nat.le_of_ble_eq_true rfl, Nat.le_of_ble_eq_true rfl⟩ ⟨Nat.zero_le _, Nat.zero_le _⟩ (Nat.le_of_ble_eq_true rfl) rfl dX9_comesGreeting_86 (fun r9 u9 H10 locs10 hw9 (hP10 : va_P G.1 vwCl (mW G h a σ) H10) (hD10 : va_D A (mW G h a σ)) hS10 => ?_)
        clear hP8 hD8 hS8
        have w9_0 : r9 = kinL ((σ 29 3).toInt64) 1 ((r7 - 1).toInt64) := hw9
        refine lv_if_ne (tgt := 96) hx hb dX9_comesGreeting_89 (by decide) (fun c11 => ?_) (fun c11 => ?_)
        · refine lv_aload_n hx hb dX9_comesGreeting_96 rfl (lv_at hl1 1 rfl) ?_
          refine kget F hK hP10 9 0 29 iX9 rfl rfl (by decide) (List.mem_of_getElem? (i := 1) rfl) rfl dX9_comesGreeting_97 ?_
          refine lv_iconst (v := 5) hx hb dX9_comesGreeting_100 (by decide) ?_
          refine kild F hK hP10 20 5 rfl rfl (by decide) (Nat.le_of_ble_eq_true rfl) dX9_comesGreeting_101 ?_
          refine lv_if_eq (tgt := 117) hx hb dX9_comesGreeting_102 (by decide) (fun c12 => ?_) (fun c12 => ?_)
          · refine lv_iconst (v := 0) hx hb dX9_comesGreeting_117 (by decide) ?_
            refine lv_istore_n (lv' := [(2, .int 0), (1, .int (σ 29 1)), (0, .ref h)]) hx hb dX9_comesGreeting_118 rfl hl1 (by decide) rfl (fun ls13 hl13 => ?_)
            clear hl1
            refine lv_iload_n hx hb dX9_comesGreeting_119 rfl (lv_at hl13 0 rfl) ?_
            refine lv_if_le (tgt := 130) hx hb dX9_comesGreeting_120 (by decide) (fun c14 => ?_) (fun c14 => ?_)
            · refine lv_aload_n hx hb dX9_comesGreeting_130 rfl (lv_at hl13 2 rfl) ?_
              refine kget F hK hP10 9 0 9 iX9 rfl rfl (by decide) (List.mem_of_getElem? (i := 5) rfl) rfl dX9_comesGreeting_131 ?_
              refine lv_iconst (v := 0) hx hb dX9_comesGreeting_134 (by decide) ?_
              refine lv_aload_n hx hb dX9_comesGreeting_135 rfl (lv_at hl13 2 rfl) ?_
              refine kget F hK hP10 9 0 29 iX9 rfl rfl (by decide) (List.mem_of_getElem? (i := 1) rfl) rfl dX9_comesGreeting_136 ?_
              refine lv_iconst (v := 3) hx hb dX9_comesGreeting_139 (by decide) ?_
              refine kild F hK hP10 20 3 rfl rfl (by decide) (Nat.le_of_ble_eq_true rfl) dX9_comesGreeting_140 ?_
              refine lv_aload_n hx hb dX9_comesGreeting_141 rfl (lv_at hl13 2 rfl) ?_
              refine kget F hK hP10 9 0 2 iX9 rfl rfl (by decide) (List.mem_of_getElem? (i := 6) rfl) rfl dX9_comesGreeting_142 ?_
              refine lv_iconst (v := 0) hx hb dX9_comesGreeting_145 (by decide) ?_
              refine kild F hK hP10 3 0 rfl rfl (by decide) (Nat.le_of_ble_eq_true rfl) dX9_comesGreeting_146 ?_
              refine lv_aload_n hx hb dX9_comesGreeting_147 rfl (lv_at hl13 2 rfl) ?_
              refine kget F hK hP10 9 0 16 iX9 rfl rfl (by decide) (List.mem_of_getElem? (i := 3) rfl) rfl dX9_comesGreeting_148 ?_
              refine kPSi F hK hP10 hD10 hS10 hA hl13.1 (c_X9_prime l G (σ 16 0)) (fun _ => rfl) gX9_comesGreeting_X9_prime rfl 1 rfl (by decide +kernel) ⟨Nat.le_of_ble_eq_true rfl, Nat.le_of_ble_eq_true rfl⟩ ⟨Nat.zero_le _, Nat.zero_le _⟩ (Nat.le_of_ble_eq_true rfl) rfl dX9_comesGreeting_151 (fun r15 u15 H16 locs16 hw15 (hP16 : va_P G.1 vwCl (mW G h a σ) H16) (hD16 : va_D A (mW G h a σ)) hS16 => ?_)
              clear hP10 hD10 hS10
              have w15_0 : r15 = kprime (σ 16 0) := hw15
              refine kPSi F hK hP16 hD16 hS16 hA hl13.1 (c_X9_power l G (σ 29 3) (σ 2 0) r15 S (by subst_vars; exact kprime_1 _) hs hS) (fun _ => rfl) gX9_comesGreeting_X9_power rfl 3 rfl (by decide +kernel) ⟨Nat.le_of_ble_eq_true rfl, Nat.le_of_ble_eq_true rfl⟩ ⟨Nat.zero_le _, Nat.zero_le _⟩ (Nat.le_of_ble_eq_true rfl) rfl dX9_comesGreeting_154 (fun r17 u17 H18 locs18 hw17 (hP18 : va_P G.1 vwCl (mW G h a σ) H18) (hD18 : va_D A (mW G h a σ)) hS18 => ?_)
              clear hP16 hD16 hS16
              have w17_0 : r17 = mpw (σ 29 3) r15 S := hw17
              refine lv_aload_n hx hb dX9_comesGreeting_157 rfl (lv_at hl13 2 rfl) ?_
              refine kget F hK hP18 9 0 29 iX9 rfl rfl (by decide) (List.mem_of_getElem? (i := 1) rfl) rfl dX9_comesGreeting_158 ?_
              refine lv_iconst (v := 5) hx hb dX9_comesGreeting_161 (by decide) ?_
              refine kild F hK hP18 20 5 rfl rfl (by decide) (Nat.le_of_ble_eq_true rfl) dX9_comesGreeting_162 ?_
              refine lv_if_eq (tgt := 173) hx hb dX9_comesGreeting_163 (by decide) (fun c19 => ?_) (fun c19 => ?_)
              · refine lv_iconst (v := 0) hx hb dX9_comesGreeting_173 (by decide) ?_
                refine kPSi F hK hP18 hD18 hS18 hA hl13.1 (c_X9_keyOf l G r17 0) (fun _ => rfl) gX9_comesGreeting_X9_keyOf rfl 2 rfl (by decide +kernel) ⟨Nat.le_of_ble_eq_true rfl, Nat.le_of_ble_eq_true rfl⟩ ⟨Nat.zero_le _, Nat.zero_le _⟩ (Nat.le_of_ble_eq_true rfl) rfl dX9_comesGreeting_174 (fun r20 u20 H21 locs21 hw20 (hP21 : va_P G.1 vwCl (mW G h a σ) H21) (hD21 : va_D A (mW G h a σ)) hS21 => ?_)
                clear hP18 hD18 hS18
                have w20_0 : r20 = kmix (kmix 7 r17) 0 := hw20
                refine kMst F hK hP21 hD21 hS21 9 10 0 rfl rfl (by decide) (Nat.le_of_ble_eq_true rfl) rfl dX9_comesGreeting_177 (fun H22 locs22 σ22 eσ22 hP22 hD22 hS22 => ?_)
                clear hP21 hD21 hS21
                refine lv_aload_n hx hb dX9_comesGreeting_178 rfl (lv_at hl13 2 rfl) ?_
                refine lv_iconst (v := 0) hx hb dX9_comesGreeting_179 (by decide) ?_
                refine lv_bipush (v := 6) hx hb dX9_comesGreeting_180 (by decide) ?_
                refine kWVv F hK hP22 hD22 hS22 hA hl13.1 (c_X9_takes l G h a σ22 0 6 (by first | assumption | decide | omega) (by first | assumption | decide | omega)) 9 0 gX9_comesGreeting_X9_takes rfl 2 rfl (by decide +kernel) ⟨Nat.le_of_ble_eq_true rfl, Nat.le_of_ble_eq_true rfl⟩ ⟨Nat.zero_le _, Nat.zero_le _⟩ rfl rfl (Nat.le_of_ble_eq_true rfl) rfl dX9_comesGreeting_182 (fun σ_23 H24 locs24 hw23 (hP24 : va_P G.1 vwCl (mW G h a σ_23) H24) (hD24 : va_D A (mW G h a σ_23)) hS24 => ?_)
                clear hP22 hD22 hS22
                have w23_0 : σ_23 = mtakes σ22 0 (6 + 1) := hw23
                refine lv_aload_n hx hb dX9_comesGreeting_185 rfl (lv_at hl13 2 rfl) ?_
                refine kget F hK hP24 9 0 29 iX9 rfl rfl (by decide) (List.mem_of_getElem? (i := 1) rfl) rfl dX9_comesGreeting_186 ?_
                refine lv_bipush (v := 7) hx hb dX9_comesGreeting_189 (by decide) ?_
                refine kild F hK hP24 20 7 rfl rfl (by decide) (Nat.le_of_ble_eq_true rfl) dX9_comesGreeting_191 ?_
                rw [show (σ_23 29 7) = (σ 29 7) from by subst w23_0; subst eσ22; first | rfl | (simp only [msend]; (repeat' split) <;> rfl)]
                refine lv_aload_n hx hb dX9_comesGreeting_192 rfl (lv_at hl13 2 rfl) ?_
                refine lv_iconst (v := 0) hx hb dX9_comesGreeting_193 (by decide) ?_
                refine lv_iconst (v := 1) hx hb dX9_comesGreeting_194 (by decide) ?_
                refine kWVi F hK hP24 hD24 hS24 hA hl13.1 (c_X9_proof l G h a σ_23 0 1 (by first | assumption | decide | omega)) 9 0 gX9_comesGreeting_X9_proof rfl 2 rfl (by decide +kernel) ⟨Nat.le_of_ble_eq_true rfl, Nat.le_of_ble_eq_true rfl⟩ ⟨Nat.zero_le _, Nat.zero_le _⟩ rfl rfl (Nat.le_of_ble_eq_true rfl) rfl dX9_comesGreeting_195 (fun r25 u25 H26 locs26 hw25 (hP26 : va_P G.1 vwCl (mW G h a σ_23) H26) (hD26 : va_D A (mW G h a σ_23)) hS26 => ?_)
                clear hP24 hD24 hS24
                have w25_0 : r25 = mproof σ_23 0 1 := hw25
                refine lv_icmp_eq (tgt := 209) hx hb dX9_comesGreeting_198 (by decide) (fun c27 => ?_) (fun c27 => ?_)
                · refine lv_aload_n hx hb dX9_comesGreeting_209 rfl (lv_at hl13 2 rfl) ?_
                  refine kget F hK hP26 9 0 6 iX9 rfl rfl (by decide) (List.mem_of_getElem? (i := 8) rfl) rfl dX9_comesGreeting_210 ?_
                  refine lv_iconst (v := 0) hx hb dX9_comesGreeting_213 (by decide) ?_
                  refine lv_iload_n hx hb dX9_comesGreeting_214 rfl (lv_at hl13 1 rfl) ?_
                  refine kMst F hK hP26 hD26 hS26 6 7 0 rfl rfl (by decide) (Nat.le_of_ble_eq_true rfl) rfl dX9_comesGreeting_215 (fun H28 locs28 σ28 eσ28 hP28 hD28 hS28 => ?_)
                  clear hP26 hD26 hS26
                  refine lv_aload_n hx hb dX9_comesGreeting_216 rfl (lv_at hl13 2 rfl) ?_
                  refine kget F hK hP28 9 0 7 iX9 rfl rfl (by decide) (List.mem_of_getElem? (i := 9) rfl) rfl dX9_comesGreeting_217 ?_
                  refine lv_iconst (v := 0) hx hb dX9_comesGreeting_220 (by decide) ?_
                  refine lv_aload_n hx hb dX9_comesGreeting_221 rfl (lv_at hl13 2 rfl) ?_
                  refine kget F hK hP28 9 0 16 iX9 rfl rfl (by decide) (List.mem_of_getElem? (i := 3) rfl) rfl dX9_comesGreeting_222 ?_
                  rw [show (σ28 16 0) = (σ 16 0) from by subst eσ28; subst w23_0; subst eσ22; first | rfl | (simp only [msend]; (repeat' split) <;> rfl)]
                  refine kMst F hK hP28 hD28 hS28 7 8 0 rfl rfl (by decide) (Nat.le_of_ble_eq_true rfl) rfl dX9_comesGreeting_225 (fun H29 locs29 σ29 eσ29 hP29 hD29 hS29 => ?_)
                  clear hP28 hD28 hS28
                  refine lv_aload_n hx hb dX9_comesGreeting_226 rfl (lv_at hl13 2 rfl) ?_
                  refine kget F hK hP29 9 0 8 iX9 rfl rfl (by decide) (List.mem_of_getElem? (i := 10) rfl) rfl dX9_comesGreeting_227 ?_
                  refine lv_iconst (v := 0) hx hb dX9_comesGreeting_230 (by decide) ?_
                  refine lv_aload_n hx hb dX9_comesGreeting_231 rfl (lv_at hl13 2 rfl) ?_
                  refine kget F hK hP29 9 0 29 iX9 rfl rfl (by decide) (List.mem_of_getElem? (i := 1) rfl) rfl dX9_comesGreeting_232 ?_
                  refine lv_iconst (v := 5) hx hb dX9_comesGreeting_235 (by decide) ?_
                  refine kild F hK hP29 20 5 rfl rfl (by decide) (Nat.le_of_ble_eq_true rfl) dX9_comesGreeting_236 ?_
                  rw [show (σ29 29 5) = (σ 29 5) from by subst eσ29; subst eσ28; subst w23_0; subst eσ22; first | rfl | (simp only [msend]; (repeat' split) <;> rfl)]
                  refine lv_if_eq (tgt := 244) hx hb dX9_comesGreeting_237 (by decide) (fun c30 => ?_) (fun c30 => ?_)
                  · refine lv_iconst (v := 0) hx hb dX9_comesGreeting_244 (by decide) ?_
                    refine kMst F hK hP29 hD29 hS29 8 9 0 rfl rfl (by decide) (Nat.le_of_ble_eq_true rfl) rfl dX9_comesGreeting_245 (fun H31 locs31 σ31 eσ31 hP31 hD31 hS31 => ?_)
                    clear hP29 hD29 hS29
                    refine lv_aload_n hx hb dX9_comesGreeting_246 rfl (lv_at hl13 2 rfl) ?_
                    refine lv_iconst (v := 4) hx hb dX9_comesGreeting_247 (by decide) ?_
                    refine kWVv F hK hP31 hD31 hS31 hA hl13.1 (c_X9_clears l G h a σ31 4) 9 0 gX9_comesGreeting_X9_clears rfl 1 rfl (by decide +kernel) ⟨Nat.le_of_ble_eq_true rfl, Nat.le_of_ble_eq_true rfl⟩ ⟨Nat.zero_le _, Nat.zero_le _⟩ rfl rfl (Nat.le_of_ble_eq_true rfl) rfl dX9_comesGreeting_248 (fun σ_32 H33 locs33 hw32 (hP33 : va_P G.1 vwCl (mW G h a σ_32) H33) (hD33 : va_D A (mW G h a σ_32)) hS33 => ?_)
                    clear hP31 hD31 hS31
                    have w32_0 : σ_32 = mclr σ31 4 := hw32
                    refine lv_aload_n hx hb dX9_comesGreeting_251 rfl (lv_at hl13 2 rfl) ?_
                    refine kget F hK hP33 9 0 29 iX9 rfl rfl (by decide) (List.mem_of_getElem? (i := 1) rfl) rfl dX9_comesGreeting_252 ?_
                    refine lv_iconst (v := 1) hx hb dX9_comesGreeting_255 (by decide) ?_
                    refine lv_aload_n hx hb dX9_comesGreeting_256 rfl (lv_at hl13 2 rfl) ?_
                    refine lv_iconst (v := 0) hx hb dX9_comesGreeting_257 (by decide) ?_
                    refine lv_iconst (v := 2) hx hb dX9_comesGreeting_258 (by decide) ?_
                    refine kWVi F hK hP33 hD33 hS33 hA hl13.1 (c_X9_proof l G h a σ_32 0 2 (by first | assumption | decide | omega)) 9 0 gX9_comesGreeting_X9_proof rfl 2 rfl (by decide +kernel) ⟨Nat.le_of_ble_eq_true rfl, Nat.le_of_ble_eq_true rfl⟩ ⟨Nat.zero_le _, Nat.zero_le _⟩ rfl rfl (Nat.le_of_ble_eq_true rfl) rfl dX9_comesGreeting_259 (fun r34 u34 H35 locs35 hw34 (hP35 : va_P G.1 vwCl (mW G h a σ_32) H35) (hD35 : va_D A (mW G h a σ_32)) hS35 => ?_)
                    clear hP33 hD33 hS33
                    have w34_0 : r34 = mproof σ_32 0 2 := hw34
                    refine kMst F hK hP35 hD35 hS35 29 20 1 rfl rfl (by decide) (Nat.le_of_ble_eq_true rfl) rfl dX9_comesGreeting_262 (fun H36 locs36 σ36 eσ36 hP36 hD36 hS36 => ?_)
                    clear hP35 hD35 hS35
                    refine lv_aload_n hx hb dX9_comesGreeting_263 rfl (lv_at hl13 2 rfl) ?_
                    refine lv_iconst (v := 1) hx hb dX9_comesGreeting_264 (by decide) ?_
                    refine kWVv F hK hP36 hD36 hS36 hA hl13.1 (c_X9_sends l G h a σ36 1 Mn (by first | assumption | decide | omega) (by subst eσ36; subst w34_0; subst w32_0; subst eσ31; subst eσ29; subst eσ28; subst w25_0; subst w23_0; subst eσ22; subst w20_0; subst w17_0; subst w15_0; subst w9_0; subst w7_0; subst w2_0; exact hM) hM8) 9 0 gX9_comesGreeting_X9_sends rfl 1 rfl (by decide +kernel) ⟨Nat.le_of_ble_eq_true rfl, Nat.le_of_ble_eq_true rfl⟩ ⟨Nat.zero_le _, Nat.zero_le _⟩ rfl rfl (Nat.le_of_ble_eq_true rfl) rfl dX9_comesGreeting_265 (fun σ_37 H38 locs38 hw37 (hP38 : va_P G.1 vwCl (mW G h a σ_37) H38) (hD38 : va_D A (mW G h a σ_37)) hS38 => ?_)
                    clear hP36 hD36 hS36
                    have w37_0 : σ_37 = msend σ36 1 Mn := hw37
                    refine lv_aload_n hx hb dX9_comesGreeting_268 rfl (lv_at hl13 2 rfl) ?_
                    refine lv_iconst (v := 0) hx hb dX9_comesGreeting_269 (by decide) ?_
                    refine kWVv F hK hP38 hD38 hS38 hA hl13.1 (c_X9_joins l G h a σ_37 0 (by first | assumption | decide | omega)) 9 0 gX9_comesGreeting_X9_joins rfl 1 rfl (by decide +kernel) ⟨Nat.le_of_ble_eq_true rfl, Nat.le_of_ble_eq_true rfl⟩ ⟨Nat.zero_le _, Nat.zero_le _⟩ rfl rfl (Nat.le_of_ble_eq_true rfl) rfl dX9_comesGreeting_270 (fun σ_39 H40 locs40 hw39 (hP40 : va_P G.1 vwCl (mW G h a σ_39) H40) (hD40 : va_D A (mW G h a σ_39)) hS40 => ?_)
                    clear hP38 hD38 hS38
                    have w39_0 : σ_39 = mjoin σ_37 0 := hw39
                    have q41 : σ_39 = mgreet σ S Mn := by
                      subst w39_0
                      subst w37_0
                      subst eσ36
                      subst w34_0
                      subst w32_0
                      subst eσ31
                      subst eσ29
                      subst eσ28
                      subst w25_0
                      subst w23_0
                      subst eσ22
                      subst w20_0
                      subst w17_0
                      subst w15_0
                      subst w9_0
                      subst w7_0
                      subst w2_0
                      first | (simp only [mgreet, mgrt1, mgrt2, mwrongC, c4, eq_true c5, eq_true c6, c11, eq_true c12, eq_true c14, eq_true c19, eq_true c27, eq_true c30, eq_self, ↓reduceIte, and_self, and_true, true_and]; done) | (simp only [mgreet, mgrt1, mgrt2, mwrongC, c4, eq_true c5, eq_true c6, c11, eq_true c12, eq_true c14, eq_true c19, eq_true c27, eq_true c30, eq_self, ↓reduceIte, and_self, and_true, true_and]; (try and_intros) <;> rfl)
                    exact kRv F hr hlocks hS40 dX9_comesGreeting_273 σ_39 q41 hP40 hD40
                  · exact absurd c12 c30
                · refine lv_aload_n hx hb dX9_comesGreeting_201 rfl (lv_at hl13 2 rfl) ?_
                  refine lv_iconst (v := 0) hx hb dX9_comesGreeting_202 (by decide) ?_
                  refine lv_bipush (v := 8) hx hb dX9_comesGreeting_203 (by decide) ?_
                  refine kWVv F hK hP26 hD26 hS26 hA hl13.1 (c_X9_fails l G h a σ_23 0 8 (by first | assumption | decide | omega)) 9 0 gX9_comesGreeting_X9_fails rfl 2 rfl (by decide +kernel) ⟨Nat.le_of_ble_eq_true rfl, Nat.le_of_ble_eq_true rfl⟩ ⟨Nat.zero_le _, Nat.zero_le _⟩ rfl rfl (Nat.le_of_ble_eq_true rfl) rfl dX9_comesGreeting_205 (fun σ_42 H43 locs43 hw42 (hP43 : va_P G.1 vwCl (mW G h a σ_42) H43) (hD43 : va_D A (mW G h a σ_42)) hS43 => ?_)
                  clear hP26 hD26 hS26
                  have w42_0 : σ_42 = mfail σ_23 0 8 := hw42
                  have q44 : σ_42 = mgreet σ S Mn := by
                    subst w42_0
                    subst w25_0
                    subst w23_0
                    subst eσ22
                    subst w20_0
                    subst w17_0
                    subst w15_0
                    subst w9_0
                    subst w7_0
                    subst w2_0
                    first | (simp only [mgreet, mgrt1, mgrt2, mwrongC, c4, eq_true c5, eq_true c6, c11, eq_true c12, eq_true c14, eq_true c19, c27, eq_self, ↓reduceIte, and_self, and_true, true_and]; done) | (simp only [mgreet, mgrt1, mgrt2, mwrongC, c4, eq_true c5, eq_true c6, c11, eq_true c12, eq_true c14, eq_true c19, c27, eq_self, ↓reduceIte, and_self, and_true, true_and]; (try and_intros) <;> rfl)
                  exact kRv F hr hlocks hS43 dX9_comesGreeting_208 σ_42 q44 hP43 hD43
              · exact absurd c12 c19
            · exact absurd (by decide) c14
          · refine lv_aload_n hx hb dX9_comesGreeting_105 rfl (lv_at hl1 1 rfl) ?_
            refine kget F hK hP10 9 0 17 iX9 rfl rfl (by decide) (List.mem_of_getElem? (i := 4) rfl) rfl dX9_comesGreeting_106 ?_
            refine lv_if_ne (tgt := 117) hx hb dX9_comesGreeting_109 (by decide) (fun c45 => ?_) (fun c45 => ?_)
            · refine lv_iconst (v := 0) hx hb dX9_comesGreeting_117 (by decide) ?_
              refine lv_istore_n (lv' := [(2, .int 0), (1, .int (σ 29 1)), (0, .ref h)]) hx hb dX9_comesGreeting_118 rfl hl1 (by decide) rfl (fun ls46 hl46 => ?_)
              clear hl1
              refine lv_iload_n hx hb dX9_comesGreeting_119 rfl (lv_at hl46 0 rfl) ?_
              refine lv_if_le (tgt := 130) hx hb dX9_comesGreeting_120 (by decide) (fun c47 => ?_) (fun c47 => ?_)
              · refine lv_aload_n hx hb dX9_comesGreeting_130 rfl (lv_at hl46 2 rfl) ?_
                refine kget F hK hP10 9 0 9 iX9 rfl rfl (by decide) (List.mem_of_getElem? (i := 5) rfl) rfl dX9_comesGreeting_131 ?_
                refine lv_iconst (v := 0) hx hb dX9_comesGreeting_134 (by decide) ?_
                refine lv_aload_n hx hb dX9_comesGreeting_135 rfl (lv_at hl46 2 rfl) ?_
                refine kget F hK hP10 9 0 29 iX9 rfl rfl (by decide) (List.mem_of_getElem? (i := 1) rfl) rfl dX9_comesGreeting_136 ?_
                refine lv_iconst (v := 3) hx hb dX9_comesGreeting_139 (by decide) ?_
                refine kild F hK hP10 20 3 rfl rfl (by decide) (Nat.le_of_ble_eq_true rfl) dX9_comesGreeting_140 ?_
                refine lv_aload_n hx hb dX9_comesGreeting_141 rfl (lv_at hl46 2 rfl) ?_
                refine kget F hK hP10 9 0 2 iX9 rfl rfl (by decide) (List.mem_of_getElem? (i := 6) rfl) rfl dX9_comesGreeting_142 ?_
                refine lv_iconst (v := 0) hx hb dX9_comesGreeting_145 (by decide) ?_
                refine kild F hK hP10 3 0 rfl rfl (by decide) (Nat.le_of_ble_eq_true rfl) dX9_comesGreeting_146 ?_
                refine lv_aload_n hx hb dX9_comesGreeting_147 rfl (lv_at hl46 2 rfl) ?_
                refine kget F hK hP10 9 0 16 iX9 rfl rfl (by decide) (List.mem_of_getElem? (i := 3) rfl) rfl dX9_comesGreeting_148 ?_
                refine kPSi F hK hP10 hD10 hS10 hA hl46.1 (c_X9_prime l G (σ 16 0)) (fun _ => rfl) gX9_comesGreeting_X9_prime rfl 1 rfl (by decide +kernel) ⟨Nat.le_of_ble_eq_true rfl, Nat.le_of_ble_eq_true rfl⟩ ⟨Nat.zero_le _, Nat.zero_le _⟩ (Nat.le_of_ble_eq_true rfl) rfl dX9_comesGreeting_151 (fun r48 u48 H49 locs49 hw48 (hP49 : va_P G.1 vwCl (mW G h a σ) H49) (hD49 : va_D A (mW G h a σ)) hS49 => ?_)
                clear hP10 hD10 hS10
                have w48_0 : r48 = kprime (σ 16 0) := hw48
                refine kPSi F hK hP49 hD49 hS49 hA hl46.1 (c_X9_power l G (σ 29 3) (σ 2 0) r48 S (by subst_vars; exact kprime_1 _) hs hS) (fun _ => rfl) gX9_comesGreeting_X9_power rfl 3 rfl (by decide +kernel) ⟨Nat.le_of_ble_eq_true rfl, Nat.le_of_ble_eq_true rfl⟩ ⟨Nat.zero_le _, Nat.zero_le _⟩ (Nat.le_of_ble_eq_true rfl) rfl dX9_comesGreeting_154 (fun r50 u50 H51 locs51 hw50 (hP51 : va_P G.1 vwCl (mW G h a σ) H51) (hD51 : va_D A (mW G h a σ)) hS51 => ?_)
                clear hP49 hD49 hS49
                have w50_0 : r50 = mpw (σ 29 3) r48 S := hw50
                refine lv_aload_n hx hb dX9_comesGreeting_157 rfl (lv_at hl46 2 rfl) ?_
                refine kget F hK hP51 9 0 29 iX9 rfl rfl (by decide) (List.mem_of_getElem? (i := 1) rfl) rfl dX9_comesGreeting_158 ?_
                refine lv_iconst (v := 5) hx hb dX9_comesGreeting_161 (by decide) ?_
                refine kild F hK hP51 20 5 rfl rfl (by decide) (Nat.le_of_ble_eq_true rfl) dX9_comesGreeting_162 ?_
                refine lv_if_eq (tgt := 173) hx hb dX9_comesGreeting_163 (by decide) (fun c52 => ?_) (fun c52 => ?_)
                · exact absurd c52 c12
                · refine lv_aload_n hx hb dX9_comesGreeting_166 rfl (lv_at hl46 2 rfl) ?_
                  refine kget F hK hP51 9 0 18 iX9 rfl rfl (by decide) (List.mem_of_getElem? (i := 7) rfl) rfl dX9_comesGreeting_167 ?_
                  refine lv_goto (tgt := 174) hx hb dX9_comesGreeting_170 (by decide) ?_
                  refine kPSi F hK hP51 hD51 hS51 hA hl46.1 (c_X9_keyOf l G r50 (σ 18 0)) (fun _ => rfl) gX9_comesGreeting_X9_keyOf rfl 2 rfl (by decide +kernel) ⟨Nat.le_of_ble_eq_true rfl, Nat.le_of_ble_eq_true rfl⟩ ⟨Nat.zero_le _, Nat.zero_le _⟩ (Nat.le_of_ble_eq_true rfl) rfl dX9_comesGreeting_174 (fun r53 u53 H54 locs54 hw53 (hP54 : va_P G.1 vwCl (mW G h a σ) H54) (hD54 : va_D A (mW G h a σ)) hS54 => ?_)
                  clear hP51 hD51 hS51
                  have w53_0 : r53 = kmix (kmix 7 r50) (σ 18 0) := hw53
                  refine kMst F hK hP54 hD54 hS54 9 10 0 rfl rfl (by decide) (Nat.le_of_ble_eq_true rfl) rfl dX9_comesGreeting_177 (fun H55 locs55 σ55 eσ55 hP55 hD55 hS55 => ?_)
                  clear hP54 hD54 hS54
                  refine lv_aload_n hx hb dX9_comesGreeting_178 rfl (lv_at hl46 2 rfl) ?_
                  refine lv_iconst (v := 0) hx hb dX9_comesGreeting_179 (by decide) ?_
                  refine lv_bipush (v := 6) hx hb dX9_comesGreeting_180 (by decide) ?_
                  refine kWVv F hK hP55 hD55 hS55 hA hl46.1 (c_X9_takes l G h a σ55 0 6 (by first | assumption | decide | omega) (by first | assumption | decide | omega)) 9 0 gX9_comesGreeting_X9_takes rfl 2 rfl (by decide +kernel) ⟨Nat.le_of_ble_eq_true rfl, Nat.le_of_ble_eq_true rfl⟩ ⟨Nat.zero_le _, Nat.zero_le _⟩ rfl rfl (Nat.le_of_ble_eq_true rfl) rfl dX9_comesGreeting_182 (fun σ_56 H57 locs57 hw56 (hP57 : va_P G.1 vwCl (mW G h a σ_56) H57) (hD57 : va_D A (mW G h a σ_56)) hS57 => ?_)
                  clear hP55 hD55 hS55
                  have w56_0 : σ_56 = mtakes σ55 0 (6 + 1) := hw56
                  refine lv_aload_n hx hb dX9_comesGreeting_185 rfl (lv_at hl46 2 rfl) ?_
                  refine kget F hK hP57 9 0 29 iX9 rfl rfl (by decide) (List.mem_of_getElem? (i := 1) rfl) rfl dX9_comesGreeting_186 ?_
                  refine lv_bipush (v := 7) hx hb dX9_comesGreeting_189 (by decide) ?_
                  refine kild F hK hP57 20 7 rfl rfl (by decide) (Nat.le_of_ble_eq_true rfl) dX9_comesGreeting_191 ?_
                  rw [show (σ_56 29 7) = (σ 29 7) from by subst w56_0; subst eσ55; first | rfl | (simp only [msend]; (repeat' split) <;> rfl)]
                  refine lv_aload_n hx hb dX9_comesGreeting_192 rfl (lv_at hl46 2 rfl) ?_
                  refine lv_iconst (v := 0) hx hb dX9_comesGreeting_193 (by decide) ?_
                  refine lv_iconst (v := 1) hx hb dX9_comesGreeting_194 (by decide) ?_
                  refine kWVi F hK hP57 hD57 hS57 hA hl46.1 (c_X9_proof l G h a σ_56 0 1 (by first | assumption | decide | omega)) 9 0 gX9_comesGreeting_X9_proof rfl 2 rfl (by decide +kernel) ⟨Nat.le_of_ble_eq_true rfl, Nat.le_of_ble_eq_true rfl⟩ ⟨Nat.zero_le _, Nat.zero_le _⟩ rfl rfl (Nat.le_of_ble_eq_true rfl) rfl dX9_comesGreeting_195 (fun r58 u58 H59 locs59 hw58 (hP59 : va_P G.1 vwCl (mW G h a σ_56) H59) (hD59 : va_D A (mW G h a σ_56)) hS59 => ?_)
                  clear hP57 hD57 hS57
                  have w58_0 : r58 = mproof σ_56 0 1 := hw58
                  refine lv_icmp_eq (tgt := 209) hx hb dX9_comesGreeting_198 (by decide) (fun c60 => ?_) (fun c60 => ?_)
                  · refine lv_aload_n hx hb dX9_comesGreeting_209 rfl (lv_at hl46 2 rfl) ?_
                    refine kget F hK hP59 9 0 6 iX9 rfl rfl (by decide) (List.mem_of_getElem? (i := 8) rfl) rfl dX9_comesGreeting_210 ?_
                    refine lv_iconst (v := 0) hx hb dX9_comesGreeting_213 (by decide) ?_
                    refine lv_iload_n hx hb dX9_comesGreeting_214 rfl (lv_at hl46 1 rfl) ?_
                    refine kMst F hK hP59 hD59 hS59 6 7 0 rfl rfl (by decide) (Nat.le_of_ble_eq_true rfl) rfl dX9_comesGreeting_215 (fun H61 locs61 σ61 eσ61 hP61 hD61 hS61 => ?_)
                    clear hP59 hD59 hS59
                    refine lv_aload_n hx hb dX9_comesGreeting_216 rfl (lv_at hl46 2 rfl) ?_
                    refine kget F hK hP61 9 0 7 iX9 rfl rfl (by decide) (List.mem_of_getElem? (i := 9) rfl) rfl dX9_comesGreeting_217 ?_
                    refine lv_iconst (v := 0) hx hb dX9_comesGreeting_220 (by decide) ?_
                    refine lv_aload_n hx hb dX9_comesGreeting_221 rfl (lv_at hl46 2 rfl) ?_
                    refine kget F hK hP61 9 0 16 iX9 rfl rfl (by decide) (List.mem_of_getElem? (i := 3) rfl) rfl dX9_comesGreeting_222 ?_
                    rw [show (σ61 16 0) = (σ 16 0) from by subst eσ61; subst w56_0; subst eσ55; first | rfl | (simp only [msend]; (repeat' split) <;> rfl)]
                    refine kMst F hK hP61 hD61 hS61 7 8 0 rfl rfl (by decide) (Nat.le_of_ble_eq_true rfl) rfl dX9_comesGreeting_225 (fun H62 locs62 σ62 eσ62 hP62 hD62 hS62 => ?_)
                    clear hP61 hD61 hS61
                    refine lv_aload_n hx hb dX9_comesGreeting_226 rfl (lv_at hl46 2 rfl) ?_
                    refine kget F hK hP62 9 0 8 iX9 rfl rfl (by decide) (List.mem_of_getElem? (i := 10) rfl) rfl dX9_comesGreeting_227 ?_
                    refine lv_iconst (v := 0) hx hb dX9_comesGreeting_230 (by decide) ?_
                    refine lv_aload_n hx hb dX9_comesGreeting_231 rfl (lv_at hl46 2 rfl) ?_
                    refine kget F hK hP62 9 0 29 iX9 rfl rfl (by decide) (List.mem_of_getElem? (i := 1) rfl) rfl dX9_comesGreeting_232 ?_
                    refine lv_iconst (v := 5) hx hb dX9_comesGreeting_235 (by decide) ?_
                    refine kild F hK hP62 20 5 rfl rfl (by decide) (Nat.le_of_ble_eq_true rfl) dX9_comesGreeting_236 ?_
                    rw [show (σ62 29 5) = (σ 29 5) from by subst eσ62; subst eσ61; subst w56_0; subst eσ55; first | rfl | (simp only [msend]; (repeat' split) <;> rfl)]
                    refine lv_if_eq (tgt := 244) hx hb dX9_comesGreeting_237 (by decide) (fun c63 => ?_) (fun c63 => ?_)
                    · exact absurd c63 c12
                    · refine lv_iconst (v := 1) hx hb dX9_comesGreeting_240 (by decide) ?_
                      refine lv_goto (tgt := 245) hx hb dX9_comesGreeting_241 (by decide) ?_
                      refine kMst F hK hP62 hD62 hS62 8 9 0 rfl rfl (by decide) (Nat.le_of_ble_eq_true rfl) rfl dX9_comesGreeting_245 (fun H64 locs64 σ64 eσ64 hP64 hD64 hS64 => ?_)
                      clear hP62 hD62 hS62
                      refine lv_aload_n hx hb dX9_comesGreeting_246 rfl (lv_at hl46 2 rfl) ?_
                      refine lv_iconst (v := 4) hx hb dX9_comesGreeting_247 (by decide) ?_
                      refine kWVv F hK hP64 hD64 hS64 hA hl46.1 (c_X9_clears l G h a σ64 4) 9 0 gX9_comesGreeting_X9_clears rfl 1 rfl (by decide +kernel) ⟨Nat.le_of_ble_eq_true rfl, Nat.le_of_ble_eq_true rfl⟩ ⟨Nat.zero_le _, Nat.zero_le _⟩ rfl rfl (Nat.le_of_ble_eq_true rfl) rfl dX9_comesGreeting_248 (fun σ_65 H66 locs66 hw65 (hP66 : va_P G.1 vwCl (mW G h a σ_65) H66) (hD66 : va_D A (mW G h a σ_65)) hS66 => ?_)
                      clear hP64 hD64 hS64
                      have w65_0 : σ_65 = mclr σ64 4 := hw65
                      refine lv_aload_n hx hb dX9_comesGreeting_251 rfl (lv_at hl46 2 rfl) ?_
                      refine kget F hK hP66 9 0 29 iX9 rfl rfl (by decide) (List.mem_of_getElem? (i := 1) rfl) rfl dX9_comesGreeting_252 ?_
                      refine lv_iconst (v := 1) hx hb dX9_comesGreeting_255 (by decide) ?_
                      refine lv_aload_n hx hb dX9_comesGreeting_256 rfl (lv_at hl46 2 rfl) ?_
                      refine lv_iconst (v := 0) hx hb dX9_comesGreeting_257 (by decide) ?_
                      refine lv_iconst (v := 2) hx hb dX9_comesGreeting_258 (by decide) ?_
                      refine kWVi F hK hP66 hD66 hS66 hA hl46.1 (c_X9_proof l G h a σ_65 0 2 (by first | assumption | decide | omega)) 9 0 gX9_comesGreeting_X9_proof rfl 2 rfl (by decide +kernel) ⟨Nat.le_of_ble_eq_true rfl, Nat.le_of_ble_eq_true rfl⟩ ⟨Nat.zero_le _, Nat.zero_le _⟩ rfl rfl (Nat.le_of_ble_eq_true rfl) rfl dX9_comesGreeting_259 (fun r67 u67 H68 locs68 hw67 (hP68 : va_P G.1 vwCl (mW G h a σ_65) H68) (hD68 : va_D A (mW G h a σ_65)) hS68 => ?_)
                      clear hP66 hD66 hS66
                      have w67_0 : r67 = mproof σ_65 0 2 := hw67
                      refine kMst F hK hP68 hD68 hS68 29 20 1 rfl rfl (by decide) (Nat.le_of_ble_eq_true rfl) rfl dX9_comesGreeting_262 (fun H69 locs69 σ69 eσ69 hP69 hD69 hS69 => ?_)
                      clear hP68 hD68 hS68
                      refine lv_aload_n hx hb dX9_comesGreeting_263 rfl (lv_at hl46 2 rfl) ?_
                      refine lv_iconst (v := 1) hx hb dX9_comesGreeting_264 (by decide) ?_
                      refine kWVv F hK hP69 hD69 hS69 hA hl46.1 (c_X9_sends l G h a σ69 1 Mn (by first | assumption | decide | omega) (by subst eσ69; subst w67_0; subst w65_0; subst eσ64; subst eσ62; subst eσ61; subst w58_0; subst w56_0; subst eσ55; subst w53_0; subst w50_0; subst w48_0; subst w9_0; subst w7_0; subst w2_0; exact hM) hM8) 9 0 gX9_comesGreeting_X9_sends rfl 1 rfl (by decide +kernel) ⟨Nat.le_of_ble_eq_true rfl, Nat.le_of_ble_eq_true rfl⟩ ⟨Nat.zero_le _, Nat.zero_le _⟩ rfl rfl (Nat.le_of_ble_eq_true rfl) rfl dX9_comesGreeting_265 (fun σ_70 H71 locs71 hw70 (hP71 : va_P G.1 vwCl (mW G h a σ_70) H71) (hD71 : va_D A (mW G h a σ_70)) hS71 => ?_)
                      clear hP69 hD69 hS69
                      have w70_0 : σ_70 = msend σ69 1 Mn := hw70
                      refine lv_aload_n hx hb dX9_comesGreeting_268 rfl (lv_at hl46 2 rfl) ?_
                      refine lv_iconst (v := 0) hx hb dX9_comesGreeting_269 (by decide) ?_
                      refine kWVv F hK hP71 hD71 hS71 hA hl46.1 (c_X9_joins l G h a σ_70 0 (by first | assumption | decide | omega)) 9 0 gX9_comesGreeting_X9_joins rfl 1 rfl (by decide +kernel) ⟨Nat.le_of_ble_eq_true rfl, Nat.le_of_ble_eq_true rfl⟩ ⟨Nat.zero_le _, Nat.zero_le _⟩ rfl rfl (Nat.le_of_ble_eq_true rfl) rfl dX9_comesGreeting_270 (fun σ_72 H73 locs73 hw72 (hP73 : va_P G.1 vwCl (mW G h a σ_72) H73) (hD73 : va_D A (mW G h a σ_72)) hS73 => ?_)
                      clear hP71 hD71 hS71
                      have w72_0 : σ_72 = mjoin σ_70 0 := hw72
                      have q74 : σ_72 = mgreet σ S Mn := by
                        subst w72_0
                        subst w70_0
                        subst eσ69
                        subst w67_0
                        subst w65_0
                        subst eσ64
                        subst eσ62
                        subst eσ61
                        subst w58_0
                        subst w56_0
                        subst eσ55
                        subst w53_0
                        subst w50_0
                        subst w48_0
                        subst w9_0
                        subst w7_0
                        subst w2_0
                        first | (simp only [mgreet, mgrt1, mgrt2, mwrongC, c4, eq_true c5, eq_true c6, c11, c12, c45, eq_true c47, c52, eq_true c60, c63, eq_self, ↓reduceIte, and_self, and_true, true_and]; done) | (simp only [mgreet, mgrt1, mgrt2, mwrongC, c4, eq_true c5, eq_true c6, c11, c12, c45, eq_true c47, c52, eq_true c60, c63, eq_self, ↓reduceIte, and_self, and_true, true_and]; (try and_intros) <;> rfl)
                      exact kRv F hr hlocks hS73 dX9_comesGreeting_273 σ_72 q74 hP73 hD73
                  · refine lv_aload_n hx hb dX9_comesGreeting_201 rfl (lv_at hl46 2 rfl) ?_
                    refine lv_iconst (v := 0) hx hb dX9_comesGreeting_202 (by decide) ?_
                    refine lv_bipush (v := 8) hx hb dX9_comesGreeting_203 (by decide) ?_
                    refine kWVv F hK hP59 hD59 hS59 hA hl46.1 (c_X9_fails l G h a σ_56 0 8 (by first | assumption | decide | omega)) 9 0 gX9_comesGreeting_X9_fails rfl 2 rfl (by decide +kernel) ⟨Nat.le_of_ble_eq_true rfl, Nat.le_of_ble_eq_true rfl⟩ ⟨Nat.zero_le _, Nat.zero_le _⟩ rfl rfl (Nat.le_of_ble_eq_true rfl) rfl dX9_comesGreeting_205 (fun σ_75 H76 locs76 hw75 (hP76 : va_P G.1 vwCl (mW G h a σ_75) H76) (hD76 : va_D A (mW G h a σ_75)) hS76 => ?_)
                    clear hP59 hD59 hS59
                    have w75_0 : σ_75 = mfail σ_56 0 8 := hw75
                    have q77 : σ_75 = mgreet σ S Mn := by
                      subst w75_0
                      subst w58_0
                      subst w56_0
                      subst eσ55
                      subst w53_0
                      subst w50_0
                      subst w48_0
                      subst w9_0
                      subst w7_0
                      subst w2_0
                      first | (simp only [mgreet, mgrt1, mgrt2, mwrongC, c4, eq_true c5, eq_true c6, c11, c12, c45, eq_true c47, c52, c60, eq_self, ↓reduceIte, and_self, and_true, true_and]; done) | (simp only [mgreet, mgrt1, mgrt2, mwrongC, c4, eq_true c5, eq_true c6, c11, c12, c45, eq_true c47, c52, c60, eq_self, ↓reduceIte, and_self, and_true, true_and]; (try and_intros) <;> rfl)
                    exact kRv F hr hlocks hS76 dX9_comesGreeting_208 σ_75 q77 hP76 hD76
              · exact absurd (by decide) c47
            · refine lv_bipush (v := 6) hx hb dX9_comesGreeting_112 (by decide) ?_
              refine lv_goto (tgt := 118) hx hb dX9_comesGreeting_114 (by decide) ?_
              refine lv_istore_n (lv' := [(2, .int 6), (1, .int (σ 29 1)), (0, .ref h)]) hx hb dX9_comesGreeting_118 rfl hl1 (by decide) rfl (fun ls78 hl78 => ?_)
              clear hl1
              refine lv_iload_n hx hb dX9_comesGreeting_119 rfl (lv_at hl78 0 rfl) ?_
              refine lv_if_le (tgt := 130) hx hb dX9_comesGreeting_120 (by decide) (fun c79 => ?_) (fun c79 => ?_)
              · exact absurd c79 (by decide)
              · refine lv_aload_n hx hb dX9_comesGreeting_123 rfl (lv_at hl78 2 rfl) ?_
                refine lv_iconst (v := 0) hx hb dX9_comesGreeting_124 (by decide) ?_
                refine lv_iload_n hx hb dX9_comesGreeting_125 rfl (lv_at hl78 0 rfl) ?_
                refine kWVv F hK hP10 hD10 hS10 hA hl78.1 (c_X9_fails l G h a σ 0 6 (by first | assumption | decide | omega)) 9 0 gX9_comesGreeting_X9_fails rfl 2 rfl (by decide +kernel) ⟨Nat.le_of_ble_eq_true rfl, Nat.le_of_ble_eq_true rfl⟩ ⟨Nat.zero_le _, Nat.zero_le _⟩ rfl rfl (Nat.le_of_ble_eq_true rfl) rfl dX9_comesGreeting_126 (fun σ_80 H81 locs81 hw80 (hP81 : va_P G.1 vwCl (mW G h a σ_80) H81) (hD81 : va_D A (mW G h a σ_80)) hS81 => ?_)
                clear hP10 hD10 hS10
                have w80_0 : σ_80 = mfail σ 0 6 := hw80
                have q82 : σ_80 = mgreet σ S Mn := by
                  subst w80_0
                  subst w9_0
                  subst w7_0
                  subst w2_0
                  first | (simp only [mgreet, mgrt1, mgrt2, mwrongC, c4, eq_true c5, eq_true c6, c11, c12, eq_true c45, c79, eq_self, ↓reduceIte, and_self, and_true, true_and]; done) | (simp only [mgreet, mgrt1, mgrt2, mwrongC, c4, eq_true c5, eq_true c6, c11, c12, eq_true c45, c79, eq_self, ↓reduceIte, and_self, and_true, true_and]; (try and_intros) <;> rfl)
                exact kRv F hr hlocks hS81 dX9_comesGreeting_129 σ_80 q82 hP81 hD81
        · refine lv_iconst (v := 5) hx hb dX9_comesGreeting_92 (by decide) ?_
          refine lv_goto (tgt := 118) hx hb dX9_comesGreeting_93 (by decide) ?_
          refine lv_istore_n (lv' := [(2, .int 5), (1, .int (σ 29 1)), (0, .ref h)]) hx hb dX9_comesGreeting_118 rfl hl1 (by decide) rfl (fun ls83 hl83 => ?_)
          clear hl1
          refine lv_iload_n hx hb dX9_comesGreeting_119 rfl (lv_at hl83 0 rfl) ?_
          refine lv_if_le (tgt := 130) hx hb dX9_comesGreeting_120 (by decide) (fun c84 => ?_) (fun c84 => ?_)
          · exact absurd c84 (by decide)
          · refine lv_aload_n hx hb dX9_comesGreeting_123 rfl (lv_at hl83 2 rfl) ?_
            refine lv_iconst (v := 0) hx hb dX9_comesGreeting_124 (by decide) ?_
            refine lv_iload_n hx hb dX9_comesGreeting_125 rfl (lv_at hl83 0 rfl) ?_
            refine kWVv F hK hP10 hD10 hS10 hA hl83.1 (c_X9_fails l G h a σ 0 5 (by first | assumption | decide | omega)) 9 0 gX9_comesGreeting_X9_fails rfl 2 rfl (by decide +kernel) ⟨Nat.le_of_ble_eq_true rfl, Nat.le_of_ble_eq_true rfl⟩ ⟨Nat.zero_le _, Nat.zero_le _⟩ rfl rfl (Nat.le_of_ble_eq_true rfl) rfl dX9_comesGreeting_126 (fun σ_85 H86 locs86 hw85 (hP86 : va_P G.1 vwCl (mW G h a σ_85) H86) (hD86 : va_D A (mW G h a σ_85)) hS86 => ?_)
            clear hP10 hD10 hS10
            have w85_0 : σ_85 = mfail σ 0 5 := hw85
            have q87 : σ_85 = mgreet σ S Mn := by
              subst w85_0
              subst w9_0
              subst w7_0
              subst w2_0
              first | (simp only [mgreet, mgrt1, mgrt2, mwrongC, c4, eq_true c5, eq_true c6, eq_true c11, c84, eq_self, ↓reduceIte, and_self, and_true, true_and]; done) | (simp only [mgreet, mgrt1, mgrt2, mwrongC, c4, eq_true c5, eq_true c6, eq_true c11, c84, eq_self, ↓reduceIte, and_self, and_true, true_and]; (try and_intros) <;> rfl)
            exact kRv F hr hlocks hS86 dX9_comesGreeting_129 σ_85 q87 hP86 hD86
      · refine lv_aload_n hx hb dX9_comesGreeting_50 rfl (lv_at hl1 1 rfl) ?_
        refine kget F hK hP3 9 0 0 iX9 rfl rfl (by decide) (List.mem_of_getElem? (i := 2) rfl) rfl dX9_comesGreeting_51 ?_
        refine lv_iconst (v := 0) hx hb dX9_comesGreeting_54 (by decide) ?_
        refine kild F hK hP3 1 0 rfl rfl (by decide) (Nat.le_of_ble_eq_true rfl) dX9_comesGreeting_55 ?_
        refine lv_iload_n hx hb dX9_comesGreeting_56 rfl (lv_at hl1 0 rfl) ?_
        refine kPSi F hK hP3 hD3 hS3 hA hl1.1 (c_X9_hasAbove l G (σ 0 0) (σ 29 1) (by subst w2_0; exact mhasV_v (by assumption))) (fun _ => rfl) gX9_comesGreeting_X9_hasAbove rfl 2 rfl (by decide +kernel) ⟨Nat.le_of_ble_eq_true rfl, Nat.le_of_ble_eq_true rfl⟩ ⟨Nat.zero_le _, Nat.zero_le _⟩ (Nat.le_of_ble_eq_true rfl) rfl dX9_comesGreeting_57 (fun r88 u88 H89 locs89 hw88 (hP89 : va_P G.1 vwCl (mW G h a σ) H89) (hD89 : va_D A (mW G h a σ)) hS89 => ?_)
        clear hP3 hD3 hS3
        have w88_0 : r88 = mab (σ 0 0) (σ 29 1) := hw88
        refine lv_if_eq (tgt := 68) hx hb dX9_comesGreeting_60 (by decide) (fun c90 => ?_) (fun c90 => ?_)
        · refine lv_aload_n hx hb dX9_comesGreeting_68 rfl (lv_at hl1 1 rfl) ?_
          refine kget F hK hP89 9 0 29 iX9 rfl rfl (by decide) (List.mem_of_getElem? (i := 1) rfl) rfl dX9_comesGreeting_69 ?_
          refine lv_iconst (v := 3) hx hb dX9_comesGreeting_72 (by decide) ?_
          refine kild F hK hP89 20 3 rfl rfl (by decide) (Nat.le_of_ble_eq_true rfl) dX9_comesGreeting_73 ?_
          refine lv_i2l (v := (σ 29 3).toInt64) hx hb dX9_comesGreeting_74 rfl ?_
          refine lv_lconst (v := 1) hx hb dX9_comesGreeting_75 (by decide) ?_
          refine lv_aload_n hx hb dX9_comesGreeting_76 rfl (lv_at hl1 1 rfl) ?_
          refine kget F hK hP89 9 0 16 iX9 rfl rfl (by decide) (List.mem_of_getElem? (i := 3) rfl) rfl dX9_comesGreeting_77 ?_
          refine kPSi F hK hP89 hD89 hS89 hA hl1.1 (c_X9_prime l G (σ 16 0)) (fun _ => rfl) gX9_comesGreeting_X9_prime rfl 1 rfl (by decide +kernel) ⟨Nat.le_of_ble_eq_true rfl, Nat.le_of_ble_eq_true rfl⟩ ⟨Nat.zero_le _, Nat.zero_le _⟩ (Nat.le_of_ble_eq_true rfl) rfl dX9_comesGreeting_80 (fun r91 u91 H92 locs92 hw91 (hP92 : va_P G.1 vwCl (mW G h a σ) H92) (hD92 : va_D A (mW G h a σ)) hS92 => ?_)
          clear hP89 hD89 hS89
          have w91_0 : r91 = kprime (σ 16 0) := hw91
          refine lv_iconst (v := 1) hx hb dX9_comesGreeting_83 (by decide) ?_
          refine lv_isub hx hb dX9_comesGreeting_84 ?_
          refine lv_i2l (v := (r91 - 1).toInt64) hx hb dX9_comesGreeting_85 rfl ?_
          refine kPSi F hK hP92 hD92 hS92 hA hl1.1 (c_X9_in l G ((σ 29 3).toInt64) 1 ((r91 - 1).toInt64)) (fun _ => rfl) gX9_comesGreeting_X9_in rfl 3 rfl (by decide +kernel) ⟨Nat.le_of_ble_eq_true rfl, Nat.le_of_ble_eq_true rfl⟩ ⟨Nat.zero_le _, Nat.zero_le _⟩ (Nat.le_of_ble_eq_true rfl) rfl dX9_comesGreeting_86 (fun r93 u93 H94 locs94 hw93 (hP94 : va_P G.1 vwCl (mW G h a σ) H94) (hD94 : va_D A (mW G h a σ)) hS94 => ?_)
          clear hP92 hD92 hS92
          have w93_0 : r93 = kinL ((σ 29 3).toInt64) 1 ((r91 - 1).toInt64) := hw93
          refine lv_if_ne (tgt := 96) hx hb dX9_comesGreeting_89 (by decide) (fun c95 => ?_) (fun c95 => ?_)
          · refine lv_aload_n hx hb dX9_comesGreeting_96 rfl (lv_at hl1 1 rfl) ?_
            refine kget F hK hP94 9 0 29 iX9 rfl rfl (by decide) (List.mem_of_getElem? (i := 1) rfl) rfl dX9_comesGreeting_97 ?_
            refine lv_iconst (v := 5) hx hb dX9_comesGreeting_100 (by decide) ?_
            refine kild F hK hP94 20 5 rfl rfl (by decide) (Nat.le_of_ble_eq_true rfl) dX9_comesGreeting_101 ?_
            refine lv_if_eq (tgt := 117) hx hb dX9_comesGreeting_102 (by decide) (fun c96 => ?_) (fun c96 => ?_)
            · refine lv_iconst (v := 0) hx hb dX9_comesGreeting_117 (by decide) ?_
              refine lv_istore_n (lv' := [(2, .int 0), (1, .int (σ 29 1)), (0, .ref h)]) hx hb dX9_comesGreeting_118 rfl hl1 (by decide) rfl (fun ls97 hl97 => ?_)
              clear hl1
              refine lv_iload_n hx hb dX9_comesGreeting_119 rfl (lv_at hl97 0 rfl) ?_
              refine lv_if_le (tgt := 130) hx hb dX9_comesGreeting_120 (by decide) (fun c98 => ?_) (fun c98 => ?_)
              · refine lv_aload_n hx hb dX9_comesGreeting_130 rfl (lv_at hl97 2 rfl) ?_
                refine kget F hK hP94 9 0 9 iX9 rfl rfl (by decide) (List.mem_of_getElem? (i := 5) rfl) rfl dX9_comesGreeting_131 ?_
                refine lv_iconst (v := 0) hx hb dX9_comesGreeting_134 (by decide) ?_
                refine lv_aload_n hx hb dX9_comesGreeting_135 rfl (lv_at hl97 2 rfl) ?_
                refine kget F hK hP94 9 0 29 iX9 rfl rfl (by decide) (List.mem_of_getElem? (i := 1) rfl) rfl dX9_comesGreeting_136 ?_
                refine lv_iconst (v := 3) hx hb dX9_comesGreeting_139 (by decide) ?_
                refine kild F hK hP94 20 3 rfl rfl (by decide) (Nat.le_of_ble_eq_true rfl) dX9_comesGreeting_140 ?_
                refine lv_aload_n hx hb dX9_comesGreeting_141 rfl (lv_at hl97 2 rfl) ?_
                refine kget F hK hP94 9 0 2 iX9 rfl rfl (by decide) (List.mem_of_getElem? (i := 6) rfl) rfl dX9_comesGreeting_142 ?_
                refine lv_iconst (v := 0) hx hb dX9_comesGreeting_145 (by decide) ?_
                refine kild F hK hP94 3 0 rfl rfl (by decide) (Nat.le_of_ble_eq_true rfl) dX9_comesGreeting_146 ?_
                refine lv_aload_n hx hb dX9_comesGreeting_147 rfl (lv_at hl97 2 rfl) ?_
                refine kget F hK hP94 9 0 16 iX9 rfl rfl (by decide) (List.mem_of_getElem? (i := 3) rfl) rfl dX9_comesGreeting_148 ?_
                refine kPSi F hK hP94 hD94 hS94 hA hl97.1 (c_X9_prime l G (σ 16 0)) (fun _ => rfl) gX9_comesGreeting_X9_prime rfl 1 rfl (by decide +kernel) ⟨Nat.le_of_ble_eq_true rfl, Nat.le_of_ble_eq_true rfl⟩ ⟨Nat.zero_le _, Nat.zero_le _⟩ (Nat.le_of_ble_eq_true rfl) rfl dX9_comesGreeting_151 (fun r99 u99 H100 locs100 hw99 (hP100 : va_P G.1 vwCl (mW G h a σ) H100) (hD100 : va_D A (mW G h a σ)) hS100 => ?_)
                clear hP94 hD94 hS94
                have w99_0 : r99 = kprime (σ 16 0) := hw99
                refine kPSi F hK hP100 hD100 hS100 hA hl97.1 (c_X9_power l G (σ 29 3) (σ 2 0) r99 S (by subst_vars; exact kprime_1 _) hs hS) (fun _ => rfl) gX9_comesGreeting_X9_power rfl 3 rfl (by decide +kernel) ⟨Nat.le_of_ble_eq_true rfl, Nat.le_of_ble_eq_true rfl⟩ ⟨Nat.zero_le _, Nat.zero_le _⟩ (Nat.le_of_ble_eq_true rfl) rfl dX9_comesGreeting_154 (fun r101 u101 H102 locs102 hw101 (hP102 : va_P G.1 vwCl (mW G h a σ) H102) (hD102 : va_D A (mW G h a σ)) hS102 => ?_)
                clear hP100 hD100 hS100
                have w101_0 : r101 = mpw (σ 29 3) r99 S := hw101
                refine lv_aload_n hx hb dX9_comesGreeting_157 rfl (lv_at hl97 2 rfl) ?_
                refine kget F hK hP102 9 0 29 iX9 rfl rfl (by decide) (List.mem_of_getElem? (i := 1) rfl) rfl dX9_comesGreeting_158 ?_
                refine lv_iconst (v := 5) hx hb dX9_comesGreeting_161 (by decide) ?_
                refine kild F hK hP102 20 5 rfl rfl (by decide) (Nat.le_of_ble_eq_true rfl) dX9_comesGreeting_162 ?_
                refine lv_if_eq (tgt := 173) hx hb dX9_comesGreeting_163 (by decide) (fun c103 => ?_) (fun c103 => ?_)
                · refine lv_iconst (v := 0) hx hb dX9_comesGreeting_173 (by decide) ?_
                  refine kPSi F hK hP102 hD102 hS102 hA hl97.1 (c_X9_keyOf l G r101 0) (fun _ => rfl) gX9_comesGreeting_X9_keyOf rfl 2 rfl (by decide +kernel) ⟨Nat.le_of_ble_eq_true rfl, Nat.le_of_ble_eq_true rfl⟩ ⟨Nat.zero_le _, Nat.zero_le _⟩ (Nat.le_of_ble_eq_true rfl) rfl dX9_comesGreeting_174 (fun r104 u104 H105 locs105 hw104 (hP105 : va_P G.1 vwCl (mW G h a σ) H105) (hD105 : va_D A (mW G h a σ)) hS105 => ?_)
                  clear hP102 hD102 hS102
                  have w104_0 : r104 = kmix (kmix 7 r101) 0 := hw104
                  refine kMst F hK hP105 hD105 hS105 9 10 0 rfl rfl (by decide) (Nat.le_of_ble_eq_true rfl) rfl dX9_comesGreeting_177 (fun H106 locs106 σ106 eσ106 hP106 hD106 hS106 => ?_)
                  clear hP105 hD105 hS105
                  refine lv_aload_n hx hb dX9_comesGreeting_178 rfl (lv_at hl97 2 rfl) ?_
                  refine lv_iconst (v := 0) hx hb dX9_comesGreeting_179 (by decide) ?_
                  refine lv_bipush (v := 6) hx hb dX9_comesGreeting_180 (by decide) ?_
                  refine kWVv F hK hP106 hD106 hS106 hA hl97.1 (c_X9_takes l G h a σ106 0 6 (by first | assumption | decide | omega) (by first | assumption | decide | omega)) 9 0 gX9_comesGreeting_X9_takes rfl 2 rfl (by decide +kernel) ⟨Nat.le_of_ble_eq_true rfl, Nat.le_of_ble_eq_true rfl⟩ ⟨Nat.zero_le _, Nat.zero_le _⟩ rfl rfl (Nat.le_of_ble_eq_true rfl) rfl dX9_comesGreeting_182 (fun σ_107 H108 locs108 hw107 (hP108 : va_P G.1 vwCl (mW G h a σ_107) H108) (hD108 : va_D A (mW G h a σ_107)) hS108 => ?_)
                  clear hP106 hD106 hS106
                  have w107_0 : σ_107 = mtakes σ106 0 (6 + 1) := hw107
                  refine lv_aload_n hx hb dX9_comesGreeting_185 rfl (lv_at hl97 2 rfl) ?_
                  refine kget F hK hP108 9 0 29 iX9 rfl rfl (by decide) (List.mem_of_getElem? (i := 1) rfl) rfl dX9_comesGreeting_186 ?_
                  refine lv_bipush (v := 7) hx hb dX9_comesGreeting_189 (by decide) ?_
                  refine kild F hK hP108 20 7 rfl rfl (by decide) (Nat.le_of_ble_eq_true rfl) dX9_comesGreeting_191 ?_
                  rw [show (σ_107 29 7) = (σ 29 7) from by subst w107_0; subst eσ106; first | rfl | (simp only [msend]; (repeat' split) <;> rfl)]
                  refine lv_aload_n hx hb dX9_comesGreeting_192 rfl (lv_at hl97 2 rfl) ?_
                  refine lv_iconst (v := 0) hx hb dX9_comesGreeting_193 (by decide) ?_
                  refine lv_iconst (v := 1) hx hb dX9_comesGreeting_194 (by decide) ?_
                  refine kWVi F hK hP108 hD108 hS108 hA hl97.1 (c_X9_proof l G h a σ_107 0 1 (by first | assumption | decide | omega)) 9 0 gX9_comesGreeting_X9_proof rfl 2 rfl (by decide +kernel) ⟨Nat.le_of_ble_eq_true rfl, Nat.le_of_ble_eq_true rfl⟩ ⟨Nat.zero_le _, Nat.zero_le _⟩ rfl rfl (Nat.le_of_ble_eq_true rfl) rfl dX9_comesGreeting_195 (fun r109 u109 H110 locs110 hw109 (hP110 : va_P G.1 vwCl (mW G h a σ_107) H110) (hD110 : va_D A (mW G h a σ_107)) hS110 => ?_)
                  clear hP108 hD108 hS108
                  have w109_0 : r109 = mproof σ_107 0 1 := hw109
                  refine lv_icmp_eq (tgt := 209) hx hb dX9_comesGreeting_198 (by decide) (fun c111 => ?_) (fun c111 => ?_)
                  · refine lv_aload_n hx hb dX9_comesGreeting_209 rfl (lv_at hl97 2 rfl) ?_
                    refine kget F hK hP110 9 0 6 iX9 rfl rfl (by decide) (List.mem_of_getElem? (i := 8) rfl) rfl dX9_comesGreeting_210 ?_
                    refine lv_iconst (v := 0) hx hb dX9_comesGreeting_213 (by decide) ?_
                    refine lv_iload_n hx hb dX9_comesGreeting_214 rfl (lv_at hl97 1 rfl) ?_
                    refine kMst F hK hP110 hD110 hS110 6 7 0 rfl rfl (by decide) (Nat.le_of_ble_eq_true rfl) rfl dX9_comesGreeting_215 (fun H112 locs112 σ112 eσ112 hP112 hD112 hS112 => ?_)
                    clear hP110 hD110 hS110
                    refine lv_aload_n hx hb dX9_comesGreeting_216 rfl (lv_at hl97 2 rfl) ?_
                    refine kget F hK hP112 9 0 7 iX9 rfl rfl (by decide) (List.mem_of_getElem? (i := 9) rfl) rfl dX9_comesGreeting_217 ?_
                    refine lv_iconst (v := 0) hx hb dX9_comesGreeting_220 (by decide) ?_
                    refine lv_aload_n hx hb dX9_comesGreeting_221 rfl (lv_at hl97 2 rfl) ?_
                    refine kget F hK hP112 9 0 16 iX9 rfl rfl (by decide) (List.mem_of_getElem? (i := 3) rfl) rfl dX9_comesGreeting_222 ?_
                    rw [show (σ112 16 0) = (σ 16 0) from by subst eσ112; subst w107_0; subst eσ106; first | rfl | (simp only [msend]; (repeat' split) <;> rfl)]
                    refine kMst F hK hP112 hD112 hS112 7 8 0 rfl rfl (by decide) (Nat.le_of_ble_eq_true rfl) rfl dX9_comesGreeting_225 (fun H113 locs113 σ113 eσ113 hP113 hD113 hS113 => ?_)
                    clear hP112 hD112 hS112
                    refine lv_aload_n hx hb dX9_comesGreeting_226 rfl (lv_at hl97 2 rfl) ?_
                    refine kget F hK hP113 9 0 8 iX9 rfl rfl (by decide) (List.mem_of_getElem? (i := 10) rfl) rfl dX9_comesGreeting_227 ?_
                    refine lv_iconst (v := 0) hx hb dX9_comesGreeting_230 (by decide) ?_
                    refine lv_aload_n hx hb dX9_comesGreeting_231 rfl (lv_at hl97 2 rfl) ?_
                    refine kget F hK hP113 9 0 29 iX9 rfl rfl (by decide) (List.mem_of_getElem? (i := 1) rfl) rfl dX9_comesGreeting_232 ?_
                    refine lv_iconst (v := 5) hx hb dX9_comesGreeting_235 (by decide) ?_
                    refine kild F hK hP113 20 5 rfl rfl (by decide) (Nat.le_of_ble_eq_true rfl) dX9_comesGreeting_236 ?_
                    rw [show (σ113 29 5) = (σ 29 5) from by subst eσ113; subst eσ112; subst w107_0; subst eσ106; first | rfl | (simp only [msend]; (repeat' split) <;> rfl)]
                    refine lv_if_eq (tgt := 244) hx hb dX9_comesGreeting_237 (by decide) (fun c114 => ?_) (fun c114 => ?_)
                    · refine lv_iconst (v := 0) hx hb dX9_comesGreeting_244 (by decide) ?_
                      refine kMst F hK hP113 hD113 hS113 8 9 0 rfl rfl (by decide) (Nat.le_of_ble_eq_true rfl) rfl dX9_comesGreeting_245 (fun H115 locs115 σ115 eσ115 hP115 hD115 hS115 => ?_)
                      clear hP113 hD113 hS113
                      refine lv_aload_n hx hb dX9_comesGreeting_246 rfl (lv_at hl97 2 rfl) ?_
                      refine lv_iconst (v := 4) hx hb dX9_comesGreeting_247 (by decide) ?_
                      refine kWVv F hK hP115 hD115 hS115 hA hl97.1 (c_X9_clears l G h a σ115 4) 9 0 gX9_comesGreeting_X9_clears rfl 1 rfl (by decide +kernel) ⟨Nat.le_of_ble_eq_true rfl, Nat.le_of_ble_eq_true rfl⟩ ⟨Nat.zero_le _, Nat.zero_le _⟩ rfl rfl (Nat.le_of_ble_eq_true rfl) rfl dX9_comesGreeting_248 (fun σ_116 H117 locs117 hw116 (hP117 : va_P G.1 vwCl (mW G h a σ_116) H117) (hD117 : va_D A (mW G h a σ_116)) hS117 => ?_)
                      clear hP115 hD115 hS115
                      have w116_0 : σ_116 = mclr σ115 4 := hw116
                      refine lv_aload_n hx hb dX9_comesGreeting_251 rfl (lv_at hl97 2 rfl) ?_
                      refine kget F hK hP117 9 0 29 iX9 rfl rfl (by decide) (List.mem_of_getElem? (i := 1) rfl) rfl dX9_comesGreeting_252 ?_
                      refine lv_iconst (v := 1) hx hb dX9_comesGreeting_255 (by decide) ?_
                      refine lv_aload_n hx hb dX9_comesGreeting_256 rfl (lv_at hl97 2 rfl) ?_
                      refine lv_iconst (v := 0) hx hb dX9_comesGreeting_257 (by decide) ?_
                      refine lv_iconst (v := 2) hx hb dX9_comesGreeting_258 (by decide) ?_
                      refine kWVi F hK hP117 hD117 hS117 hA hl97.1 (c_X9_proof l G h a σ_116 0 2 (by first | assumption | decide | omega)) 9 0 gX9_comesGreeting_X9_proof rfl 2 rfl (by decide +kernel) ⟨Nat.le_of_ble_eq_true rfl, Nat.le_of_ble_eq_true rfl⟩ ⟨Nat.zero_le _, Nat.zero_le _⟩ rfl rfl (Nat.le_of_ble_eq_true rfl) rfl dX9_comesGreeting_259 (fun r118 u118 H119 locs119 hw118 (hP119 : va_P G.1 vwCl (mW G h a σ_116) H119) (hD119 : va_D A (mW G h a σ_116)) hS119 => ?_)
                      clear hP117 hD117 hS117
                      have w118_0 : r118 = mproof σ_116 0 2 := hw118
                      refine kMst F hK hP119 hD119 hS119 29 20 1 rfl rfl (by decide) (Nat.le_of_ble_eq_true rfl) rfl dX9_comesGreeting_262 (fun H120 locs120 σ120 eσ120 hP120 hD120 hS120 => ?_)
                      clear hP119 hD119 hS119
                      refine lv_aload_n hx hb dX9_comesGreeting_263 rfl (lv_at hl97 2 rfl) ?_
                      refine lv_iconst (v := 1) hx hb dX9_comesGreeting_264 (by decide) ?_
                      refine kWVv F hK hP120 hD120 hS120 hA hl97.1 (c_X9_sends l G h a σ120 1 Mn (by first | assumption | decide | omega) (by subst eσ120; subst w118_0; subst w116_0; subst eσ115; subst eσ113; subst eσ112; subst w109_0; subst w107_0; subst eσ106; subst w104_0; subst w101_0; subst w99_0; subst w93_0; subst w91_0; subst w88_0; subst w2_0; exact hM) hM8) 9 0 gX9_comesGreeting_X9_sends rfl 1 rfl (by decide +kernel) ⟨Nat.le_of_ble_eq_true rfl, Nat.le_of_ble_eq_true rfl⟩ ⟨Nat.zero_le _, Nat.zero_le _⟩ rfl rfl (Nat.le_of_ble_eq_true rfl) rfl dX9_comesGreeting_265 (fun σ_121 H122 locs122 hw121 (hP122 : va_P G.1 vwCl (mW G h a σ_121) H122) (hD122 : va_D A (mW G h a σ_121)) hS122 => ?_)
                      clear hP120 hD120 hS120
                      have w121_0 : σ_121 = msend σ120 1 Mn := hw121
                      refine lv_aload_n hx hb dX9_comesGreeting_268 rfl (lv_at hl97 2 rfl) ?_
                      refine lv_iconst (v := 0) hx hb dX9_comesGreeting_269 (by decide) ?_
                      refine kWVv F hK hP122 hD122 hS122 hA hl97.1 (c_X9_joins l G h a σ_121 0 (by first | assumption | decide | omega)) 9 0 gX9_comesGreeting_X9_joins rfl 1 rfl (by decide +kernel) ⟨Nat.le_of_ble_eq_true rfl, Nat.le_of_ble_eq_true rfl⟩ ⟨Nat.zero_le _, Nat.zero_le _⟩ rfl rfl (Nat.le_of_ble_eq_true rfl) rfl dX9_comesGreeting_270 (fun σ_123 H124 locs124 hw123 (hP124 : va_P G.1 vwCl (mW G h a σ_123) H124) (hD124 : va_D A (mW G h a σ_123)) hS124 => ?_)
                      clear hP122 hD122 hS122
                      have w123_0 : σ_123 = mjoin σ_121 0 := hw123
                      have q125 : σ_123 = mgreet σ S Mn := by
                        subst w123_0
                        subst w121_0
                        subst eσ120
                        subst w118_0
                        subst w116_0
                        subst eσ115
                        subst eσ113
                        subst eσ112
                        subst w109_0
                        subst w107_0
                        subst eσ106
                        subst w104_0
                        subst w101_0
                        subst w99_0
                        subst w93_0
                        subst w91_0
                        subst w88_0
                        subst w2_0
                        first | (simp only [mgreet, mgrt1, mgrt2, mwrongC, c4, eq_true c5, c6, eq_true c90, c95, eq_true c96, eq_true c98, eq_true c103, eq_true c111, eq_true c114, eq_self, ↓reduceIte, and_self, and_true, true_and]; done) | (simp only [mgreet, mgrt1, mgrt2, mwrongC, c4, eq_true c5, c6, eq_true c90, c95, eq_true c96, eq_true c98, eq_true c103, eq_true c111, eq_true c114, eq_self, ↓reduceIte, and_self, and_true, true_and]; (try and_intros) <;> rfl)
                      exact kRv F hr hlocks hS124 dX9_comesGreeting_273 σ_123 q125 hP124 hD124
                    · exact absurd c96 c114
                  · refine lv_aload_n hx hb dX9_comesGreeting_201 rfl (lv_at hl97 2 rfl) ?_
                    refine lv_iconst (v := 0) hx hb dX9_comesGreeting_202 (by decide) ?_
                    refine lv_bipush (v := 8) hx hb dX9_comesGreeting_203 (by decide) ?_
                    refine kWVv F hK hP110 hD110 hS110 hA hl97.1 (c_X9_fails l G h a σ_107 0 8 (by first | assumption | decide | omega)) 9 0 gX9_comesGreeting_X9_fails rfl 2 rfl (by decide +kernel) ⟨Nat.le_of_ble_eq_true rfl, Nat.le_of_ble_eq_true rfl⟩ ⟨Nat.zero_le _, Nat.zero_le _⟩ rfl rfl (Nat.le_of_ble_eq_true rfl) rfl dX9_comesGreeting_205 (fun σ_126 H127 locs127 hw126 (hP127 : va_P G.1 vwCl (mW G h a σ_126) H127) (hD127 : va_D A (mW G h a σ_126)) hS127 => ?_)
                    clear hP110 hD110 hS110
                    have w126_0 : σ_126 = mfail σ_107 0 8 := hw126
                    have q128 : σ_126 = mgreet σ S Mn := by
                      subst w126_0
                      subst w109_0
                      subst w107_0
                      subst eσ106
                      subst w104_0
                      subst w101_0
                      subst w99_0
                      subst w93_0
                      subst w91_0
                      subst w88_0
                      subst w2_0
                      first | (simp only [mgreet, mgrt1, mgrt2, mwrongC, c4, eq_true c5, c6, eq_true c90, c95, eq_true c96, eq_true c98, eq_true c103, c111, eq_self, ↓reduceIte, and_self, and_true, true_and]; done) | (simp only [mgreet, mgrt1, mgrt2, mwrongC, c4, eq_true c5, c6, eq_true c90, c95, eq_true c96, eq_true c98, eq_true c103, c111, eq_self, ↓reduceIte, and_self, and_true, true_and]; (try and_intros) <;> rfl)
                    exact kRv F hr hlocks hS127 dX9_comesGreeting_208 σ_126 q128 hP127 hD127
                · exact absurd c96 c103
              · exact absurd (by decide) c98
            · refine lv_aload_n hx hb dX9_comesGreeting_105 rfl (lv_at hl1 1 rfl) ?_
              refine kget F hK hP94 9 0 17 iX9 rfl rfl (by decide) (List.mem_of_getElem? (i := 4) rfl) rfl dX9_comesGreeting_106 ?_
              refine lv_if_ne (tgt := 117) hx hb dX9_comesGreeting_109 (by decide) (fun c129 => ?_) (fun c129 => ?_)
              · refine lv_iconst (v := 0) hx hb dX9_comesGreeting_117 (by decide) ?_
                refine lv_istore_n (lv' := [(2, .int 0), (1, .int (σ 29 1)), (0, .ref h)]) hx hb dX9_comesGreeting_118 rfl hl1 (by decide) rfl (fun ls130 hl130 => ?_)
                clear hl1
                refine lv_iload_n hx hb dX9_comesGreeting_119 rfl (lv_at hl130 0 rfl) ?_
                refine lv_if_le (tgt := 130) hx hb dX9_comesGreeting_120 (by decide) (fun c131 => ?_) (fun c131 => ?_)
                · refine lv_aload_n hx hb dX9_comesGreeting_130 rfl (lv_at hl130 2 rfl) ?_
                  refine kget F hK hP94 9 0 9 iX9 rfl rfl (by decide) (List.mem_of_getElem? (i := 5) rfl) rfl dX9_comesGreeting_131 ?_
                  refine lv_iconst (v := 0) hx hb dX9_comesGreeting_134 (by decide) ?_
                  refine lv_aload_n hx hb dX9_comesGreeting_135 rfl (lv_at hl130 2 rfl) ?_
                  refine kget F hK hP94 9 0 29 iX9 rfl rfl (by decide) (List.mem_of_getElem? (i := 1) rfl) rfl dX9_comesGreeting_136 ?_
                  refine lv_iconst (v := 3) hx hb dX9_comesGreeting_139 (by decide) ?_
                  refine kild F hK hP94 20 3 rfl rfl (by decide) (Nat.le_of_ble_eq_true rfl) dX9_comesGreeting_140 ?_
                  refine lv_aload_n hx hb dX9_comesGreeting_141 rfl (lv_at hl130 2 rfl) ?_
                  refine kget F hK hP94 9 0 2 iX9 rfl rfl (by decide) (List.mem_of_getElem? (i := 6) rfl) rfl dX9_comesGreeting_142 ?_
                  refine lv_iconst (v := 0) hx hb dX9_comesGreeting_145 (by decide) ?_
                  refine kild F hK hP94 3 0 rfl rfl (by decide) (Nat.le_of_ble_eq_true rfl) dX9_comesGreeting_146 ?_
                  refine lv_aload_n hx hb dX9_comesGreeting_147 rfl (lv_at hl130 2 rfl) ?_
                  refine kget F hK hP94 9 0 16 iX9 rfl rfl (by decide) (List.mem_of_getElem? (i := 3) rfl) rfl dX9_comesGreeting_148 ?_
                  refine kPSi F hK hP94 hD94 hS94 hA hl130.1 (c_X9_prime l G (σ 16 0)) (fun _ => rfl) gX9_comesGreeting_X9_prime rfl 1 rfl (by decide +kernel) ⟨Nat.le_of_ble_eq_true rfl, Nat.le_of_ble_eq_true rfl⟩ ⟨Nat.zero_le _, Nat.zero_le _⟩ (Nat.le_of_ble_eq_true rfl) rfl dX9_comesGreeting_151 (fun r132 u132 H133 locs133 hw132 (hP133 : va_P G.1 vwCl (mW G h a σ) H133) (hD133 : va_D A (mW G h a σ)) hS133 => ?_)
                  clear hP94 hD94 hS94
                  have w132_0 : r132 = kprime (σ 16 0) := hw132
                  refine kPSi F hK hP133 hD133 hS133 hA hl130.1 (c_X9_power l G (σ 29 3) (σ 2 0) r132 S (by subst_vars; exact kprime_1 _) hs hS) (fun _ => rfl) gX9_comesGreeting_X9_power rfl 3 rfl (by decide +kernel) ⟨Nat.le_of_ble_eq_true rfl, Nat.le_of_ble_eq_true rfl⟩ ⟨Nat.zero_le _, Nat.zero_le _⟩ (Nat.le_of_ble_eq_true rfl) rfl dX9_comesGreeting_154 (fun r134 u134 H135 locs135 hw134 (hP135 : va_P G.1 vwCl (mW G h a σ) H135) (hD135 : va_D A (mW G h a σ)) hS135 => ?_)
                  clear hP133 hD133 hS133
                  have w134_0 : r134 = mpw (σ 29 3) r132 S := hw134
                  refine lv_aload_n hx hb dX9_comesGreeting_157 rfl (lv_at hl130 2 rfl) ?_
                  refine kget F hK hP135 9 0 29 iX9 rfl rfl (by decide) (List.mem_of_getElem? (i := 1) rfl) rfl dX9_comesGreeting_158 ?_
                  refine lv_iconst (v := 5) hx hb dX9_comesGreeting_161 (by decide) ?_
                  refine kild F hK hP135 20 5 rfl rfl (by decide) (Nat.le_of_ble_eq_true rfl) dX9_comesGreeting_162 ?_
                  refine lv_if_eq (tgt := 173) hx hb dX9_comesGreeting_163 (by decide) (fun c136 => ?_) (fun c136 => ?_)
                  · exact absurd c136 c96
                  · refine lv_aload_n hx hb dX9_comesGreeting_166 rfl (lv_at hl130 2 rfl) ?_
                    refine kget F hK hP135 9 0 18 iX9 rfl rfl (by decide) (List.mem_of_getElem? (i := 7) rfl) rfl dX9_comesGreeting_167 ?_
                    refine lv_goto (tgt := 174) hx hb dX9_comesGreeting_170 (by decide) ?_
                    refine kPSi F hK hP135 hD135 hS135 hA hl130.1 (c_X9_keyOf l G r134 (σ 18 0)) (fun _ => rfl) gX9_comesGreeting_X9_keyOf rfl 2 rfl (by decide +kernel) ⟨Nat.le_of_ble_eq_true rfl, Nat.le_of_ble_eq_true rfl⟩ ⟨Nat.zero_le _, Nat.zero_le _⟩ (Nat.le_of_ble_eq_true rfl) rfl dX9_comesGreeting_174 (fun r137 u137 H138 locs138 hw137 (hP138 : va_P G.1 vwCl (mW G h a σ) H138) (hD138 : va_D A (mW G h a σ)) hS138 => ?_)
                    clear hP135 hD135 hS135
                    have w137_0 : r137 = kmix (kmix 7 r134) (σ 18 0) := hw137
                    refine kMst F hK hP138 hD138 hS138 9 10 0 rfl rfl (by decide) (Nat.le_of_ble_eq_true rfl) rfl dX9_comesGreeting_177 (fun H139 locs139 σ139 eσ139 hP139 hD139 hS139 => ?_)
                    clear hP138 hD138 hS138
                    refine lv_aload_n hx hb dX9_comesGreeting_178 rfl (lv_at hl130 2 rfl) ?_
                    refine lv_iconst (v := 0) hx hb dX9_comesGreeting_179 (by decide) ?_
                    refine lv_bipush (v := 6) hx hb dX9_comesGreeting_180 (by decide) ?_
                    refine kWVv F hK hP139 hD139 hS139 hA hl130.1 (c_X9_takes l G h a σ139 0 6 (by first | assumption | decide | omega) (by first | assumption | decide | omega)) 9 0 gX9_comesGreeting_X9_takes rfl 2 rfl (by decide +kernel) ⟨Nat.le_of_ble_eq_true rfl, Nat.le_of_ble_eq_true rfl⟩ ⟨Nat.zero_le _, Nat.zero_le _⟩ rfl rfl (Nat.le_of_ble_eq_true rfl) rfl dX9_comesGreeting_182 (fun σ_140 H141 locs141 hw140 (hP141 : va_P G.1 vwCl (mW G h a σ_140) H141) (hD141 : va_D A (mW G h a σ_140)) hS141 => ?_)
                    clear hP139 hD139 hS139
                    have w140_0 : σ_140 = mtakes σ139 0 (6 + 1) := hw140
                    refine lv_aload_n hx hb dX9_comesGreeting_185 rfl (lv_at hl130 2 rfl) ?_
                    refine kget F hK hP141 9 0 29 iX9 rfl rfl (by decide) (List.mem_of_getElem? (i := 1) rfl) rfl dX9_comesGreeting_186 ?_
                    refine lv_bipush (v := 7) hx hb dX9_comesGreeting_189 (by decide) ?_
                    refine kild F hK hP141 20 7 rfl rfl (by decide) (Nat.le_of_ble_eq_true rfl) dX9_comesGreeting_191 ?_
                    rw [show (σ_140 29 7) = (σ 29 7) from by subst w140_0; subst eσ139; first | rfl | (simp only [msend]; (repeat' split) <;> rfl)]
                    refine lv_aload_n hx hb dX9_comesGreeting_192 rfl (lv_at hl130 2 rfl) ?_
                    refine lv_iconst (v := 0) hx hb dX9_comesGreeting_193 (by decide) ?_
                    refine lv_iconst (v := 1) hx hb dX9_comesGreeting_194 (by decide) ?_
                    refine kWVi F hK hP141 hD141 hS141 hA hl130.1 (c_X9_proof l G h a σ_140 0 1 (by first | assumption | decide | omega)) 9 0 gX9_comesGreeting_X9_proof rfl 2 rfl (by decide +kernel) ⟨Nat.le_of_ble_eq_true rfl, Nat.le_of_ble_eq_true rfl⟩ ⟨Nat.zero_le _, Nat.zero_le _⟩ rfl rfl (Nat.le_of_ble_eq_true rfl) rfl dX9_comesGreeting_195 (fun r142 u142 H143 locs143 hw142 (hP143 : va_P G.1 vwCl (mW G h a σ_140) H143) (hD143 : va_D A (mW G h a σ_140)) hS143 => ?_)
                    clear hP141 hD141 hS141
                    have w142_0 : r142 = mproof σ_140 0 1 := hw142
                    refine lv_icmp_eq (tgt := 209) hx hb dX9_comesGreeting_198 (by decide) (fun c144 => ?_) (fun c144 => ?_)
                    · refine lv_aload_n hx hb dX9_comesGreeting_209 rfl (lv_at hl130 2 rfl) ?_
                      refine kget F hK hP143 9 0 6 iX9 rfl rfl (by decide) (List.mem_of_getElem? (i := 8) rfl) rfl dX9_comesGreeting_210 ?_
                      refine lv_iconst (v := 0) hx hb dX9_comesGreeting_213 (by decide) ?_
                      refine lv_iload_n hx hb dX9_comesGreeting_214 rfl (lv_at hl130 1 rfl) ?_
                      refine kMst F hK hP143 hD143 hS143 6 7 0 rfl rfl (by decide) (Nat.le_of_ble_eq_true rfl) rfl dX9_comesGreeting_215 (fun H145 locs145 σ145 eσ145 hP145 hD145 hS145 => ?_)
                      clear hP143 hD143 hS143
                      refine lv_aload_n hx hb dX9_comesGreeting_216 rfl (lv_at hl130 2 rfl) ?_
                      refine kget F hK hP145 9 0 7 iX9 rfl rfl (by decide) (List.mem_of_getElem? (i := 9) rfl) rfl dX9_comesGreeting_217 ?_
                      refine lv_iconst (v := 0) hx hb dX9_comesGreeting_220 (by decide) ?_
                      refine lv_aload_n hx hb dX9_comesGreeting_221 rfl (lv_at hl130 2 rfl) ?_
                      refine kget F hK hP145 9 0 16 iX9 rfl rfl (by decide) (List.mem_of_getElem? (i := 3) rfl) rfl dX9_comesGreeting_222 ?_
                      rw [show (σ145 16 0) = (σ 16 0) from by subst eσ145; subst w140_0; subst eσ139; first | rfl | (simp only [msend]; (repeat' split) <;> rfl)]
                      refine kMst F hK hP145 hD145 hS145 7 8 0 rfl rfl (by decide) (Nat.le_of_ble_eq_true rfl) rfl dX9_comesGreeting_225 (fun H146 locs146 σ146 eσ146 hP146 hD146 hS146 => ?_)
                      clear hP145 hD145 hS145
                      refine lv_aload_n hx hb dX9_comesGreeting_226 rfl (lv_at hl130 2 rfl) ?_
                      refine kget F hK hP146 9 0 8 iX9 rfl rfl (by decide) (List.mem_of_getElem? (i := 10) rfl) rfl dX9_comesGreeting_227 ?_
                      refine lv_iconst (v := 0) hx hb dX9_comesGreeting_230 (by decide) ?_
                      refine lv_aload_n hx hb dX9_comesGreeting_231 rfl (lv_at hl130 2 rfl) ?_
                      refine kget F hK hP146 9 0 29 iX9 rfl rfl (by decide) (List.mem_of_getElem? (i := 1) rfl) rfl dX9_comesGreeting_232 ?_
                      refine lv_iconst (v := 5) hx hb dX9_comesGreeting_235 (by decide) ?_
                      refine kild F hK hP146 20 5 rfl rfl (by decide) (Nat.le_of_ble_eq_true rfl) dX9_comesGreeting_236 ?_
                      rw [show (σ146 29 5) = (σ 29 5) from by subst eσ146; subst eσ145; subst w140_0; subst eσ139; first | rfl | (simp only [msend]; (repeat' split) <;> rfl)]
                      refine lv_if_eq (tgt := 244) hx hb dX9_comesGreeting_237 (by decide) (fun c147 => ?_) (fun c147 => ?_)
                      · exact absurd c147 c96
                      · refine lv_iconst (v := 1) hx hb dX9_comesGreeting_240 (by decide) ?_
                        refine lv_goto (tgt := 245) hx hb dX9_comesGreeting_241 (by decide) ?_
                        refine kMst F hK hP146 hD146 hS146 8 9 0 rfl rfl (by decide) (Nat.le_of_ble_eq_true rfl) rfl dX9_comesGreeting_245 (fun H148 locs148 σ148 eσ148 hP148 hD148 hS148 => ?_)
                        clear hP146 hD146 hS146
                        refine lv_aload_n hx hb dX9_comesGreeting_246 rfl (lv_at hl130 2 rfl) ?_
                        refine lv_iconst (v := 4) hx hb dX9_comesGreeting_247 (by decide) ?_
                        refine kWVv F hK hP148 hD148 hS148 hA hl130.1 (c_X9_clears l G h a σ148 4) 9 0 gX9_comesGreeting_X9_clears rfl 1 rfl (by decide +kernel) ⟨Nat.le_of_ble_eq_true rfl, Nat.le_of_ble_eq_true rfl⟩ ⟨Nat.zero_le _, Nat.zero_le _⟩ rfl rfl (Nat.le_of_ble_eq_true rfl) rfl dX9_comesGreeting_248 (fun σ_149 H150 locs150 hw149 (hP150 : va_P G.1 vwCl (mW G h a σ_149) H150) (hD150 : va_D A (mW G h a σ_149)) hS150 => ?_)
                        clear hP148 hD148 hS148
                        have w149_0 : σ_149 = mclr σ148 4 := hw149
                        refine lv_aload_n hx hb dX9_comesGreeting_251 rfl (lv_at hl130 2 rfl) ?_
                        refine kget F hK hP150 9 0 29 iX9 rfl rfl (by decide) (List.mem_of_getElem? (i := 1) rfl) rfl dX9_comesGreeting_252 ?_
                        refine lv_iconst (v := 1) hx hb dX9_comesGreeting_255 (by decide) ?_
                        refine lv_aload_n hx hb dX9_comesGreeting_256 rfl (lv_at hl130 2 rfl) ?_
                        refine lv_iconst (v := 0) hx hb dX9_comesGreeting_257 (by decide) ?_
                        refine lv_iconst (v := 2) hx hb dX9_comesGreeting_258 (by decide) ?_
                        refine kWVi F hK hP150 hD150 hS150 hA hl130.1 (c_X9_proof l G h a σ_149 0 2 (by first | assumption | decide | omega)) 9 0 gX9_comesGreeting_X9_proof rfl 2 rfl (by decide +kernel) ⟨Nat.le_of_ble_eq_true rfl, Nat.le_of_ble_eq_true rfl⟩ ⟨Nat.zero_le _, Nat.zero_le _⟩ rfl rfl (Nat.le_of_ble_eq_true rfl) rfl dX9_comesGreeting_259 (fun r151 u151 H152 locs152 hw151 (hP152 : va_P G.1 vwCl (mW G h a σ_149) H152) (hD152 : va_D A (mW G h a σ_149)) hS152 => ?_)
                        clear hP150 hD150 hS150
                        have w151_0 : r151 = mproof σ_149 0 2 := hw151
                        refine kMst F hK hP152 hD152 hS152 29 20 1 rfl rfl (by decide) (Nat.le_of_ble_eq_true rfl) rfl dX9_comesGreeting_262 (fun H153 locs153 σ153 eσ153 hP153 hD153 hS153 => ?_)
                        clear hP152 hD152 hS152
                        refine lv_aload_n hx hb dX9_comesGreeting_263 rfl (lv_at hl130 2 rfl) ?_
                        refine lv_iconst (v := 1) hx hb dX9_comesGreeting_264 (by decide) ?_
                        refine kWVv F hK hP153 hD153 hS153 hA hl130.1 (c_X9_sends l G h a σ153 1 Mn (by first | assumption | decide | omega) (by subst eσ153; subst w151_0; subst w149_0; subst eσ148; subst eσ146; subst eσ145; subst w142_0; subst w140_0; subst eσ139; subst w137_0; subst w134_0; subst w132_0; subst w93_0; subst w91_0; subst w88_0; subst w2_0; exact hM) hM8) 9 0 gX9_comesGreeting_X9_sends rfl 1 rfl (by decide +kernel) ⟨Nat.le_of_ble_eq_true rfl, Nat.le_of_ble_eq_true rfl⟩ ⟨Nat.zero_le _, Nat.zero_le _⟩ rfl rfl (Nat.le_of_ble_eq_true rfl) rfl dX9_comesGreeting_265 (fun σ_154 H155 locs155 hw154 (hP155 : va_P G.1 vwCl (mW G h a σ_154) H155) (hD155 : va_D A (mW G h a σ_154)) hS155 => ?_)
                        clear hP153 hD153 hS153
                        have w154_0 : σ_154 = msend σ153 1 Mn := hw154
                        refine lv_aload_n hx hb dX9_comesGreeting_268 rfl (lv_at hl130 2 rfl) ?_
                        refine lv_iconst (v := 0) hx hb dX9_comesGreeting_269 (by decide) ?_
                        refine kWVv F hK hP155 hD155 hS155 hA hl130.1 (c_X9_joins l G h a σ_154 0 (by first | assumption | decide | omega)) 9 0 gX9_comesGreeting_X9_joins rfl 1 rfl (by decide +kernel) ⟨Nat.le_of_ble_eq_true rfl, Nat.le_of_ble_eq_true rfl⟩ ⟨Nat.zero_le _, Nat.zero_le _⟩ rfl rfl (Nat.le_of_ble_eq_true rfl) rfl dX9_comesGreeting_270 (fun σ_156 H157 locs157 hw156 (hP157 : va_P G.1 vwCl (mW G h a σ_156) H157) (hD157 : va_D A (mW G h a σ_156)) hS157 => ?_)
                        clear hP155 hD155 hS155
                        have w156_0 : σ_156 = mjoin σ_154 0 := hw156
                        have q158 : σ_156 = mgreet σ S Mn := by
                          subst w156_0
                          subst w154_0
                          subst eσ153
                          subst w151_0
                          subst w149_0
                          subst eσ148
                          subst eσ146
                          subst eσ145
                          subst w142_0
                          subst w140_0
                          subst eσ139
                          subst w137_0
                          subst w134_0
                          subst w132_0
                          subst w93_0
                          subst w91_0
                          subst w88_0
                          subst w2_0
                          first | (simp only [mgreet, mgrt1, mgrt2, mwrongC, c4, eq_true c5, c6, eq_true c90, c95, c96, c129, eq_true c131, c136, eq_true c144, c147, eq_self, ↓reduceIte, and_self, and_true, true_and]; done) | (simp only [mgreet, mgrt1, mgrt2, mwrongC, c4, eq_true c5, c6, eq_true c90, c95, c96, c129, eq_true c131, c136, eq_true c144, c147, eq_self, ↓reduceIte, and_self, and_true, true_and]; (try and_intros) <;> rfl)
                        exact kRv F hr hlocks hS157 dX9_comesGreeting_273 σ_156 q158 hP157 hD157
                    · refine lv_aload_n hx hb dX9_comesGreeting_201 rfl (lv_at hl130 2 rfl) ?_
                      refine lv_iconst (v := 0) hx hb dX9_comesGreeting_202 (by decide) ?_
                      refine lv_bipush (v := 8) hx hb dX9_comesGreeting_203 (by decide) ?_
                      refine kWVv F hK hP143 hD143 hS143 hA hl130.1 (c_X9_fails l G h a σ_140 0 8 (by first | assumption | decide | omega)) 9 0 gX9_comesGreeting_X9_fails rfl 2 rfl (by decide +kernel) ⟨Nat.le_of_ble_eq_true rfl, Nat.le_of_ble_eq_true rfl⟩ ⟨Nat.zero_le _, Nat.zero_le _⟩ rfl rfl (Nat.le_of_ble_eq_true rfl) rfl dX9_comesGreeting_205 (fun σ_159 H160 locs160 hw159 (hP160 : va_P G.1 vwCl (mW G h a σ_159) H160) (hD160 : va_D A (mW G h a σ_159)) hS160 => ?_)
                      clear hP143 hD143 hS143
                      have w159_0 : σ_159 = mfail σ_140 0 8 := hw159
                      have q161 : σ_159 = mgreet σ S Mn := by
                        subst w159_0
                        subst w142_0
                        subst w140_0
                        subst eσ139
                        subst w137_0
                        subst w134_0
                        subst w132_0
                        subst w93_0
                        subst w91_0
                        subst w88_0
                        subst w2_0
                        first | (simp only [mgreet, mgrt1, mgrt2, mwrongC, c4, eq_true c5, c6, eq_true c90, c95, c96, c129, eq_true c131, c136, c144, eq_self, ↓reduceIte, and_self, and_true, true_and]; done) | (simp only [mgreet, mgrt1, mgrt2, mwrongC, c4, eq_true c5, c6, eq_true c90, c95, c96, c129, eq_true c131, c136, c144, eq_self, ↓reduceIte, and_self, and_true, true_and]; (try and_intros) <;> rfl)
                      exact kRv F hr hlocks hS160 dX9_comesGreeting_208 σ_159 q161 hP160 hD160
                · exact absurd (by decide) c131
              · refine lv_bipush (v := 6) hx hb dX9_comesGreeting_112 (by decide) ?_
                refine lv_goto (tgt := 118) hx hb dX9_comesGreeting_114 (by decide) ?_
                refine lv_istore_n (lv' := [(2, .int 6), (1, .int (σ 29 1)), (0, .ref h)]) hx hb dX9_comesGreeting_118 rfl hl1 (by decide) rfl (fun ls162 hl162 => ?_)
                clear hl1
                refine lv_iload_n hx hb dX9_comesGreeting_119 rfl (lv_at hl162 0 rfl) ?_
                refine lv_if_le (tgt := 130) hx hb dX9_comesGreeting_120 (by decide) (fun c163 => ?_) (fun c163 => ?_)
                · exact absurd c163 (by decide)
                · refine lv_aload_n hx hb dX9_comesGreeting_123 rfl (lv_at hl162 2 rfl) ?_
                  refine lv_iconst (v := 0) hx hb dX9_comesGreeting_124 (by decide) ?_
                  refine lv_iload_n hx hb dX9_comesGreeting_125 rfl (lv_at hl162 0 rfl) ?_
                  refine kWVv F hK hP94 hD94 hS94 hA hl162.1 (c_X9_fails l G h a σ 0 6 (by first | assumption | decide | omega)) 9 0 gX9_comesGreeting_X9_fails rfl 2 rfl (by decide +kernel) ⟨Nat.le_of_ble_eq_true rfl, Nat.le_of_ble_eq_true rfl⟩ ⟨Nat.zero_le _, Nat.zero_le _⟩ rfl rfl (Nat.le_of_ble_eq_true rfl) rfl dX9_comesGreeting_126 (fun σ_164 H165 locs165 hw164 (hP165 : va_P G.1 vwCl (mW G h a σ_164) H165) (hD165 : va_D A (mW G h a σ_164)) hS165 => ?_)
                  clear hP94 hD94 hS94
                  have w164_0 : σ_164 = mfail σ 0 6 := hw164
                  have q166 : σ_164 = mgreet σ S Mn := by
                    subst w164_0
                    subst w93_0
                    subst w91_0
                    subst w88_0
                    subst w2_0
                    first | (simp only [mgreet, mgrt1, mgrt2, mwrongC, c4, eq_true c5, c6, eq_true c90, c95, c96, eq_true c129, c163, eq_self, ↓reduceIte, and_self, and_true, true_and]; done) | (simp only [mgreet, mgrt1, mgrt2, mwrongC, c4, eq_true c5, c6, eq_true c90, c95, c96, eq_true c129, c163, eq_self, ↓reduceIte, and_self, and_true, true_and]; (try and_intros) <;> rfl)
                  exact kRv F hr hlocks hS165 dX9_comesGreeting_129 σ_164 q166 hP165 hD165
          · refine lv_iconst (v := 5) hx hb dX9_comesGreeting_92 (by decide) ?_
            refine lv_goto (tgt := 118) hx hb dX9_comesGreeting_93 (by decide) ?_
            refine lv_istore_n (lv' := [(2, .int 5), (1, .int (σ 29 1)), (0, .ref h)]) hx hb dX9_comesGreeting_118 rfl hl1 (by decide) rfl (fun ls167 hl167 => ?_)
            clear hl1
            refine lv_iload_n hx hb dX9_comesGreeting_119 rfl (lv_at hl167 0 rfl) ?_
            refine lv_if_le (tgt := 130) hx hb dX9_comesGreeting_120 (by decide) (fun c168 => ?_) (fun c168 => ?_)
            · exact absurd c168 (by decide)
            · refine lv_aload_n hx hb dX9_comesGreeting_123 rfl (lv_at hl167 2 rfl) ?_
              refine lv_iconst (v := 0) hx hb dX9_comesGreeting_124 (by decide) ?_
              refine lv_iload_n hx hb dX9_comesGreeting_125 rfl (lv_at hl167 0 rfl) ?_
              refine kWVv F hK hP94 hD94 hS94 hA hl167.1 (c_X9_fails l G h a σ 0 5 (by first | assumption | decide | omega)) 9 0 gX9_comesGreeting_X9_fails rfl 2 rfl (by decide +kernel) ⟨Nat.le_of_ble_eq_true rfl, Nat.le_of_ble_eq_true rfl⟩ ⟨Nat.zero_le _, Nat.zero_le _⟩ rfl rfl (Nat.le_of_ble_eq_true rfl) rfl dX9_comesGreeting_126 (fun σ_169 H170 locs170 hw169 (hP170 : va_P G.1 vwCl (mW G h a σ_169) H170) (hD170 : va_D A (mW G h a σ_169)) hS170 => ?_)
              clear hP94 hD94 hS94
              have w169_0 : σ_169 = mfail σ 0 5 := hw169
              have q171 : σ_169 = mgreet σ S Mn := by
                subst w169_0
                subst w93_0
                subst w91_0
                subst w88_0
                subst w2_0
                first | (simp only [mgreet, mgrt1, mgrt2, mwrongC, c4, eq_true c5, c6, eq_true c90, eq_true c95, c168, eq_self, ↓reduceIte, and_self, and_true, true_and]; done) | (simp only [mgreet, mgrt1, mgrt2, mwrongC, c4, eq_true c5, c6, eq_true c90, eq_true c95, c168, eq_self, ↓reduceIte, and_self, and_true, true_and]; (try and_intros) <;> rfl)
              exact kRv F hr hlocks hS170 dX9_comesGreeting_129 σ_169 q171 hP170 hD170
        · refine lv_bipush (v := 7) hx hb dX9_comesGreeting_63 (by decide) ?_
          refine lv_goto (tgt := 118) hx hb dX9_comesGreeting_65 (by decide) ?_
          refine lv_istore_n (lv' := [(2, .int 7), (1, .int (σ 29 1)), (0, .ref h)]) hx hb dX9_comesGreeting_118 rfl hl1 (by decide) rfl (fun ls172 hl172 => ?_)
          clear hl1
          refine lv_iload_n hx hb dX9_comesGreeting_119 rfl (lv_at hl172 0 rfl) ?_
          refine lv_if_le (tgt := 130) hx hb dX9_comesGreeting_120 (by decide) (fun c173 => ?_) (fun c173 => ?_)
          · exact absurd c173 (by decide)
          · refine lv_aload_n hx hb dX9_comesGreeting_123 rfl (lv_at hl172 2 rfl) ?_
            refine lv_iconst (v := 0) hx hb dX9_comesGreeting_124 (by decide) ?_
            refine lv_iload_n hx hb dX9_comesGreeting_125 rfl (lv_at hl172 0 rfl) ?_
            refine kWVv F hK hP89 hD89 hS89 hA hl172.1 (c_X9_fails l G h a σ 0 7 (by first | assumption | decide | omega)) 9 0 gX9_comesGreeting_X9_fails rfl 2 rfl (by decide +kernel) ⟨Nat.le_of_ble_eq_true rfl, Nat.le_of_ble_eq_true rfl⟩ ⟨Nat.zero_le _, Nat.zero_le _⟩ rfl rfl (Nat.le_of_ble_eq_true rfl) rfl dX9_comesGreeting_126 (fun σ_174 H175 locs175 hw174 (hP175 : va_P G.1 vwCl (mW G h a σ_174) H175) (hD175 : va_D A (mW G h a σ_174)) hS175 => ?_)
            clear hP89 hD89 hS89
            have w174_0 : σ_174 = mfail σ 0 7 := hw174
            have q176 : σ_174 = mgreet σ S Mn := by
              subst w174_0
              subst w88_0
              subst w2_0
              first | (simp only [mgreet, mgrt1, mgrt2, mwrongC, c4, eq_true c5, c6, c90, c173, eq_self, ↓reduceIte, and_self, and_true, true_and]; done) | (simp only [mgreet, mgrt1, mgrt2, mwrongC, c4, eq_true c5, c6, c90, c173, eq_self, ↓reduceIte, and_self, and_true, true_and]; (try and_intros) <;> rfl)
            exact kRv F hr hlocks hS175 dX9_comesGreeting_129 σ_174 q176 hP175 hD175
    · refine lv_iconst (v := 4) hx hb dX9_comesGreeting_37 (by decide) ?_
      refine lv_goto (tgt := 118) hx hb dX9_comesGreeting_38 (by decide) ?_
      refine lv_istore_n (lv' := [(2, .int 4), (1, .int (σ 29 1)), (0, .ref h)]) hx hb dX9_comesGreeting_118 rfl hl1 (by decide) rfl (fun ls177 hl177 => ?_)
      clear hl1
      refine lv_iload_n hx hb dX9_comesGreeting_119 rfl (lv_at hl177 0 rfl) ?_
      refine lv_if_le (tgt := 130) hx hb dX9_comesGreeting_120 (by decide) (fun c178 => ?_) (fun c178 => ?_)
      · exact absurd c178 (by decide)
      · refine lv_aload_n hx hb dX9_comesGreeting_123 rfl (lv_at hl177 2 rfl) ?_
        refine lv_iconst (v := 0) hx hb dX9_comesGreeting_124 (by decide) ?_
        refine lv_iload_n hx hb dX9_comesGreeting_125 rfl (lv_at hl177 0 rfl) ?_
        refine kWVv F hK hP3 hD3 hS3 hA hl177.1 (c_X9_fails l G h a σ 0 4 (by first | assumption | decide | omega)) 9 0 gX9_comesGreeting_X9_fails rfl 2 rfl (by decide +kernel) ⟨Nat.le_of_ble_eq_true rfl, Nat.le_of_ble_eq_true rfl⟩ ⟨Nat.zero_le _, Nat.zero_le _⟩ rfl rfl (Nat.le_of_ble_eq_true rfl) rfl dX9_comesGreeting_126 (fun σ_179 H180 locs180 hw179 (hP180 : va_P G.1 vwCl (mW G h a σ_179) H180) (hD180 : va_D A (mW G h a σ_179)) hS180 => ?_)
        clear hP3 hD3 hS3
        have w179_0 : σ_179 = mfail σ 0 4 := hw179
        have q181 : σ_179 = mgreet σ S Mn := by
          subst w179_0
          subst w2_0
          first | (simp only [mgreet, mgrt1, mgrt2, mwrongC, c4, c5, c178, eq_self, ↓reduceIte, and_self, and_true, true_and]; done) | (simp only [mgreet, mgrt1, mgrt2, mwrongC, c4, c5, c178, eq_self, ↓reduceIte, and_self, and_true, true_and]; (try and_intros) <;> rfl)
        exact kRv F hr hlocks hS180 dX9_comesGreeting_129 σ_179 q181 hP180 hD180
  · refine lv_iconst (v := 2) hx hb dX9_comesGreeting_20 (by decide) ?_
    refine lv_goto (tgt := 118) hx hb dX9_comesGreeting_21 (by decide) ?_
    refine lv_istore_n (lv' := [(2, .int 2), (1, .int (σ 29 1)), (0, .ref h)]) hx hb dX9_comesGreeting_118 rfl hl1 (by decide) rfl (fun ls182 hl182 => ?_)
    clear hl1
    refine lv_iload_n hx hb dX9_comesGreeting_119 rfl (lv_at hl182 0 rfl) ?_
    refine lv_if_le (tgt := 130) hx hb dX9_comesGreeting_120 (by decide) (fun c183 => ?_) (fun c183 => ?_)
    · exact absurd c183 (by decide)
    · refine lv_aload_n hx hb dX9_comesGreeting_123 rfl (lv_at hl182 2 rfl) ?_
      refine lv_iconst (v := 0) hx hb dX9_comesGreeting_124 (by decide) ?_
      refine lv_iload_n hx hb dX9_comesGreeting_125 rfl (lv_at hl182 0 rfl) ?_
      refine kWVv F hK hP3 hD3 hS3 hA hl182.1 (c_X9_fails l G h a σ 0 2 (by first | assumption | decide | omega)) 9 0 gX9_comesGreeting_X9_fails rfl 2 rfl (by decide +kernel) ⟨Nat.le_of_ble_eq_true rfl, Nat.le_of_ble_eq_true rfl⟩ ⟨Nat.zero_le _, Nat.zero_le _⟩ rfl rfl (Nat.le_of_ble_eq_true rfl) rfl dX9_comesGreeting_126 (fun σ_184 H185 locs185 hw184 (hP185 : va_P G.1 vwCl (mW G h a σ_184) H185) (hD185 : va_D A (mW G h a σ_184)) hS185 => ?_)
      clear hP3 hD3 hS3
      have w184_0 : σ_184 = mfail σ 0 2 := hw184
      have q186 : σ_184 = mgreet σ S Mn := by
        subst w184_0
        subst w2_0
        first | (simp only [mgreet, mgrt1, mgrt2, mwrongC, eq_true c4, c183, eq_self, ↓reduceIte, and_self, and_true, true_and]; done) | (simp only [mgreet, mgrt1, mgrt2, mwrongC, eq_true c4, c183, eq_self, ↓reduceIte, and_self, and_true, true_and]; (try and_intros) <;> rfl)
      exact kRv F hr hlocks hS185 dX9_comesGreeting_129 σ_184 q186 hP185 hD185
set_option maxHeartbeats 1000000 in
set_option maxRecDepth 100000 in
theorem c_X9_comesTicket (l : Launch) (G : kG) (h : Nat) (a : Nat → Nat) (σ : kS) : kM G l yX9_comesTicket wsX9_comesTicket ({ frames := 2, cells := 0, slots := 0, locals := 43 }) [.ref h] (mW G h a σ) (kQv G (fun (uu : kS) => uu = mticket σ) (fun (uu : kS) => mW G h a uu)) := by
  refine kStart (cc := cX9_comesTicket) (maxL := 1) (ret := none) (by decide) rfl (Nat.le_of_ble_eq_true rfl) (fun pg ev st mi bl mt cd A ls0 F hr hlocks hin hK hP0 hD0 hA hS0 hl0 => ?_)
  obtain ⟨hx, hb, hml, hown, hts⟩ := id F
  have hl0 : lv_has ls0 1 [(0, .ref h)] := hl0
  have iX9 : ∀ w ∈ u_ws RX9 TX9 43, w ∈ wsX9_comesTicket := fun w h => List.mem_cons_of_mem _ (List.mem_append_right _ h)
  refine lv_aload_n hx hb dX9_comesTicket_0 rfl (lv_at hl0 0 rfl) ?_
  refine kget F hK hP0 9 0 15 iX9 rfl rfl (by decide) (List.mem_of_getElem? (i := 1) rfl) rfl dX9_comesTicket_1 ?_
  refine lv_iconst (v := 0) hx hb dX9_comesTicket_4 (by decide) ?_
  refine lv_iconst (v := 1) hx hb dX9_comesTicket_5 (by decide) ?_
  refine kMst F hK hP0 hD0 hS0 15 13 0 rfl rfl (by decide) (Nat.le_of_ble_eq_true rfl) rfl dX9_comesTicket_6 (fun H1 locs1 σ1 eσ1 hP1 hD1 hS1 => ?_)
  clear hP0 hD0 hS0
  refine lv_aload_n hx hb dX9_comesTicket_7 rfl (lv_at hl0 0 rfl) ?_
  refine kget F hK hP1 9 0 15 iX9 rfl rfl (by decide) (List.mem_of_getElem? (i := 1) rfl) rfl dX9_comesTicket_8 ?_
  refine lv_iconst (v := 1) hx hb dX9_comesTicket_11 (by decide) ?_
  refine lv_aload_n hx hb dX9_comesTicket_12 rfl (lv_at hl0 0 rfl) ?_
  refine kget F hK hP1 9 0 29 iX9 rfl rfl (by decide) (List.mem_of_getElem? (i := 2) rfl) rfl dX9_comesTicket_13 ?_
  refine lv_iconst (v := 1) hx hb dX9_comesTicket_16 (by decide) ?_
  refine kild F hK hP1 20 1 rfl rfl (by decide) (Nat.le_of_ble_eq_true rfl) dX9_comesTicket_17 ?_
  rw [show (σ1 29 1) = (σ 29 1) from by subst eσ1; first | rfl | (simp only [msend]; (repeat' split) <;> rfl)]
  refine kMst F hK hP1 hD1 hS1 15 13 1 rfl rfl (by decide) (Nat.le_of_ble_eq_true rfl) rfl dX9_comesTicket_18 (fun H2 locs2 σ2 eσ2 hP2 hD2 hS2 => ?_)
  clear hP1 hD1 hS1
  refine lv_aload_n hx hb dX9_comesTicket_19 rfl (lv_at hl0 0 rfl) ?_
  refine kget F hK hP2 9 0 15 iX9 rfl rfl (by decide) (List.mem_of_getElem? (i := 1) rfl) rfl dX9_comesTicket_20 ?_
  refine lv_iconst (v := 2) hx hb dX9_comesTicket_23 (by decide) ?_
  refine lv_aload_n hx hb dX9_comesTicket_24 rfl (lv_at hl0 0 rfl) ?_
  refine kget F hK hP2 9 0 29 iX9 rfl rfl (by decide) (List.mem_of_getElem? (i := 2) rfl) rfl dX9_comesTicket_25 ?_
  refine lv_iconst (v := 3) hx hb dX9_comesTicket_28 (by decide) ?_
  refine kild F hK hP2 20 3 rfl rfl (by decide) (Nat.le_of_ble_eq_true rfl) dX9_comesTicket_29 ?_
  rw [show (σ2 29 3) = (σ 29 3) from by subst eσ2; subst eσ1; first | rfl | (simp only [msend]; (repeat' split) <;> rfl)]
  refine kMst F hK hP2 hD2 hS2 15 13 2 rfl rfl (by decide) (Nat.le_of_ble_eq_true rfl) rfl dX9_comesTicket_30 (fun H3 locs3 σ3 eσ3 hP3 hD3 hS3 => ?_)
  clear hP2 hD2 hS2
  refine lv_aload_n hx hb dX9_comesTicket_31 rfl (lv_at hl0 0 rfl) ?_
  refine kget F hK hP3 9 0 15 iX9 rfl rfl (by decide) (List.mem_of_getElem? (i := 1) rfl) rfl dX9_comesTicket_32 ?_
  refine lv_iconst (v := 3) hx hb dX9_comesTicket_35 (by decide) ?_
  refine lv_aload_n hx hb dX9_comesTicket_36 rfl (lv_at hl0 0 rfl) ?_
  refine kget F hK hP3 9 0 14 iX9 rfl rfl (by decide) (List.mem_of_getElem? (i := 3) rfl) rfl dX9_comesTicket_37 ?_
  rw [show (σ3 14 0) = (σ 14 0) from by subst eσ3; subst eσ2; subst eσ1; first | rfl | (simp only [msend]; (repeat' split) <;> rfl)]
  refine kMst F hK hP3 hD3 hS3 15 13 3 rfl rfl (by decide) (Nat.le_of_ble_eq_true rfl) rfl dX9_comesTicket_40 (fun H4 locs4 σ4 eσ4 hP4 hD4 hS4 => ?_)
  clear hP3 hD3 hS3
  refine lv_aload_n hx hb dX9_comesTicket_41 rfl (lv_at hl0 0 rfl) ?_
  refine kget F hK hP4 9 0 15 iX9 rfl rfl (by decide) (List.mem_of_getElem? (i := 1) rfl) rfl dX9_comesTicket_42 ?_
  refine lv_iconst (v := 4) hx hb dX9_comesTicket_45 (by decide) ?_
  refine lv_aload_n hx hb dX9_comesTicket_46 rfl (lv_at hl0 0 rfl) ?_
  refine lv_iconst (v := 0) hx hb dX9_comesTicket_47 (by decide) ?_
  refine kWVi F hK hP4 hD4 hS4 hA hl0.1 (c_X9_mainOf l G h a σ4 0 (by first | assumption | decide | omega)) 9 0 gX9_comesTicket_X9_mainOf rfl 1 rfl (by decide +kernel) ⟨Nat.le_of_ble_eq_true rfl, Nat.le_of_ble_eq_true rfl⟩ ⟨Nat.zero_le _, Nat.zero_le _⟩ rfl rfl (Nat.le_of_ble_eq_true rfl) rfl dX9_comesTicket_48 (fun r5 u5 H6 locs6 hw5 (hP6 : va_P G.1 vwCl (mW G h a σ4) H6) (hD6 : va_D A (mW G h a σ4)) hS6 => ?_)
  clear hP4 hD4 hS4
  have w5_0 : r5 = mmain σ4 0 := hw5
  refine lv_aload_n hx hb dX9_comesTicket_51 rfl (lv_at hl0 0 rfl) ?_
  refine kget F hK hP6 9 0 29 iX9 rfl rfl (by decide) (List.mem_of_getElem? (i := 2) rfl) rfl dX9_comesTicket_52 ?_
  refine lv_iconst (v := 1) hx hb dX9_comesTicket_55 (by decide) ?_
  refine kild F hK hP6 20 1 rfl rfl (by decide) (Nat.le_of_ble_eq_true rfl) dX9_comesTicket_56 ?_
  rw [show (σ4 29 1) = (σ 29 1) from by subst eσ4; subst eσ3; subst eσ2; subst eσ1; first | rfl | (simp only [msend]; (repeat' split) <;> rfl)]
  refine kPSi F hK hP6 hD6 hS6 hA hl0.1 (c_X9_mix l G r5 (σ 29 1)) (fun _ => rfl) gX9_comesTicket_X9_mix rfl 2 rfl (by decide +kernel) ⟨Nat.le_of_ble_eq_true rfl, Nat.le_of_ble_eq_true rfl⟩ ⟨Nat.zero_le _, Nat.zero_le _⟩ (Nat.le_of_ble_eq_true rfl) rfl dX9_comesTicket_57 (fun r7 u7 H8 locs8 hw7 (hP8 : va_P G.1 vwCl (mW G h a σ4) H8) (hD8 : va_D A (mW G h a σ4)) hS8 => ?_)
  clear hP6 hD6 hS6
  have w7_0 : r7 = kmix r5 (σ 29 1) := hw7
  refine kMst F hK hP8 hD8 hS8 15 13 4 rfl rfl (by decide) (Nat.le_of_ble_eq_true rfl) rfl dX9_comesTicket_60 (fun H9 locs9 σ9 eσ9 hP9 hD9 hS9 => ?_)
  clear hP8 hD8 hS8
  refine lv_aload_n hx hb dX9_comesTicket_61 rfl (lv_at hl0 0 rfl) ?_
  refine kget F hK hP9 9 0 15 iX9 rfl rfl (by decide) (List.mem_of_getElem? (i := 1) rfl) rfl dX9_comesTicket_62 ?_
  refine lv_iconst (v := 5) hx hb dX9_comesTicket_65 (by decide) ?_
  refine lv_aload_n hx hb dX9_comesTicket_66 rfl (lv_at hl0 0 rfl) ?_
  refine kget F hK hP9 9 0 29 iX9 rfl rfl (by decide) (List.mem_of_getElem? (i := 2) rfl) rfl dX9_comesTicket_67 ?_
  refine lv_iconst (v := 2) hx hb dX9_comesTicket_70 (by decide) ?_
  refine kild F hK hP9 20 2 rfl rfl (by decide) (Nat.le_of_ble_eq_true rfl) dX9_comesTicket_71 ?_
  rw [show (σ9 29 2) = (σ 29 2) from by subst eσ9; subst eσ4; subst eσ3; subst eσ2; subst eσ1; first | rfl | (simp only [msend]; (repeat' split) <;> rfl)]
  refine kMst F hK hP9 hD9 hS9 15 13 5 rfl rfl (by decide) (Nat.le_of_ble_eq_true rfl) rfl dX9_comesTicket_72 (fun H10 locs10 σ10 eσ10 hP10 hD10 hS10 => ?_)
  clear hP9 hD9 hS9
  have q11 : σ10 = mticket σ := by
    subst eσ10
    subst eσ9
    subst w7_0
    subst w5_0
    subst eσ4
    subst eσ3
    subst eσ2
    subst eσ1
    first | (simp only [mticket, eq_self, ↓reduceIte, and_self, and_true, true_and]; done) | (simp only [mticket, eq_self, ↓reduceIte, and_self, and_true, true_and]; (try and_intros) <;> rfl)
  exact kRv F hr hlocks hS10 dX9_comesTicket_73 σ10 q11 hP10 hD10
