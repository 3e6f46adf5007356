set_option maxHeartbeats 1000000 in
set_option maxRecDepth 100000 in
theorem c_X9_agreed (l : Launch) (G : kG) (h : Nat) (a : Nat → Nat) (σ : kS) (sd : Nat) (i : Int32) (hsd : sd < 2) (h3 : 3 ≤ i.toInt) (h11 : i.toInt ≤ 11) : kM G l yX9_agreed wsX9_agreed ({ frames := 2, cells := 0, slots := 0, locals := 43 }) [.ref h, .int (nI sd), .int i] (mW G h a σ) (kQi G (fun (rr : Int32) (uu : Unit) => rr = magreed σ sd i) (fun (uu : Unit) => mW G h a σ)) := by
  refine kStart (cc := cX9_agreed) (maxL := 3) (ret := (some .int)) (by decide) rfl (Nat.le_of_ble_eq_true rfl) (fun pg ev st mi bl mt cd A ls0 F hr hlocks hin hK hP0 hD0 hA hS0 hl0 => ?_)
  obtain ⟨hx, hb, hml, hown, hts⟩ := id F
  have hl0 : lv_has ls0 3 [(0, .ref h), (1, .int (nI sd)), (2, .int i)] := hl0
  have iX9 : ∀ w ∈ u_ws RX9 TX9 43, w ∈ wsX9_agreed := fun w h => List.mem_cons_of_mem _ (List.mem_append_right _ h)
  refine lv_iload_n hx hb dX9_agreed_0 rfl (lv_at hl0 2 rfl) ?_
  rcases ksw i 3 9 with c1 | c1
  · refine lv_tableOut (tgt := 92) hx hb dX9_agreed_1 c1 (by decide) ?_
    rcases ag_def c1 h3 h11 with cg | cg
    · skip
      refine lv_aload_n hx hb dX9_agreed_92 rfl (lv_at hl0 0 rfl) ?_
      refine kget F hK hP0 9 0 11 iX9 rfl rfl (by decide) (List.mem_of_getElem? (i := 6) rfl) rfl dX9_agreed_93 ?_
      refine lv_iconst (v := 2) hx hb dX9_agreed_96 (by decide) ?_
      refine lv_iload_n hx hb dX9_agreed_97 rfl (lv_at hl0 1 rfl) ?_
      refine lv_imul hx hb dX9_agreed_98 ?_
      refine lv_iload_n hx hb dX9_agreed_99 rfl (lv_at hl0 2 rfl) ?_
      refine lv_iadd hx hb dX9_agreed_100 ?_
      refine lv_bipush (v := 10) hx hb dX9_agreed_101 (by decide) ?_
      refine lv_isub hx hb dX9_agreed_103 ?_
      refine kild F hK hP0 12 (2 * sd + 10 - 10) rfl (ag8 (n := 10) (m := 10) (cg.trans (by decide)) (by decide) (by omega)) (by omega) (Nat.le_of_ble_eq_true rfl) dX9_agreed_104 ?_
      have q2 : (σ 11 (2 * sd + 10 - 10)) = magreed σ sd i := by
        subst cg
        simp only [magreed, show ¬ ((10 : Int32) = 3) from by decide, show ¬ ((10 : Int32) = 4) from by decide, show ¬ ((10 : Int32) = 5) from by decide, show ¬ ((10 : Int32) = 6) from by decide, show ¬ ((10 : Int32) = 7) from by decide, show ¬ ((10 : Int32) = 8) from by decide, show ¬ ((10 : Int32) = 9) from by decide, eq_self, ↓reduceIte]
      exact kRi F hr hlocks hS0 dX9_agreed_105 () q2 hP0 hD0
    · skip
      refine lv_aload_n hx hb dX9_agreed_92 rfl (lv_at hl0 0 rfl) ?_
      refine kget F hK hP0 9 0 11 iX9 rfl rfl (by decide) (List.mem_of_getElem? (i := 6) rfl) rfl dX9_agreed_93 ?_
      refine lv_iconst (v := 2) hx hb dX9_agreed_96 (by decide) ?_
      refine lv_iload_n hx hb dX9_agreed_97 rfl (lv_at hl0 1 rfl) ?_
      refine lv_imul hx hb dX9_agreed_98 ?_
      refine lv_iload_n hx hb dX9_agreed_99 rfl (lv_at hl0 2 rfl) ?_
      refine lv_iadd hx hb dX9_agreed_100 ?_
      refine lv_bipush (v := 10) hx hb dX9_agreed_101 (by decide) ?_
      refine lv_isub hx hb dX9_agreed_103 ?_
      refine kild F hK hP0 12 (2 * sd + 11 - 10) rfl (ag8 (n := 11) (m := 10) (cg.trans (by decide)) (by decide) (by omega)) (by omega) (Nat.le_of_ble_eq_true rfl) dX9_agreed_104 ?_
      have q3 : (σ 11 (2 * sd + 11 - 10)) = magreed σ sd i := by
        subst cg
        simp only [magreed, show ¬ ((11 : Int32) = 3) from by decide, show ¬ ((11 : Int32) = 4) from by decide, show ¬ ((11 : Int32) = 5) from by decide, show ¬ ((11 : Int32) = 6) from by decide, show ¬ ((11 : Int32) = 7) from by decide, show ¬ ((11 : Int32) = 8) from by decide, show ¬ ((11 : Int32) = 9) from by decide, show ¬ ((11 : Int32) = 10) from by decide, eq_self, ↓reduceIte]
      exact kRi F hr hlocks hS0 dX9_agreed_105 () q3 hP0 hD0
  · obtain ⟨c1a, c1b⟩ := c1
    rcases kswE i 3 (v := 3) (by decide) with c1_0 | c1_0
    · refine lv_tableIn (off := 43) (tgt := 44) hx hb dX9_agreed_1 c1a c1b (by rw [c1_0]; rfl) (by decide) ?_
      refine lv_aload_n hx hb dX9_agreed_44 rfl (lv_at hl0 0 rfl) ?_
      refine kget F hK hP0 9 0 6 iX9 rfl rfl (by decide) (List.mem_of_getElem? (i := 1) rfl) rfl dX9_agreed_45 ?_
      refine lv_iload_n hx hb dX9_agreed_48 rfl (lv_at hl0 1 rfl) ?_
      refine kild F hK hP0 7 sd rfl rfl hsd (Nat.le_of_ble_eq_true rfl) dX9_agreed_49 ?_
      have q4 : (σ 6 sd) = magreed σ sd i := by
        first | (subst c1_0; rfl) | (subst c1_0; simp only [magreed, show ¬ ((3 : Int32) = 4) from by decide, show ¬ ((3 : Int32) = 5) from by decide, show ¬ ((3 : Int32) = 6) from by decide, show ¬ ((3 : Int32) = 7) from by decide, show ¬ ((3 : Int32) = 8) from by decide, show ¬ ((3 : Int32) = 9) from by decide, eq_self, ↓reduceIte]; done) | (simp only [magreed, c1_0, ↓reduceIte]) | (simp only [magreed, c1_0, ↓reduceIte]; simp; done)
      exact kRi F hr hlocks hS0 dX9_agreed_50 () q4 hP0 hD0
    rcases kswE i 4 (v := 4) (by decide) with c1_1 | c1_1
    · refine lv_tableIn (off := 50) (tgt := 51) hx hb dX9_agreed_1 c1a c1b (by rw [c1_1]; rfl) (by decide) ?_
      refine lv_aload_n hx hb dX9_agreed_51 rfl (lv_at hl0 0 rfl) ?_
      refine kget F hK hP0 9 0 7 iX9 rfl rfl (by decide) (List.mem_of_getElem? (i := 2) rfl) rfl dX9_agreed_52 ?_
      refine lv_iload_n hx hb dX9_agreed_55 rfl (lv_at hl0 1 rfl) ?_
      refine kild F hK hP0 8 sd rfl rfl hsd (Nat.le_of_ble_eq_true rfl) dX9_agreed_56 ?_
      have q5 : (σ 7 sd) = magreed σ sd i := by
        first | (subst c1_1; rfl) | (subst c1_1; simp only [magreed, show ¬ ((4 : Int32) = 3) from by decide, show ¬ ((4 : Int32) = 5) from by decide, show ¬ ((4 : Int32) = 6) from by decide, show ¬ ((4 : Int32) = 7) from by decide, show ¬ ((4 : Int32) = 8) from by decide, show ¬ ((4 : Int32) = 9) from by decide, eq_self, ↓reduceIte]; done) | (simp only [magreed, c1_1, ↓reduceIte]) | (simp only [magreed, c1_1, ↓reduceIte]; simp; done)
      exact kRi F hr hlocks hS0 dX9_agreed_57 () q5 hP0 hD0
    rcases kswE i 5 (v := 5) (by decide) with c1_2 | c1_2
    · refine lv_tableIn (off := 57) (tgt := 58) hx hb dX9_agreed_1 c1a c1b (by rw [c1_2]; rfl) (by decide) ?_
      refine lv_aload_n hx hb dX9_agreed_58 rfl (lv_at hl0 0 rfl) ?_
      refine kget F hK hP0 9 0 8 iX9 rfl rfl (by decide) (List.mem_of_getElem? (i := 3) rfl) rfl dX9_agreed_59 ?_
      refine lv_iload_n hx hb dX9_agreed_62 rfl (lv_at hl0 1 rfl) ?_
      refine kild F hK hP0 9 sd rfl rfl hsd (Nat.le_of_ble_eq_true rfl) dX9_agreed_63 ?_
      have q6 : (σ 8 sd) = magreed σ sd i := by
        first | (subst c1_2; rfl) | (subst c1_2; simp only [magreed, show ¬ ((5 : Int32) = 3) from by decide, show ¬ ((5 : Int32) = 4) from by decide, show ¬ ((5 : Int32) = 6) from by decide, show ¬ ((5 : Int32) = 7) from by decide, show ¬ ((5 : Int32) = 8) from by decide, show ¬ ((5 : Int32) = 9) from by decide, eq_self, ↓reduceIte]; done) | (simp only [magreed, c1_2, ↓reduceIte]) | (simp only [magreed, c1_2, ↓reduceIte]; simp; done)
      exact kRi F hr hlocks hS0 dX9_agreed_64 () q6 hP0 hD0
    rcases kswE i 6 (v := 6) (by decide) with c1_3 | c1_3
    · refine lv_tableIn (off := 64) (tgt := 65) hx hb dX9_agreed_1 c1a c1b (by rw [c1_3]; rfl) (by decide) ?_
      refine lv_aload_n hx hb dX9_agreed_65 rfl (lv_at hl0 0 rfl) ?_
      refine kget F hK hP0 9 0 9 iX9 rfl rfl (by decide) (List.mem_of_getElem? (i := 4) rfl) rfl dX9_agreed_66 ?_
      refine lv_iload_n hx hb dX9_agreed_69 rfl (lv_at hl0 1 rfl) ?_
      refine kild F hK hP0 10 sd rfl rfl hsd (Nat.le_of_ble_eq_true rfl) dX9_agreed_70 ?_
      have q7 : (σ 9 sd) = magreed σ sd i := by
        first | (subst c1_3; rfl) | (subst c1_3; simp only [magreed, show ¬ ((6 : Int32) = 3) from by decide, show ¬ ((6 : Int32) = 4) from by decide, show ¬ ((6 : Int32) = 5) from by decide, show ¬ ((6 : Int32) = 7) from by decide, show ¬ ((6 : Int32) = 8) from by decide, show ¬ ((6 : Int32) = 9) from by decide, eq_self, ↓reduceIte]; done) | (simp only [magreed, c1_3, ↓reduceIte]) | (simp only [magreed, c1_3, ↓reduceIte]; simp; done)
      exact kRi F hr hlocks hS0 dX9_agreed_71 () q7 hP0 hD0
    rcases kswE i 7 (v := 7) (by decide) with c1_4 | c1_4
    · refine lv_tableIn (off := 71) (tgt := 72) hx hb dX9_agreed_1 c1a c1b (by rw [c1_4]; rfl) (by decide) ?_
      refine lv_aload_n hx hb dX9_agreed_72 rfl (lv_at hl0 0 rfl) ?_
      refine lv_iload_n hx hb dX9_agreed_73 rfl (lv_at hl0 1 rfl) ?_
      refine kWVi F hK hP0 hD0 hS0 hA hl0.1 (c_X9_mainOf l G h a σ sd (by first | assumption | decide | omega)) 9 0 gX9_agreed_X9_mainOf rfl 1 rfl (by decide +kernel) ⟨Nat.le_of_ble_eq_true rfl, Nat.le_of_ble_eq_true rfl⟩ ⟨Nat.zero_le _, Nat.zero_le _⟩ rfl rfl (Nat.le_of_ble_eq_true rfl) rfl dX9_agreed_74 (fun r8 u8 H9 locs9 hw8 (hP9 : va_P G.1 vwCl (mW G h a σ) H9) (hD9 : va_D A (mW G h a σ)) hS9 => ?_)
      clear hP0 hD0 hS0
      have w8_0 : r8 = mmain σ sd := hw8
      have q10 : r8 = magreed σ sd i := by
        subst w8_0
        first | (subst c1_4; rfl) | (subst c1_4; simp only [magreed, show ¬ ((7 : Int32) = 3) from by decide, show ¬ ((7 : Int32) = 4) from by decide, show ¬ ((7 : Int32) = 5) from by decide, show ¬ ((7 : Int32) = 6) from by decide, show ¬ ((7 : Int32) = 8) from by decide, show ¬ ((7 : Int32) = 9) from by decide, eq_self, ↓reduceIte]; done) | (simp only [magreed, c1_4, ↓reduceIte]) | (simp only [magreed, c1_4, ↓reduceIte]; simp; done)
      exact kRi F hr hlocks hS9 dX9_agreed_77 () q10 hP9 hD9
    rcases kswE i 8 (v := 8) (by decide) with c1_5 | c1_5
    · refine lv_tableIn (off := 77) (tgt := 78) hx hb dX9_agreed_1 c1a c1b (by rw [c1_5]; rfl) (by decide) ?_
      refine lv_aload_n hx hb dX9_agreed_78 rfl (lv_at hl0 0 rfl) ?_
      refine kget F hK hP0 9 0 10 iX9 rfl rfl (by decide) (List.mem_of_getElem? (i := 5) rfl) rfl dX9_agreed_79 ?_
      refine lv_iconst (v := 2) hx hb dX9_agreed_82 (by decide) ?_
      refine lv_iload_n hx hb dX9_agreed_83 rfl (lv_at hl0 1 rfl) ?_
      refine lv_imul hx hb dX9_agreed_84 ?_
      refine lv_iload_n hx hb dX9_agreed_85 rfl (lv_at hl0 2 rfl) ?_
      refine lv_iadd hx hb dX9_agreed_86 ?_
      refine lv_bipush (v := 8) hx hb dX9_agreed_87 (by decide) ?_
      refine lv_isub hx hb dX9_agreed_89 ?_
      refine kild F hK hP0 11 (2 * sd + 8 - 8) rfl (ag8 (n := 8) (m := 8) (c1_5.trans (by decide)) (by decide) (by omega)) (by omega) (Nat.le_of_ble_eq_true rfl) dX9_agreed_90 ?_
      have q11 : (σ 10 (2 * sd + 8 - 8)) = magreed σ sd i := by
        first | (subst c1_5; rfl) | (subst c1_5; simp only [magreed, show ¬ ((8 : Int32) = 3) from by decide, show ¬ ((8 : Int32) = 4) from by decide, show ¬ ((8 : Int32) = 5) from by decide, show ¬ ((8 : Int32) = 6) from by decide, show ¬ ((8 : Int32) = 7) from by decide, show ¬ ((8 : Int32) = 9) from by decide, eq_self, ↓reduceIte]; done) | (simp only [magreed, c1_5, ↓reduceIte]) | (simp only [magreed, c1_5, ↓reduceIte]; simp; done)
      exact kRi F hr hlocks hS0 dX9_agreed_91 () q11 hP0 hD0
    rcases kswE i 9 (v := 9) (by decide) with c1_6 | c1_6
    · refine lv_tableIn (off := 77) (tgt := 78) hx hb dX9_agreed_1 c1a c1b (by rw [c1_6]; rfl) (by decide) ?_
      refine lv_aload_n hx hb dX9_agreed_78 rfl (lv_at hl0 0 rfl) ?_
      refine kget F hK hP0 9 0 10 iX9 rfl rfl (by decide) (List.mem_of_getElem? (i := 5) rfl) rfl dX9_agreed_79 ?_
      refine lv_iconst (v := 2) hx hb dX9_agreed_82 (by decide) ?_
      refine lv_iload_n hx hb dX9_agreed_83 rfl (lv_at hl0 1 rfl) ?_
      refine lv_imul hx hb dX9_agreed_84 ?_
      refine lv_iload_n hx hb dX9_agreed_85 rfl (lv_at hl0 2 rfl) ?_
      refine lv_iadd hx hb dX9_agreed_86 ?_
      refine lv_bipush (v := 8) hx hb dX9_agreed_87 (by decide) ?_
      refine lv_isub hx hb dX9_agreed_89 ?_
      refine kild F hK hP0 11 (2 * sd + 9 - 8) rfl (ag8 (n := 9) (m := 8) (c1_6.trans (by decide)) (by decide) (by omega)) (by omega) (Nat.le_of_ble_eq_true rfl) dX9_agreed_90 ?_
      have q12 : (σ 10 (2 * sd + 9 - 8)) = magreed σ sd i := by
        first | (subst c1_6; rfl) | (subst c1_6; simp only [magreed, show ¬ ((9 : Int32) = 3) from by decide, show ¬ ((9 : Int32) = 4) from by decide, show ¬ ((9 : Int32) = 5) from by decide, show ¬ ((9 : Int32) = 6) from by decide, show ¬ ((9 : Int32) = 7) from by decide, show ¬ ((9 : Int32) = 8) from by decide, eq_self, ↓reduceIte]; done) | (simp only [magreed, c1_6, ↓reduceIte]) | (simp only [magreed, c1_6, ↓reduceIte]; simp; done)
      exact kRi F hr hlocks hS0 dX9_agreed_91 () q12 hP0 hD0
    omega
set_option maxHeartbeats 1000000 in
set_option maxRecDepth 100000 in
theorem c_X9_side (l : Launch) (G : kG) (h : Nat) (a : Nat → Nat) (σ : kS) (s : Int32) (i : Int32) : kM G l yX9_side wsX9_side ({ frames := 3, cells := 0, slots := 0, locals := 65 }) [.ref h, .int s, .int i] (mW G h a σ) (kQi G (fun (rr : Int32) (uu : Unit) => rr = mside σ s i) (fun (uu : Unit) => mW G h a σ)) := by
  refine kStart (cc := cX9_side) (maxL := 3) (ret := (some .int)) (by decide) rfl (Nat.le_of_ble_eq_true rfl) (fun pg ev st mi bl mt cd A ls0 F hr hlocks hin hK hP0 hD0 hA hS0 hl0 => ?_)
  obtain ⟨hx, hb, hml, hown, hts⟩ := id F
  have hl0 : lv_has ls0 3 [(0, .ref h), (1, .int s), (2, .int i)] := hl0
  have iX9 : ∀ w ∈ u_ws RX9 TX9 43, w ∈ wsX9_side := fun w h => List.mem_cons_of_mem _ (List.mem_append_right _ h)
  rcases k_sides s with rfl | rfl | ⟨hs0, hs1⟩
  · skip
    refine lv_iload_n hx hb dX9_side_0 rfl (lv_at hl0 1 rfl) ?_
    refine kPSi F hK hP0 hD0 hS0 hA hl0.1 (c_X9_isSide l G 0) (fun _ => rfl) gX9_side_X9_isSide rfl 1 rfl (by decide +kernel) ⟨Nat.le_of_ble_eq_true rfl, Nat.le_of_ble_eq_true rfl⟩ ⟨Nat.zero_le _, Nat.zero_le _⟩ (Nat.le_of_ble_eq_true rfl) rfl dX9_side_1 (fun r1 u1 H2 locs2 hw1 (hP2 : va_P G.1 vwCl (mW G h a σ) H2) (hD2 : va_D A (mW G h a σ)) hS2 => ?_)
    clear hP0 hD0 hS0
    have w1_0 : r1 = kinL (0 : Int32).toInt64 0 1 := hw1
    have g1 : r1 = 1 := w1_0.trans kside_0
    clear w1_0
    subst g1
    refine lv_if_ne (tgt := 10) hx hb dX9_side_4 (by decide) (fun c3 => ?_) (fun c3 => ?_)
    · refine lv_iload_n hx hb dX9_side_10 rfl (lv_at hl0 2 rfl) ?_
      refine lv_i2l (v := i.toInt64) hx hb dX9_side_11 rfl ?_
      refine lv_lconst (v := 0) hx hb dX9_side_12 (by decide) ?_
      refine lv_ldc2 (v := 11) hx hb hown (hts _ (List.mem_of_getElem? (i := 1) rfl)) dX9_side_13 ?_
      refine kPSi F hK hP2 hD2 hS2 hA hl0.1 (c_X9_in l G i.toInt64 0 11) (fun _ => rfl) gX9_side_X9_in rfl 3 rfl (by decide +kernel) ⟨Nat.le_of_ble_eq_true rfl, Nat.le_of_ble_eq_true rfl⟩ ⟨Nat.zero_le _, Nat.zero_le _⟩ (Nat.le_of_ble_eq_true rfl) rfl dX9_side_16 (fun r4 u4 H5 locs5 hw4 (hP5 : va_P G.1 vwCl (mW G h a σ) H5) (hD5 : va_D A (mW G h a σ)) hS5 => ?_)
      clear hP2 hD2 hS2
      have w4_0 : r4 = kinL i.toInt64 0 11 := hw4
      refine lv_if_ne (tgt := 25) hx hb dX9_side_19 (by decide) (fun c6 => ?_) (fun c6 => ?_)
      · have hi := kin11 (x := i) (by subst w4_0; exact c6)
        refine lv_iload_n hx hb dX9_side_25 rfl (lv_at hl0 2 rfl) ?_
        refine lv_iconst (v := 3) hx hb dX9_side_26 (by decide) ?_
        refine lv_icmp_ge (tgt := 64) hx hb dX9_side_27 (by decide) (fun c7 => ?_) (fun c7 => ?_)
        · have hg := ge3 (x := i) c7
          refine lv_aload_n hx hb dX9_side_64 rfl (lv_at hl0 0 rfl) ?_
          refine kget F hK hP5 9 0 3 iX9 rfl rfl (by decide) (List.mem_of_getElem? (i := 2) rfl) rfl dX9_side_65 ?_
          refine lv_iload_n hx hb dX9_side_68 rfl (lv_at hl0 1 rfl) ?_
          refine kild F hK hP5 4 0 rfl rfl (by decide) (Nat.le_of_ble_eq_true rfl) dX9_side_69 ?_
          refine lv_iconst (v := 4) hx hb dX9_side_70 (by decide) ?_
          refine lv_icmp_ne (tgt := 83) hx hb dX9_side_71 (by decide) (fun c8 => ?_) (fun c8 => ?_)
          · refine lv_iconst (v := (-1)) hx hb dX9_side_83 (by decide) ?_
            have q9 : (-1) = mside σ 0 i := by
              subst w4_0
              first | (simp only [mside, mside1, kd10, c3, c6, eq_true c7, c8, eq_self, ↓reduceIte, and_self, and_true, true_and]; done) | (simp only [mside, mside1, kd10, c3, c6, eq_true c7, c8, eq_self, ↓reduceIte, and_self, and_true, true_and]; (try and_intros) <;> rfl)
            exact kRi F hr hlocks hS5 dX9_side_84 () q9 hP5 hD5
          · refine lv_aload_n hx hb dX9_side_74 rfl (lv_at hl0 0 rfl) ?_
            refine lv_iload_n hx hb dX9_side_75 rfl (lv_at hl0 1 rfl) ?_
            refine lv_iload_n hx hb dX9_side_76 rfl (lv_at hl0 2 rfl) ?_
            refine kWVi F hK hP5 hD5 hS5 hA hl0.1 (c_X9_agreed l G h a σ 0 i (by first | assumption | decide | omega) hg hi) 9 0 gX9_side_X9_agreed rfl 2 rfl (by decide +kernel) ⟨Nat.le_of_ble_eq_true rfl, Nat.le_of_ble_eq_true rfl⟩ ⟨Nat.zero_le _, Nat.zero_le _⟩ rfl rfl (Nat.le_of_ble_eq_true rfl) rfl dX9_side_77 (fun r10 u10 H11 locs11 hw10 (hP11 : va_P G.1 vwCl (mW G h a σ) H11) (hD11 : va_D A (mW G h a σ)) hS11 => ?_)
            clear hP5 hD5 hS5
            have w10_0 : r10 = magreed σ 0 i := hw10
            refine lv_goto (tgt := 84) hx hb dX9_side_80 (by decide) ?_
            have q12 : r10 = mside σ 0 i := by
              subst w10_0
              subst w4_0
              first | (simp only [mside, mside1, kd10, c3, c6, eq_true c7, eq_true c8, eq_self, ↓reduceIte, and_self, and_true, true_and]; done) | (simp only [mside, mside1, kd10, c3, c6, eq_true c7, eq_true c8, eq_self, ↓reduceIte, and_self, and_true, true_and]; (try and_intros) <;> rfl)
            exact kRi F hr hlocks hS11 dX9_side_84 () q12 hP11 hD11
        · refine lv_iload_n hx hb dX9_side_30 rfl (lv_at hl0 2 rfl) ?_
          refine lv_if_ne (tgt := 43) hx hb dX9_side_31 (by decide) (fun c13 => ?_) (fun c13 => ?_)
          · refine lv_iload_n hx hb dX9_side_43 rfl (lv_at hl0 2 rfl) ?_
            refine lv_iconst (v := 1) hx hb dX9_side_44 (by decide) ?_
            refine lv_icmp_ne (tgt := 57) hx hb dX9_side_45 (by decide) (fun c14 => ?_) (fun c14 => ?_)
            · refine lv_aload_n hx hb dX9_side_57 rfl (lv_at hl0 0 rfl) ?_
              refine kget F hK hP5 9 0 5 iX9 rfl rfl (by decide) (List.mem_of_getElem? (i := 4) rfl) rfl dX9_side_58 ?_
              refine lv_iload_n hx hb dX9_side_61 rfl (lv_at hl0 1 rfl) ?_
              refine kild F hK hP5 6 0 rfl rfl (by decide) (Nat.le_of_ble_eq_true rfl) dX9_side_62 ?_
              have q15 : (σ 5 0) = mside σ 0 i := by
                subst w4_0
                first | (simp only [mside, mside1, kd10, c3, c6, c7, c13, c14, eq_self, ↓reduceIte, and_self, and_true, true_and]; done) | (simp only [mside, mside1, kd10, c3, c6, c7, c13, c14, eq_self, ↓reduceIte, and_self, and_true, true_and]; (try and_intros) <;> rfl)
              exact kRi F hr hlocks hS5 dX9_side_63 () q15 hP5 hD5
            · refine lv_aload_n hx hb dX9_side_48 rfl (lv_at hl0 0 rfl) ?_
              refine kget F hK hP5 9 0 4 iX9 rfl rfl (by decide) (List.mem_of_getElem? (i := 3) rfl) rfl dX9_side_49 ?_
              refine lv_iload_n hx hb dX9_side_52 rfl (lv_at hl0 1 rfl) ?_
              refine kild F hK hP5 5 0 rfl rfl (by decide) (Nat.le_of_ble_eq_true rfl) dX9_side_53 ?_
              refine lv_goto (tgt := 63) hx hb dX9_side_54 (by decide) ?_
              have q16 : (σ 4 0) = mside σ 0 i := by
                subst w4_0
                first | (simp only [mside, mside1, kd10, c3, c6, c7, c13, eq_true c14, eq_self, ↓reduceIte, and_self, and_true, true_and]; done) | (simp only [mside, mside1, kd10, c3, c6, c7, c13, eq_true c14, eq_self, ↓reduceIte, and_self, and_true, true_and]; (try and_intros) <;> rfl)
              exact kRi F hr hlocks hS5 dX9_side_63 () q16 hP5 hD5
          · refine lv_aload_n hx hb dX9_side_34 rfl (lv_at hl0 0 rfl) ?_
            refine kget F hK hP5 9 0 3 iX9 rfl rfl (by decide) (List.mem_of_getElem? (i := 2) rfl) rfl dX9_side_35 ?_
            refine lv_iload_n hx hb dX9_side_38 rfl (lv_at hl0 1 rfl) ?_
            refine kild F hK hP5 4 0 rfl rfl (by decide) (Nat.le_of_ble_eq_true rfl) dX9_side_39 ?_
            refine lv_goto (tgt := 63) hx hb dX9_side_40 (by decide) ?_
            have q17 : (σ 3 0) = mside σ 0 i := by
              subst w4_0
              first | (simp only [mside, mside1, kd10, c3, c6, c7, eq_true c13, eq_self, ↓reduceIte, and_self, and_true, true_and]; done) | (simp only [mside, mside1, kd10, c3, c6, c7, eq_true c13, eq_self, ↓reduceIte, and_self, and_true, true_and]; (try and_intros) <;> rfl)
            exact kRi F hr hlocks hS5 dX9_side_63 () q17 hP5 hD5
      · refine lv_bipush (v := (-3)) hx hb dX9_side_22 (by decide) ?_
        have q18 : (-3) = mside σ 0 i := by
          subst w4_0
          first | (simp only [mside, mside1, kd10, c3, eq_true c6, eq_self, ↓reduceIte, and_self, and_true, true_and]; done) | (simp only [mside, mside1, kd10, c3, eq_true c6, eq_self, ↓reduceIte, and_self, and_true, true_and]; (try and_intros) <;> rfl)
        exact kRi F hr hlocks hS5 dX9_side_24 () q18 hP5 hD5
    · exact absurd c3 (by decide)
  · skip
    refine lv_iload_n hx hb dX9_side_0 rfl (lv_at hl0 1 rfl) ?_
    refine kPSi F hK hP0 hD0 hS0 hA hl0.1 (c_X9_isSide l G 1) (fun _ => rfl) gX9_side_X9_isSide rfl 1 rfl (by decide +kernel) ⟨Nat.le_of_ble_eq_true rfl, Nat.le_of_ble_eq_true rfl⟩ ⟨Nat.zero_le _, Nat.zero_le _⟩ (Nat.le_of_ble_eq_true rfl) rfl dX9_side_1 (fun r19 u19 H20 locs20 hw19 (hP20 : va_P G.1 vwCl (mW G h a σ) H20) (hD20 : va_D A (mW G h a σ)) hS20 => ?_)
    clear hP0 hD0 hS0
    have w19_0 : r19 = kinL (1 : Int32).toInt64 0 1 := hw19
    have g19 : r19 = 1 := w19_0.trans kside_1
    clear w19_0
    subst g19
    refine lv_if_ne (tgt := 10) hx hb dX9_side_4 (by decide) (fun c21 => ?_) (fun c21 => ?_)
    · refine lv_iload_n hx hb dX9_side_10 rfl (lv_at hl0 2 rfl) ?_
      refine lv_i2l (v := i.toInt64) hx hb dX9_side_11 rfl ?_
      refine lv_lconst (v := 0) hx hb dX9_side_12 (by decide) ?_
      refine lv_ldc2 (v := 11) hx hb hown (hts _ (List.mem_of_getElem? (i := 1) rfl)) dX9_side_13 ?_
      refine kPSi F hK hP20 hD20 hS20 hA hl0.1 (c_X9_in l G i.toInt64 0 11) (fun _ => rfl) gX9_side_X9_in rfl 3 rfl (by decide +kernel) ⟨Nat.le_of_ble_eq_true rfl, Nat.le_of_ble_eq_true rfl⟩ ⟨Nat.zero_le _, Nat.zero_le _⟩ (Nat.le_of_ble_eq_true rfl) rfl dX9_side_16 (fun r22 u22 H23 locs23 hw22 (hP23 : va_P G.1 vwCl (mW G h a σ) H23) (hD23 : va_D A (mW G h a σ)) hS23 => ?_)
      clear hP20 hD20 hS20
      have w22_0 : r22 = kinL i.toInt64 0 11 := hw22
      refine lv_if_ne (tgt := 25) hx hb dX9_side_19 (by decide) (fun c24 => ?_) (fun c24 => ?_)
      · have hi := kin11 (x := i) (by subst w22_0; exact c24)
        refine lv_iload_n hx hb dX9_side_25 rfl (lv_at hl0 2 rfl) ?_
        refine lv_iconst (v := 3) hx hb dX9_side_26 (by decide) ?_
        refine lv_icmp_ge (tgt := 64) hx hb dX9_side_27 (by decide) (fun c25 => ?_) (fun c25 => ?_)
        · have hg := ge3 (x := i) c25
          refine lv_aload_n hx hb dX9_side_64 rfl (lv_at hl0 0 rfl) ?_
          refine kget F hK hP23 9 0 3 iX9 rfl rfl (by decide) (List.mem_of_getElem? (i := 2) rfl) rfl dX9_side_65 ?_
          refine lv_iload_n hx hb dX9_side_68 rfl (lv_at hl0 1 rfl) ?_
          refine kild F hK hP23 4 1 rfl rfl (by decide) (Nat.le_of_ble_eq_true rfl) dX9_side_69 ?_
          refine lv_iconst (v := 4) hx hb dX9_side_70 (by decide) ?_
          refine lv_icmp_ne (tgt := 83) hx hb dX9_side_71 (by decide) (fun c26 => ?_) (fun c26 => ?_)
          · refine lv_iconst (v := (-1)) hx hb dX9_side_83 (by decide) ?_
            have q27 : (-1) = mside σ 1 i := by
              subst w22_0
              first | (simp only [mside, mside1, kd10, c21, c24, eq_true c25, c26, eq_self, ↓reduceIte, and_self, and_true, true_and]; done) | (simp only [mside, mside1, kd10, c21, c24, eq_true c25, c26, eq_self, ↓reduceIte, and_self, and_true, true_and]; (try and_intros) <;> rfl)
            exact kRi F hr hlocks hS23 dX9_side_84 () q27 hP23 hD23
          · refine lv_aload_n hx hb dX9_side_74 rfl (lv_at hl0 0 rfl) ?_
            refine lv_iload_n hx hb dX9_side_75 rfl (lv_at hl0 1 rfl) ?_
            refine lv_iload_n hx hb dX9_side_76 rfl (lv_at hl0 2 rfl) ?_
            refine kWVi F hK hP23 hD23 hS23 hA hl0.1 (c_X9_agreed l G h a σ 1 i (by first | assumption | decide | omega) hg hi) 9 0 gX9_side_X9_agreed rfl 2 rfl (by decide +kernel) ⟨Nat.le_of_ble_eq_true rfl, Nat.le_of_ble_eq_true rfl⟩ ⟨Nat.zero_le _, Nat.zero_le _⟩ rfl rfl (Nat.le_of_ble_eq_true rfl) rfl dX9_side_77 (fun r28 u28 H29 locs29 hw28 (hP29 : va_P G.1 vwCl (mW G h a σ) H29) (hD29 : va_D A (mW G h a σ)) hS29 => ?_)
            clear hP23 hD23 hS23
            have w28_0 : r28 = magreed σ 1 i := hw28
            refine lv_goto (tgt := 84) hx hb dX9_side_80 (by decide) ?_
            have q30 : r28 = mside σ 1 i := by
              subst w28_0
              subst w22_0
              first | (simp only [mside, mside1, kd10, c21, c24, eq_true c25, eq_true c26, eq_self, ↓reduceIte, and_self, and_true, true_and]; done) | (simp only [mside, mside1, kd10, c21, c24, eq_true c25, eq_true c26, eq_self, ↓reduceIte, and_self, and_true, true_and]; (try and_intros) <;> rfl)
            exact kRi F hr hlocks hS29 dX9_side_84 () q30 hP29 hD29
        · refine lv_iload_n hx hb dX9_side_30 rfl (lv_at hl0 2 rfl) ?_
          refine lv_if_ne (tgt := 43) hx hb dX9_side_31 (by decide) (fun c31 => ?_) (fun c31 => ?_)
          · refine lv_iload_n hx hb dX9_side_43 rfl (lv_at hl0 2 rfl) ?_
            refine lv_iconst (v := 1) hx hb dX9_side_44 (by decide) ?_
            refine lv_icmp_ne (tgt := 57) hx hb dX9_side_45 (by decide) (fun c32 => ?_) (fun c32 => ?_)
            · refine lv_aload_n hx hb dX9_side_57 rfl (lv_at hl0 0 rfl) ?_
              refine kget F hK hP23 9 0 5 iX9 rfl rfl (by decide) (List.mem_of_getElem? (i := 4) rfl) rfl dX9_side_58 ?_
              refine lv_iload_n hx hb dX9_side_61 rfl (lv_at hl0 1 rfl) ?_
              refine kild F hK hP23 6 1 rfl rfl (by decide) (Nat.le_of_ble_eq_true rfl) dX9_side_62 ?_
              have q33 : (σ 5 1) = mside σ 1 i := by
                subst w22_0
                first | (simp only [mside, mside1, kd10, c21, c24, c25, c31, c32, eq_self, ↓reduceIte, and_self, and_true, true_and]; done) | (simp only [mside, mside1, kd10, c21, c24, c25, c31, c32, eq_self, ↓reduceIte, and_self, and_true, true_and]; (try and_intros) <;> rfl)
              exact kRi F hr hlocks hS23 dX9_side_63 () q33 hP23 hD23
            · refine lv_aload_n hx hb dX9_side_48 rfl (lv_at hl0 0 rfl) ?_
              refine kget F hK hP23 9 0 4 iX9 rfl rfl (by decide) (List.mem_of_getElem? (i := 3) rfl) rfl dX9_side_49 ?_
              refine lv_iload_n hx hb dX9_side_52 rfl (lv_at hl0 1 rfl) ?_
              refine kild F hK hP23 5 1 rfl rfl (by decide) (Nat.le_of_ble_eq_true rfl) dX9_side_53 ?_
              refine lv_goto (tgt := 63) hx hb dX9_side_54 (by decide) ?_
              have q34 : (σ 4 1) = mside σ 1 i := by
                subst w22_0
                first | (simp only [mside, mside1, kd10, c21, c24, c25, c31, eq_true c32, eq_self, ↓reduceIte, and_self, and_true, true_and]; done) | (simp only [mside, mside1, kd10, c21, c24, c25, c31, eq_true c32, eq_self, ↓reduceIte, and_self, and_true, true_and]; (try and_intros) <;> rfl)
              exact kRi F hr hlocks hS23 dX9_side_63 () q34 hP23 hD23
          · refine lv_aload_n hx hb dX9_side_34 rfl (lv_at hl0 0 rfl) ?_
            refine kget F hK hP23 9 0 3 iX9 rfl rfl (by decide) (List.mem_of_getElem? (i := 2) rfl) rfl dX9_side_35 ?_
            refine lv_iload_n hx hb dX9_side_38 rfl (lv_at hl0 1 rfl) ?_
            refine kild F hK hP23 4 1 rfl rfl (by decide) (Nat.le_of_ble_eq_true rfl) dX9_side_39 ?_
            refine lv_goto (tgt := 63) hx hb dX9_side_40 (by decide) ?_
            have q35 : (σ 3 1) = mside σ 1 i := by
              subst w22_0
              first | (simp only [mside, mside1, kd10, c21, c24, c25, eq_true c31, eq_self, ↓reduceIte, and_self, and_true, true_and]; done) | (simp only [mside, mside1, kd10, c21, c24, c25, eq_true c31, eq_self, ↓reduceIte, and_self, and_true, true_and]; (try and_intros) <;> rfl)
            exact kRi F hr hlocks hS23 dX9_side_63 () q35 hP23 hD23
      · refine lv_bipush (v := (-3)) hx hb dX9_side_22 (by decide) ?_
        have q36 : (-3) = mside σ 1 i := by
          subst w22_0
          first | (simp only [mside, mside1, kd10, c21, eq_true c24, eq_self, ↓reduceIte, and_self, and_true, true_and]; done) | (simp only [mside, mside1, kd10, c21, eq_true c24, eq_self, ↓reduceIte, and_self, and_true, true_and]; (try and_intros) <;> rfl)
        exact kRi F hr hlocks hS23 dX9_side_24 () q36 hP23 hD23
    · exact absurd c21 (by decide)
  · skip
    refine lv_iload_n hx hb dX9_side_0 rfl (lv_at hl0 1 rfl) ?_
    refine kPSi F hK hP0 hD0 hS0 hA hl0.1 (c_X9_isSide l G s) (fun _ => rfl) gX9_side_X9_isSide rfl 1 rfl (by decide +kernel) ⟨Nat.le_of_ble_eq_true rfl, Nat.le_of_ble_eq_true rfl⟩ ⟨Nat.zero_le _, Nat.zero_le _⟩ (Nat.le_of_ble_eq_true rfl) rfl dX9_side_1 (fun r37 u37 H38 locs38 hw37 (hP38 : va_P G.1 vwCl (mW G h a σ) H38) (hD38 : va_D A (mW G h a σ)) hS38 => ?_)
    clear hP0 hD0 hS0
    have w37_0 : r37 = kinL s.toInt64 0 1 := hw37
    have g37 : r37 = 0 := w37_0.trans (kside_no hs0 hs1)
    clear w37_0
    subst g37
    refine lv_if_ne (tgt := 10) hx hb dX9_side_4 (by decide) (fun c39 => ?_) (fun c39 => ?_)
    · exact absurd (by decide) c39
    · refine lv_bipush (v := (-2)) hx hb dX9_side_7 (by decide) ?_
      have q40 : (-2) = mside σ s i := by
        first | (simp only [mside, mside1, kd10, hs0, hs1, eq_true c39, eq_self, ↓reduceIte, and_self, and_true, true_and]; done) | (simp only [mside, mside1, kd10, hs0, hs1, eq_true c39, eq_self, ↓reduceIte, and_self, and_true, true_and]; (try and_intros) <;> rfl)
      exact kRi F hr hlocks hS38 dX9_side_9 () q40 hP38 hD38
set_option maxHeartbeats 1000000 in
set_option maxRecDepth 100000 in
theorem c_X9_ticket (l : Launch) (G : kG) (h : Nat) (a : Nat → Nat) (σ : kS) (v : Int32) (S : Nat → Nat) (Mn : Nat → Nat) (E : Nat) (K : Nat) (ok : mOK σ S Mn E K) : kM G l yX9_ticket wsX9_ticket ({ frames := 2, cells := 0, slots := 0, locals := 43 }) [.ref h, .int v] (mW G h a σ) (kQi G (fun (rr : Int32) (uu : kS) => (rr = (mtick σ v Mn K).1) ∧ (uu = (mtick σ v Mn K).2)) (fun (uu : kS) => mW G h a uu)) := by
  refine kStart (cc := cX9_ticket) (maxL := 3) (ret := (some .int)) (by decide) rfl (Nat.le_of_ble_eq_true rfl) (fun pg ev st mi bl mt cd A ls0 F hr hlocks hin hK hP0 hD0 hA hS0 hl0 => ?_)
  obtain ⟨hx, hb, hml, hown, hts⟩ := id F
  have hl0 : lv_has ls0 3 [(0, .ref h), (1, .int v)] := hl0
  have iX9 : ∀ w ∈ u_ws RX9 TX9 43, w ∈ wsX9_ticket := fun w h => List.mem_cons_of_mem _ (List.mem_append_right _ h)
  refine lv_iload_n hx hb dX9_ticket_0 rfl (lv_at hl0 1 rfl) ?_
  refine lv_i2l (v := v.toInt64) hx hb dX9_ticket_1 rfl ?_
  refine lv_lconst (v := 0) hx hb dX9_ticket_2 (by decide) ?_
  refine lv_ldc2 (v := 99) hx hb hown (hts _ (List.mem_of_getElem? (i := 1) rfl)) dX9_ticket_3 ?_
  refine kPSi F hK hP0 hD0 hS0 hA hl0.1 (c_X9_in l G v.toInt64 0 99) (fun _ => rfl) gX9_ticket_X9_in rfl 3 rfl (by decide +kernel) ⟨Nat.le_of_ble_eq_true rfl, Nat.le_of_ble_eq_true rfl⟩ ⟨Nat.zero_le _, Nat.zero_le _⟩ (Nat.le_of_ble_eq_true rfl) rfl dX9_ticket_6 (fun r1 u1 H2 locs2 hw1 (hP2 : va_P G.1 vwCl (mW G h a σ) H2) (hD2 : va_D A (mW G h a σ)) hS2 => ?_)
  clear hP0 hD0 hS0
  have w1_0 : r1 = kinL v.toInt64 0 99 := hw1
  refine lv_if_ne (tgt := 15) hx hb dX9_ticket_9 (by decide) (fun c3 => ?_) (fun c3 => ?_)
  · refine lv_aload_n hx hb dX9_ticket_15 rfl (lv_at hl0 0 rfl) ?_
    refine kget F hK hP2 9 0 3 iX9 rfl rfl (by decide) (List.mem_of_getElem? (i := 2) rfl) rfl dX9_ticket_16 ?_
    refine lv_iconst (v := 1) hx hb dX9_ticket_19 (by decide) ?_
    refine kild F hK hP2 4 1 rfl rfl (by decide) (Nat.le_of_ble_eq_true rfl) dX9_ticket_20 ?_
    refine lv_iconst (v := 4) hx hb dX9_ticket_21 (by decide) ?_
    refine lv_icmp_ne (tgt := 35) hx hb dX9_ticket_22 (by decide) (fun c4 => ?_) (fun c4 => ?_)
    · refine lv_bipush (v := (-4)) hx hb dX9_ticket_35 (by decide) ?_
      have q5 : ((-4) = (mtick σ v Mn K).1) ∧ (σ = (mtick σ v Mn K).2) := by
        subst w1_0
        first | (simp only [mtick, kn0, kn1, kn2, mtickX, mtickY, mshift, c3, c4, eq_self, ↓reduceIte, and_self, and_true, true_and]; done) | (simp only [mtick, kn0, kn1, kn2, mtickX, mtickY, mshift, c3, c4, eq_self, ↓reduceIte, and_self, and_true, true_and]; (try and_intros) <;> rfl)
      exact kRi F hr hlocks hS2 dX9_ticket_37 σ q5 hP2 hD2
    · refine lv_aload_n hx hb dX9_ticket_25 rfl (lv_at hl0 0 rfl) ?_
      refine kget F hK hP2 9 0 6 iX9 rfl rfl (by decide) (List.mem_of_getElem? (i := 3) rfl) rfl dX9_ticket_26 ?_
      refine lv_iconst (v := 1) hx hb dX9_ticket_29 (by decide) ?_
      refine kild F hK hP2 7 1 rfl rfl (by decide) (Nat.le_of_ble_eq_true rfl) dX9_ticket_30 ?_
      refine lv_iconst (v := 3) hx hb dX9_ticket_31 (by decide) ?_
      refine lv_icmp_eq (tgt := 38) hx hb dX9_ticket_32 (by decide) (fun c6 => ?_) (fun c6 => ?_)
      · rcases (show K = 0 ∨ K = 1 ∨ K = 2 ∨ K = 3 by have := ok.2.2.2.1.2; omega) with rfl | rfl | rfl | rfl
        · skip
          refine lv_aload_n hx hb dX9_ticket_38 rfl (lv_at hl0 0 rfl) ?_
          refine kget F hK hP2 9 0 20 iX9 rfl rfl (by decide) (List.mem_of_getElem? (i := 4) rfl) rfl dX9_ticket_39 ?_
          rw [show (σ 20 0) = 0 from ok.2.2.2.1.1]
          refine lv_iconst (v := 3) hx hb dX9_ticket_42 (by decide) ?_
          refine lv_icmp_ne (tgt := 84) hx hb dX9_ticket_43 (by decide) (fun c7 => ?_) (fun c7 => ?_)
          · refine lv_aload_n hx hb dX9_ticket_84 rfl (lv_at hl0 0 rfl) ?_
            refine lv_dup hx hb dX9_ticket_85 rfl ?_
            refine kget F hK hP2 9 0 21 iX9 rfl rfl (by decide) (List.mem_of_getElem? (i := 6) rfl) rfl dX9_ticket_86 ?_
            refine lv_iconst (v := 1) hx hb dX9_ticket_89 (by decide) ?_
            refine lv_iadd hx hb dX9_ticket_90 ?_
            refine kMput F hK hP2 hD2 hS2 21 iX9 rfl (by decide) (List.mem_of_getElem? (i := 6) rfl) rfl rfl rfl (Nat.le_of_ble_eq_true rfl) rfl dX9_ticket_91 (fun H8 locs8 σ8 eσ8 hP8 hD8 hS8 => ?_)
            clear hP2 hD2 hS2
            refine lv_iconst (v := 5) hx hb dX9_ticket_94 (by decide) ?_
            refine lv_aload_n hx hb dX9_ticket_95 rfl (lv_at hl0 0 rfl) ?_
            refine kget F hK hP8 9 0 20 iX9 rfl rfl (by decide) (List.mem_of_getElem? (i := 4) rfl) rfl dX9_ticket_96 ?_
            rw [show (σ8 20 0) = (σ 20 0) from by subst eσ8; first | rfl | (simp only [msend]; (repeat' split) <;> rfl)]
            rw [show (σ 20 0) = 0 from ok.2.2.2.1.1]
            refine lv_imul hx hb dX9_ticket_99 ?_
            rw [show (5 * 0 : Int32) = 0 from by decide]
            refine lv_istore_n (lv' := [(2, .int 0), (0, .ref h), (1, .int v)]) hx hb dX9_ticket_100 rfl hl0 (by decide) rfl (fun ls10 hl10 => ?_)
            clear hl0
            refine lv_aload_n hx hb dX9_ticket_101 rfl (lv_at hl10 1 rfl) ?_
            refine kget F hK hP8 9 0 22 iX9 rfl rfl (by decide) (List.mem_of_getElem? (i := 5) rfl) rfl dX9_ticket_102 ?_
            refine lv_iload_n hx hb dX9_ticket_105 rfl (lv_at hl10 0 rfl) ?_
            refine lv_aload_n hx hb dX9_ticket_106 rfl (lv_at hl10 1 rfl) ?_
            refine kget F hK hP8 9 0 21 iX9 rfl rfl (by decide) (List.mem_of_getElem? (i := 6) rfl) rfl dX9_ticket_107 ?_
            rw [show (σ8 21 0) = ((σ 21 0) + 1) from by subst eσ8; first | rfl | (simp only [msend]; (repeat' split) <;> rfl)]
            refine kMst F hK hP8 hD8 hS8 22 14 0 rfl rfl (by decide) (Nat.le_of_ble_eq_true rfl) rfl dX9_ticket_110 (fun H11 locs11 σ11 eσ11 hP11 hD11 hS11 => ?_)
            clear hP8 hD8 hS8
            refine lv_aload_n hx hb dX9_ticket_111 rfl (lv_at hl10 1 rfl) ?_
            refine kget F hK hP11 9 0 22 iX9 rfl rfl (by decide) (List.mem_of_getElem? (i := 5) rfl) rfl dX9_ticket_112 ?_
            refine lv_iload_n hx hb dX9_ticket_115 rfl (lv_at hl10 0 rfl) ?_
            refine lv_iconst (v := 1) hx hb dX9_ticket_116 (by decide) ?_
            refine lv_iadd hx hb dX9_ticket_117 ?_
            rw [show (0 + 1 : Int32) = 1 from by decide]
            refine lv_iload_n hx hb dX9_ticket_118 rfl (lv_at hl10 2 rfl) ?_
            refine kMst F hK hP11 hD11 hS11 22 14 1 rfl rfl (by decide) (Nat.le_of_ble_eq_true rfl) rfl dX9_ticket_119 (fun H13 locs13 σ13 eσ13 hP13 hD13 hS13 => ?_)
            clear hP11 hD11 hS11
            refine lv_aload_n hx hb dX9_ticket_120 rfl (lv_at hl10 1 rfl) ?_
            refine kget F hK hP13 9 0 22 iX9 rfl rfl (by decide) (List.mem_of_getElem? (i := 5) rfl) rfl dX9_ticket_121 ?_
            refine lv_iload_n hx hb dX9_ticket_124 rfl (lv_at hl10 0 rfl) ?_
            refine lv_iconst (v := 2) hx hb dX9_ticket_125 (by decide) ?_
            refine lv_iadd hx hb dX9_ticket_126 ?_
            rw [show (0 + 2 : Int32) = 2 from by decide]
            refine lv_aload_n hx hb dX9_ticket_127 rfl (lv_at hl10 1 rfl) ?_
            refine kget F hK hP13 9 0 14 iX9 rfl rfl (by decide) (List.mem_of_getElem? (i := 7) rfl) rfl dX9_ticket_128 ?_
            rw [show (σ13 14 0) = (σ 14 0) from by subst eσ13; subst eσ11; subst eσ8; first | rfl | (simp only [msend]; (repeat' split) <;> rfl)]
            refine kMst F hK hP13 hD13 hS13 22 14 2 rfl rfl (by decide) (Nat.le_of_ble_eq_true rfl) rfl dX9_ticket_131 (fun H15 locs15 σ15 eσ15 hP15 hD15 hS15 => ?_)
            clear hP13 hD13 hS13
            refine lv_aload_n hx hb dX9_ticket_132 rfl (lv_at hl10 1 rfl) ?_
            refine kget F hK hP15 9 0 22 iX9 rfl rfl (by decide) (List.mem_of_getElem? (i := 5) rfl) rfl dX9_ticket_133 ?_
            refine lv_iload_n hx hb dX9_ticket_136 rfl (lv_at hl10 0 rfl) ?_
            refine lv_iconst (v := 3) hx hb dX9_ticket_137 (by decide) ?_
            refine lv_iadd hx hb dX9_ticket_138 ?_
            rw [show (0 + 3 : Int32) = 3 from by decide]
            refine lv_aload_n hx hb dX9_ticket_139 rfl (lv_at hl10 1 rfl) ?_
            refine lv_iconst (v := 1) hx hb dX9_ticket_140 (by decide) ?_
            refine kWVi F hK hP15 hD15 hS15 hA hl10.1 (c_X9_mainOf l G h a σ15 1 (by first | assumption | decide | omega)) 9 0 gX9_ticket_X9_mainOf rfl 1 rfl (by decide +kernel) ⟨Nat.le_of_ble_eq_true rfl, Nat.le_of_ble_eq_true rfl⟩ ⟨Nat.zero_le _, Nat.zero_le _⟩ rfl rfl (Nat.le_of_ble_eq_true rfl) rfl dX9_ticket_141 (fun r17 u17 H18 locs18 hw17 (hP18 : va_P G.1 vwCl (mW G h a σ15) H18) (hD18 : va_D A (mW G h a σ15)) hS18 => ?_)
            clear hP15 hD15 hS15
            have w17_0 : r17 = mmain σ15 1 := hw17
            refine lv_aload_n hx hb dX9_ticket_144 rfl (lv_at hl10 1 rfl) ?_
            refine kget F hK hP18 9 0 21 iX9 rfl rfl (by decide) (List.mem_of_getElem? (i := 6) rfl) rfl dX9_ticket_145 ?_
            rw [show (σ15 21 0) = ((σ 21 0) + 1) from by subst eσ15; subst eσ13; subst eσ11; subst eσ8; first | rfl | (simp only [msend]; (repeat' split) <;> rfl)]
            refine kPSi F hK hP18 hD18 hS18 hA hl10.1 (c_X9_mix l G r17 ((σ 21 0) + 1)) (fun _ => rfl) gX9_ticket_X9_mix rfl 2 rfl (by decide +kernel) ⟨Nat.le_of_ble_eq_true rfl, Nat.le_of_ble_eq_true rfl⟩ ⟨Nat.zero_le _, Nat.zero_le _⟩ (Nat.le_of_ble_eq_true rfl) rfl dX9_ticket_148 (fun r19 u19 H20 locs20 hw19 (hP20 : va_P G.1 vwCl (mW G h a σ15) H20) (hD20 : va_D A (mW G h a σ15)) hS20 => ?_)
            clear hP18 hD18 hS18
            have w19_0 : r19 = kmix r17 ((σ 21 0) + 1) := hw19
            refine kMst F hK hP20 hD20 hS20 22 14 3 rfl rfl (by decide) (Nat.le_of_ble_eq_true rfl) rfl dX9_ticket_151 (fun H21 locs21 σ21 eσ21 hP21 hD21 hS21 => ?_)
            clear hP20 hD20 hS20
            refine lv_aload_n hx hb dX9_ticket_152 rfl (lv_at hl10 1 rfl) ?_
            refine kget F hK hP21 9 0 22 iX9 rfl rfl (by decide) (List.mem_of_getElem? (i := 5) rfl) rfl dX9_ticket_153 ?_
            refine lv_iload_n hx hb dX9_ticket_156 rfl (lv_at hl10 0 rfl) ?_
            refine lv_iconst (v := 4) hx hb dX9_ticket_157 (by decide) ?_
            refine lv_iadd hx hb dX9_ticket_158 ?_
            rw [show (0 + 4 : Int32) = 4 from by decide]
            refine lv_aload_n hx hb dX9_ticket_159 rfl (lv_at hl10 1 rfl) ?_
            refine kget F hK hP21 9 0 21 iX9 rfl rfl (by decide) (List.mem_of_getElem? (i := 6) rfl) rfl dX9_ticket_160 ?_
            rw [show (σ21 21 0) = ((σ 21 0) + 1) from by subst eσ21; subst eσ15; subst eσ13; subst eσ11; subst eσ8; first | rfl | (simp only [msend]; (repeat' split) <;> rfl)]
            refine lv_bipush (v := 77) hx hb dX9_ticket_163 (by decide) ?_
            refine kPSi F hK hP21 hD21 hS21 hA hl10.1 (c_X9_mix l G ((σ 21 0) + 1) 77) (fun _ => rfl) gX9_ticket_X9_mix rfl 2 rfl (by decide +kernel) ⟨Nat.le_of_ble_eq_true rfl, Nat.le_of_ble_eq_true rfl⟩ ⟨Nat.zero_le _, Nat.zero_le _⟩ (Nat.le_of_ble_eq_true rfl) rfl dX9_ticket_165 (fun r23 u23 H24 locs24 hw23 (hP24 : va_P G.1 vwCl (mW G h a σ21) H24) (hD24 : va_D A (mW G h a σ21)) hS24 => ?_)
            clear hP21 hD21 hS21
            have w23_0 : r23 = kmix ((σ 21 0) + 1) 77 := hw23
            refine kMst F hK hP24 hD24 hS24 22 14 4 rfl rfl (by decide) (Nat.le_of_ble_eq_true rfl) rfl dX9_ticket_168 (fun H25 locs25 σ25 eσ25 hP25 hD25 hS25 => ?_)
            clear hP24 hD24 hS24
            refine lv_aload_n hx hb dX9_ticket_169 rfl (lv_at hl10 1 rfl) ?_
            refine lv_dup hx hb dX9_ticket_170 rfl ?_
            refine kget F hK hP25 9 0 20 iX9 rfl rfl (by decide) (List.mem_of_getElem? (i := 4) rfl) rfl dX9_ticket_171 ?_
            rw [show (σ25 20 0) = (σ 20 0) from by subst eσ25; subst eσ21; subst eσ15; subst eσ13; subst eσ11; subst eσ8; first | rfl | (simp only [msend]; (repeat' split) <;> rfl)]
            rw [show (σ 20 0) = 0 from ok.2.2.2.1.1]
            refine lv_iconst (v := 1) hx hb dX9_ticket_174 (by decide) ?_
            refine lv_iadd hx hb dX9_ticket_175 ?_
            rw [show (0 + 1 : Int32) = 1 from by decide]
            refine kMput F hK hP25 hD25 hS25 20 iX9 rfl (by decide) (List.mem_of_getElem? (i := 4) rfl) rfl rfl rfl (Nat.le_of_ble_eq_true rfl) rfl dX9_ticket_176 (fun H27 locs27 σ27 eσ27 hP27 hD27 hS27 => ?_)
            clear hP25 hD25 hS25
            refine lv_aload_n hx hb dX9_ticket_179 rfl (lv_at hl10 1 rfl) ?_
            refine lv_iconst (v := 5) hx hb dX9_ticket_180 (by decide) ?_
            refine kWVv F hK hP27 hD27 hS27 hA hl10.1 (c_X9_clears l G h a σ27 5) 9 0 gX9_ticket_X9_clears rfl 1 rfl (by decide +kernel) ⟨Nat.le_of_ble_eq_true rfl, Nat.le_of_ble_eq_true rfl⟩ ⟨Nat.zero_le _, Nat.zero_le _⟩ rfl rfl (Nat.le_of_ble_eq_true rfl) rfl dX9_ticket_181 (fun σ_28 H29 locs29 hw28 (hP29 : va_P G.1 vwCl (mW G h a σ_28) H29) (hD29 : va_D A (mW G h a σ_28)) hS29 => ?_)
            clear hP27 hD27 hS27
            have w28_0 : σ_28 = mclr σ27 5 := hw28
            refine lv_aload_n hx hb dX9_ticket_184 rfl (lv_at hl10 1 rfl) ?_
            refine kget F hK hP29 9 0 29 iX9 rfl rfl (by decide) (List.mem_of_getElem? (i := 8) rfl) rfl dX9_ticket_185 ?_
            refine lv_iconst (v := 1) hx hb dX9_ticket_188 (by decide) ?_
            refine lv_aload_n hx hb dX9_ticket_189 rfl (lv_at hl10 1 rfl) ?_
            refine kget F hK hP29 9 0 21 iX9 rfl rfl (by decide) (List.mem_of_getElem? (i := 6) rfl) rfl dX9_ticket_190 ?_
            rw [show (σ_28 21 0) = ((σ 21 0) + 1) from by subst w28_0; subst eσ27; subst eσ25; subst eσ21; subst eσ15; subst eσ13; subst eσ11; subst eσ8; first | rfl | (simp only [msend]; (repeat' split) <;> rfl)]
            refine kMst F hK hP29 hD29 hS29 29 20 1 rfl rfl (by decide) (Nat.le_of_ble_eq_true rfl) rfl dX9_ticket_193 (fun H30 locs30 σ30 eσ30 hP30 hD30 hS30 => ?_)
            clear hP29 hD29 hS29
            refine lv_aload_n hx hb dX9_ticket_194 rfl (lv_at hl10 1 rfl) ?_
            refine kget F hK hP30 9 0 29 iX9 rfl rfl (by decide) (List.mem_of_getElem? (i := 8) rfl) rfl dX9_ticket_195 ?_
            refine lv_iconst (v := 2) hx hb dX9_ticket_198 (by decide) ?_
            refine lv_aload_n hx hb dX9_ticket_199 rfl (lv_at hl10 1 rfl) ?_
            refine kget F hK hP30 9 0 22 iX9 rfl rfl (by decide) (List.mem_of_getElem? (i := 5) rfl) rfl dX9_ticket_200 ?_
            refine lv_iload_n hx hb dX9_ticket_203 rfl (lv_at hl10 0 rfl) ?_
            refine lv_iconst (v := 4) hx hb dX9_ticket_204 (by decide) ?_
            refine lv_iadd hx hb dX9_ticket_205 ?_
            rw [show (0 + 4 : Int32) = 4 from by decide]
            refine kild F hK hP30 14 4 rfl rfl (by decide) (Nat.le_of_ble_eq_true rfl) dX9_ticket_206 ?_
            rw [show (σ30 22 4) = r23 from by subst eσ30; subst w28_0; subst eσ27; subst eσ25; subst eσ21; subst eσ15; subst eσ13; subst eσ11; subst eσ8; first | rfl | (simp only [msend]; (repeat' split) <;> rfl)]
            refine kMst F hK hP30 hD30 hS30 29 20 2 rfl rfl (by decide) (Nat.le_of_ble_eq_true rfl) rfl dX9_ticket_207 (fun H32 locs32 σ32 eσ32 hP32 hD32 hS32 => ?_)
            clear hP30 hD30 hS30
            refine lv_aload_n hx hb dX9_ticket_208 rfl (lv_at hl10 1 rfl) ?_
            refine kget F hK hP32 9 0 29 iX9 rfl rfl (by decide) (List.mem_of_getElem? (i := 8) rfl) rfl dX9_ticket_209 ?_
            refine lv_iconst (v := 3) hx hb dX9_ticket_212 (by decide) ?_
            refine lv_iload_n hx hb dX9_ticket_213 rfl (lv_at hl10 2 rfl) ?_
            refine kMst F hK hP32 hD32 hS32 29 20 3 rfl rfl (by decide) (Nat.le_of_ble_eq_true rfl) rfl dX9_ticket_214 (fun H33 locs33 σ33 eσ33 hP33 hD33 hS33 => ?_)
            clear hP32 hD32 hS32
            refine lv_aload_n hx hb dX9_ticket_215 rfl (lv_at hl10 1 rfl) ?_
            refine lv_iconst (v := 0) hx hb dX9_ticket_216 (by decide) ?_
            refine kWVv F hK hP33 hD33 hS33 hA hl10.1 (c_X9_sends l G h a σ33 0 (Mn 0) (by first | assumption | decide | omega) (by subst eσ33; subst eσ32; subst eσ30; subst w28_0; subst eσ27; subst eσ25; subst w23_0; subst eσ21; subst w19_0; subst w17_0; subst eσ15; subst eσ13; subst eσ11; subst eσ8; subst w1_0; exact (ok.2.1 0 (by decide)).1) ((ok.2.1 0 (by decide)).2)) 9 0 gX9_ticket_X9_sends rfl 1 rfl (by decide +kernel) ⟨Nat.le_of_ble_eq_true rfl, Nat.le_of_ble_eq_true rfl⟩ ⟨Nat.zero_le _, Nat.zero_le _⟩ rfl rfl (Nat.le_of_ble_eq_true rfl) rfl dX9_ticket_217 (fun σ_34 H35 locs35 hw34 (hP35 : va_P G.1 vwCl (mW G h a σ_34) H35) (hD35 : va_D A (mW G h a σ_34)) hS35 => ?_)
            clear hP33 hD33 hS33
            have w34_0 : σ_34 = msend σ33 0 (Mn 0) := hw34
            refine lv_aload_n hx hb dX9_ticket_220 rfl (lv_at hl10 1 rfl) ?_
            refine kget F hK hP35 9 0 21 iX9 rfl rfl (by decide) (List.mem_of_getElem? (i := 6) rfl) rfl dX9_ticket_221 ?_
            rw [show (σ_34 21 0) = ((σ 21 0) + 1) from by subst w34_0; subst eσ33; subst eσ32; subst eσ30; subst w28_0; subst eσ27; subst eσ25; subst eσ21; subst eσ15; subst eσ13; subst eσ11; subst eσ8; first | rfl | (simp only [msend]; (repeat' split) <;> rfl)]
            have q36 : (((σ 21 0) + 1) = (mtick σ v Mn 0).1) ∧ (σ_34 = (mtick σ v Mn 0).2) := by
              subst w34_0
              subst eσ33
              subst eσ32
              subst eσ30
              subst w28_0
              subst eσ27
              subst eσ25
              subst w23_0
              subst eσ21
              subst w19_0
              subst w17_0
              subst eσ15
              subst eσ13
              subst eσ11
              subst eσ8
              subst w1_0
              first | (simp only [mtick, kn0, kn1, kn2, mtickX, mtickY, mshift, c3, eq_true c4, eq_true c6, c7, eq_self, ↓reduceIte, and_self, and_true, true_and]; done) | (simp only [mtick, kn0, kn1, kn2, mtickX, mtickY, mshift, c3, eq_true c4, eq_true c6, c7, eq_self, ↓reduceIte, and_self, and_true, true_and]; (try and_intros) <;> rfl)
            exact kRi F hr hlocks hS35 dX9_ticket_224 σ_34 q36 hP35 hD35
          · exact absurd c7 (by decide)
        · skip
          refine lv_aload_n hx hb dX9_ticket_38 rfl (lv_at hl0 0 rfl) ?_
          refine kget F hK hP2 9 0 20 iX9 rfl rfl (by decide) (List.mem_of_getElem? (i := 4) rfl) rfl dX9_ticket_39 ?_
          rw [show (σ 20 0) = 1 from ok.2.2.2.1.1]
          refine lv_iconst (v := 3) hx hb dX9_ticket_42 (by decide) ?_
          refine lv_icmp_ne (tgt := 84) hx hb dX9_ticket_43 (by decide) (fun c37 => ?_) (fun c37 => ?_)
          · refine lv_aload_n hx hb dX9_ticket_84 rfl (lv_at hl0 0 rfl) ?_
            refine lv_dup hx hb dX9_ticket_85 rfl ?_
            refine kget F hK hP2 9 0 21 iX9 rfl rfl (by decide) (List.mem_of_getElem? (i := 6) rfl) rfl dX9_ticket_86 ?_
            refine lv_iconst (v := 1) hx hb dX9_ticket_89 (by decide) ?_
            refine lv_iadd hx hb dX9_ticket_90 ?_
            refine kMput F hK hP2 hD2 hS2 21 iX9 rfl (by decide) (List.mem_of_getElem? (i := 6) rfl) rfl rfl rfl (Nat.le_of_ble_eq_true rfl) rfl dX9_ticket_91 (fun H38 locs38 σ38 eσ38 hP38 hD38 hS38 => ?_)
            clear hP2 hD2 hS2
            refine lv_iconst (v := 5) hx hb dX9_ticket_94 (by decide) ?_
            refine lv_aload_n hx hb dX9_ticket_95 rfl (lv_at hl0 0 rfl) ?_
            refine kget F hK hP38 9 0 20 iX9 rfl rfl (by decide) (List.mem_of_getElem? (i := 4) rfl) rfl dX9_ticket_96 ?_
            rw [show (σ38 20 0) = (σ 20 0) from by subst eσ38; first | rfl | (simp only [msend]; (repeat' split) <;> rfl)]
            rw [show (σ 20 0) = 1 from ok.2.2.2.1.1]
            refine lv_imul hx hb dX9_ticket_99 ?_
            rw [show (5 * 1 : Int32) = 5 from by decide]
            refine lv_istore_n (lv' := [(2, .int 5), (0, .ref h), (1, .int v)]) hx hb dX9_ticket_100 rfl hl0 (by decide) rfl (fun ls40 hl40 => ?_)
            clear hl0
            refine lv_aload_n hx hb dX9_ticket_101 rfl (lv_at hl40 1 rfl) ?_
            refine kget F hK hP38 9 0 22 iX9 rfl rfl (by decide) (List.mem_of_getElem? (i := 5) rfl) rfl dX9_ticket_102 ?_
            refine lv_iload_n hx hb dX9_ticket_105 rfl (lv_at hl40 0 rfl) ?_
            refine lv_aload_n hx hb dX9_ticket_106 rfl (lv_at hl40 1 rfl) ?_
            refine kget F hK hP38 9 0 21 iX9 rfl rfl (by decide) (List.mem_of_getElem? (i := 6) rfl) rfl dX9_ticket_107 ?_
            rw [show (σ38 21 0) = ((σ 21 0) + 1) from by subst eσ38; first | rfl | (simp only [msend]; (repeat' split) <;> rfl)]
            refine kMst F hK hP38 hD38 hS38 22 14 5 rfl rfl (by decide) (Nat.le_of_ble_eq_true rfl) rfl dX9_ticket_110 (fun H41 locs41 σ41 eσ41 hP41 hD41 hS41 => ?_)
            clear hP38 hD38 hS38
            refine lv_aload_n hx hb dX9_ticket_111 rfl (lv_at hl40 1 rfl) ?_
            refine kget F hK hP41 9 0 22 iX9 rfl rfl (by decide) (List.mem_of_getElem? (i := 5) rfl) rfl dX9_ticket_112 ?_
            refine lv_iload_n hx hb dX9_ticket_115 rfl (lv_at hl40 0 rfl) ?_
            refine lv_iconst (v := 1) hx hb dX9_ticket_116 (by decide) ?_
            refine lv_iadd hx hb dX9_ticket_117 ?_
            rw [show (5 + 1 : Int32) = 6 from by decide]
            refine lv_iload_n hx hb dX9_ticket_118 rfl (lv_at hl40 2 rfl) ?_
            refine kMst F hK hP41 hD41 hS41 22 14 6 rfl rfl (by decide) (Nat.le_of_ble_eq_true rfl) rfl dX9_ticket_119 (fun H43 locs43 σ43 eσ43 hP43 hD43 hS43 => ?_)
            clear hP41 hD41 hS41
            refine lv_aload_n hx hb dX9_ticket_120 rfl (lv_at hl40 1 rfl) ?_
            refine kget F hK hP43 9 0 22 iX9 rfl rfl (by decide) (List.mem_of_getElem? (i := 5) rfl) rfl dX9_ticket_121 ?_
            refine lv_iload_n hx hb dX9_ticket_124 rfl (lv_at hl40 0 rfl) ?_
            refine lv_iconst (v := 2) hx hb dX9_ticket_125 (by decide) ?_
            refine lv_iadd hx hb dX9_ticket_126 ?_
            rw [show (5 + 2 : Int32) = 7 from by decide]
            refine lv_aload_n hx hb dX9_ticket_127 rfl (lv_at hl40 1 rfl) ?_
            refine kget F hK hP43 9 0 14 iX9 rfl rfl (by decide) (List.mem_of_getElem? (i := 7) rfl) rfl dX9_ticket_128 ?_
            rw [show (σ43 14 0) = (σ 14 0) from by subst eσ43; subst eσ41; subst eσ38; first | rfl | (simp only [msend]; (repeat' split) <;> rfl)]
            refine kMst F hK hP43 hD43 hS43 22 14 7 rfl rfl (by decide) (Nat.le_of_ble_eq_true rfl) rfl dX9_ticket_131 (fun H45 locs45 σ45 eσ45 hP45 hD45 hS45 => ?_)
            clear hP43 hD43 hS43
            refine lv_aload_n hx hb dX9_ticket_132 rfl (lv_at hl40 1 rfl) ?_
            refine kget F hK hP45 9 0 22 iX9 rfl rfl (by decide) (List.mem_of_getElem? (i := 5) rfl) rfl dX9_ticket_133 ?_
            refine lv_iload_n hx hb dX9_ticket_136 rfl (lv_at hl40 0 rfl) ?_
            refine lv_iconst (v := 3) hx hb dX9_ticket_137 (by decide) ?_
            refine lv_iadd hx hb dX9_ticket_138 ?_
            rw [show (5 + 3 : Int32) = 8 from by decide]
            refine lv_aload_n hx hb dX9_ticket_139 rfl (lv_at hl40 1 rfl) ?_
            refine lv_iconst (v := 1) hx hb dX9_ticket_140 (by decide) ?_
            refine kWVi F hK hP45 hD45 hS45 hA hl40.1 (c_X9_mainOf l G h a σ45 1 (by first | assumption | decide | omega)) 9 0 gX9_ticket_X9_mainOf rfl 1 rfl (by decide +kernel) ⟨Nat.le_of_ble_eq_true rfl, Nat.le_of_ble_eq_true rfl⟩ ⟨Nat.zero_le _, Nat.zero_le _⟩ rfl rfl (Nat.le_of_ble_eq_true rfl) rfl dX9_ticket_141 (fun r47 u47 H48 locs48 hw47 (hP48 : va_P G.1 vwCl (mW G h a σ45) H48) (hD48 : va_D A (mW G h a σ45)) hS48 => ?_)
            clear hP45 hD45 hS45
            have w47_0 : r47 = mmain σ45 1 := hw47
            refine lv_aload_n hx hb dX9_ticket_144 rfl (lv_at hl40 1 rfl) ?_
            refine kget F hK hP48 9 0 21 iX9 rfl rfl (by decide) (List.mem_of_getElem? (i := 6) rfl) rfl dX9_ticket_145 ?_
            rw [show (σ45 21 0) = ((σ 21 0) + 1) from by subst eσ45; subst eσ43; subst eσ41; subst eσ38; first | rfl | (simp only [msend]; (repeat' split) <;> rfl)]
            refine kPSi F hK hP48 hD48 hS48 hA hl40.1 (c_X9_mix l G r47 ((σ 21 0) + 1)) (fun _ => rfl) gX9_ticket_X9_mix rfl 2 rfl (by decide +kernel) ⟨Nat.le_of_ble_eq_true rfl, Nat.le_of_ble_eq_true rfl⟩ ⟨Nat.zero_le _, Nat.zero_le _⟩ (Nat.le_of_ble_eq_true rfl) rfl dX9_ticket_148 (fun r49 u49 H50 locs50 hw49 (hP50 : va_P G.1 vwCl (mW G h a σ45) H50) (hD50 : va_D A (mW G h a σ45)) hS50 => ?_)
            clear hP48 hD48 hS48
            have w49_0 : r49 = kmix r47 ((σ 21 0) + 1) := hw49
            refine kMst F hK hP50 hD50 hS50 22 14 8 rfl rfl (by decide) (Nat.le_of_ble_eq_true rfl) rfl dX9_ticket_151 (fun H51 locs51 σ51 eσ51 hP51 hD51 hS51 => ?_)
            clear hP50 hD50 hS50
            refine lv_aload_n hx hb dX9_ticket_152 rfl (lv_at hl40 1 rfl) ?_
            refine kget F hK hP51 9 0 22 iX9 rfl rfl (by decide) (List.mem_of_getElem? (i := 5) rfl) rfl dX9_ticket_153 ?_
            refine lv_iload_n hx hb dX9_ticket_156 rfl (lv_at hl40 0 rfl) ?_
            refine lv_iconst (v := 4) hx hb dX9_ticket_157 (by decide) ?_
            refine lv_iadd hx hb dX9_ticket_158 ?_
            rw [show (5 + 4 : Int32) = 9 from by decide]
            refine lv_aload_n hx hb dX9_ticket_159 rfl (lv_at hl40 1 rfl) ?_
            refine kget F hK hP51 9 0 21 iX9 rfl rfl (by decide) (List.mem_of_getElem? (i := 6) rfl) rfl dX9_ticket_160 ?_
            rw [show (σ51 21 0) = ((σ 21 0) + 1) from by subst eσ51; subst eσ45; subst eσ43; subst eσ41; subst eσ38; first | rfl | (simp only [msend]; (repeat' split) <;> rfl)]
            refine lv_bipush (v := 77) hx hb dX9_ticket_163 (by decide) ?_
            refine kPSi F hK hP51 hD51 hS51 hA hl40.1 (c_X9_mix l G ((σ 21 0) + 1) 77) (fun _ => rfl) gX9_ticket_X9_mix rfl 2 rfl (by decide +kernel) ⟨Nat.le_of_ble_eq_true rfl, Nat.le_of_ble_eq_true rfl⟩ ⟨Nat.zero_le _, Nat.zero_le _⟩ (Nat.le_of_ble_eq_true rfl) rfl dX9_ticket_165 (fun r53 u53 H54 locs54 hw53 (hP54 : va_P G.1 vwCl (mW G h a σ51) H54) (hD54 : va_D A (mW G h a σ51)) hS54 => ?_)
            clear hP51 hD51 hS51
            have w53_0 : r53 = kmix ((σ 21 0) + 1) 77 := hw53
            refine kMst F hK hP54 hD54 hS54 22 14 9 rfl rfl (by decide) (Nat.le_of_ble_eq_true rfl) rfl dX9_ticket_168 (fun H55 locs55 σ55 eσ55 hP55 hD55 hS55 => ?_)
            clear hP54 hD54 hS54
            refine lv_aload_n hx hb dX9_ticket_169 rfl (lv_at hl40 1 rfl) ?_
            refine lv_dup hx hb dX9_ticket_170 rfl ?_
            refine kget F hK hP55 9 0 20 iX9 rfl rfl (by decide) (List.mem_of_getElem? (i := 4) rfl) rfl dX9_ticket_171 ?_
            rw [show (σ55 20 0) = (σ 20 0) from by subst eσ55; subst eσ51; subst eσ45; subst eσ43; subst eσ41; subst eσ38; first | rfl | (simp only [msend]; (repeat' split) <;> rfl)]
            rw [show (σ 20 0) = 1 from ok.2.2.2.1.1]
            refine lv_iconst (v := 1) hx hb dX9_ticket_174 (by decide) ?_
            refine lv_iadd hx hb dX9_ticket_175 ?_
            rw [show (1 + 1 : Int32) = 2 from by decide]
            refine kMput F hK hP55 hD55 hS55 20 iX9 rfl (by decide) (List.mem_of_getElem? (i := 4) rfl) rfl rfl rfl (Nat.le_of_ble_eq_true rfl) rfl dX9_ticket_176 (fun H57 locs57 σ57 eσ57 hP57 hD57 hS57 => ?_)
            clear hP55 hD55 hS55
            refine lv_aload_n hx hb dX9_ticket_179 rfl (lv_at hl40 1 rfl) ?_
            refine lv_iconst (v := 5) hx hb dX9_ticket_180 (by decide) ?_
            refine kWVv F hK hP57 hD57 hS57 hA hl40.1 (c_X9_clears l G h a σ57 5) 9 0 gX9_ticket_X9_clears rfl 1 rfl (by decide +kernel) ⟨Nat.le_of_ble_eq_true rfl, Nat.le_of_ble_eq_true rfl⟩ ⟨Nat.zero_le _, Nat.zero_le _⟩ rfl rfl (Nat.le_of_ble_eq_true rfl) rfl dX9_ticket_181 (fun σ_58 H59 locs59 hw58 (hP59 : va_P G.1 vwCl (mW G h a σ_58) H59) (hD59 : va_D A (mW G h a σ_58)) hS59 => ?_)
            clear hP57 hD57 hS57
            have w58_0 : σ_58 = mclr σ57 5 := hw58
            refine lv_aload_n hx hb dX9_ticket_184 rfl (lv_at hl40 1 rfl) ?_
            refine kget F hK hP59 9 0 29 iX9 rfl rfl (by decide) (List.mem_of_getElem? (i := 8) rfl) rfl dX9_ticket_185 ?_
            refine lv_iconst (v := 1) hx hb dX9_ticket_188 (by decide) ?_
            refine lv_aload_n hx hb dX9_ticket_189 rfl (lv_at hl40 1 rfl) ?_
            refine kget F hK hP59 9 0 21 iX9 rfl rfl (by decide) (List.mem_of_getElem? (i := 6) rfl) rfl dX9_ticket_190 ?_
            rw [show (σ_58 21 0) = ((σ 21 0) + 1) from by subst w58_0; subst eσ57; subst eσ55; subst eσ51; subst eσ45; subst eσ43; subst eσ41; subst eσ38; first | rfl | (simp only [msend]; (repeat' split) <;> rfl)]
            refine kMst F hK hP59 hD59 hS59 29 20 1 rfl rfl (by decide) (Nat.le_of_ble_eq_true rfl) rfl dX9_ticket_193 (fun H60 locs60 σ60 eσ60 hP60 hD60 hS60 => ?_)
            clear hP59 hD59 hS59
            refine lv_aload_n hx hb dX9_ticket_194 rfl (lv_at hl40 1 rfl) ?_
            refine kget F hK hP60 9 0 29 iX9 rfl rfl (by decide) (List.mem_of_getElem? (i := 8) rfl) rfl dX9_ticket_195 ?_
            refine lv_iconst (v := 2) hx hb dX9_ticket_198 (by decide) ?_
            refine lv_aload_n hx hb dX9_ticket_199 rfl (lv_at hl40 1 rfl) ?_
            refine kget F hK hP60 9 0 22 iX9 rfl rfl (by decide) (List.mem_of_getElem? (i := 5) rfl) rfl dX9_ticket_200 ?_
            refine lv_iload_n hx hb dX9_ticket_203 rfl (lv_at hl40 0 rfl) ?_
            refine lv_iconst (v := 4) hx hb dX9_ticket_204 (by decide) ?_
            refine lv_iadd hx hb dX9_ticket_205 ?_
            rw [show (5 + 4 : Int32) = 9 from by decide]
            refine kild F hK hP60 14 9 rfl rfl (by decide) (Nat.le_of_ble_eq_true rfl) dX9_ticket_206 ?_
            rw [show (σ60 22 9) = r53 from by subst eσ60; subst w58_0; subst eσ57; subst eσ55; subst eσ51; subst eσ45; subst eσ43; subst eσ41; subst eσ38; first | rfl | (simp only [msend]; (repeat' split) <;> rfl)]
            refine kMst F hK hP60 hD60 hS60 29 20 2 rfl rfl (by decide) (Nat.le_of_ble_eq_true rfl) rfl dX9_ticket_207 (fun H62 locs62 σ62 eσ62 hP62 hD62 hS62 => ?_)
            clear hP60 hD60 hS60
            refine lv_aload_n hx hb dX9_ticket_208 rfl (lv_at hl40 1 rfl) ?_
            refine kget F hK hP62 9 0 29 iX9 rfl rfl (by decide) (List.mem_of_getElem? (i := 8) rfl) rfl dX9_ticket_209 ?_
            refine lv_iconst (v := 3) hx hb dX9_ticket_212 (by decide) ?_
            refine lv_iload_n hx hb dX9_ticket_213 rfl (lv_at hl40 2 rfl) ?_
            refine kMst F hK hP62 hD62 hS62 29 20 3 rfl rfl (by decide) (Nat.le_of_ble_eq_true rfl) rfl dX9_ticket_214 (fun H63 locs63 σ63 eσ63 hP63 hD63 hS63 => ?_)
            clear hP62 hD62 hS62
            refine lv_aload_n hx hb dX9_ticket_215 rfl (lv_at hl40 1 rfl) ?_
            refine lv_iconst (v := 0) hx hb dX9_ticket_216 (by decide) ?_
            refine kWVv F hK hP63 hD63 hS63 hA hl40.1 (c_X9_sends l G h a σ63 0 (Mn 0) (by first | assumption | decide | omega) (by subst eσ63; subst eσ62; subst eσ60; subst w58_0; subst eσ57; subst eσ55; subst w53_0; subst eσ51; subst w49_0; subst w47_0; subst eσ45; subst eσ43; subst eσ41; subst eσ38; subst w1_0; exact (ok.2.1 0 (by decide)).1) ((ok.2.1 0 (by decide)).2)) 9 0 gX9_ticket_X9_sends rfl 1 rfl (by decide +kernel) ⟨Nat.le_of_ble_eq_true rfl, Nat.le_of_ble_eq_true rfl⟩ ⟨Nat.zero_le _, Nat.zero_le _⟩ rfl rfl (Nat.le_of_ble_eq_true rfl) rfl dX9_ticket_217 (fun σ_64 H65 locs65 hw64 (hP65 : va_P G.1 vwCl (mW G h a σ_64) H65) (hD65 : va_D A (mW G h a σ_64)) hS65 => ?_)
            clear hP63 hD63 hS63
            have w64_0 : σ_64 = msend σ63 0 (Mn 0) := hw64
            refine lv_aload_n hx hb dX9_ticket_220 rfl (lv_at hl40 1 rfl) ?_
            refine kget F hK hP65 9 0 21 iX9 rfl rfl (by decide) (List.mem_of_getElem? (i := 6) rfl) rfl dX9_ticket_221 ?_
            rw [show (σ_64 21 0) = ((σ 21 0) + 1) from by subst w64_0; subst eσ63; subst eσ62; subst eσ60; subst w58_0; subst eσ57; subst eσ55; subst eσ51; subst eσ45; subst eσ43; subst eσ41; subst eσ38; first | rfl | (simp only [msend]; (repeat' split) <;> rfl)]
            have q66 : (((σ 21 0) + 1) = (mtick σ v Mn 1).1) ∧ (σ_64 = (mtick σ v Mn 1).2) := by
              subst w64_0
              subst eσ63
              subst eσ62
              subst eσ60
              subst w58_0
              subst eσ57
              subst eσ55
              subst w53_0
              subst eσ51
              subst w49_0
              subst w47_0
              subst eσ45
              subst eσ43
              subst eσ41
              subst eσ38
              subst w1_0
              first | (simp only [mtick, kn0, kn1, kn2, mtickX, mtickY, mshift, c3, eq_true c4, eq_true c6, c37, eq_self, ↓reduceIte, and_self, and_true, true_and]; done) | (simp only [mtick, kn0, kn1, kn2, mtickX, mtickY, mshift, c3, eq_true c4, eq_true c6, c37, eq_self, ↓reduceIte, and_self, and_true, true_and]; (try and_intros) <;> rfl)
            exact kRi F hr hlocks hS65 dX9_ticket_224 σ_64 q66 hP65 hD65
          · exact absurd c37 (by decide)
        · skip
          refine lv_aload_n hx hb dX9_ticket_38 rfl (lv_at hl0 0 rfl) ?_
          refine kget F hK hP2 9 0 20 iX9 rfl rfl (by decide) (List.mem_of_getElem? (i := 4) rfl) rfl dX9_ticket_39 ?_
          rw [show (σ 20 0) = 2 from ok.2.2.2.1.1]
          refine lv_iconst (v := 3) hx hb dX9_ticket_42 (by decide) ?_
          refine lv_icmp_ne (tgt := 84) hx hb dX9_ticket_43 (by decide) (fun c67 => ?_) (fun c67 => ?_)
          · refine lv_aload_n hx hb dX9_ticket_84 rfl (lv_at hl0 0 rfl) ?_
            refine lv_dup hx hb dX9_ticket_85 rfl ?_
            refine kget F hK hP2 9 0 21 iX9 rfl rfl (by decide) (List.mem_of_getElem? (i := 6) rfl) rfl dX9_ticket_86 ?_
            refine lv_iconst (v := 1) hx hb dX9_ticket_89 (by decide) ?_
            refine lv_iadd hx hb dX9_ticket_90 ?_
            refine kMput F hK hP2 hD2 hS2 21 iX9 rfl (by decide) (List.mem_of_getElem? (i := 6) rfl) rfl rfl rfl (Nat.le_of_ble_eq_true rfl) rfl dX9_ticket_91 (fun H68 locs68 σ68 eσ68 hP68 hD68 hS68 => ?_)
            clear hP2 hD2 hS2
            refine lv_iconst (v := 5) hx hb dX9_ticket_94 (by decide) ?_
            refine lv_aload_n hx hb dX9_ticket_95 rfl (lv_at hl0 0 rfl) ?_
            refine kget F hK hP68 9 0 20 iX9 rfl rfl (by decide) (List.mem_of_getElem? (i := 4) rfl) rfl dX9_ticket_96 ?_
            rw [show (σ68 20 0) = (σ 20 0) from by subst eσ68; first | rfl | (simp only [msend]; (repeat' split) <;> rfl)]
            rw [show (σ 20 0) = 2 from ok.2.2.2.1.1]
            refine lv_imul hx hb dX9_ticket_99 ?_
            rw [show (5 * 2 : Int32) = 10 from by decide]
            refine lv_istore_n (lv' := [(2, .int 10), (0, .ref h), (1, .int v)]) hx hb dX9_ticket_100 rfl hl0 (by decide) rfl (fun ls70 hl70 => ?_)
            clear hl0
            refine lv_aload_n hx hb dX9_ticket_101 rfl (lv_at hl70 1 rfl) ?_
            refine kget F hK hP68 9 0 22 iX9 rfl rfl (by decide) (List.mem_of_getElem? (i := 5) rfl) rfl dX9_ticket_102 ?_
            refine lv_iload_n hx hb dX9_ticket_105 rfl (lv_at hl70 0 rfl) ?_
            refine lv_aload_n hx hb dX9_ticket_106 rfl (lv_at hl70 1 rfl) ?_
            refine kget F hK hP68 9 0 21 iX9 rfl rfl (by decide) (List.mem_of_getElem? (i := 6) rfl) rfl dX9_ticket_107 ?_
            rw [show (σ68 21 0) = ((σ 21 0) + 1) from by subst eσ68; first | rfl | (simp only [msend]; (repeat' split) <;> rfl)]
            refine kMst F hK hP68 hD68 hS68 22 14 10 rfl rfl (by decide) (Nat.le_of_ble_eq_true rfl) rfl dX9_ticket_110 (fun H71 locs71 σ71 eσ71 hP71 hD71 hS71 => ?_)
            clear hP68 hD68 hS68
            refine lv_aload_n hx hb dX9_ticket_111 rfl (lv_at hl70 1 rfl) ?_
            refine kget F hK hP71 9 0 22 iX9 rfl rfl (by decide) (List.mem_of_getElem? (i := 5) rfl) rfl dX9_ticket_112 ?_
            refine lv_iload_n hx hb dX9_ticket_115 rfl (lv_at hl70 0 rfl) ?_
            refine lv_iconst (v := 1) hx hb dX9_ticket_116 (by decide) ?_
            refine lv_iadd hx hb dX9_ticket_117 ?_
            rw [show (10 + 1 : Int32) = 11 from by decide]
            refine lv_iload_n hx hb dX9_ticket_118 rfl (lv_at hl70 2 rfl) ?_
            refine kMst F hK hP71 hD71 hS71 22 14 11 rfl rfl (by decide) (Nat.le_of_ble_eq_true rfl) rfl dX9_ticket_119 (fun H73 locs73 σ73 eσ73 hP73 hD73 hS73 => ?_)
            clear hP71 hD71 hS71
            refine lv_aload_n hx hb dX9_ticket_120 rfl (lv_at hl70 1 rfl) ?_
            refine kget F hK hP73 9 0 22 iX9 rfl rfl (by decide) (List.mem_of_getElem? (i := 5) rfl) rfl dX9_ticket_121 ?_
            refine lv_iload_n hx hb dX9_ticket_124 rfl (lv_at hl70 0 rfl) ?_
            refine lv_iconst (v := 2) hx hb dX9_ticket_125 (by decide) ?_
            refine lv_iadd hx hb dX9_ticket_126 ?_
            rw [show (10 + 2 : Int32) = 12 from by decide]
            refine lv_aload_n hx hb dX9_ticket_127 rfl (lv_at hl70 1 rfl) ?_
            refine kget F hK hP73 9 0 14 iX9 rfl rfl (by decide) (List.mem_of_getElem? (i := 7) rfl) rfl dX9_ticket_128 ?_
            rw [show (σ73 14 0) = (σ 14 0) from by subst eσ73; subst eσ71; subst eσ68; first | rfl | (simp only [msend]; (repeat' split) <;> rfl)]
            refine kMst F hK hP73 hD73 hS73 22 14 12 rfl rfl (by decide) (Nat.le_of_ble_eq_true rfl) rfl dX9_ticket_131 (fun H75 locs75 σ75 eσ75 hP75 hD75 hS75 => ?_)
            clear hP73 hD73 hS73
            refine lv_aload_n hx hb dX9_ticket_132 rfl (lv_at hl70 1 rfl) ?_
            refine kget F hK hP75 9 0 22 iX9 rfl rfl (by decide) (List.mem_of_getElem? (i := 5) rfl) rfl dX9_ticket_133 ?_
            refine lv_iload_n hx hb dX9_ticket_136 rfl (lv_at hl70 0 rfl) ?_
            refine lv_iconst (v := 3) hx hb dX9_ticket_137 (by decide) ?_
            refine lv_iadd hx hb dX9_ticket_138 ?_
            rw [show (10 + 3 : Int32) = 13 from by decide]
            refine lv_aload_n hx hb dX9_ticket_139 rfl (lv_at hl70 1 rfl) ?_
            refine lv_iconst (v := 1) hx hb dX9_ticket_140 (by decide) ?_
            refine kWVi F hK hP75 hD75 hS75 hA hl70.1 (c_X9_mainOf l G h a σ75 1 (by first | assumption | decide | omega)) 9 0 gX9_ticket_X9_mainOf rfl 1 rfl (by decide +kernel) ⟨Nat.le_of_ble_eq_true rfl, Nat.le_of_ble_eq_true rfl⟩ ⟨Nat.zero_le _, Nat.zero_le _⟩ rfl rfl (Nat.le_of_ble_eq_true rfl) rfl dX9_ticket_141 (fun r77 u77 H78 locs78 hw77 (hP78 : va_P G.1 vwCl (mW G h a σ75) H78) (hD78 : va_D A (mW G h a σ75)) hS78 => ?_)
            clear hP75 hD75 hS75
            have w77_0 : r77 = mmain σ75 1 := hw77
            refine lv_aload_n hx hb dX9_ticket_144 rfl (lv_at hl70 1 rfl) ?_
            refine kget F hK hP78 9 0 21 iX9 rfl rfl (by decide) (List.mem_of_getElem? (i := 6) rfl) rfl dX9_ticket_145 ?_
            rw [show (σ75 21 0) = ((σ 21 0) + 1) from by subst eσ75; subst eσ73; subst eσ71; subst eσ68; first | rfl | (simp only [msend]; (repeat' split) <;> rfl)]
            refine kPSi F hK hP78 hD78 hS78 hA hl70.1 (c_X9_mix l G r77 ((σ 21 0) + 1)) (fun _ => rfl) gX9_ticket_X9_mix rfl 2 rfl (by decide +kernel) ⟨Nat.le_of_ble_eq_true rfl, Nat.le_of_ble_eq_true rfl⟩ ⟨Nat.zero_le _, Nat.zero_le _⟩ (Nat.le_of_ble_eq_true rfl) rfl dX9_ticket_148 (fun r79 u79 H80 locs80 hw79 (hP80 : va_P G.1 vwCl (mW G h a σ75) H80) (hD80 : va_D A (mW G h a σ75)) hS80 => ?_)
            clear hP78 hD78 hS78
            have w79_0 : r79 = kmix r77 ((σ 21 0) + 1) := hw79
            refine kMst F hK hP80 hD80 hS80 22 14 13 rfl rfl (by decide) (Nat.le_of_ble_eq_true rfl) rfl dX9_ticket_151 (fun H81 locs81 σ81 eσ81 hP81 hD81 hS81 => ?_)
            clear hP80 hD80 hS80
            refine lv_aload_n hx hb dX9_ticket_152 rfl (lv_at hl70 1 rfl) ?_
            refine kget F hK hP81 9 0 22 iX9 rfl rfl (by decide) (List.mem_of_getElem? (i := 5) rfl) rfl dX9_ticket_153 ?_
            refine lv_iload_n hx hb dX9_ticket_156 rfl (lv_at hl70 0 rfl) ?_
            refine lv_iconst (v := 4) hx hb dX9_ticket_157 (by decide) ?_
            refine lv_iadd hx hb dX9_ticket_158 ?_
            rw [show (10 + 4 : Int32) = 14 from by decide]
            refine lv_aload_n hx hb dX9_ticket_159 rfl (lv_at hl70 1 rfl) ?_
            refine kget F hK hP81 9 0 21 iX9 rfl rfl (by decide) (List.mem_of_getElem? (i := 6) rfl) rfl dX9_ticket_160 ?_
            rw [show (σ81 21 0) = ((σ 21 0) + 1) from by subst eσ81; subst eσ75; subst eσ73; subst eσ71; subst eσ68; first | rfl | (simp only [msend]; (repeat' split) <;> rfl)]
            refine lv_bipush (v := 77) hx hb dX9_ticket_163 (by decide) ?_
            refine kPSi F hK hP81 hD81 hS81 hA hl70.1 (c_X9_mix l G ((σ 21 0) + 1) 77) (fun _ => rfl) gX9_ticket_X9_mix rfl 2 rfl (by decide +kernel) ⟨Nat.le_of_ble_eq_true rfl, Nat.le_of_ble_eq_true rfl⟩ ⟨Nat.zero_le _, Nat.zero_le _⟩ (Nat.le_of_ble_eq_true rfl) rfl dX9_ticket_165 (fun r83 u83 H84 locs84 hw83 (hP84 : va_P G.1 vwCl (mW G h a σ81) H84) (hD84 : va_D A (mW G h a σ81)) hS84 => ?_)
            clear hP81 hD81 hS81
            have w83_0 : r83 = kmix ((σ 21 0) + 1) 77 := hw83
            refine kMst F hK hP84 hD84 hS84 22 14 14 rfl rfl (by decide) (Nat.le_of_ble_eq_true rfl) rfl dX9_ticket_168 (fun H85 locs85 σ85 eσ85 hP85 hD85 hS85 => ?_)
            clear hP84 hD84 hS84
            refine lv_aload_n hx hb dX9_ticket_169 rfl (lv_at hl70 1 rfl) ?_
            refine lv_dup hx hb dX9_ticket_170 rfl ?_
            refine kget F hK hP85 9 0 20 iX9 rfl rfl (by decide) (List.mem_of_getElem? (i := 4) rfl) rfl dX9_ticket_171 ?_
            rw [show (σ85 20 0) = (σ 20 0) from by subst eσ85; subst eσ81; subst eσ75; subst eσ73; subst eσ71; subst eσ68; first | rfl | (simp only [msend]; (repeat' split) <;> rfl)]
            rw [show (σ 20 0) = 2 from ok.2.2.2.1.1]
            refine lv_iconst (v := 1) hx hb dX9_ticket_174 (by decide) ?_
            refine lv_iadd hx hb dX9_ticket_175 ?_
            rw [show (2 + 1 : Int32) = 3 from by decide]
            refine kMput F hK hP85 hD85 hS85 20 iX9 rfl (by decide) (List.mem_of_getElem? (i := 4) rfl) rfl rfl rfl (Nat.le_of_ble_eq_true rfl) rfl dX9_ticket_176 (fun H87 locs87 σ87 eσ87 hP87 hD87 hS87 => ?_)
            clear hP85 hD85 hS85
            refine lv_aload_n hx hb dX9_ticket_179 rfl (lv_at hl70 1 rfl) ?_
            refine lv_iconst (v := 5) hx hb dX9_ticket_180 (by decide) ?_
            refine kWVv F hK hP87 hD87 hS87 hA hl70.1 (c_X9_clears l G h a σ87 5) 9 0 gX9_ticket_X9_clears rfl 1 rfl (by decide +kernel) ⟨Nat.le_of_ble_eq_true rfl, Nat.le_of_ble_eq_true rfl⟩ ⟨Nat.zero_le _, Nat.zero_le _⟩ rfl rfl (Nat.le_of_ble_eq_true rfl) rfl dX9_ticket_181 (fun σ_88 H89 locs89 hw88 (hP89 : va_P G.1 vwCl (mW G h a σ_88) H89) (hD89 : va_D A (mW G h a σ_88)) hS89 => ?_)
            clear hP87 hD87 hS87
            have w88_0 : σ_88 = mclr σ87 5 := hw88
            refine lv_aload_n hx hb dX9_ticket_184 rfl (lv_at hl70 1 rfl) ?_
            refine kget F hK hP89 9 0 29 iX9 rfl rfl (by decide) (List.mem_of_getElem? (i := 8) rfl) rfl dX9_ticket_185 ?_
            refine lv_iconst (v := 1) hx hb dX9_ticket_188 (by decide) ?_
            refine lv_aload_n hx hb dX9_ticket_189 rfl (lv_at hl70 1 rfl) ?_
            refine kget F hK hP89 9 0 21 iX9 rfl rfl (by decide) (List.mem_of_getElem? (i := 6) rfl) rfl dX9_ticket_190 ?_
            rw [show (σ_88 21 0) = ((σ 21 0) + 1) from by subst w88_0; subst eσ87; subst eσ85; subst eσ81; subst eσ75; subst eσ73; subst eσ71; subst eσ68; first | rfl | (simp only [msend]; (repeat' split) <;> rfl)]
            refine kMst F hK hP89 hD89 hS89 29 20 1 rfl rfl (by decide) (Nat.le_of_ble_eq_true rfl) rfl dX9_ticket_193 (fun H90 locs90 σ90 eσ90 hP90 hD90 hS90 => ?_)
            clear hP89 hD89 hS89
            refine lv_aload_n hx hb dX9_ticket_194 rfl (lv_at hl70 1 rfl) ?_
            refine kget F hK hP90 9 0 29 iX9 rfl rfl (by decide) (List.mem_of_getElem? (i := 8) rfl) rfl dX9_ticket_195 ?_
            refine lv_iconst (v := 2) hx hb dX9_ticket_198 (by decide) ?_
            refine lv_aload_n hx hb dX9_ticket_199 rfl (lv_at hl70 1 rfl) ?_
            refine kget F hK hP90 9 0 22 iX9 rfl rfl (by decide) (List.mem_of_getElem? (i := 5) rfl) rfl dX9_ticket_200 ?_
            refine lv_iload_n hx hb dX9_ticket_203 rfl (lv_at hl70 0 rfl) ?_
            refine lv_iconst (v := 4) hx hb dX9_ticket_204 (by decide) ?_
            refine lv_iadd hx hb dX9_ticket_205 ?_
            rw [show (10 + 4 : Int32) = 14 from by decide]
            refine kild F hK hP90 14 14 rfl rfl (by decide) (Nat.le_of_ble_eq_true rfl) dX9_ticket_206 ?_
            rw [show (σ90 22 14) = r83 from by subst eσ90; subst w88_0; subst eσ87; subst eσ85; subst eσ81; subst eσ75; subst eσ73; subst eσ71; subst eσ68; first | rfl | (simp only [msend]; (repeat' split) <;> rfl)]
            refine kMst F hK hP90 hD90 hS90 29 20 2 rfl rfl (by decide) (Nat.le_of_ble_eq_true rfl) rfl dX9_ticket_207 (fun H92 locs92 σ92 eσ92 hP92 hD92 hS92 => ?_)
            clear hP90 hD90 hS90
            refine lv_aload_n hx hb dX9_ticket_208 rfl (lv_at hl70 1 rfl) ?_
            refine kget F hK hP92 9 0 29 iX9 rfl rfl (by decide) (List.mem_of_getElem? (i := 8) rfl) rfl dX9_ticket_209 ?_
            refine lv_iconst (v := 3) hx hb dX9_ticket_212 (by decide) ?_
            refine lv_iload_n hx hb dX9_ticket_213 rfl (lv_at hl70 2 rfl) ?_
            refine kMst F hK hP92 hD92 hS92 29 20 3 rfl rfl (by decide) (Nat.le_of_ble_eq_true rfl) rfl dX9_ticket_214 (fun H93 locs93 σ93 eσ93 hP93 hD93 hS93 => ?_)
            clear hP92 hD92 hS92
            refine lv_aload_n hx hb dX9_ticket_215 rfl (lv_at hl70 1 rfl) ?_
            refine lv_iconst (v := 0) hx hb dX9_ticket_216 (by decide) ?_
            refine kWVv F hK hP93 hD93 hS93 hA hl70.1 (c_X9_sends l G h a σ93 0 (Mn 0) (by first | assumption | decide | omega) (by subst eσ93; subst eσ92; subst eσ90; subst w88_0; subst eσ87; subst eσ85; subst w83_0; subst eσ81; subst w79_0; subst w77_0; subst eσ75; subst eσ73; subst eσ71; subst eσ68; subst w1_0; exact (ok.2.1 0 (by decide)).1) ((ok.2.1 0 (by decide)).2)) 9 0 gX9_ticket_X9_sends rfl 1 rfl (by decide +kernel) ⟨Nat.le_of_ble_eq_true rfl, Nat.le_of_ble_eq_true rfl⟩ ⟨Nat.zero_le _, Nat.zero_le _⟩ rfl rfl (Nat.le_of_ble_eq_true rfl) rfl dX9_ticket_217 (fun σ_94 H95 locs95 hw94 (hP95 : va_P G.1 vwCl (mW G h a σ_94) H95) (hD95 : va_D A (mW G h a σ_94)) hS95 => ?_)
            clear hP93 hD93 hS93
            have w94_0 : σ_94 = msend σ93 0 (Mn 0) := hw94
            refine lv_aload_n hx hb dX9_ticket_220 rfl (lv_at hl70 1 rfl) ?_
            refine kget F hK hP95 9 0 21 iX9 rfl rfl (by decide) (List.mem_of_getElem? (i := 6) rfl) rfl dX9_ticket_221 ?_
            rw [show (σ_94 21 0) = ((σ 21 0) + 1) from by subst w94_0; subst eσ93; subst eσ92; subst eσ90; subst w88_0; subst eσ87; subst eσ85; subst eσ81; subst eσ75; subst eσ73; subst eσ71; subst eσ68; first | rfl | (simp only [msend]; (repeat' split) <;> rfl)]
            have q96 : (((σ 21 0) + 1) = (mtick σ v Mn 2).1) ∧ (σ_94 = (mtick σ v Mn 2).2) := by
              subst w94_0
              subst eσ93
              subst eσ92
              subst eσ90
              subst w88_0
              subst eσ87
              subst eσ85
              subst w83_0
              subst eσ81
              subst w79_0
              subst w77_0
              subst eσ75
              subst eσ73
              subst eσ71
              subst eσ68
              subst w1_0
              first | (simp only [mtick, kn0, kn1, kn2, mtickX, mtickY, mshift, c3, eq_true c4, eq_true c6, c67, eq_self, ↓reduceIte, and_self, and_true, true_and]; done) | (simp only [mtick, kn0, kn1, kn2, mtickX, mtickY, mshift, c3, eq_true c4, eq_true c6, c67, eq_self, ↓reduceIte, and_self, and_true, true_and]; (try and_intros) <;> rfl)
            exact kRi F hr hlocks hS95 dX9_ticket_224 σ_94 q96 hP95 hD95
          · exact absurd c67 (by decide)
        · skip
          refine lv_aload_n hx hb dX9_ticket_38 rfl (lv_at hl0 0 rfl) ?_
          refine kget F hK hP2 9 0 20 iX9 rfl rfl (by decide) (List.mem_of_getElem? (i := 4) rfl) rfl dX9_ticket_39 ?_
          rw [show (σ 20 0) = 3 from ok.2.2.2.1.1]
          refine lv_iconst (v := 3) hx hb dX9_ticket_42 (by decide) ?_
          refine lv_icmp_ne (tgt := 84) hx hb dX9_ticket_43 (by decide) (fun c97 => ?_) (fun c97 => ?_)
          · exact absurd (by decide) c97
          · refine lv_iconst (v := 0) hx hb dX9_ticket_46 (by decide) ?_
            refine lv_istore_n (lv' := [(2, .int 0), (0, .ref h), (1, .int v)]) hx hb dX9_ticket_47 rfl hl0 (by decide) rfl (fun ls98 hl98 => ?_)
            clear hl0
            refine lv_iload_n hx hb dX9_ticket_48 rfl (lv_at hl98 0 rfl) ?_
            refine lv_bipush (v := 10) hx hb dX9_ticket_49 (by decide) ?_
            refine lv_icmp_ge (tgt := 74) hx hb dX9_ticket_51 (by decide) (fun c99 => ?_) (fun c99 => ?_)
            · exact absurd c99 (by decide)
            · refine lv_aload_n hx hb dX9_ticket_54 rfl (lv_at hl98 1 rfl) ?_
              refine kget F hK hP2 9 0 22 iX9 rfl rfl (by decide) (List.mem_of_getElem? (i := 5) rfl) rfl dX9_ticket_55 ?_
              refine lv_iload_n hx hb dX9_ticket_58 rfl (lv_at hl98 0 rfl) ?_
              refine lv_aload_n hx hb dX9_ticket_59 rfl (lv_at hl98 1 rfl) ?_
              refine kget F hK hP2 9 0 22 iX9 rfl rfl (by decide) (List.mem_of_getElem? (i := 5) rfl) rfl dX9_ticket_60 ?_
              refine lv_iload_n hx hb dX9_ticket_63 rfl (lv_at hl98 0 rfl) ?_
              refine lv_iconst (v := 5) hx hb dX9_ticket_64 (by decide) ?_
              refine lv_iadd hx hb dX9_ticket_65 ?_
              rw [show (0 + 5 : Int32) = 5 from by decide]
              refine kild F hK hP2 14 5 rfl rfl (by decide) (Nat.le_of_ble_eq_true rfl) dX9_ticket_66 ?_
              refine kMst F hK hP2 hD2 hS2 22 14 0 rfl rfl (by decide) (Nat.le_of_ble_eq_true rfl) rfl dX9_ticket_67 (fun H101 locs101 σ101 eσ101 hP101 hD101 hS101 => ?_)
              clear hP2 hD2 hS2
              refine lv_iinc (v := 1) (lv' := [(2, .int 1), (0, .ref h), (1, .int v)]) hx hb dX9_ticket_68 hl98 (k := 0) rfl (by decide) (by decide) rfl (fun ls102 hl102 => ?_)
              clear hl98
              refine lv_goto (tgt := 48) hx hb dX9_ticket_71 (by decide) ?_
              refine lv_iload_n hx hb dX9_ticket_48 rfl (lv_at hl102 0 rfl) ?_
              refine lv_bipush (v := 10) hx hb dX9_ticket_49 (by decide) ?_
              refine lv_icmp_ge (tgt := 74) hx hb dX9_ticket_51 (by decide) (fun c103 => ?_) (fun c103 => ?_)
              · exact absurd c103 (by decide)
              · refine lv_aload_n hx hb dX9_ticket_54 rfl (lv_at hl102 1 rfl) ?_
                refine kget F hK hP101 9 0 22 iX9 rfl rfl (by decide) (List.mem_of_getElem? (i := 5) rfl) rfl dX9_ticket_55 ?_
                refine lv_iload_n hx hb dX9_ticket_58 rfl (lv_at hl102 0 rfl) ?_
                refine lv_aload_n hx hb dX9_ticket_59 rfl (lv_at hl102 1 rfl) ?_
                refine kget F hK hP101 9 0 22 iX9 rfl rfl (by decide) (List.mem_of_getElem? (i := 5) rfl) rfl dX9_ticket_60 ?_
                refine lv_iload_n hx hb dX9_ticket_63 rfl (lv_at hl102 0 rfl) ?_
                refine lv_iconst (v := 5) hx hb dX9_ticket_64 (by decide) ?_
                refine lv_iadd hx hb dX9_ticket_65 ?_
                rw [show (1 + 5 : Int32) = 6 from by decide]
                refine kild F hK hP101 14 6 rfl rfl (by decide) (Nat.le_of_ble_eq_true rfl) dX9_ticket_66 ?_
                rw [show (σ101 22 6) = (σ 22 6) from by subst eσ101; first | rfl | (simp only [msend]; (repeat' split) <;> rfl)]
                refine kMst F hK hP101 hD101 hS101 22 14 1 rfl rfl (by decide) (Nat.le_of_ble_eq_true rfl) rfl dX9_ticket_67 (fun H105 locs105 σ105 eσ105 hP105 hD105 hS105 => ?_)
                clear hP101 hD101 hS101
                refine lv_iinc (v := 2) (lv' := [(2, .int 2), (0, .ref h), (1, .int v)]) hx hb dX9_ticket_68 hl102 (k := 0) rfl (by decide) (by decide) rfl (fun ls106 hl106 => ?_)
                clear hl102
                refine lv_goto (tgt := 48) hx hb dX9_ticket_71 (by decide) ?_
                refine lv_iload_n hx hb dX9_ticket_48 rfl (lv_at hl106 0 rfl) ?_
                refine lv_bipush (v := 10) hx hb dX9_ticket_49 (by decide) ?_
                refine lv_icmp_ge (tgt := 74) hx hb dX9_ticket_51 (by decide) (fun c107 => ?_) (fun c107 => ?_)
                · exact absurd c107 (by decide)
                · refine lv_aload_n hx hb dX9_ticket_54 rfl (lv_at hl106 1 rfl) ?_
                  refine kget F hK hP105 9 0 22 iX9 rfl rfl (by decide) (List.mem_of_getElem? (i := 5) rfl) rfl dX9_ticket_55 ?_
                  refine lv_iload_n hx hb dX9_ticket_58 rfl (lv_at hl106 0 rfl) ?_
                  refine lv_aload_n hx hb dX9_ticket_59 rfl (lv_at hl106 1 rfl) ?_
                  refine kget F hK hP105 9 0 22 iX9 rfl rfl (by decide) (List.mem_of_getElem? (i := 5) rfl) rfl dX9_ticket_60 ?_
                  refine lv_iload_n hx hb dX9_ticket_63 rfl (lv_at hl106 0 rfl) ?_
                  refine lv_iconst (v := 5) hx hb dX9_ticket_64 (by decide) ?_
                  refine lv_iadd hx hb dX9_ticket_65 ?_
                  rw [show (2 + 5 : Int32) = 7 from by decide]
                  refine kild F hK hP105 14 7 rfl rfl (by decide) (Nat.le_of_ble_eq_true rfl) dX9_ticket_66 ?_
                  rw [show (σ105 22 7) = (σ 22 7) from by subst eσ105; subst eσ101; first | rfl | (simp only [msend]; (repeat' split) <;> rfl)]
                  refine kMst F hK hP105 hD105 hS105 22 14 2 rfl rfl (by decide) (Nat.le_of_ble_eq_true rfl) rfl dX9_ticket_67 (fun H109 locs109 σ109 eσ109 hP109 hD109 hS109 => ?_)
                  clear hP105 hD105 hS105
                  refine lv_iinc (v := 3) (lv' := [(2, .int 3), (0, .ref h), (1, .int v)]) hx hb dX9_ticket_68 hl106 (k := 0) rfl (by decide) (by decide) rfl (fun ls110 hl110 => ?_)
                  clear hl106
                  refine lv_goto (tgt := 48) hx hb dX9_ticket_71 (by decide) ?_
                  refine lv_iload_n hx hb dX9_ticket_48 rfl (lv_at hl110 0 rfl) ?_
                  refine lv_bipush (v := 10) hx hb dX9_ticket_49 (by decide) ?_
                  refine lv_icmp_ge (tgt := 74) hx hb dX9_ticket_51 (by decide) (fun c111 => ?_) (fun c111 => ?_)
                  · exact absurd c111 (by decide)
                  · refine lv_aload_n hx hb dX9_ticket_54 rfl (lv_at hl110 1 rfl) ?_
                    refine kget F hK hP109 9 0 22 iX9 rfl rfl (by decide) (List.mem_of_getElem? (i := 5) rfl) rfl dX9_ticket_55 ?_
                    refine lv_iload_n hx hb dX9_ticket_58 rfl (lv_at hl110 0 rfl) ?_
                    refine lv_aload_n hx hb dX9_ticket_59 rfl (lv_at hl110 1 rfl) ?_
                    refine kget F hK hP109 9 0 22 iX9 rfl rfl (by decide) (List.mem_of_getElem? (i := 5) rfl) rfl dX9_ticket_60 ?_
                    refine lv_iload_n hx hb dX9_ticket_63 rfl (lv_at hl110 0 rfl) ?_
                    refine lv_iconst (v := 5) hx hb dX9_ticket_64 (by decide) ?_
                    refine lv_iadd hx hb dX9_ticket_65 ?_
                    rw [show (3 + 5 : Int32) = 8 from by decide]
                    refine kild F hK hP109 14 8 rfl rfl (by decide) (Nat.le_of_ble_eq_true rfl) dX9_ticket_66 ?_
                    rw [show (σ109 22 8) = (σ 22 8) from by subst eσ109; subst eσ105; subst eσ101; first | rfl | (simp only [msend]; (repeat' split) <;> rfl)]
                    refine kMst F hK hP109 hD109 hS109 22 14 3 rfl rfl (by decide) (Nat.le_of_ble_eq_true rfl) rfl dX9_ticket_67 (fun H113 locs113 σ113 eσ113 hP113 hD113 hS113 => ?_)
                    clear hP109 hD109 hS109
                    refine lv_iinc (v := 4) (lv' := [(2, .int 4), (0, .ref h), (1, .int v)]) hx hb dX9_ticket_68 hl110 (k := 0) rfl (by decide) (by decide) rfl (fun ls114 hl114 => ?_)
                    clear hl110
                    refine lv_goto (tgt := 48) hx hb dX9_ticket_71 (by decide) ?_
                    refine lv_iload_n hx hb dX9_ticket_48 rfl (lv_at hl114 0 rfl) ?_
                    refine lv_bipush (v := 10) hx hb dX9_ticket_49 (by decide) ?_
                    refine lv_icmp_ge (tgt := 74) hx hb dX9_ticket_51 (by decide) (fun c115 => ?_) (fun c115 => ?_)
                    · exact absurd c115 (by decide)
                    · refine lv_aload_n hx hb dX9_ticket_54 rfl (lv_at hl114 1 rfl) ?_
                      refine kget F hK hP113 9 0 22 iX9 rfl rfl (by decide) (List.mem_of_getElem? (i := 5) rfl) rfl dX9_ticket_55 ?_
                      refine lv_iload_n hx hb dX9_ticket_58 rfl (lv_at hl114 0 rfl) ?_
                      refine lv_aload_n hx hb dX9_ticket_59 rfl (lv_at hl114 1 rfl) ?_
                      refine kget F hK hP113 9 0 22 iX9 rfl rfl (by decide) (List.mem_of_getElem? (i := 5) rfl) rfl dX9_ticket_60 ?_
                      refine lv_iload_n hx hb dX9_ticket_63 rfl (lv_at hl114 0 rfl) ?_
                      refine lv_iconst (v := 5) hx hb dX9_ticket_64 (by decide) ?_
                      refine lv_iadd hx hb dX9_ticket_65 ?_
                      rw [show (4 + 5 : Int32) = 9 from by decide]
                      refine kild F hK hP113 14 9 rfl rfl (by decide) (Nat.le_of_ble_eq_true rfl) dX9_ticket_66 ?_
                      rw [show (σ113 22 9) = (σ 22 9) from by subst eσ113; subst eσ109; subst eσ105; subst eσ101; first | rfl | (simp only [msend]; (repeat' split) <;> rfl)]
                      refine kMst F hK hP113 hD113 hS113 22 14 4 rfl rfl (by decide) (Nat.le_of_ble_eq_true rfl) rfl dX9_ticket_67 (fun H117 locs117 σ117 eσ117 hP117 hD117 hS117 => ?_)
                      clear hP113 hD113 hS113
                      refine lv_iinc (v := 5) (lv' := [(2, .int 5), (0, .ref h), (1, .int v)]) hx hb dX9_ticket_68 hl114 (k := 0) rfl (by decide) (by decide) rfl (fun ls118 hl118 => ?_)
                      clear hl114
                      refine lv_goto (tgt := 48) hx hb dX9_ticket_71 (by decide) ?_
                      refine lv_iload_n hx hb dX9_ticket_48 rfl (lv_at hl118 0 rfl) ?_
                      refine lv_bipush (v := 10) hx hb dX9_ticket_49 (by decide) ?_
                      refine lv_icmp_ge (tgt := 74) hx hb dX9_ticket_51 (by decide) (fun c119 => ?_) (fun c119 => ?_)
                      · exact absurd c119 (by decide)
                      · refine lv_aload_n hx hb dX9_ticket_54 rfl (lv_at hl118 1 rfl) ?_
                        refine kget F hK hP117 9 0 22 iX9 rfl rfl (by decide) (List.mem_of_getElem? (i := 5) rfl) rfl dX9_ticket_55 ?_
                        refine lv_iload_n hx hb dX9_ticket_58 rfl (lv_at hl118 0 rfl) ?_
                        refine lv_aload_n hx hb dX9_ticket_59 rfl (lv_at hl118 1 rfl) ?_
                        refine kget F hK hP117 9 0 22 iX9 rfl rfl (by decide) (List.mem_of_getElem? (i := 5) rfl) rfl dX9_ticket_60 ?_
                        refine lv_iload_n hx hb dX9_ticket_63 rfl (lv_at hl118 0 rfl) ?_
                        refine lv_iconst (v := 5) hx hb dX9_ticket_64 (by decide) ?_
                        refine lv_iadd hx hb dX9_ticket_65 ?_
                        rw [show (5 + 5 : Int32) = 10 from by decide]
                        refine kild F hK hP117 14 10 rfl rfl (by decide) (Nat.le_of_ble_eq_true rfl) dX9_ticket_66 ?_
                        rw [show (σ117 22 10) = (σ 22 10) from by subst eσ117; subst eσ113; subst eσ109; subst eσ105; subst eσ101; first | rfl | (simp only [msend]; (repeat' split) <;> rfl)]
                        refine kMst F hK hP117 hD117 hS117 22 14 5 rfl rfl (by decide) (Nat.le_of_ble_eq_true rfl) rfl dX9_ticket_67 (fun H121 locs121 σ121 eσ121 hP121 hD121 hS121 => ?_)
                        clear hP117 hD117 hS117
                        refine lv_iinc (v := 6) (lv' := [(2, .int 6), (0, .ref h), (1, .int v)]) hx hb dX9_ticket_68 hl118 (k := 0) rfl (by decide) (by decide) rfl (fun ls122 hl122 => ?_)
                        clear hl118
                        refine lv_goto (tgt := 48) hx hb dX9_ticket_71 (by decide) ?_
                        refine lv_iload_n hx hb dX9_ticket_48 rfl (lv_at hl122 0 rfl) ?_
                        refine lv_bipush (v := 10) hx hb dX9_ticket_49 (by decide) ?_
                        refine lv_icmp_ge (tgt := 74) hx hb dX9_ticket_51 (by decide) (fun c123 => ?_) (fun c123 => ?_)
                        · exact absurd c123 (by decide)
                        · refine lv_aload_n hx hb dX9_ticket_54 rfl (lv_at hl122 1 rfl) ?_
                          refine kget F hK hP121 9 0 22 iX9 rfl rfl (by decide) (List.mem_of_getElem? (i := 5) rfl) rfl dX9_ticket_55 ?_
                          refine lv_iload_n hx hb dX9_ticket_58 rfl (lv_at hl122 0 rfl) ?_
                          refine lv_aload_n hx hb dX9_ticket_59 rfl (lv_at hl122 1 rfl) ?_
                          refine kget F hK hP121 9 0 22 iX9 rfl rfl (by decide) (List.mem_of_getElem? (i := 5) rfl) rfl dX9_ticket_60 ?_
                          refine lv_iload_n hx hb dX9_ticket_63 rfl (lv_at hl122 0 rfl) ?_
                          refine lv_iconst (v := 5) hx hb dX9_ticket_64 (by decide) ?_
                          refine lv_iadd hx hb dX9_ticket_65 ?_
                          rw [show (6 + 5 : Int32) = 11 from by decide]
                          refine kild F hK hP121 14 11 rfl rfl (by decide) (Nat.le_of_ble_eq_true rfl) dX9_ticket_66 ?_
                          rw [show (σ121 22 11) = (σ 22 11) from by subst eσ121; subst eσ117; subst eσ113; subst eσ109; subst eσ105; subst eσ101; first | rfl | (simp only [msend]; (repeat' split) <;> rfl)]
                          refine kMst F hK hP121 hD121 hS121 22 14 6 rfl rfl (by decide) (Nat.le_of_ble_eq_true rfl) rfl dX9_ticket_67 (fun H125 locs125 σ125 eσ125 hP125 hD125 hS125 => ?_)
                          clear hP121 hD121 hS121
                          refine lv_iinc (v := 7) (lv' := [(2, .int 7), (0, .ref h), (1, .int v)]) hx hb dX9_ticket_68 hl122 (k := 0) rfl (by decide) (by decide) rfl (fun ls126 hl126 => ?_)
                          clear hl122
                          refine lv_goto (tgt := 48) hx hb dX9_ticket_71 (by decide) ?_
                          refine lv_iload_n hx hb dX9_ticket_48 rfl (lv_at hl126 0 rfl) ?_
                          refine lv_bipush (v := 10) hx hb dX9_ticket_49 (by decide) ?_
                          refine lv_icmp_ge (tgt := 74) hx hb dX9_ticket_51 (by decide) (fun c127 => ?_) (fun c127 => ?_)
                          · exact absurd c127 (by decide)
                          · refine lv_aload_n hx hb dX9_ticket_54 rfl (lv_at hl126 1 rfl) ?_
                            refine kget F hK hP125 9 0 22 iX9 rfl rfl (by decide) (List.mem_of_getElem? (i := 5) rfl) rfl dX9_ticket_55 ?_
                            refine lv_iload_n hx hb dX9_ticket_58 rfl (lv_at hl126 0 rfl) ?_
                            refine lv_aload_n hx hb dX9_ticket_59 rfl (lv_at hl126 1 rfl) ?_
                            refine kget F hK hP125 9 0 22 iX9 rfl rfl (by decide) (List.mem_of_getElem? (i := 5) rfl) rfl dX9_ticket_60 ?_
                            refine lv_iload_n hx hb dX9_ticket_63 rfl (lv_at hl126 0 rfl) ?_
                            refine lv_iconst (v := 5) hx hb dX9_ticket_64 (by decide) ?_
                            refine lv_iadd hx hb dX9_ticket_65 ?_
                            rw [show (7 + 5 : Int32) = 12 from by decide]
                            refine kild F hK hP125 14 12 rfl rfl (by decide) (Nat.le_of_ble_eq_true rfl) dX9_ticket_66 ?_
                            rw [show (σ125 22 12) = (σ 22 12) from by subst eσ125; subst eσ121; subst eσ117; subst eσ113; subst eσ109; subst eσ105; subst eσ101; first | rfl | (simp only [msend]; (repeat' split) <;> rfl)]
                            refine kMst F hK hP125 hD125 hS125 22 14 7 rfl rfl (by decide) (Nat.le_of_ble_eq_true rfl) rfl dX9_ticket_67 (fun H129 locs129 σ129 eσ129 hP129 hD129 hS129 => ?_)
                            clear hP125 hD125 hS125
                            refine lv_iinc (v := 8) (lv' := [(2, .int 8), (0, .ref h), (1, .int v)]) hx hb dX9_ticket_68 hl126 (k := 0) rfl (by decide) (by decide) rfl (fun ls130 hl130 => ?_)
                            clear hl126
                            refine lv_goto (tgt := 48) hx hb dX9_ticket_71 (by decide) ?_
                            refine lv_iload_n hx hb dX9_ticket_48 rfl (lv_at hl130 0 rfl) ?_
                            refine lv_bipush (v := 10) hx hb dX9_ticket_49 (by decide) ?_
                            refine lv_icmp_ge (tgt := 74) hx hb dX9_ticket_51 (by decide) (fun c131 => ?_) (fun c131 => ?_)
                            · exact absurd c131 (by decide)
                            · refine lv_aload_n hx hb dX9_ticket_54 rfl (lv_at hl130 1 rfl) ?_
                              refine kget F hK hP129 9 0 22 iX9 rfl rfl (by decide) (List.mem_of_getElem? (i := 5) rfl) rfl dX9_ticket_55 ?_
                              refine lv_iload_n hx hb dX9_ticket_58 rfl (lv_at hl130 0 rfl) ?_
                              refine lv_aload_n hx hb dX9_ticket_59 rfl (lv_at hl130 1 rfl) ?_
                              refine kget F hK hP129 9 0 22 iX9 rfl rfl (by decide) (List.mem_of_getElem? (i := 5) rfl) rfl dX9_ticket_60 ?_
                              refine lv_iload_n hx hb dX9_ticket_63 rfl (lv_at hl130 0 rfl) ?_
                              refine lv_iconst (v := 5) hx hb dX9_ticket_64 (by decide) ?_
                              refine lv_iadd hx hb dX9_ticket_65 ?_
                              rw [show (8 + 5 : Int32) = 13 from by decide]
                              refine kild F hK hP129 14 13 rfl rfl (by decide) (Nat.le_of_ble_eq_true rfl) dX9_ticket_66 ?_
                              rw [show (σ129 22 13) = (σ 22 13) from by subst eσ129; subst eσ125; subst eσ121; subst eσ117; subst eσ113; subst eσ109; subst eσ105; subst eσ101; first | rfl | (simp only [msend]; (repeat' split) <;> rfl)]
                              refine kMst F hK hP129 hD129 hS129 22 14 8 rfl rfl (by decide) (Nat.le_of_ble_eq_true rfl) rfl dX9_ticket_67 (fun H133 locs133 σ133 eσ133 hP133 hD133 hS133 => ?_)
                              clear hP129 hD129 hS129
                              refine lv_iinc (v := 9) (lv' := [(2, .int 9), (0, .ref h), (1, .int v)]) hx hb dX9_ticket_68 hl130 (k := 0) rfl (by decide) (by decide) rfl (fun ls134 hl134 => ?_)
                              clear hl130
                              refine lv_goto (tgt := 48) hx hb dX9_ticket_71 (by decide) ?_
                              refine lv_iload_n hx hb dX9_ticket_48 rfl (lv_at hl134 0 rfl) ?_
                              refine lv_bipush (v := 10) hx hb dX9_ticket_49 (by decide) ?_
                              refine lv_icmp_ge (tgt := 74) hx hb dX9_ticket_51 (by decide) (fun c135 => ?_) (fun c135 => ?_)
                              · exact absurd c135 (by decide)
                              · refine lv_aload_n hx hb dX9_ticket_54 rfl (lv_at hl134 1 rfl) ?_
                                refine kget F hK hP133 9 0 22 iX9 rfl rfl (by decide) (List.mem_of_getElem? (i := 5) rfl) rfl dX9_ticket_55 ?_
                                refine lv_iload_n hx hb dX9_ticket_58 rfl (lv_at hl134 0 rfl) ?_
                                refine lv_aload_n hx hb dX9_ticket_59 rfl (lv_at hl134 1 rfl) ?_
                                refine kget F hK hP133 9 0 22 iX9 rfl rfl (by decide) (List.mem_of_getElem? (i := 5) rfl) rfl dX9_ticket_60 ?_
                                refine lv_iload_n hx hb dX9_ticket_63 rfl (lv_at hl134 0 rfl) ?_
                                refine lv_iconst (v := 5) hx hb dX9_ticket_64 (by decide) ?_
                                refine lv_iadd hx hb dX9_ticket_65 ?_
                                rw [show (9 + 5 : Int32) = 14 from by decide]
                                refine kild F hK hP133 14 14 rfl rfl (by decide) (Nat.le_of_ble_eq_true rfl) dX9_ticket_66 ?_
                                rw [show (σ133 22 14) = (σ 22 14) from by subst eσ133; subst eσ129; subst eσ125; subst eσ121; subst eσ117; subst eσ113; subst eσ109; subst eσ105; subst eσ101; first | rfl | (simp only [msend]; (repeat' split) <;> rfl)]
                                refine kMst F hK hP133 hD133 hS133 22 14 9 rfl rfl (by decide) (Nat.le_of_ble_eq_true rfl) rfl dX9_ticket_67 (fun H137 locs137 σ137 eσ137 hP137 hD137 hS137 => ?_)
                                clear hP133 hD133 hS133
                                refine lv_iinc (v := 10) (lv' := [(2, .int 10), (0, .ref h), (1, .int v)]) hx hb dX9_ticket_68 hl134 (k := 0) rfl (by decide) (by decide) rfl (fun ls138 hl138 => ?_)
                                clear hl134
                                refine lv_goto (tgt := 48) hx hb dX9_ticket_71 (by decide) ?_
                                refine lv_iload_n hx hb dX9_ticket_48 rfl (lv_at hl138 0 rfl) ?_
                                refine lv_bipush (v := 10) hx hb dX9_ticket_49 (by decide) ?_
                                refine lv_icmp_ge (tgt := 74) hx hb dX9_ticket_51 (by decide) (fun c139 => ?_) (fun c139 => ?_)
                                · refine lv_aload_n hx hb dX9_ticket_74 rfl (lv_at hl138 1 rfl) ?_
                                  refine lv_dup hx hb dX9_ticket_75 rfl ?_
                                  refine kget F hK hP137 9 0 20 iX9 rfl rfl (by decide) (List.mem_of_getElem? (i := 4) rfl) rfl dX9_ticket_76 ?_
                                  rw [show (σ137 20 0) = (σ 20 0) from by subst eσ137; subst eσ133; subst eσ129; subst eσ125; subst eσ121; subst eσ117; subst eσ113; subst eσ109; subst eσ105; subst eσ101; first | rfl | (simp only [msend]; (repeat' split) <;> rfl)]
                                  rw [show (σ 20 0) = 3 from ok.2.2.2.1.1]
                                  refine lv_iconst (v := 1) hx hb dX9_ticket_79 (by decide) ?_
                                  refine lv_isub hx hb dX9_ticket_80 ?_
                                  rw [show (3 - 1 : Int32) = 2 from by decide]
                                  refine kMput F hK hP137 hD137 hS137 20 iX9 rfl (by decide) (List.mem_of_getElem? (i := 4) rfl) rfl rfl rfl (Nat.le_of_ble_eq_true rfl) rfl dX9_ticket_81 (fun H141 locs141 σ141 eσ141 hP141 hD141 hS141 => ?_)
                                  clear hP137 hD137 hS137
                                  refine lv_aload_n hx hb dX9_ticket_84 rfl (lv_at hl138 1 rfl) ?_
                                  refine lv_dup hx hb dX9_ticket_85 rfl ?_
                                  refine kget F hK hP141 9 0 21 iX9 rfl rfl (by decide) (List.mem_of_getElem? (i := 6) rfl) rfl dX9_ticket_86 ?_
                                  rw [show (σ141 21 0) = (σ 21 0) from by subst eσ141; subst eσ137; subst eσ133; subst eσ129; subst eσ125; subst eσ121; subst eσ117; subst eσ113; subst eσ109; subst eσ105; subst eσ101; first | rfl | (simp only [msend]; (repeat' split) <;> rfl)]
                                  refine lv_iconst (v := 1) hx hb dX9_ticket_89 (by decide) ?_
                                  refine lv_iadd hx hb dX9_ticket_90 ?_
                                  refine kMput F hK hP141 hD141 hS141 21 iX9 rfl (by decide) (List.mem_of_getElem? (i := 6) rfl) rfl rfl rfl (Nat.le_of_ble_eq_true rfl) rfl dX9_ticket_91 (fun H142 locs142 σ142 eσ142 hP142 hD142 hS142 => ?_)
                                  clear hP141 hD141 hS141
                                  refine lv_iconst (v := 5) hx hb dX9_ticket_94 (by decide) ?_
                                  refine lv_aload_n hx hb dX9_ticket_95 rfl (lv_at hl138 1 rfl) ?_
                                  refine kget F hK hP142 9 0 20 iX9 rfl rfl (by decide) (List.mem_of_getElem? (i := 4) rfl) rfl dX9_ticket_96 ?_
                                  rw [show (σ142 20 0) = 2 from by subst eσ142; subst eσ141; subst eσ137; subst eσ133; subst eσ129; subst eσ125; subst eσ121; subst eσ117; subst eσ113; subst eσ109; subst eσ105; subst eσ101; first | rfl | (simp only [msend]; (repeat' split) <;> rfl)]
                                  refine lv_imul hx hb dX9_ticket_99 ?_
                                  rw [show (5 * 2 : Int32) = 10 from by decide]
                                  refine lv_istore_n (lv' := [(2, .int 10), (0, .ref h), (1, .int v)]) hx hb dX9_ticket_100 rfl hl138 (by decide) rfl (fun ls144 hl144 => ?_)
                                  clear hl138
                                  refine lv_aload_n hx hb dX9_ticket_101 rfl (lv_at hl144 1 rfl) ?_
                                  refine kget F hK hP142 9 0 22 iX9 rfl rfl (by decide) (List.mem_of_getElem? (i := 5) rfl) rfl dX9_ticket_102 ?_
                                  refine lv_iload_n hx hb dX9_ticket_105 rfl (lv_at hl144 0 rfl) ?_
                                  refine lv_aload_n hx hb dX9_ticket_106 rfl (lv_at hl144 1 rfl) ?_
                                  refine kget F hK hP142 9 0 21 iX9 rfl rfl (by decide) (List.mem_of_getElem? (i := 6) rfl) rfl dX9_ticket_107 ?_
                                  rw [show (σ142 21 0) = ((σ 21 0) + 1) from by subst eσ142; subst eσ141; subst eσ137; subst eσ133; subst eσ129; subst eσ125; subst eσ121; subst eσ117; subst eσ113; subst eσ109; subst eσ105; subst eσ101; first | rfl | (simp only [msend]; (repeat' split) <;> rfl)]
                                  refine kMst F hK hP142 hD142 hS142 22 14 10 rfl rfl (by decide) (Nat.le_of_ble_eq_true rfl) rfl dX9_ticket_110 (fun H145 locs145 σ145 eσ145 hP145 hD145 hS145 => ?_)
                                  clear hP142 hD142 hS142
                                  refine lv_aload_n hx hb dX9_ticket_111 rfl (lv_at hl144 1 rfl) ?_
                                  refine kget F hK hP145 9 0 22 iX9 rfl rfl (by decide) (List.mem_of_getElem? (i := 5) rfl) rfl dX9_ticket_112 ?_
                                  refine lv_iload_n hx hb dX9_ticket_115 rfl (lv_at hl144 0 rfl) ?_
                                  refine lv_iconst (v := 1) hx hb dX9_ticket_116 (by decide) ?_
                                  refine lv_iadd hx hb dX9_ticket_117 ?_
                                  rw [show (10 + 1 : Int32) = 11 from by decide]
                                  refine lv_iload_n hx hb dX9_ticket_118 rfl (lv_at hl144 2 rfl) ?_
                                  refine kMst F hK hP145 hD145 hS145 22 14 11 rfl rfl (by decide) (Nat.le_of_ble_eq_true rfl) rfl dX9_ticket_119 (fun H147 locs147 σ147 eσ147 hP147 hD147 hS147 => ?_)
                                  clear hP145 hD145 hS145
                                  refine lv_aload_n hx hb dX9_ticket_120 rfl (lv_at hl144 1 rfl) ?_
                                  refine kget F hK hP147 9 0 22 iX9 rfl rfl (by decide) (List.mem_of_getElem? (i := 5) rfl) rfl dX9_ticket_121 ?_
                                  refine lv_iload_n hx hb dX9_ticket_124 rfl (lv_at hl144 0 rfl) ?_
                                  refine lv_iconst (v := 2) hx hb dX9_ticket_125 (by decide) ?_
                                  refine lv_iadd hx hb dX9_ticket_126 ?_
                                  rw [show (10 + 2 : Int32) = 12 from by decide]
                                  refine lv_aload_n hx hb dX9_ticket_127 rfl (lv_at hl144 1 rfl) ?_
                                  refine kget F hK hP147 9 0 14 iX9 rfl rfl (by decide) (List.mem_of_getElem? (i := 7) rfl) rfl dX9_ticket_128 ?_
                                  rw [show (σ147 14 0) = (σ 14 0) from by subst eσ147; subst eσ145; subst eσ142; subst eσ141; subst eσ137; subst eσ133; subst eσ129; subst eσ125; subst eσ121; subst eσ117; subst eσ113; subst eσ109; subst eσ105; subst eσ101; first | rfl | (simp only [msend]; (repeat' split) <;> rfl)]
                                  refine kMst F hK hP147 hD147 hS147 22 14 12 rfl rfl (by decide) (Nat.le_of_ble_eq_true rfl) rfl dX9_ticket_131 (fun H149 locs149 σ149 eσ149 hP149 hD149 hS149 => ?_)
                                  clear hP147 hD147 hS147
                                  refine lv_aload_n hx hb dX9_ticket_132 rfl (lv_at hl144 1 rfl) ?_
                                  refine kget F hK hP149 9 0 22 iX9 rfl rfl (by decide) (List.mem_of_getElem? (i := 5) rfl) rfl dX9_ticket_133 ?_
                                  refine lv_iload_n hx hb dX9_ticket_136 rfl (lv_at hl144 0 rfl) ?_
                                  refine lv_iconst (v := 3) hx hb dX9_ticket_137 (by decide) ?_
                                  refine lv_iadd hx hb dX9_ticket_138 ?_
                                  rw [show (10 + 3 : Int32) = 13 from by decide]
                                  refine lv_aload_n hx hb dX9_ticket_139 rfl (lv_at hl144 1 rfl) ?_
                                  refine lv_iconst (v := 1) hx hb dX9_ticket_140 (by decide) ?_
                                  refine kWVi F hK hP149 hD149 hS149 hA hl144.1 (c_X9_mainOf l G h a σ149 1 (by first | assumption | decide | omega)) 9 0 gX9_ticket_X9_mainOf rfl 1 rfl (by decide +kernel) ⟨Nat.le_of_ble_eq_true rfl, Nat.le_of_ble_eq_true rfl⟩ ⟨Nat.zero_le _, Nat.zero_le _⟩ rfl rfl (Nat.le_of_ble_eq_true rfl) rfl dX9_ticket_141 (fun r151 u151 H152 locs152 hw151 (hP152 : va_P G.1 vwCl (mW G h a σ149) H152) (hD152 : va_D A (mW G h a σ149)) hS152 => ?_)
                                  clear hP149 hD149 hS149
                                  have w151_0 : r151 = mmain σ149 1 := hw151
                                  refine lv_aload_n hx hb dX9_ticket_144 rfl (lv_at hl144 1 rfl) ?_
                                  refine kget F hK hP152 9 0 21 iX9 rfl rfl (by decide) (List.mem_of_getElem? (i := 6) rfl) rfl dX9_ticket_145 ?_
                                  rw [show (σ149 21 0) = ((σ 21 0) + 1) from by subst eσ149; subst eσ147; subst eσ145; subst eσ142; subst eσ141; subst eσ137; subst eσ133; subst eσ129; subst eσ125; subst eσ121; subst eσ117; subst eσ113; subst eσ109; subst eσ105; subst eσ101; first | rfl | (simp only [msend]; (repeat' split) <;> rfl)]
                                  refine kPSi F hK hP152 hD152 hS152 hA hl144.1 (c_X9_mix l G r151 ((σ 21 0) + 1)) (fun _ => rfl) gX9_ticket_X9_mix rfl 2 rfl (by decide +kernel) ⟨Nat.le_of_ble_eq_true rfl, Nat.le_of_ble_eq_true rfl⟩ ⟨Nat.zero_le _, Nat.zero_le _⟩ (Nat.le_of_ble_eq_true rfl) rfl dX9_ticket_148 (fun r153 u153 H154 locs154 hw153 (hP154 : va_P G.1 vwCl (mW G h a σ149) H154) (hD154 : va_D A (mW G h a σ149)) hS154 => ?_)
                                  clear hP152 hD152 hS152
                                  have w153_0 : r153 = kmix r151 ((σ 21 0) + 1) := hw153
                                  refine kMst F hK hP154 hD154 hS154 22 14 13 rfl rfl (by decide) (Nat.le_of_ble_eq_true rfl) rfl dX9_ticket_151 (fun H155 locs155 σ155 eσ155 hP155 hD155 hS155 => ?_)
                                  clear hP154 hD154 hS154
                                  refine lv_aload_n hx hb dX9_ticket_152 rfl (lv_at hl144 1 rfl) ?_
                                  refine kget F hK hP155 9 0 22 iX9 rfl rfl (by decide) (List.mem_of_getElem? (i := 5) rfl) rfl dX9_ticket_153 ?_
                                  refine lv_iload_n hx hb dX9_ticket_156 rfl (lv_at hl144 0 rfl) ?_
                                  refine lv_iconst (v := 4) hx hb dX9_ticket_157 (by decide) ?_
                                  refine lv_iadd hx hb dX9_ticket_158 ?_
                                  rw [show (10 + 4 : Int32) = 14 from by decide]
                                  refine lv_aload_n hx hb dX9_ticket_159 rfl (lv_at hl144 1 rfl) ?_
                                  refine kget F hK hP155 9 0 21 iX9 rfl rfl (by decide) (List.mem_of_getElem? (i := 6) rfl) rfl dX9_ticket_160 ?_
                                  rw [show (σ155 21 0) = ((σ 21 0) + 1) from by subst eσ155; subst eσ149; subst eσ147; subst eσ145; subst eσ142; subst eσ141; subst eσ137; subst eσ133; subst eσ129; subst eσ125; subst eσ121; subst eσ117; subst eσ113; subst eσ109; subst eσ105; subst eσ101; first | rfl | (simp only [msend]; (repeat' split) <;> rfl)]
                                  refine lv_bipush (v := 77) hx hb dX9_ticket_163 (by decide) ?_
                                  refine kPSi F hK hP155 hD155 hS155 hA hl144.1 (c_X9_mix l G ((σ 21 0) + 1) 77) (fun _ => rfl) gX9_ticket_X9_mix rfl 2 rfl (by decide +kernel) ⟨Nat.le_of_ble_eq_true rfl, Nat.le_of_ble_eq_true rfl⟩ ⟨Nat.zero_le _, Nat.zero_le _⟩ (Nat.le_of_ble_eq_true rfl) rfl dX9_ticket_165 (fun r157 u157 H158 locs158 hw157 (hP158 : va_P G.1 vwCl (mW G h a σ155) H158) (hD158 : va_D A (mW G h a σ155)) hS158 => ?_)
                                  clear hP155 hD155 hS155
                                  have w157_0 : r157 = kmix ((σ 21 0) + 1) 77 := hw157
                                  refine kMst F hK hP158 hD158 hS158 22 14 14 rfl rfl (by decide) (Nat.le_of_ble_eq_true rfl) rfl dX9_ticket_168 (fun H159 locs159 σ159 eσ159 hP159 hD159 hS159 => ?_)
                                  clear hP158 hD158 hS158
                                  refine lv_aload_n hx hb dX9_ticket_169 rfl (lv_at hl144 1 rfl) ?_
                                  refine lv_dup hx hb dX9_ticket_170 rfl ?_
                                  refine kget F hK hP159 9 0 20 iX9 rfl rfl (by decide) (List.mem_of_getElem? (i := 4) rfl) rfl dX9_ticket_171 ?_
                                  rw [show (σ159 20 0) = 2 from by subst eσ159; subst eσ155; subst eσ149; subst eσ147; subst eσ145; subst eσ142; subst eσ141; subst eσ137; subst eσ133; subst eσ129; subst eσ125; subst eσ121; subst eσ117; subst eσ113; subst eσ109; subst eσ105; subst eσ101; first | rfl | (simp only [msend]; (repeat' split) <;> rfl)]
                                  refine lv_iconst (v := 1) hx hb dX9_ticket_174 (by decide) ?_
                                  refine lv_iadd hx hb dX9_ticket_175 ?_
                                  rw [show (2 + 1 : Int32) = 3 from by decide]
                                  refine kMput F hK hP159 hD159 hS159 20 iX9 rfl (by decide) (List.mem_of_getElem? (i := 4) rfl) rfl rfl rfl (Nat.le_of_ble_eq_true rfl) rfl dX9_ticket_176 (fun H161 locs161 σ161 eσ161 hP161 hD161 hS161 => ?_)
                                  clear hP159 hD159 hS159
                                  refine lv_aload_n hx hb dX9_ticket_179 rfl (lv_at hl144 1 rfl) ?_
                                  refine lv_iconst (v := 5) hx hb dX9_ticket_180 (by decide) ?_
                                  refine kWVv F hK hP161 hD161 hS161 hA hl144.1 (c_X9_clears l G h a σ161 5) 9 0 gX9_ticket_X9_clears rfl 1 rfl (by decide +kernel) ⟨Nat.le_of_ble_eq_true rfl, Nat.le_of_ble_eq_true rfl⟩ ⟨Nat.zero_le _, Nat.zero_le _⟩ rfl rfl (Nat.le_of_ble_eq_true rfl) rfl dX9_ticket_181 (fun σ_162 H163 locs163 hw162 (hP163 : va_P G.1 vwCl (mW G h a σ_162) H163) (hD163 : va_D A (mW G h a σ_162)) hS163 => ?_)
                                  clear hP161 hD161 hS161
                                  have w162_0 : σ_162 = mclr σ161 5 := hw162
                                  refine lv_aload_n hx hb dX9_ticket_184 rfl (lv_at hl144 1 rfl) ?_
                                  refine kget F hK hP163 9 0 29 iX9 rfl rfl (by decide) (List.mem_of_getElem? (i := 8) rfl) rfl dX9_ticket_185 ?_
                                  refine lv_iconst (v := 1) hx hb dX9_ticket_188 (by decide) ?_
                                  refine lv_aload_n hx hb dX9_ticket_189 rfl (lv_at hl144 1 rfl) ?_
                                  refine kget F hK hP163 9 0 21 iX9 rfl rfl (by decide) (List.mem_of_getElem? (i := 6) rfl) rfl dX9_ticket_190 ?_
                                  rw [show (σ_162 21 0) = ((σ 21 0) + 1) from by subst w162_0; subst eσ161; subst eσ159; subst eσ155; subst eσ149; subst eσ147; subst eσ145; subst eσ142; subst eσ141; subst eσ137; subst eσ133; subst eσ129; subst eσ125; subst eσ121; subst eσ117; subst eσ113; subst eσ109; subst eσ105; subst eσ101; first | rfl | (simp only [msend]; (repeat' split) <;> rfl)]
                                  refine kMst F hK hP163 hD163 hS163 29 20 1 rfl rfl (by decide) (Nat.le_of_ble_eq_true rfl) rfl dX9_ticket_193 (fun H164 locs164 σ164 eσ164 hP164 hD164 hS164 => ?_)
                                  clear hP163 hD163 hS163
                                  refine lv_aload_n hx hb dX9_ticket_194 rfl (lv_at hl144 1 rfl) ?_
                                  refine kget F hK hP164 9 0 29 iX9 rfl rfl (by decide) (List.mem_of_getElem? (i := 8) rfl) rfl dX9_ticket_195 ?_
                                  refine lv_iconst (v := 2) hx hb dX9_ticket_198 (by decide) ?_
                                  refine lv_aload_n hx hb dX9_ticket_199 rfl (lv_at hl144 1 rfl) ?_
                                  refine kget F hK hP164 9 0 22 iX9 rfl rfl (by decide) (List.mem_of_getElem? (i := 5) rfl) rfl dX9_ticket_200 ?_
                                  refine lv_iload_n hx hb dX9_ticket_203 rfl (lv_at hl144 0 rfl) ?_
                                  refine lv_iconst (v := 4) hx hb dX9_ticket_204 (by decide) ?_
                                  refine lv_iadd hx hb dX9_ticket_205 ?_
                                  rw [show (10 + 4 : Int32) = 14 from by decide]
                                  refine kild F hK hP164 14 14 rfl rfl (by decide) (Nat.le_of_ble_eq_true rfl) dX9_ticket_206 ?_
                                  rw [show (σ164 22 14) = r157 from by subst eσ164; subst w162_0; subst eσ161; subst eσ159; subst eσ155; subst eσ149; subst eσ147; subst eσ145; subst eσ142; subst eσ141; subst eσ137; subst eσ133; subst eσ129; subst eσ125; subst eσ121; subst eσ117; subst eσ113; subst eσ109; subst eσ105; subst eσ101; first | rfl | (simp only [msend]; (repeat' split) <;> rfl)]
                                  refine kMst F hK hP164 hD164 hS164 29 20 2 rfl rfl (by decide) (Nat.le_of_ble_eq_true rfl) rfl dX9_ticket_207 (fun H166 locs166 σ166 eσ166 hP166 hD166 hS166 => ?_)
                                  clear hP164 hD164 hS164
                                  refine lv_aload_n hx hb dX9_ticket_208 rfl (lv_at hl144 1 rfl) ?_
                                  refine kget F hK hP166 9 0 29 iX9 rfl rfl (by decide) (List.mem_of_getElem? (i := 8) rfl) rfl dX9_ticket_209 ?_
                                  refine lv_iconst (v := 3) hx hb dX9_ticket_212 (by decide) ?_
                                  refine lv_iload_n hx hb dX9_ticket_213 rfl (lv_at hl144 2 rfl) ?_
                                  refine kMst F hK hP166 hD166 hS166 29 20 3 rfl rfl (by decide) (Nat.le_of_ble_eq_true rfl) rfl dX9_ticket_214 (fun H167 locs167 σ167 eσ167 hP167 hD167 hS167 => ?_)
                                  clear hP166 hD166 hS166
                                  refine lv_aload_n hx hb dX9_ticket_215 rfl (lv_at hl144 1 rfl) ?_
                                  refine lv_iconst (v := 0) hx hb dX9_ticket_216 (by decide) ?_
                                  refine kWVv F hK hP167 hD167 hS167 hA hl144.1 (c_X9_sends l G h a σ167 0 (Mn 0) (by first | assumption | decide | omega) (by subst eσ167; subst eσ166; subst eσ164; subst w162_0; subst eσ161; subst eσ159; subst w157_0; subst eσ155; subst w153_0; subst w151_0; subst eσ149; subst eσ147; subst eσ145; subst eσ142; subst eσ141; subst eσ137; subst eσ133; subst eσ129; subst eσ125; subst eσ121; subst eσ117; subst eσ113; subst eσ109; subst eσ105; subst eσ101; subst w1_0; exact (ok.2.1 0 (by decide)).1) ((ok.2.1 0 (by decide)).2)) 9 0 gX9_ticket_X9_sends rfl 1 rfl (by decide +kernel) ⟨Nat.le_of_ble_eq_true rfl, Nat.le_of_ble_eq_true rfl⟩ ⟨Nat.zero_le _, Nat.zero_le _⟩ rfl rfl (Nat.le_of_ble_eq_true rfl) rfl dX9_ticket_217 (fun σ_168 H169 locs169 hw168 (hP169 : va_P G.1 vwCl (mW G h a σ_168) H169) (hD169 : va_D A (mW G h a σ_168)) hS169 => ?_)
                                  clear hP167 hD167 hS167
                                  have w168_0 : σ_168 = msend σ167 0 (Mn 0) := hw168
                                  refine lv_aload_n hx hb dX9_ticket_220 rfl (lv_at hl144 1 rfl) ?_
                                  refine kget F hK hP169 9 0 21 iX9 rfl rfl (by decide) (List.mem_of_getElem? (i := 6) rfl) rfl dX9_ticket_221 ?_
                                  rw [show (σ_168 21 0) = ((σ 21 0) + 1) from by subst w168_0; subst eσ167; subst eσ166; subst eσ164; subst w162_0; subst eσ161; subst eσ159; subst eσ155; subst eσ149; subst eσ147; subst eσ145; subst eσ142; subst eσ141; subst eσ137; subst eσ133; subst eσ129; subst eσ125; subst eσ121; subst eσ117; subst eσ113; subst eσ109; subst eσ105; subst eσ101; first | rfl | (simp only [msend]; (repeat' split) <;> rfl)]
                                  have q170 : (((σ 21 0) + 1) = (mtick σ v Mn 3).1) ∧ (σ_168 = (mtick σ v Mn 3).2) := by
                                    subst w168_0
                                    subst eσ167
                                    subst eσ166
                                    subst eσ164
                                    subst w162_0
                                    subst eσ161
                                    subst eσ159
                                    subst w157_0
                                    subst eσ155
                                    subst w153_0
                                    subst w151_0
                                    subst eσ149
                                    subst eσ147
                                    subst eσ145
                                    subst eσ142
                                    subst eσ141
                                    subst eσ137
                                    subst eσ133
                                    subst eσ129
                                    subst eσ125
                                    subst eσ121
                                    subst eσ117
                                    subst eσ113
                                    subst eσ109
                                    subst eσ105
                                    subst eσ101
                                    subst w1_0
                                    first | (simp only [mtick, kn0, kn1, kn2, mtickX, mtickY, mshift, c3, eq_true c4, eq_true c6, eq_true c97, c99, c103, c107, c111, c115, c119, c123, c127, c131, c135, eq_true c139, eq_self, ↓reduceIte, and_self, and_true, true_and]; done) | (simp only [mtick, kn0, kn1, kn2, mtickX, mtickY, mshift, c3, eq_true c4, eq_true c6, eq_true c97, c99, c103, c107, c111, c115, c119, c123, c127, c131, c135, eq_true c139, eq_self, ↓reduceIte, and_self, and_true, true_and]; (try and_intros) <;> rfl)
                                  exact kRi F hr hlocks hS169 dX9_ticket_224 σ_168 q170 hP169 hD169
                                · exact absurd (by decide) c139
      · refine lv_bipush (v := (-4)) hx hb dX9_ticket_35 (by decide) ?_
        have q171 : ((-4) = (mtick σ v Mn K).1) ∧ (σ = (mtick σ v Mn K).2) := by
          subst w1_0
          first | (simp only [mtick, kn0, kn1, kn2, mtickX, mtickY, mshift, c3, eq_true c4, c6, eq_self, ↓reduceIte, and_self, and_true, true_and]; done) | (simp only [mtick, kn0, kn1, kn2, mtickX, mtickY, mshift, c3, eq_true c4, c6, eq_self, ↓reduceIte, and_self, and_true, true_and]; (try and_intros) <;> rfl)
        exact kRi F hr hlocks hS2 dX9_ticket_37 σ q171 hP2 hD2
  · refine lv_bipush (v := (-3)) hx hb dX9_ticket_12 (by decide) ?_
    have q172 : ((-3) = (mtick σ v Mn K).1) ∧ (σ = (mtick σ v Mn K).2) := by
      subst w1_0
      first | (simp only [mtick, kn0, kn1, kn2, mtickX, mtickY, mshift, eq_true c3, eq_self, ↓reduceIte, and_self, and_true, true_and]; done) | (simp only [mtick, kn0, kn1, kn2, mtickX, mtickY, mshift, eq_true c3, eq_self, ↓reduceIte, and_self, and_true, true_and]; (try and_intros) <;> rfl)
    exact kRi F hr hlocks hS2 dX9_ticket_14 σ q172 hP2 hD2
