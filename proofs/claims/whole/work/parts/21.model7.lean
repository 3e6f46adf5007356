set_option maxHeartbeats 1000000 in
set_option maxRecDepth 100000 in
theorem c_X9_alter (l : Launch) (G : kG) (h : Nat) (a : Nat → Nat) (σ : kS) (s : Int32) (i : Int32) (v : Int32) : kM G l yX9_alter wsX9_alter ({ frames := 2, cells := 0, slots := 0, locals := 45 }) [.ref h, .int s, .int i, .int v] (mW G h a σ) (kQi G (fun (rr : Int32) (uu : kS) => (rr = (malter σ s i v).1) ∧ (uu = (malter σ s i v).2)) (fun (uu : kS) => mW G h a uu)) := by
  refine kStart (cc := cX9_alter) (maxL := 5) (ret := (some .int)) (by decide) rfl (Nat.le_of_ble_eq_true rfl) (fun pg ev st mi bl mt cd A ls0 F hr hlocks hin hK hP0 hD0 hA hS0 hl0 => ?_)
  obtain ⟨hx, hb, hml, hown, hts⟩ := id F
  have hl0 : lv_has ls0 5 [(0, .ref h), (1, .int s), (2, .int i), (3, .int v)] := hl0
  have iX9 : ∀ w ∈ u_ws RX9 TX9 43, w ∈ wsX9_alter := fun w h => List.mem_cons_of_mem _ (List.mem_append_right _ h)
  rcases k_sides s with rfl | rfl | ⟨hs0, hs1⟩
  · skip
    refine lv_iload_n hx hb dX9_alter_0 rfl (lv_at hl0 1 rfl) ?_
    refine kPSi F hK hP0 hD0 hS0 hA hl0.1 (c_X9_isSide l G 0) (fun _ => rfl) gX9_alter_X9_isSide rfl 1 rfl (by decide +kernel) ⟨Nat.le_of_ble_eq_true rfl, Nat.le_of_ble_eq_true rfl⟩ ⟨Nat.zero_le _, Nat.zero_le _⟩ (Nat.le_of_ble_eq_true rfl) rfl dX9_alter_1 (fun r1 u1 H2 locs2 hw1 (hP2 : va_P G.1 vwCl (mW G h a σ) H2) (hD2 : va_D A (mW G h a σ)) hS2 => ?_)
    clear hP0 hD0 hS0
    have w1_0 : r1 = kinL (0 : Int32).toInt64 0 1 := hw1
    have g1 : r1 = 1 := w1_0.trans kside_0
    clear w1_0
    subst g1
    refine lv_if_ne (tgt := 10) hx hb dX9_alter_4 (by decide) (fun c3 => ?_) (fun c3 => ?_)
    · refine lv_iload_n hx hb dX9_alter_10 rfl (lv_at hl0 2 rfl) ?_
      refine lv_i2l (v := i.toInt64) hx hb dX9_alter_11 rfl ?_
      refine lv_lconst (v := 0) hx hb dX9_alter_12 (by decide) ?_
      refine lv_ldc2 (v := 8) hx hb hown (hts _ (List.mem_of_getElem? (i := 1) rfl)) dX9_alter_13 ?_
      refine kPSi F hK hP2 hD2 hS2 hA hl0.1 (c_X9_in l G i.toInt64 0 8) (fun _ => rfl) gX9_alter_X9_in rfl 3 rfl (by decide +kernel) ⟨Nat.le_of_ble_eq_true rfl, Nat.le_of_ble_eq_true rfl⟩ ⟨Nat.zero_le _, Nat.zero_le _⟩ (Nat.le_of_ble_eq_true rfl) rfl dX9_alter_16 (fun r4 u4 H5 locs5 hw4 (hP5 : va_P G.1 vwCl (mW G h a σ) H5) (hD5 : va_D A (mW G h a σ)) hS5 => ?_)
      clear hP2 hD2 hS2
      have w4_0 : r4 = kinL i.toInt64 0 8 := hw4
      refine lv_if_ne (tgt := 25) hx hb dX9_alter_19 (by decide) (fun c6 => ?_) (fun c6 => ?_)
      · have hi := kin8 (x := i) (by subst w4_0; exact c6)
        refine lv_aload_n hx hb dX9_alter_25 rfl (lv_at hl0 0 rfl) ?_
        refine kget F hK hP5 9 0 26 iX9 rfl rfl (by decide) (List.mem_of_getElem? (i := 2) rfl) rfl dX9_alter_26 ?_
        refine lv_iload_n hx hb dX9_alter_29 rfl (lv_at hl0 1 rfl) ?_
        refine kild F hK hP5 17 0 rfl rfl (by decide) (Nat.le_of_ble_eq_true rfl) dX9_alter_30 ?_
        refine lv_if_ne (tgt := 37) hx hb dX9_alter_31 (by decide) (fun c7 => ?_) (fun c7 => ?_)
        · refine lv_aload_n hx hb dX9_alter_37 rfl (lv_at hl0 0 rfl) ?_
          refine kget F hK hP5 9 0 27 iX9 rfl rfl (by decide) (List.mem_of_getElem? (i := 3) rfl) rfl dX9_alter_38 ?_
          refine lv_bipush (v := 72) hx hb dX9_alter_41 (by decide) ?_
          refine lv_iload_n hx hb dX9_alter_43 rfl (lv_at hl0 1 rfl) ?_
          refine lv_imul hx hb dX9_alter_44 ?_
          rw [show (72 * 0 : Int32) = 0 from by decide]
          refine lv_iload_n hx hb dX9_alter_45 rfl (lv_at hl0 2 rfl) ?_
          refine lv_iadd hx hb dX9_alter_46 ?_
          refine kild F hK hP5 18 (72 * 0 + i.toNatClampNeg) rfl (ixs (A := 72 * 0) rfl hi.1) (by have := hi.2; omega) (Nat.le_of_ble_eq_true rfl) dX9_alter_47 ?_
          refine lv_istore (lv' := [(4, .int (σ 27 (72 * 0 + i.toNatClampNeg))), (0, .ref h), (1, .int 0), (2, .int i), (3, .int v)]) hx hb dX9_alter_48 hl0 (by decide) rfl (fun ls9 hl9 => ?_)
          clear hl0
          refine lv_aload_n hx hb dX9_alter_50 rfl (lv_at hl9 1 rfl) ?_
          refine kget F hK hP5 9 0 27 iX9 rfl rfl (by decide) (List.mem_of_getElem? (i := 3) rfl) rfl dX9_alter_51 ?_
          refine lv_bipush (v := 72) hx hb dX9_alter_54 (by decide) ?_
          refine lv_iload_n hx hb dX9_alter_56 rfl (lv_at hl9 2 rfl) ?_
          refine lv_imul hx hb dX9_alter_57 ?_
          rw [show (72 * 0 : Int32) = 0 from by decide]
          refine lv_iload_n hx hb dX9_alter_58 rfl (lv_at hl9 3 rfl) ?_
          refine lv_iadd hx hb dX9_alter_59 ?_
          refine lv_iload_n hx hb dX9_alter_60 rfl (lv_at hl9 4 rfl) ?_
          refine kMst F hK hP5 hD5 hS5 27 18 (72 * 0 + i.toNatClampNeg) rfl (ixs (A := 72 * 0) rfl hi.1) (by have := hi.2; omega) (Nat.le_of_ble_eq_true rfl) rfl dX9_alter_61 (fun H11 locs11 σ11 eσ11 hP11 hD11 hS11 => ?_)
          clear hP5 hD5 hS5
          refine lv_iload hx hb dX9_alter_62 (lv_at hl9 0 rfl) ?_
          have q12 : ((σ 27 (72 * 0 + i.toNatClampNeg)) = (malter σ 0 i v).1) ∧ (σ11 = (malter σ 0 i v).2) := by
            subst eσ11
            subst w4_0
            first | (simp only [malter, m3, kd10, c3, c6, c7, eq_self, ↓reduceIte, and_self, and_true, true_and]; done) | (simp only [malter, m3, kd10, c3, c6, c7, eq_self, ↓reduceIte, and_self, and_true, true_and]; (try and_intros) <;> rfl)
          exact kRi F hr hlocks hS11 dX9_alter_64 σ11 q12 hP11 hD11
        · refine lv_bipush (v := (-4)) hx hb dX9_alter_34 (by decide) ?_
          have q13 : ((-4) = (malter σ 0 i v).1) ∧ (σ = (malter σ 0 i v).2) := by
            subst w4_0
            first | (simp only [malter, m3, kd10, c3, c6, eq_true c7, eq_self, ↓reduceIte, and_self, and_true, true_and]; done) | (simp only [malter, m3, kd10, c3, c6, eq_true c7, eq_self, ↓reduceIte, and_self, and_true, true_and]; (try and_intros) <;> rfl)
          exact kRi F hr hlocks hS5 dX9_alter_36 σ q13 hP5 hD5
      · refine lv_bipush (v := (-3)) hx hb dX9_alter_22 (by decide) ?_
        have q14 : ((-3) = (malter σ 0 i v).1) ∧ (σ = (malter σ 0 i v).2) := by
          subst w4_0
          first | (simp only [malter, m3, kd10, c3, eq_true c6, eq_self, ↓reduceIte, and_self, and_true, true_and]; done) | (simp only [malter, m3, kd10, c3, eq_true c6, eq_self, ↓reduceIte, and_self, and_true, true_and]; (try and_intros) <;> rfl)
        exact kRi F hr hlocks hS5 dX9_alter_24 σ q14 hP5 hD5
    · exact absurd c3 (by decide)
  · skip
    refine lv_iload_n hx hb dX9_alter_0 rfl (lv_at hl0 1 rfl) ?_
    refine kPSi F hK hP0 hD0 hS0 hA hl0.1 (c_X9_isSide l G 1) (fun _ => rfl) gX9_alter_X9_isSide rfl 1 rfl (by decide +kernel) ⟨Nat.le_of_ble_eq_true rfl, Nat.le_of_ble_eq_true rfl⟩ ⟨Nat.zero_le _, Nat.zero_le _⟩ (Nat.le_of_ble_eq_true rfl) rfl dX9_alter_1 (fun r15 u15 H16 locs16 hw15 (hP16 : va_P G.1 vwCl (mW G h a σ) H16) (hD16 : va_D A (mW G h a σ)) hS16 => ?_)
    clear hP0 hD0 hS0
    have w15_0 : r15 = kinL (1 : Int32).toInt64 0 1 := hw15
    have g15 : r15 = 1 := w15_0.trans kside_1
    clear w15_0
    subst g15
    refine lv_if_ne (tgt := 10) hx hb dX9_alter_4 (by decide) (fun c17 => ?_) (fun c17 => ?_)
    · refine lv_iload_n hx hb dX9_alter_10 rfl (lv_at hl0 2 rfl) ?_
      refine lv_i2l (v := i.toInt64) hx hb dX9_alter_11 rfl ?_
      refine lv_lconst (v := 0) hx hb dX9_alter_12 (by decide) ?_
      refine lv_ldc2 (v := 8) hx hb hown (hts _ (List.mem_of_getElem? (i := 1) rfl)) dX9_alter_13 ?_
      refine kPSi F hK hP16 hD16 hS16 hA hl0.1 (c_X9_in l G i.toInt64 0 8) (fun _ => rfl) gX9_alter_X9_in rfl 3 rfl (by decide +kernel) ⟨Nat.le_of_ble_eq_true rfl, Nat.le_of_ble_eq_true rfl⟩ ⟨Nat.zero_le _, Nat.zero_le _⟩ (Nat.le_of_ble_eq_true rfl) rfl dX9_alter_16 (fun r18 u18 H19 locs19 hw18 (hP19 : va_P G.1 vwCl (mW G h a σ) H19) (hD19 : va_D A (mW G h a σ)) hS19 => ?_)
      clear hP16 hD16 hS16
      have w18_0 : r18 = kinL i.toInt64 0 8 := hw18
      refine lv_if_ne (tgt := 25) hx hb dX9_alter_19 (by decide) (fun c20 => ?_) (fun c20 => ?_)
      · have hi := kin8 (x := i) (by subst w18_0; exact c20)
        refine lv_aload_n hx hb dX9_alter_25 rfl (lv_at hl0 0 rfl) ?_
        refine kget F hK hP19 9 0 26 iX9 rfl rfl (by decide) (List.mem_of_getElem? (i := 2) rfl) rfl dX9_alter_26 ?_
        refine lv_iload_n hx hb dX9_alter_29 rfl (lv_at hl0 1 rfl) ?_
        refine kild F hK hP19 17 1 rfl rfl (by decide) (Nat.le_of_ble_eq_true rfl) dX9_alter_30 ?_
        refine lv_if_ne (tgt := 37) hx hb dX9_alter_31 (by decide) (fun c21 => ?_) (fun c21 => ?_)
        · refine lv_aload_n hx hb dX9_alter_37 rfl (lv_at hl0 0 rfl) ?_
          refine kget F hK hP19 9 0 27 iX9 rfl rfl (by decide) (List.mem_of_getElem? (i := 3) rfl) rfl dX9_alter_38 ?_
          refine lv_bipush (v := 72) hx hb dX9_alter_41 (by decide) ?_
          refine lv_iload_n hx hb dX9_alter_43 rfl (lv_at hl0 1 rfl) ?_
          refine lv_imul hx hb dX9_alter_44 ?_
          rw [show (72 * 1 : Int32) = 72 from by decide]
          refine lv_iload_n hx hb dX9_alter_45 rfl (lv_at hl0 2 rfl) ?_
          refine lv_iadd hx hb dX9_alter_46 ?_
          refine kild F hK hP19 18 (72 * 1 + i.toNatClampNeg) rfl (ixs (A := 72 * 1) rfl hi.1) (by have := hi.2; omega) (Nat.le_of_ble_eq_true rfl) dX9_alter_47 ?_
          refine lv_istore (lv' := [(4, .int (σ 27 (72 * 1 + i.toNatClampNeg))), (0, .ref h), (1, .int 1), (2, .int i), (3, .int v)]) hx hb dX9_alter_48 hl0 (by decide) rfl (fun ls23 hl23 => ?_)
          clear hl0
          refine lv_aload_n hx hb dX9_alter_50 rfl (lv_at hl23 1 rfl) ?_
          refine kget F hK hP19 9 0 27 iX9 rfl rfl (by decide) (List.mem_of_getElem? (i := 3) rfl) rfl dX9_alter_51 ?_
          refine lv_bipush (v := 72) hx hb dX9_alter_54 (by decide) ?_
          refine lv_iload_n hx hb dX9_alter_56 rfl (lv_at hl23 2 rfl) ?_
          refine lv_imul hx hb dX9_alter_57 ?_
          rw [show (72 * 1 : Int32) = 72 from by decide]
          refine lv_iload_n hx hb dX9_alter_58 rfl (lv_at hl23 3 rfl) ?_
          refine lv_iadd hx hb dX9_alter_59 ?_
          refine lv_iload_n hx hb dX9_alter_60 rfl (lv_at hl23 4 rfl) ?_
          refine kMst F hK hP19 hD19 hS19 27 18 (72 * 1 + i.toNatClampNeg) rfl (ixs (A := 72 * 1) rfl hi.1) (by have := hi.2; omega) (Nat.le_of_ble_eq_true rfl) rfl dX9_alter_61 (fun H25 locs25 σ25 eσ25 hP25 hD25 hS25 => ?_)
          clear hP19 hD19 hS19
          refine lv_iload hx hb dX9_alter_62 (lv_at hl23 0 rfl) ?_
          have q26 : ((σ 27 (72 * 1 + i.toNatClampNeg)) = (malter σ 1 i v).1) ∧ (σ25 = (malter σ 1 i v).2) := by
            subst eσ25
            subst w18_0
            first | (simp only [malter, m3, kd10, c17, c20, c21, eq_self, ↓reduceIte, and_self, and_true, true_and]; done) | (simp only [malter, m3, kd10, c17, c20, c21, eq_self, ↓reduceIte, and_self, and_true, true_and]; (try and_intros) <;> rfl)
          exact kRi F hr hlocks hS25 dX9_alter_64 σ25 q26 hP25 hD25
        · refine lv_bipush (v := (-4)) hx hb dX9_alter_34 (by decide) ?_
          have q27 : ((-4) = (malter σ 1 i v).1) ∧ (σ = (malter σ 1 i v).2) := by
            subst w18_0
            first | (simp only [malter, m3, kd10, c17, c20, eq_true c21, eq_self, ↓reduceIte, and_self, and_true, true_and]; done) | (simp only [malter, m3, kd10, c17, c20, eq_true c21, eq_self, ↓reduceIte, and_self, and_true, true_and]; (try and_intros) <;> rfl)
          exact kRi F hr hlocks hS19 dX9_alter_36 σ q27 hP19 hD19
      · refine lv_bipush (v := (-3)) hx hb dX9_alter_22 (by decide) ?_
        have q28 : ((-3) = (malter σ 1 i v).1) ∧ (σ = (malter σ 1 i v).2) := by
          subst w18_0
          first | (simp only [malter, m3, kd10, c17, eq_true c20, eq_self, ↓reduceIte, and_self, and_true, true_and]; done) | (simp only [malter, m3, kd10, c17, eq_true c20, eq_self, ↓reduceIte, and_self, and_true, true_and]; (try and_intros) <;> rfl)
        exact kRi F hr hlocks hS19 dX9_alter_24 σ q28 hP19 hD19
    · exact absurd c17 (by decide)
  · skip
    refine lv_iload_n hx hb dX9_alter_0 rfl (lv_at hl0 1 rfl) ?_
    refine kPSi F hK hP0 hD0 hS0 hA hl0.1 (c_X9_isSide l G s) (fun _ => rfl) gX9_alter_X9_isSide rfl 1 rfl (by decide +kernel) ⟨Nat.le_of_ble_eq_true rfl, Nat.le_of_ble_eq_true rfl⟩ ⟨Nat.zero_le _, Nat.zero_le _⟩ (Nat.le_of_ble_eq_true rfl) rfl dX9_alter_1 (fun r29 u29 H30 locs30 hw29 (hP30 : va_P G.1 vwCl (mW G h a σ) H30) (hD30 : va_D A (mW G h a σ)) hS30 => ?_)
    clear hP0 hD0 hS0
    have w29_0 : r29 = kinL s.toInt64 0 1 := hw29
    have g29 : r29 = 0 := w29_0.trans (kside_no hs0 hs1)
    clear w29_0
    subst g29
    refine lv_if_ne (tgt := 10) hx hb dX9_alter_4 (by decide) (fun c31 => ?_) (fun c31 => ?_)
    · exact absurd (by decide) c31
    · refine lv_bipush (v := (-2)) hx hb dX9_alter_7 (by decide) ?_
      have q32 : ((-2) = (malter σ s i v).1) ∧ (σ = (malter σ s i v).2) := by
        first | (simp only [malter, m3, kd10, hs0, hs1, eq_true c31, eq_self, ↓reduceIte, and_self, and_true, true_and]; done) | (simp only [malter, m3, kd10, hs0, hs1, eq_true c31, eq_self, ↓reduceIte, and_self, and_true, true_and]; (try and_intros) <;> rfl)
      exact kRi F hr hlocks hS30 dX9_alter_9 σ q32 hP30 hD30
set_option maxHeartbeats 1000000 in
set_option maxRecDepth 100000 in
theorem c_X9_message (l : Launch) (G : kG) (h : Nat) (a : Nat → Nat) (σ : kS) (s : Int32) (i : Int32) : kM G l yX9_message wsX9_message ({ frames := 2, cells := 0, slots := 0, locals := 45 }) [.ref h, .int s, .int i] (mW G h a σ) (kQi G (fun (rr : Int32) (uu : Unit) => rr = mmess σ s i) (fun (uu : Unit) => mW G h a σ)) := by
  refine kStart (cc := cX9_message) (maxL := 3) (ret := (some .int)) (by decide) rfl (Nat.le_of_ble_eq_true rfl) (fun pg ev st mi bl mt cd A ls0 F hr hlocks hin hK hP0 hD0 hA hS0 hl0 => ?_)
  obtain ⟨hx, hb, hml, hown, hts⟩ := id F
  have hl0 : lv_has ls0 3 [(0, .ref h), (1, .int s), (2, .int i)] := hl0
  have iX9 : ∀ w ∈ u_ws RX9 TX9 43, w ∈ wsX9_message := fun w h => List.mem_cons_of_mem _ (List.mem_append_right _ h)
  rcases k_sides s with rfl | rfl | ⟨hs0, hs1⟩
  · skip
    refine lv_iload_n hx hb dX9_message_0 rfl (lv_at hl0 1 rfl) ?_
    refine kPSi F hK hP0 hD0 hS0 hA hl0.1 (c_X9_isSide l G 0) (fun _ => rfl) gX9_message_X9_isSide rfl 1 rfl (by decide +kernel) ⟨Nat.le_of_ble_eq_true rfl, Nat.le_of_ble_eq_true rfl⟩ ⟨Nat.zero_le _, Nat.zero_le _⟩ (Nat.le_of_ble_eq_true rfl) rfl dX9_message_1 (fun r1 u1 H2 locs2 hw1 (hP2 : va_P G.1 vwCl (mW G h a σ) H2) (hD2 : va_D A (mW G h a σ)) hS2 => ?_)
    clear hP0 hD0 hS0
    have w1_0 : r1 = kinL (0 : Int32).toInt64 0 1 := hw1
    have g1 : r1 = 1 := w1_0.trans kside_0
    clear w1_0
    subst g1
    refine lv_if_ne (tgt := 10) hx hb dX9_message_4 (by decide) (fun c3 => ?_) (fun c3 => ?_)
    · refine lv_iload_n hx hb dX9_message_10 rfl (lv_at hl0 2 rfl) ?_
      refine lv_i2l (v := i.toInt64) hx hb dX9_message_11 rfl ?_
      refine lv_lconst (v := 0) hx hb dX9_message_12 (by decide) ?_
      refine lv_ldc2 (v := 8) hx hb hown (hts _ (List.mem_of_getElem? (i := 1) rfl)) dX9_message_13 ?_
      refine kPSi F hK hP2 hD2 hS2 hA hl0.1 (c_X9_in l G i.toInt64 0 8) (fun _ => rfl) gX9_message_X9_in rfl 3 rfl (by decide +kernel) ⟨Nat.le_of_ble_eq_true rfl, Nat.le_of_ble_eq_true rfl⟩ ⟨Nat.zero_le _, Nat.zero_le _⟩ (Nat.le_of_ble_eq_true rfl) rfl dX9_message_16 (fun r4 u4 H5 locs5 hw4 (hP5 : va_P G.1 vwCl (mW G h a σ) H5) (hD5 : va_D A (mW G h a σ)) hS5 => ?_)
      clear hP2 hD2 hS2
      have w4_0 : r4 = kinL i.toInt64 0 8 := hw4
      refine lv_if_ne (tgt := 25) hx hb dX9_message_19 (by decide) (fun c6 => ?_) (fun c6 => ?_)
      · have hi := kin8 (x := i) (by subst w4_0; exact c6)
        refine lv_aload_n hx hb dX9_message_25 rfl (lv_at hl0 0 rfl) ?_
        refine kget F hK hP5 9 0 26 iX9 rfl rfl (by decide) (List.mem_of_getElem? (i := 2) rfl) rfl dX9_message_26 ?_
        refine lv_iload_n hx hb dX9_message_29 rfl (lv_at hl0 1 rfl) ?_
        refine kild F hK hP5 17 0 rfl rfl (by decide) (Nat.le_of_ble_eq_true rfl) dX9_message_30 ?_
        refine lv_if_ne (tgt := 39) hx hb dX9_message_31 (by decide) (fun c7 => ?_) (fun c7 => ?_)
        · refine lv_aload_n hx hb dX9_message_39 rfl (lv_at hl0 0 rfl) ?_
          refine kget F hK hP5 9 0 27 iX9 rfl rfl (by decide) (List.mem_of_getElem? (i := 3) rfl) rfl dX9_message_40 ?_
          refine lv_bipush (v := 72) hx hb dX9_message_43 (by decide) ?_
          refine lv_iload_n hx hb dX9_message_45 rfl (lv_at hl0 1 rfl) ?_
          refine lv_imul hx hb dX9_message_46 ?_
          rw [show (72 * 0 : Int32) = 0 from by decide]
          refine lv_iload_n hx hb dX9_message_47 rfl (lv_at hl0 2 rfl) ?_
          refine lv_iadd hx hb dX9_message_48 ?_
          refine kild F hK hP5 18 (72 * 0 + i.toNatClampNeg) rfl (ixs (A := 72 * 0) rfl hi.1) (by have := hi.2; omega) (Nat.le_of_ble_eq_true rfl) dX9_message_49 ?_
          have q9 : (σ 27 (72 * 0 + i.toNatClampNeg)) = mmess σ 0 i := by
            subst w4_0
            first | (simp only [mmess, kd10, c3, c6, c7, eq_self, ↓reduceIte, and_self, and_true, true_and]; done) | (simp only [mmess, kd10, c3, c6, c7, eq_self, ↓reduceIte, and_self, and_true, true_and]; (try and_intros) <;> rfl)
          exact kRi F hr hlocks hS5 dX9_message_50 () q9 hP5 hD5
        · refine lv_bipush (v := (-4)) hx hb dX9_message_34 (by decide) ?_
          refine lv_goto (tgt := 50) hx hb dX9_message_36 (by decide) ?_
          have q10 : (-4) = mmess σ 0 i := by
            subst w4_0
            first | (simp only [mmess, kd10, c3, c6, eq_true c7, eq_self, ↓reduceIte, and_self, and_true, true_and]; done) | (simp only [mmess, kd10, c3, c6, eq_true c7, eq_self, ↓reduceIte, and_self, and_true, true_and]; (try and_intros) <;> rfl)
          exact kRi F hr hlocks hS5 dX9_message_50 () q10 hP5 hD5
      · refine lv_bipush (v := (-3)) hx hb dX9_message_22 (by decide) ?_
        have q11 : (-3) = mmess σ 0 i := by
          subst w4_0
          first | (simp only [mmess, kd10, c3, eq_true c6, eq_self, ↓reduceIte, and_self, and_true, true_and]; done) | (simp only [mmess, kd10, c3, eq_true c6, eq_self, ↓reduceIte, and_self, and_true, true_and]; (try and_intros) <;> rfl)
        exact kRi F hr hlocks hS5 dX9_message_24 () q11 hP5 hD5
    · exact absurd c3 (by decide)
  · skip
    refine lv_iload_n hx hb dX9_message_0 rfl (lv_at hl0 1 rfl) ?_
    refine kPSi F hK hP0 hD0 hS0 hA hl0.1 (c_X9_isSide l G 1) (fun _ => rfl) gX9_message_X9_isSide rfl 1 rfl (by decide +kernel) ⟨Nat.le_of_ble_eq_true rfl, Nat.le_of_ble_eq_true rfl⟩ ⟨Nat.zero_le _, Nat.zero_le _⟩ (Nat.le_of_ble_eq_true rfl) rfl dX9_message_1 (fun r12 u12 H13 locs13 hw12 (hP13 : va_P G.1 vwCl (mW G h a σ) H13) (hD13 : va_D A (mW G h a σ)) hS13 => ?_)
    clear hP0 hD0 hS0
    have w12_0 : r12 = kinL (1 : Int32).toInt64 0 1 := hw12
    have g12 : r12 = 1 := w12_0.trans kside_1
    clear w12_0
    subst g12
    refine lv_if_ne (tgt := 10) hx hb dX9_message_4 (by decide) (fun c14 => ?_) (fun c14 => ?_)
    · refine lv_iload_n hx hb dX9_message_10 rfl (lv_at hl0 2 rfl) ?_
      refine lv_i2l (v := i.toInt64) hx hb dX9_message_11 rfl ?_
      refine lv_lconst (v := 0) hx hb dX9_message_12 (by decide) ?_
      refine lv_ldc2 (v := 8) hx hb hown (hts _ (List.mem_of_getElem? (i := 1) rfl)) dX9_message_13 ?_
      refine kPSi F hK hP13 hD13 hS13 hA hl0.1 (c_X9_in l G i.toInt64 0 8) (fun _ => rfl) gX9_message_X9_in rfl 3 rfl (by decide +kernel) ⟨Nat.le_of_ble_eq_true rfl, Nat.le_of_ble_eq_true rfl⟩ ⟨Nat.zero_le _, Nat.zero_le _⟩ (Nat.le_of_ble_eq_true rfl) rfl dX9_message_16 (fun r15 u15 H16 locs16 hw15 (hP16 : va_P G.1 vwCl (mW G h a σ) H16) (hD16 : va_D A (mW G h a σ)) hS16 => ?_)
      clear hP13 hD13 hS13
      have w15_0 : r15 = kinL i.toInt64 0 8 := hw15
      refine lv_if_ne (tgt := 25) hx hb dX9_message_19 (by decide) (fun c17 => ?_) (fun c17 => ?_)
      · have hi := kin8 (x := i) (by subst w15_0; exact c17)
        refine lv_aload_n hx hb dX9_message_25 rfl (lv_at hl0 0 rfl) ?_
        refine kget F hK hP16 9 0 26 iX9 rfl rfl (by decide) (List.mem_of_getElem? (i := 2) rfl) rfl dX9_message_26 ?_
        refine lv_iload_n hx hb dX9_message_29 rfl (lv_at hl0 1 rfl) ?_
        refine kild F hK hP16 17 1 rfl rfl (by decide) (Nat.le_of_ble_eq_true rfl) dX9_message_30 ?_
        refine lv_if_ne (tgt := 39) hx hb dX9_message_31 (by decide) (fun c18 => ?_) (fun c18 => ?_)
        · refine lv_aload_n hx hb dX9_message_39 rfl (lv_at hl0 0 rfl) ?_
          refine kget F hK hP16 9 0 27 iX9 rfl rfl (by decide) (List.mem_of_getElem? (i := 3) rfl) rfl dX9_message_40 ?_
          refine lv_bipush (v := 72) hx hb dX9_message_43 (by decide) ?_
          refine lv_iload_n hx hb dX9_message_45 rfl (lv_at hl0 1 rfl) ?_
          refine lv_imul hx hb dX9_message_46 ?_
          rw [show (72 * 1 : Int32) = 72 from by decide]
          refine lv_iload_n hx hb dX9_message_47 rfl (lv_at hl0 2 rfl) ?_
          refine lv_iadd hx hb dX9_message_48 ?_
          refine kild F hK hP16 18 (72 * 1 + i.toNatClampNeg) rfl (ixs (A := 72 * 1) rfl hi.1) (by have := hi.2; omega) (Nat.le_of_ble_eq_true rfl) dX9_message_49 ?_
          have q20 : (σ 27 (72 * 1 + i.toNatClampNeg)) = mmess σ 1 i := by
            subst w15_0
            first | (simp only [mmess, kd10, c14, c17, c18, eq_self, ↓reduceIte, and_self, and_true, true_and]; done) | (simp only [mmess, kd10, c14, c17, c18, eq_self, ↓reduceIte, and_self, and_true, true_and]; (try and_intros) <;> rfl)
          exact kRi F hr hlocks hS16 dX9_message_50 () q20 hP16 hD16
        · refine lv_bipush (v := (-4)) hx hb dX9_message_34 (by decide) ?_
          refine lv_goto (tgt := 50) hx hb dX9_message_36 (by decide) ?_
          have q21 : (-4) = mmess σ 1 i := by
            subst w15_0
            first | (simp only [mmess, kd10, c14, c17, eq_true c18, eq_self, ↓reduceIte, and_self, and_true, true_and]; done) | (simp only [mmess, kd10, c14, c17, eq_true c18, eq_self, ↓reduceIte, and_self, and_true, true_and]; (try and_intros) <;> rfl)
          exact kRi F hr hlocks hS16 dX9_message_50 () q21 hP16 hD16
      · refine lv_bipush (v := (-3)) hx hb dX9_message_22 (by decide) ?_
        have q22 : (-3) = mmess σ 1 i := by
          subst w15_0
          first | (simp only [mmess, kd10, c14, eq_true c17, eq_self, ↓reduceIte, and_self, and_true, true_and]; done) | (simp only [mmess, kd10, c14, eq_true c17, eq_self, ↓reduceIte, and_self, and_true, true_and]; (try and_intros) <;> rfl)
        exact kRi F hr hlocks hS16 dX9_message_24 () q22 hP16 hD16
    · exact absurd c14 (by decide)
  · skip
    refine lv_iload_n hx hb dX9_message_0 rfl (lv_at hl0 1 rfl) ?_
    refine kPSi F hK hP0 hD0 hS0 hA hl0.1 (c_X9_isSide l G s) (fun _ => rfl) gX9_message_X9_isSide rfl 1 rfl (by decide +kernel) ⟨Nat.le_of_ble_eq_true rfl, Nat.le_of_ble_eq_true rfl⟩ ⟨Nat.zero_le _, Nat.zero_le _⟩ (Nat.le_of_ble_eq_true rfl) rfl dX9_message_1 (fun r23 u23 H24 locs24 hw23 (hP24 : va_P G.1 vwCl (mW G h a σ) H24) (hD24 : va_D A (mW G h a σ)) hS24 => ?_)
    clear hP0 hD0 hS0
    have w23_0 : r23 = kinL s.toInt64 0 1 := hw23
    have g23 : r23 = 0 := w23_0.trans (kside_no hs0 hs1)
    clear w23_0
    subst g23
    refine lv_if_ne (tgt := 10) hx hb dX9_message_4 (by decide) (fun c25 => ?_) (fun c25 => ?_)
    · exact absurd (by decide) c25
    · refine lv_bipush (v := (-2)) hx hb dX9_message_7 (by decide) ?_
      have q26 : (-2) = mmess σ s i := by
        first | (simp only [mmess, kd10, hs0, hs1, eq_true c25, eq_self, ↓reduceIte, and_self, and_true, true_and]; done) | (simp only [mmess, kd10, hs0, hs1, eq_true c25, eq_self, ↓reduceIte, and_self, and_true, true_and]; (try and_intros) <;> rfl)
      exact kRi F hr hlocks hS24 dX9_message_9 () q26 hP24 hD24
set_option maxHeartbeats 1000000 in
set_option maxRecDepth 100000 in
theorem c_X9_copy (l : Launch) (G : kG) (h : Nat) (a : Nat → Nat) (σ : kS) (s : Int32) (g : Int32) : kM G l yX9_copy wsX9_copy ({ frames := 2, cells := 0, slots := 0, locals := 45 }) [.ref h, .int s, .int g] (mW G h a σ) (kQi G (fun (rr : Int32) (uu : kS) => (rr = (mcopy σ s g).1) ∧ (uu = (mcopy σ s g).2)) (fun (uu : kS) => mW G h a uu)) := by
  refine kStart (cc := cX9_copy) (maxL := 4) (ret := (some .int)) (by decide) rfl (Nat.le_of_ble_eq_true rfl) (fun pg ev st mi bl mt cd A ls0 F hr hlocks hin hK hP0 hD0 hA hS0 hl0 => ?_)
  obtain ⟨hx, hb, hml, hown, hts⟩ := id F
  have hl0 : lv_has ls0 4 [(0, .ref h), (1, .int s), (2, .int g)] := hl0
  have iX9 : ∀ w ∈ u_ws RX9 TX9 43, w ∈ wsX9_copy := fun w h => List.mem_cons_of_mem _ (List.mem_append_right _ h)
  rcases k_sides s with rfl | rfl | ⟨hs0, hs1⟩
  · skip
    refine lv_iload_n hx hb dX9_copy_0 rfl (lv_at hl0 1 rfl) ?_
    refine kPSi F hK hP0 hD0 hS0 hA hl0.1 (c_X9_isSide l G 0) (fun _ => rfl) gX9_copy_X9_isSide rfl 1 rfl (by decide +kernel) ⟨Nat.le_of_ble_eq_true rfl, Nat.le_of_ble_eq_true rfl⟩ ⟨Nat.zero_le _, Nat.zero_le _⟩ (Nat.le_of_ble_eq_true rfl) rfl dX9_copy_1 (fun r1 u1 H2 locs2 hw1 (hP2 : va_P G.1 vwCl (mW G h a σ) H2) (hD2 : va_D A (mW G h a σ)) hS2 => ?_)
    clear hP0 hD0 hS0
    have w1_0 : r1 = kinL (0 : Int32).toInt64 0 1 := hw1
    have g1 : r1 = 1 := w1_0.trans kside_0
    clear w1_0
    subst g1
    refine lv_if_eq (tgt := 19) hx hb dX9_copy_4 (by decide) (fun c3 => ?_) (fun c3 => ?_)
    · exact absurd c3 (by decide)
    · refine lv_iload_n hx hb dX9_copy_7 rfl (lv_at hl0 2 rfl) ?_
      refine lv_i2l (v := g.toInt64) hx hb dX9_copy_8 rfl ?_
      refine lv_lconst (v := 0) hx hb dX9_copy_9 (by decide) ?_
      refine lv_ldc2 (v := 3) hx hb hown (hts _ (List.mem_of_getElem? (i := 1) rfl)) dX9_copy_10 ?_
      refine kPSi F hK hP2 hD2 hS2 hA hl0.1 (c_X9_in l G g.toInt64 0 3) (fun _ => rfl) gX9_copy_X9_in rfl 3 rfl (by decide +kernel) ⟨Nat.le_of_ble_eq_true rfl, Nat.le_of_ble_eq_true rfl⟩ ⟨Nat.zero_le _, Nat.zero_le _⟩ (Nat.le_of_ble_eq_true rfl) rfl dX9_copy_13 (fun r4 u4 H5 locs5 hw4 (hP5 : va_P G.1 vwCl (mW G h a σ) H5) (hD5 : va_D A (mW G h a σ)) hS5 => ?_)
      clear hP2 hD2 hS2
      have w4_0 : r4 = kinL g.toInt64 0 3 := hw4
      refine lv_if_ne (tgt := 22) hx hb dX9_copy_16 (by decide) (fun c6 => ?_) (fun c6 => ?_)
      · have hi := kin3 (x := g) (by subst w4_0; exact c6)
        refine lv_aload_n hx hb dX9_copy_22 rfl (lv_at hl0 0 rfl) ?_
        refine kget F hK hP5 9 0 26 iX9 rfl rfl (by decide) (List.mem_of_getElem? (i := 2) rfl) rfl dX9_copy_23 ?_
        refine lv_iload_n hx hb dX9_copy_26 rfl (lv_at hl0 1 rfl) ?_
        refine kild F hK hP5 17 0 rfl rfl (by decide) (Nat.le_of_ble_eq_true rfl) dX9_copy_27 ?_
        refine lv_if_ne (tgt := 34) hx hb dX9_copy_28 (by decide) (fun c7 => ?_) (fun c7 => ?_)
        · refine lv_iconst (v := 0) hx hb dX9_copy_34 (by decide) ?_
          refine lv_istore_n (lv' := [(3, .int 0), (0, .ref h), (1, .int 0), (2, .int g)]) hx hb dX9_copy_35 rfl hl0 (by decide) rfl (fun ls8 hl8 => ?_)
          clear hl0
          have LOOP9 : ∀ (fu k : Nat), k ≤ 9 → 9 + 1 ≤ k + fu → ∀ σ9 : kS, σ9 = va_up σ 28 (mcpy (σ 28) (fun k => σ 27 (72 * 0 + k)) (9 * g.toNatClampNeg) k) → ∀ (H9 : Heap) (locs9 : List Loc) (ls9 : Array Slot), lv_has ls9 4 [(3, .int (nI k)), (0, .ref h), (1, .int 0), (2, .int g)] → va_P G.1 vwCl (mW G h a σ9) H9 → va_D A (mW G h a σ9) → va_S A st.heap H9 locs9 → W pg l ev ({ frames := 2, cells := 0, slots := 0, locals := 45 }) st mi ([.ref h, .int 0, .int g] : List Value).toArray bl mt cd H9 locs9 0 0 (MQ bl (kQi G (fun (rr : Int32) (uu : kS) => (rr = (mcopy σ 0 g).1) ∧ (uu = (mcopy σ 0 g).2)) (fun (uu : kS) => mW G h a uu) A) ([.ref h, .int 0, .int g] : List Value).toArray st 0 0 A) (F0 mi 36 ls9 []) := by
            intro fu
            induction fu with
            | zero => intro k h1 h2; exact absurd h2 (by omega)
            | succ fu ih =>
              intro k hk hnk σ9 eσ9 H9 locs9 ls9 hl9 hP9 hD9 hS9
              refine lv_iload_n hx hb dX9_copy_36 rfl (lv_at hl9 0 rfl) ?_
              refine lv_bipush (v := 9) hx hb dX9_copy_37 (by decide) ?_
              refine lv_icmp_ge (tgt := 70) hx hb dX9_copy_39 (by decide) (fun c10 => ?_) (fun c10 => ?_)
              · have xk : k = 9 := k_exit (N := 9) hk (by decide) c10
                subst xk
                clear c10
                refine lv_aload_n hx hb dX9_copy_70 rfl (lv_at hl9 1 rfl) ?_
                refine kget F hK hP9 9 0 42 iX9 rfl rfl (by decide) (List.mem_of_getElem? (i := 5) rfl) rfl dX9_copy_71 ?_
                refine lv_iload_n hx hb dX9_copy_74 rfl (lv_at hl9 3 rfl) ?_
                refine lv_iconst (v := 1) hx hb dX9_copy_75 (by decide) ?_
                refine kMzst F hK hP9 hD9 hS9 42 24 g.toNatClampNeg rfl hi.1 hi.2 (Nat.le_of_ble_eq_true rfl) rfl rfl dX9_copy_76 (fun H11 locs11 σ11 eσ11 hP11 hD11 hS11 => ?_)
                clear hP9 hD9 hS9
                refine lv_aload_n hx hb dX9_copy_77 rfl (lv_at hl9 1 rfl) ?_
                refine kget F hK hP11 9 0 27 iX9 rfl rfl (by decide) (List.mem_of_getElem? (i := 4) rfl) rfl dX9_copy_78 ?_
                refine lv_bipush (v := 72) hx hb dX9_copy_81 (by decide) ?_
                refine lv_iload_n hx hb dX9_copy_83 rfl (lv_at hl9 2 rfl) ?_
                refine lv_imul hx hb dX9_copy_84 ?_
                rw [show (72 * 0 : Int32) = 0 from by decide]
                refine kild F hK hP11 18 0 rfl rfl (by decide) (Nat.le_of_ble_eq_true rfl) dX9_copy_85 ?_
                rw [show (σ11 27 0) = (σ9 27 0) from by subst eσ11; subst eσ9; first | rfl | (simp only [msend]; (repeat' split) <;> rfl)]
                have q13 : ((σ9 27 0) = (mcopy σ 0 g).1) ∧ (σ11 = (mcopy σ 0 g).2) := by
                  subst eσ11
                  subst eσ9
                  subst w4_0
                  first | (simp only [mcopy, mcopyF, m3, kd10, c3, c6, c7, eq_self, ↓reduceIte, and_self, and_true, true_and]; done) | (simp only [mcopy, mcopyF, m3, kd10, c3, c6, c7, eq_self, ↓reduceIte, and_self, and_true, true_and]; (try and_intros) <;> rfl)
                exact kRi F hr hlocks hS11 dX9_copy_86 σ11 q13 hP11 hD11
              · have lk : k < 9 := k_body (N := 9) hk (by decide) c10
                refine lv_aload_n hx hb dX9_copy_42 rfl (lv_at hl9 1 rfl) ?_
                refine kget F hK hP9 9 0 28 iX9 rfl rfl (by decide) (List.mem_of_getElem? (i := 3) rfl) rfl dX9_copy_43 ?_
                refine lv_bipush (v := 9) hx hb dX9_copy_46 (by decide) ?_
                refine lv_iload_n hx hb dX9_copy_48 rfl (lv_at hl9 3 rfl) ?_
                refine lv_imul hx hb dX9_copy_49 ?_
                refine lv_iload_n hx hb dX9_copy_50 rfl (lv_at hl9 0 rfl) ?_
                refine lv_iadd hx hb dX9_copy_51 ?_
                refine lv_aload_n hx hb dX9_copy_52 rfl (lv_at hl9 1 rfl) ?_
                refine kget F hK hP9 9 0 27 iX9 rfl rfl (by decide) (List.mem_of_getElem? (i := 4) rfl) rfl dX9_copy_53 ?_
                refine lv_bipush (v := 72) hx hb dX9_copy_56 (by decide) ?_
                refine lv_iload_n hx hb dX9_copy_58 rfl (lv_at hl9 2 rfl) ?_
                refine lv_imul hx hb dX9_copy_59 ?_
                rw [show (72 * 0 : Int32) = 0 from by decide]
                refine lv_iload_n hx hb dX9_copy_60 rfl (lv_at hl9 0 rfl) ?_
                refine lv_iadd hx hb dX9_copy_61 ?_
                refine kild F hK hP9 18 (72 * 0 + k) rfl (ixs (A := 72 * 0) rfl rfl) (by omega) (Nat.le_of_ble_eq_true rfl) dX9_copy_62 ?_
                refine kMst F hK hP9 hD9 hS9 28 19 (9 * g.toNatClampNeg + k) rfl (ix9 hi.1) (by have := hi.2; omega) (Nat.le_of_ble_eq_true rfl) rfl dX9_copy_63 (fun H15 locs15 σ15 eσ15 hP15 hD15 hS15 => ?_)
                clear hP9 hD9 hS9
                refine lv_iinc (v := nI (k + 1)) (lv' := [(3, .int (nI (k + 1))), (0, .ref h), (1, .int 0), (2, .int g)]) hx hb dX9_copy_64 hl9 (k := 0) rfl (nI_1 _) (by decide) rfl (fun ls16 hl16 => ?_)
                clear hl9
                refine lv_goto (tgt := 36) hx hb dX9_copy_67 (by decide) ?_
                exact ih (k + 1) (by omega) (by omega) σ15 (by subst eσ15; subst eσ9; subst w4_0; exact su_up _ _ _ _ _)  _ _ _ hl16 hP15 hD15 hS15
          exact LOOP9 (9 + 1) 0 (by omega) (by omega) σ (va_upid _ _).symm  _ _ _ hl8 hP5 hD5 hS5
        · refine lv_bipush (v := (-4)) hx hb dX9_copy_31 (by decide) ?_
          have q17 : ((-4) = (mcopy σ 0 g).1) ∧ (σ = (mcopy σ 0 g).2) := by
            subst w4_0
            first | (simp only [mcopy, mcopyF, m3, kd10, c3, c6, eq_true c7, eq_self, ↓reduceIte, and_self, and_true, true_and]; done) | (simp only [mcopy, mcopyF, m3, kd10, c3, c6, eq_true c7, eq_self, ↓reduceIte, and_self, and_true, true_and]; (try and_intros) <;> rfl)
          exact kRi F hr hlocks hS5 dX9_copy_33 σ q17 hP5 hD5
      · refine lv_bipush (v := (-2)) hx hb dX9_copy_19 (by decide) ?_
        have q18 : ((-2) = (mcopy σ 0 g).1) ∧ (σ = (mcopy σ 0 g).2) := by
          subst w4_0
          first | (simp only [mcopy, mcopyF, m3, kd10, c3, eq_true c6, eq_self, ↓reduceIte, and_self, and_true, true_and]; done) | (simp only [mcopy, mcopyF, m3, kd10, c3, eq_true c6, eq_self, ↓reduceIte, and_self, and_true, true_and]; (try and_intros) <;> rfl)
        exact kRi F hr hlocks hS5 dX9_copy_21 σ q18 hP5 hD5
  · skip
    refine lv_iload_n hx hb dX9_copy_0 rfl (lv_at hl0 1 rfl) ?_
    refine kPSi F hK hP0 hD0 hS0 hA hl0.1 (c_X9_isSide l G 1) (fun _ => rfl) gX9_copy_X9_isSide rfl 1 rfl (by decide +kernel) ⟨Nat.le_of_ble_eq_true rfl, Nat.le_of_ble_eq_true rfl⟩ ⟨Nat.zero_le _, Nat.zero_le _⟩ (Nat.le_of_ble_eq_true rfl) rfl dX9_copy_1 (fun r19 u19 H20 locs20 hw19 (hP20 : va_P G.1 vwCl (mW G h a σ) H20) (hD20 : va_D A (mW G h a σ)) hS20 => ?_)
    clear hP0 hD0 hS0
    have w19_0 : r19 = kinL (1 : Int32).toInt64 0 1 := hw19
    have g19 : r19 = 1 := w19_0.trans kside_1
    clear w19_0
    subst g19
    refine lv_if_eq (tgt := 19) hx hb dX9_copy_4 (by decide) (fun c21 => ?_) (fun c21 => ?_)
    · exact absurd c21 (by decide)
    · refine lv_iload_n hx hb dX9_copy_7 rfl (lv_at hl0 2 rfl) ?_
      refine lv_i2l (v := g.toInt64) hx hb dX9_copy_8 rfl ?_
      refine lv_lconst (v := 0) hx hb dX9_copy_9 (by decide) ?_
      refine lv_ldc2 (v := 3) hx hb hown (hts _ (List.mem_of_getElem? (i := 1) rfl)) dX9_copy_10 ?_
      refine kPSi F hK hP20 hD20 hS20 hA hl0.1 (c_X9_in l G g.toInt64 0 3) (fun _ => rfl) gX9_copy_X9_in rfl 3 rfl (by decide +kernel) ⟨Nat.le_of_ble_eq_true rfl, Nat.le_of_ble_eq_true rfl⟩ ⟨Nat.zero_le _, Nat.zero_le _⟩ (Nat.le_of_ble_eq_true rfl) rfl dX9_copy_13 (fun r22 u22 H23 locs23 hw22 (hP23 : va_P G.1 vwCl (mW G h a σ) H23) (hD23 : va_D A (mW G h a σ)) hS23 => ?_)
      clear hP20 hD20 hS20
      have w22_0 : r22 = kinL g.toInt64 0 3 := hw22
      refine lv_if_ne (tgt := 22) hx hb dX9_copy_16 (by decide) (fun c24 => ?_) (fun c24 => ?_)
      · have hi := kin3 (x := g) (by subst w22_0; exact c24)
        refine lv_aload_n hx hb dX9_copy_22 rfl (lv_at hl0 0 rfl) ?_
        refine kget F hK hP23 9 0 26 iX9 rfl rfl (by decide) (List.mem_of_getElem? (i := 2) rfl) rfl dX9_copy_23 ?_
        refine lv_iload_n hx hb dX9_copy_26 rfl (lv_at hl0 1 rfl) ?_
        refine kild F hK hP23 17 1 rfl rfl (by decide) (Nat.le_of_ble_eq_true rfl) dX9_copy_27 ?_
        refine lv_if_ne (tgt := 34) hx hb dX9_copy_28 (by decide) (fun c25 => ?_) (fun c25 => ?_)
        · refine lv_iconst (v := 0) hx hb dX9_copy_34 (by decide) ?_
          refine lv_istore_n (lv' := [(3, .int 0), (0, .ref h), (1, .int 1), (2, .int g)]) hx hb dX9_copy_35 rfl hl0 (by decide) rfl (fun ls26 hl26 => ?_)
          clear hl0
          have LOOP27 : ∀ (fu k : Nat), k ≤ 9 → 9 + 1 ≤ k + fu → ∀ σ27 : kS, σ27 = va_up σ 28 (mcpy (σ 28) (fun k => σ 27 (72 * 1 + k)) (9 * g.toNatClampNeg) k) → ∀ (H27 : Heap) (locs27 : List Loc) (ls27 : Array Slot), lv_has ls27 4 [(3, .int (nI k)), (0, .ref h), (1, .int 1), (2, .int g)] → va_P G.1 vwCl (mW G h a σ27) H27 → va_D A (mW G h a σ27) → va_S A st.heap H27 locs27 → W pg l ev ({ frames := 2, cells := 0, slots := 0, locals := 45 }) st mi ([.ref h, .int 1, .int g] : List Value).toArray bl mt cd H27 locs27 0 0 (MQ bl (kQi G (fun (rr : Int32) (uu : kS) => (rr = (mcopy σ 1 g).1) ∧ (uu = (mcopy σ 1 g).2)) (fun (uu : kS) => mW G h a uu) A) ([.ref h, .int 1, .int g] : List Value).toArray st 0 0 A) (F0 mi 36 ls27 []) := by
            intro fu
            induction fu with
            | zero => intro k h1 h2; exact absurd h2 (by omega)
            | succ fu ih =>
              intro k hk hnk σ27 eσ27 H27 locs27 ls27 hl27 hP27 hD27 hS27
              refine lv_iload_n hx hb dX9_copy_36 rfl (lv_at hl27 0 rfl) ?_
              refine lv_bipush (v := 9) hx hb dX9_copy_37 (by decide) ?_
              refine lv_icmp_ge (tgt := 70) hx hb dX9_copy_39 (by decide) (fun c28 => ?_) (fun c28 => ?_)
              · have xk : k = 9 := k_exit (N := 9) hk (by decide) c28
                subst xk
                clear c28
                refine lv_aload_n hx hb dX9_copy_70 rfl (lv_at hl27 1 rfl) ?_
                refine kget F hK hP27 9 0 42 iX9 rfl rfl (by decide) (List.mem_of_getElem? (i := 5) rfl) rfl dX9_copy_71 ?_
                refine lv_iload_n hx hb dX9_copy_74 rfl (lv_at hl27 3 rfl) ?_
                refine lv_iconst (v := 1) hx hb dX9_copy_75 (by decide) ?_
                refine kMzst F hK hP27 hD27 hS27 42 24 g.toNatClampNeg rfl hi.1 hi.2 (Nat.le_of_ble_eq_true rfl) rfl rfl dX9_copy_76 (fun H29 locs29 σ29 eσ29 hP29 hD29 hS29 => ?_)
                clear hP27 hD27 hS27
                refine lv_aload_n hx hb dX9_copy_77 rfl (lv_at hl27 1 rfl) ?_
                refine kget F hK hP29 9 0 27 iX9 rfl rfl (by decide) (List.mem_of_getElem? (i := 4) rfl) rfl dX9_copy_78 ?_
                refine lv_bipush (v := 72) hx hb dX9_copy_81 (by decide) ?_
                refine lv_iload_n hx hb dX9_copy_83 rfl (lv_at hl27 2 rfl) ?_
                refine lv_imul hx hb dX9_copy_84 ?_
                rw [show (72 * 1 : Int32) = 72 from by decide]
                refine kild F hK hP29 18 72 rfl rfl (by decide) (Nat.le_of_ble_eq_true rfl) dX9_copy_85 ?_
                rw [show (σ29 27 72) = (σ27 27 72) from by subst eσ29; subst eσ27; first | rfl | (simp only [msend]; (repeat' split) <;> rfl)]
                have q31 : ((σ27 27 72) = (mcopy σ 1 g).1) ∧ (σ29 = (mcopy σ 1 g).2) := by
                  subst eσ29
                  subst eσ27
                  subst w22_0
                  first | (simp only [mcopy, mcopyF, m3, kd10, c21, c24, c25, eq_self, ↓reduceIte, and_self, and_true, true_and]; done) | (simp only [mcopy, mcopyF, m3, kd10, c21, c24, c25, eq_self, ↓reduceIte, and_self, and_true, true_and]; (try and_intros) <;> rfl)
                exact kRi F hr hlocks hS29 dX9_copy_86 σ29 q31 hP29 hD29
              · have lk : k < 9 := k_body (N := 9) hk (by decide) c28
                refine lv_aload_n hx hb dX9_copy_42 rfl (lv_at hl27 1 rfl) ?_
                refine kget F hK hP27 9 0 28 iX9 rfl rfl (by decide) (List.mem_of_getElem? (i := 3) rfl) rfl dX9_copy_43 ?_
                refine lv_bipush (v := 9) hx hb dX9_copy_46 (by decide) ?_
                refine lv_iload_n hx hb dX9_copy_48 rfl (lv_at hl27 3 rfl) ?_
                refine lv_imul hx hb dX9_copy_49 ?_
                refine lv_iload_n hx hb dX9_copy_50 rfl (lv_at hl27 0 rfl) ?_
                refine lv_iadd hx hb dX9_copy_51 ?_
                refine lv_aload_n hx hb dX9_copy_52 rfl (lv_at hl27 1 rfl) ?_
                refine kget F hK hP27 9 0 27 iX9 rfl rfl (by decide) (List.mem_of_getElem? (i := 4) rfl) rfl dX9_copy_53 ?_
                refine lv_bipush (v := 72) hx hb dX9_copy_56 (by decide) ?_
                refine lv_iload_n hx hb dX9_copy_58 rfl (lv_at hl27 2 rfl) ?_
                refine lv_imul hx hb dX9_copy_59 ?_
                rw [show (72 * 1 : Int32) = 72 from by decide]
                refine lv_iload_n hx hb dX9_copy_60 rfl (lv_at hl27 0 rfl) ?_
                refine lv_iadd hx hb dX9_copy_61 ?_
                refine kild F hK hP27 18 (72 * 1 + k) rfl (ixs (A := 72 * 1) rfl rfl) (by omega) (Nat.le_of_ble_eq_true rfl) dX9_copy_62 ?_
                refine kMst F hK hP27 hD27 hS27 28 19 (9 * g.toNatClampNeg + k) rfl (ix9 hi.1) (by have := hi.2; omega) (Nat.le_of_ble_eq_true rfl) rfl dX9_copy_63 (fun H33 locs33 σ33 eσ33 hP33 hD33 hS33 => ?_)
                clear hP27 hD27 hS27
                refine lv_iinc (v := nI (k + 1)) (lv' := [(3, .int (nI (k + 1))), (0, .ref h), (1, .int 1), (2, .int g)]) hx hb dX9_copy_64 hl27 (k := 0) rfl (nI_1 _) (by decide) rfl (fun ls34 hl34 => ?_)
                clear hl27
                refine lv_goto (tgt := 36) hx hb dX9_copy_67 (by decide) ?_
                exact ih (k + 1) (by omega) (by omega) σ33 (by subst eσ33; subst eσ27; subst w22_0; exact su_up _ _ _ _ _)  _ _ _ hl34 hP33 hD33 hS33
          exact LOOP27 (9 + 1) 0 (by omega) (by omega) σ (va_upid _ _).symm  _ _ _ hl26 hP23 hD23 hS23
        · refine lv_bipush (v := (-4)) hx hb dX9_copy_31 (by decide) ?_
          have q35 : ((-4) = (mcopy σ 1 g).1) ∧ (σ = (mcopy σ 1 g).2) := by
            subst w22_0
            first | (simp only [mcopy, mcopyF, m3, kd10, c21, c24, eq_true c25, eq_self, ↓reduceIte, and_self, and_true, true_and]; done) | (simp only [mcopy, mcopyF, m3, kd10, c21, c24, eq_true c25, eq_self, ↓reduceIte, and_self, and_true, true_and]; (try and_intros) <;> rfl)
          exact kRi F hr hlocks hS23 dX9_copy_33 σ q35 hP23 hD23
      · refine lv_bipush (v := (-2)) hx hb dX9_copy_19 (by decide) ?_
        have q36 : ((-2) = (mcopy σ 1 g).1) ∧ (σ = (mcopy σ 1 g).2) := by
          subst w22_0
          first | (simp only [mcopy, mcopyF, m3, kd10, c21, eq_true c24, eq_self, ↓reduceIte, and_self, and_true, true_and]; done) | (simp only [mcopy, mcopyF, m3, kd10, c21, eq_true c24, eq_self, ↓reduceIte, and_self, and_true, true_and]; (try and_intros) <;> rfl)
        exact kRi F hr hlocks hS23 dX9_copy_21 σ q36 hP23 hD23
  · skip
    refine lv_iload_n hx hb dX9_copy_0 rfl (lv_at hl0 1 rfl) ?_
    refine kPSi F hK hP0 hD0 hS0 hA hl0.1 (c_X9_isSide l G s) (fun _ => rfl) gX9_copy_X9_isSide rfl 1 rfl (by decide +kernel) ⟨Nat.le_of_ble_eq_true rfl, Nat.le_of_ble_eq_true rfl⟩ ⟨Nat.zero_le _, Nat.zero_le _⟩ (Nat.le_of_ble_eq_true rfl) rfl dX9_copy_1 (fun r37 u37 H38 locs38 hw37 (hP38 : va_P G.1 vwCl (mW G h a σ) H38) (hD38 : va_D A (mW G h a σ)) hS38 => ?_)
    clear hP0 hD0 hS0
    have w37_0 : r37 = kinL s.toInt64 0 1 := hw37
    have g37 : r37 = 0 := w37_0.trans (kside_no hs0 hs1)
    clear w37_0
    subst g37
    refine lv_if_eq (tgt := 19) hx hb dX9_copy_4 (by decide) (fun c39 => ?_) (fun c39 => ?_)
    · refine lv_bipush (v := (-2)) hx hb dX9_copy_19 (by decide) ?_
      have q40 : ((-2) = (mcopy σ s g).1) ∧ (σ = (mcopy σ s g).2) := by
        first | (simp only [mcopy, mcopyF, m3, kd10, hs0, hs1, eq_true c39, eq_self, ↓reduceIte, and_self, and_true, true_and]; done) | (simp only [mcopy, mcopyF, m3, kd10, hs0, hs1, eq_true c39, eq_self, ↓reduceIte, and_self, and_true, true_and]; (try and_intros) <;> rfl)
      exact kRi F hr hlocks hS38 dX9_copy_21 σ q40 hP38 hD38
    · exact absurd (by decide) c39
set_option maxHeartbeats 1000000 in
set_option maxRecDepth 100000 in
theorem c_X9_inject (l : Launch) (G : kG) (h : Nat) (a : Nat → Nat) (σ : kS) (s : Int32) (g : Int32) (S : Nat → Nat) (Mn : Nat → Nat) (E : Nat) (K : Nat) (ok : mOK σ S Mn E K) : kM G l yX9_inject wsX9_inject ({ frames := 2, cells := 0, slots := 0, locals := 45 }) [.ref h, .int s, .int g] (mW G h a σ) (kQi G (fun (rr : Int32) (uu : kS) => (rr = (minject σ s g Mn).1) ∧ (uu = (minject σ s g Mn).2)) (fun (uu : kS) => mW G h a uu)) := by
  refine kStart (cc := cX9_inject) (maxL := 4) (ret := (some .int)) (by decide) rfl (Nat.le_of_ble_eq_true rfl) (fun pg ev st mi bl mt cd A ls0 F hr hlocks hin hK hP0 hD0 hA hS0 hl0 => ?_)
  obtain ⟨hx, hb, hml, hown, hts⟩ := id F
  have hl0 : lv_has ls0 4 [(0, .ref h), (1, .int s), (2, .int g)] := hl0
  have iX9 : ∀ w ∈ u_ws RX9 TX9 43, w ∈ wsX9_inject := fun w h => List.mem_cons_of_mem _ (List.mem_append_right _ h)
  rcases k_sides s with rfl | rfl | ⟨hs0, hs1⟩
  · skip
    refine lv_iload_n hx hb dX9_inject_0 rfl (lv_at hl0 1 rfl) ?_
    refine kPSi F hK hP0 hD0 hS0 hA hl0.1 (c_X9_isSide l G 0) (fun _ => rfl) gX9_inject_X9_isSide rfl 1 rfl (by decide +kernel) ⟨Nat.le_of_ble_eq_true rfl, Nat.le_of_ble_eq_true rfl⟩ ⟨Nat.zero_le _, Nat.zero_le _⟩ (Nat.le_of_ble_eq_true rfl) rfl dX9_inject_1 (fun r1 u1 H2 locs2 hw1 (hP2 : va_P G.1 vwCl (mW G h a σ) H2) (hD2 : va_D A (mW G h a σ)) hS2 => ?_)
    clear hP0 hD0 hS0
    have w1_0 : r1 = kinL (0 : Int32).toInt64 0 1 := hw1
    have g1 : r1 = 1 := w1_0.trans kside_0
    clear w1_0
    subst g1
    refine lv_if_eq (tgt := 19) hx hb dX9_inject_4 (by decide) (fun c3 => ?_) (fun c3 => ?_)
    · exact absurd c3 (by decide)
    · refine lv_iload_n hx hb dX9_inject_7 rfl (lv_at hl0 2 rfl) ?_
      refine lv_i2l (v := g.toInt64) hx hb dX9_inject_8 rfl ?_
      refine lv_lconst (v := 0) hx hb dX9_inject_9 (by decide) ?_
      refine lv_ldc2 (v := 3) hx hb hown (hts _ (List.mem_of_getElem? (i := 1) rfl)) dX9_inject_10 ?_
      refine kPSi F hK hP2 hD2 hS2 hA hl0.1 (c_X9_in l G g.toInt64 0 3) (fun _ => rfl) gX9_inject_X9_in rfl 3 rfl (by decide +kernel) ⟨Nat.le_of_ble_eq_true rfl, Nat.le_of_ble_eq_true rfl⟩ ⟨Nat.zero_le _, Nat.zero_le _⟩ (Nat.le_of_ble_eq_true rfl) rfl dX9_inject_13 (fun r4 u4 H5 locs5 hw4 (hP5 : va_P G.1 vwCl (mW G h a σ) H5) (hD5 : va_D A (mW G h a σ)) hS5 => ?_)
      clear hP2 hD2 hS2
      have w4_0 : r4 = kinL g.toInt64 0 3 := hw4
      refine lv_if_ne (tgt := 22) hx hb dX9_inject_16 (by decide) (fun c6 => ?_) (fun c6 => ?_)
      · have hi := kin3 (x := g) (by subst w4_0; exact c6)
        refine lv_aload_n hx hb dX9_inject_22 rfl (lv_at hl0 0 rfl) ?_
        refine kget F hK hP5 9 0 42 iX9 rfl rfl (by decide) (List.mem_of_getElem? (i := 2) rfl) rfl dX9_inject_23 ?_
        refine lv_iload_n hx hb dX9_inject_26 rfl (lv_at hl0 2 rfl) ?_
        refine kzld F hK hP5 24 g.toNatClampNeg rfl hi.1 hi.2 (Nat.le_of_ble_eq_true rfl) dX9_inject_27 ?_
        refine lv_if_ne (tgt := 34) hx hb dX9_inject_28 (by decide) (fun c7 => ?_) (fun c7 => ?_)
        · refine lv_aload_n hx hb dX9_inject_34 rfl (lv_at hl0 0 rfl) ?_
          refine kget F hK hP5 9 0 26 iX9 rfl rfl (by decide) (List.mem_of_getElem? (i := 3) rfl) rfl dX9_inject_35 ?_
          refine lv_iload_n hx hb dX9_inject_38 rfl (lv_at hl0 1 rfl) ?_
          refine kild F hK hP5 17 0 rfl rfl (by decide) (Nat.le_of_ble_eq_true rfl) dX9_inject_39 ?_
          refine lv_bipush (v := 8) hx hb dX9_inject_40 (by decide) ?_
          refine lv_icmp_ne (tgt := 48) hx hb dX9_inject_42 (by decide) (fun c8 => ?_) (fun c8 => ?_)
          · refine lv_iconst (v := 0) hx hb dX9_inject_48 (by decide) ?_
            refine lv_istore_n (lv' := [(3, .int 0), (0, .ref h), (1, .int 0), (2, .int g)]) hx hb dX9_inject_49 rfl hl0 (by decide) rfl (fun ls9 hl9 => ?_)
            clear hl0
            have LOOP10 : ∀ (fu k : Nat), k ≤ 9 → 9 + 1 ≤ k + fu → ∀ σ10 : kS, σ10 = va_up σ 29 (kcpy (σ 29) (fun k => σ 28 (9 * g.toNatClampNeg + k)) k) → ∀ (H10 : Heap) (locs10 : List Loc) (ls10 : Array Slot), lv_has ls10 4 [(3, .int (nI k)), (0, .ref h), (1, .int 0), (2, .int g)] → va_P G.1 vwCl (mW G h a σ10) H10 → va_D A (mW G h a σ10) → va_S A st.heap H10 locs10 → W pg l ev ({ frames := 2, cells := 0, slots := 0, locals := 45 }) st mi ([.ref h, .int 0, .int g] : List Value).toArray bl mt cd H10 locs10 0 0 (MQ bl (kQi G (fun (rr : Int32) (uu : kS) => (rr = (minject σ 0 g Mn).1) ∧ (uu = (minject σ 0 g Mn).2)) (fun (uu : kS) => mW G h a uu) A) ([.ref h, .int 0, .int g] : List Value).toArray st 0 0 A) (F0 mi 50 ls10 []) := by
              intro fu
              induction fu with
              | zero => intro k h1 h2; exact absurd h2 (by omega)
              | succ fu ih =>
                intro k hk hnk σ10 eσ10 H10 locs10 ls10 hl10 hP10 hD10 hS10
                refine lv_iload_n hx hb dX9_inject_50 rfl (lv_at hl10 0 rfl) ?_
                refine lv_bipush (v := 9) hx hb dX9_inject_51 (by decide) ?_
                refine lv_icmp_ge (tgt := 79) hx hb dX9_inject_53 (by decide) (fun c11 => ?_) (fun c11 => ?_)
                · have xk : k = 9 := k_exit (N := 9) hk (by decide) c11
                  subst xk
                  clear c11
                  refine lv_aload_n hx hb dX9_inject_79 rfl (lv_at hl10 1 rfl) ?_
                  refine lv_iload_n hx hb dX9_inject_80 rfl (lv_at hl10 2 rfl) ?_
                  refine kWVv F hK hP10 hD10 hS10 hA hl10.1 (c_X9_sends l G h a σ10 0 (Mn 0) (by first | assumption | decide | omega) (by subst eσ10; subst w4_0; exact (ok.2.1 0 (by decide)).1) ((ok.2.1 0 (by decide)).2)) 9 0 gX9_inject_X9_sends rfl 1 rfl (by decide +kernel) ⟨Nat.le_of_ble_eq_true rfl, Nat.le_of_ble_eq_true rfl⟩ ⟨Nat.zero_le _, Nat.zero_le _⟩ rfl rfl (Nat.le_of_ble_eq_true rfl) rfl dX9_inject_81 (fun σ_12 H13 locs13 hw12 (hP13 : va_P G.1 vwCl (mW G h a σ_12) H13) (hD13 : va_D A (mW G h a σ_12)) hS13 => ?_)
                  clear hP10 hD10 hS10
                  have w12_0 : σ_12 = msend σ10 0 (Mn 0) := hw12
                  refine lv_aload_n hx hb dX9_inject_84 rfl (lv_at hl10 1 rfl) ?_
                  refine kget F hK hP13 9 0 26 iX9 rfl rfl (by decide) (List.mem_of_getElem? (i := 3) rfl) rfl dX9_inject_85 ?_
                  refine lv_iload_n hx hb dX9_inject_88 rfl (lv_at hl10 2 rfl) ?_
                  refine kild F hK hP13 17 0 rfl rfl (by decide) (Nat.le_of_ble_eq_true rfl) dX9_inject_89 ?_
                  have q14 : ((σ_12 26 0) = (minject σ 0 g Mn).1) ∧ (σ_12 = (minject σ 0 g Mn).2) := by
                    subst w12_0
                    subst eσ10
                    subst w4_0
                    first | (simp only [minject, minjF, m3, kd10, c3, c6, c7, c8, eq_self, ↓reduceIte, and_self, and_true, true_and]; done) | (simp only [minject, minjF, m3, kd10, c3, c6, c7, c8, eq_self, ↓reduceIte, and_self, and_true, true_and]; (try and_intros) <;> rfl)
                  exact kRi F hr hlocks hS13 dX9_inject_90 σ_12 q14 hP13 hD13
                · have lk : k < 9 := k_body (N := 9) hk (by decide) c11
                  refine lv_aload_n hx hb dX9_inject_56 rfl (lv_at hl10 1 rfl) ?_
                  refine kget F hK hP10 9 0 29 iX9 rfl rfl (by decide) (List.mem_of_getElem? (i := 4) rfl) rfl dX9_inject_57 ?_
                  refine lv_iload_n hx hb dX9_inject_60 rfl (lv_at hl10 0 rfl) ?_
                  refine lv_aload_n hx hb dX9_inject_61 rfl (lv_at hl10 1 rfl) ?_
                  refine kget F hK hP10 9 0 28 iX9 rfl rfl (by decide) (List.mem_of_getElem? (i := 5) rfl) rfl dX9_inject_62 ?_
                  refine lv_bipush (v := 9) hx hb dX9_inject_65 (by decide) ?_
                  refine lv_iload_n hx hb dX9_inject_67 rfl (lv_at hl10 3 rfl) ?_
                  refine lv_imul hx hb dX9_inject_68 ?_
                  refine lv_iload_n hx hb dX9_inject_69 rfl (lv_at hl10 0 rfl) ?_
                  refine lv_iadd hx hb dX9_inject_70 ?_
                  refine kild F hK hP10 19 (9 * g.toNatClampNeg + k) rfl (ix9 hi.1) (by have := hi.2; omega) (Nat.le_of_ble_eq_true rfl) dX9_inject_71 ?_
                  refine kMst F hK hP10 hD10 hS10 29 20 k rfl rfl (by omega) (Nat.le_of_ble_eq_true rfl) rfl dX9_inject_72 (fun H15 locs15 σ15 eσ15 hP15 hD15 hS15 => ?_)
                  clear hP10 hD10 hS10
                  refine lv_iinc (v := nI (k + 1)) (lv' := [(3, .int (nI (k + 1))), (0, .ref h), (1, .int 0), (2, .int g)]) hx hb dX9_inject_73 hl10 (k := 0) rfl (nI_1 _) (by decide) rfl (fun ls16 hl16 => ?_)
                  clear hl10
                  refine lv_goto (tgt := 50) hx hb dX9_inject_76 (by decide) ?_
                  exact ih (k + 1) (by omega) (by omega) σ15 (by subst eσ15; subst eσ10; subst w4_0; exact su_up _ _ _ _ _)  _ _ _ hl16 hP15 hD15 hS15
            exact LOOP10 (9 + 1) 0 (by omega) (by omega) σ (va_upid _ _).symm  _ _ _ hl9 hP5 hD5 hS5
          · refine lv_bipush (v := (-5)) hx hb dX9_inject_45 (by decide) ?_
            have q17 : ((-5) = (minject σ 0 g Mn).1) ∧ (σ = (minject σ 0 g Mn).2) := by
              subst w4_0
              first | (simp only [minject, minjF, m3, kd10, c3, c6, c7, eq_true c8, eq_self, ↓reduceIte, and_self, and_true, true_and]; done) | (simp only [minject, minjF, m3, kd10, c3, c6, c7, eq_true c8, eq_self, ↓reduceIte, and_self, and_true, true_and]; (try and_intros) <;> rfl)
            exact kRi F hr hlocks hS5 dX9_inject_47 σ q17 hP5 hD5
        · refine lv_bipush (v := (-4)) hx hb dX9_inject_31 (by decide) ?_
          have q18 : ((-4) = (minject σ 0 g Mn).1) ∧ (σ = (minject σ 0 g Mn).2) := by
            subst w4_0
            first | (simp only [minject, minjF, m3, kd10, c3, c6, eq_true c7, eq_self, ↓reduceIte, and_self, and_true, true_and]; done) | (simp only [minject, minjF, m3, kd10, c3, c6, eq_true c7, eq_self, ↓reduceIte, and_self, and_true, true_and]; (try and_intros) <;> rfl)
          exact kRi F hr hlocks hS5 dX9_inject_33 σ q18 hP5 hD5
      · refine lv_bipush (v := (-2)) hx hb dX9_inject_19 (by decide) ?_
        have q19 : ((-2) = (minject σ 0 g Mn).1) ∧ (σ = (minject σ 0 g Mn).2) := by
          subst w4_0
          first | (simp only [minject, minjF, m3, kd10, c3, eq_true c6, eq_self, ↓reduceIte, and_self, and_true, true_and]; done) | (simp only [minject, minjF, m3, kd10, c3, eq_true c6, eq_self, ↓reduceIte, and_self, and_true, true_and]; (try and_intros) <;> rfl)
        exact kRi F hr hlocks hS5 dX9_inject_21 σ q19 hP5 hD5
  · skip
    refine lv_iload_n hx hb dX9_inject_0 rfl (lv_at hl0 1 rfl) ?_
    refine kPSi F hK hP0 hD0 hS0 hA hl0.1 (c_X9_isSide l G 1) (fun _ => rfl) gX9_inject_X9_isSide rfl 1 rfl (by decide +kernel) ⟨Nat.le_of_ble_eq_true rfl, Nat.le_of_ble_eq_true rfl⟩ ⟨Nat.zero_le _, Nat.zero_le _⟩ (Nat.le_of_ble_eq_true rfl) rfl dX9_inject_1 (fun r20 u20 H21 locs21 hw20 (hP21 : va_P G.1 vwCl (mW G h a σ) H21) (hD21 : va_D A (mW G h a σ)) hS21 => ?_)
    clear hP0 hD0 hS0
    have w20_0 : r20 = kinL (1 : Int32).toInt64 0 1 := hw20
    have g20 : r20 = 1 := w20_0.trans kside_1
    clear w20_0
    subst g20
    refine lv_if_eq (tgt := 19) hx hb dX9_inject_4 (by decide) (fun c22 => ?_) (fun c22 => ?_)
    · exact absurd c22 (by decide)
    · refine lv_iload_n hx hb dX9_inject_7 rfl (lv_at hl0 2 rfl) ?_
      refine lv_i2l (v := g.toInt64) hx hb dX9_inject_8 rfl ?_
      refine lv_lconst (v := 0) hx hb dX9_inject_9 (by decide) ?_
      refine lv_ldc2 (v := 3) hx hb hown (hts _ (List.mem_of_getElem? (i := 1) rfl)) dX9_inject_10 ?_
      refine kPSi F hK hP21 hD21 hS21 hA hl0.1 (c_X9_in l G g.toInt64 0 3) (fun _ => rfl) gX9_inject_X9_in rfl 3 rfl (by decide +kernel) ⟨Nat.le_of_ble_eq_true rfl, Nat.le_of_ble_eq_true rfl⟩ ⟨Nat.zero_le _, Nat.zero_le _⟩ (Nat.le_of_ble_eq_true rfl) rfl dX9_inject_13 (fun r23 u23 H24 locs24 hw23 (hP24 : va_P G.1 vwCl (mW G h a σ) H24) (hD24 : va_D A (mW G h a σ)) hS24 => ?_)
      clear hP21 hD21 hS21
      have w23_0 : r23 = kinL g.toInt64 0 3 := hw23
      refine lv_if_ne (tgt := 22) hx hb dX9_inject_16 (by decide) (fun c25 => ?_) (fun c25 => ?_)
      · have hi := kin3 (x := g) (by subst w23_0; exact c25)
        refine lv_aload_n hx hb dX9_inject_22 rfl (lv_at hl0 0 rfl) ?_
        refine kget F hK hP24 9 0 42 iX9 rfl rfl (by decide) (List.mem_of_getElem? (i := 2) rfl) rfl dX9_inject_23 ?_
        refine lv_iload_n hx hb dX9_inject_26 rfl (lv_at hl0 2 rfl) ?_
        refine kzld F hK hP24 24 g.toNatClampNeg rfl hi.1 hi.2 (Nat.le_of_ble_eq_true rfl) dX9_inject_27 ?_
        refine lv_if_ne (tgt := 34) hx hb dX9_inject_28 (by decide) (fun c26 => ?_) (fun c26 => ?_)
        · refine lv_aload_n hx hb dX9_inject_34 rfl (lv_at hl0 0 rfl) ?_
          refine kget F hK hP24 9 0 26 iX9 rfl rfl (by decide) (List.mem_of_getElem? (i := 3) rfl) rfl dX9_inject_35 ?_
          refine lv_iload_n hx hb dX9_inject_38 rfl (lv_at hl0 1 rfl) ?_
          refine kild F hK hP24 17 1 rfl rfl (by decide) (Nat.le_of_ble_eq_true rfl) dX9_inject_39 ?_
          refine lv_bipush (v := 8) hx hb dX9_inject_40 (by decide) ?_
          refine lv_icmp_ne (tgt := 48) hx hb dX9_inject_42 (by decide) (fun c27 => ?_) (fun c27 => ?_)
          · refine lv_iconst (v := 0) hx hb dX9_inject_48 (by decide) ?_
            refine lv_istore_n (lv' := [(3, .int 0), (0, .ref h), (1, .int 1), (2, .int g)]) hx hb dX9_inject_49 rfl hl0 (by decide) rfl (fun ls28 hl28 => ?_)
            clear hl0
            have LOOP29 : ∀ (fu k : Nat), k ≤ 9 → 9 + 1 ≤ k + fu → ∀ σ29 : kS, σ29 = va_up σ 29 (kcpy (σ 29) (fun k => σ 28 (9 * g.toNatClampNeg + k)) k) → ∀ (H29 : Heap) (locs29 : List Loc) (ls29 : Array Slot), lv_has ls29 4 [(3, .int (nI k)), (0, .ref h), (1, .int 1), (2, .int g)] → va_P G.1 vwCl (mW G h a σ29) H29 → va_D A (mW G h a σ29) → va_S A st.heap H29 locs29 → W pg l ev ({ frames := 2, cells := 0, slots := 0, locals := 45 }) st mi ([.ref h, .int 1, .int g] : List Value).toArray bl mt cd H29 locs29 0 0 (MQ bl (kQi G (fun (rr : Int32) (uu : kS) => (rr = (minject σ 1 g Mn).1) ∧ (uu = (minject σ 1 g Mn).2)) (fun (uu : kS) => mW G h a uu) A) ([.ref h, .int 1, .int g] : List Value).toArray st 0 0 A) (F0 mi 50 ls29 []) := by
              intro fu
              induction fu with
              | zero => intro k h1 h2; exact absurd h2 (by omega)
              | succ fu ih =>
                intro k hk hnk σ29 eσ29 H29 locs29 ls29 hl29 hP29 hD29 hS29
                refine lv_iload_n hx hb dX9_inject_50 rfl (lv_at hl29 0 rfl) ?_
                refine lv_bipush (v := 9) hx hb dX9_inject_51 (by decide) ?_
                refine lv_icmp_ge (tgt := 79) hx hb dX9_inject_53 (by decide) (fun c30 => ?_) (fun c30 => ?_)
                · have xk : k = 9 := k_exit (N := 9) hk (by decide) c30
                  subst xk
                  clear c30
                  refine lv_aload_n hx hb dX9_inject_79 rfl (lv_at hl29 1 rfl) ?_
                  refine lv_iload_n hx hb dX9_inject_80 rfl (lv_at hl29 2 rfl) ?_
                  refine kWVv F hK hP29 hD29 hS29 hA hl29.1 (c_X9_sends l G h a σ29 1 (Mn 1) (by first | assumption | decide | omega) (by subst eσ29; subst w23_0; exact (ok.2.1 1 (by decide)).1) ((ok.2.1 1 (by decide)).2)) 9 0 gX9_inject_X9_sends rfl 1 rfl (by decide +kernel) ⟨Nat.le_of_ble_eq_true rfl, Nat.le_of_ble_eq_true rfl⟩ ⟨Nat.zero_le _, Nat.zero_le _⟩ rfl rfl (Nat.le_of_ble_eq_true rfl) rfl dX9_inject_81 (fun σ_31 H32 locs32 hw31 (hP32 : va_P G.1 vwCl (mW G h a σ_31) H32) (hD32 : va_D A (mW G h a σ_31)) hS32 => ?_)
                  clear hP29 hD29 hS29
                  have w31_0 : σ_31 = msend σ29 1 (Mn 1) := hw31
                  refine lv_aload_n hx hb dX9_inject_84 rfl (lv_at hl29 1 rfl) ?_
                  refine kget F hK hP32 9 0 26 iX9 rfl rfl (by decide) (List.mem_of_getElem? (i := 3) rfl) rfl dX9_inject_85 ?_
                  refine lv_iload_n hx hb dX9_inject_88 rfl (lv_at hl29 2 rfl) ?_
                  refine kild F hK hP32 17 1 rfl rfl (by decide) (Nat.le_of_ble_eq_true rfl) dX9_inject_89 ?_
                  have q33 : ((σ_31 26 1) = (minject σ 1 g Mn).1) ∧ (σ_31 = (minject σ 1 g Mn).2) := by
                    subst w31_0
                    subst eσ29
                    subst w23_0
                    first | (simp only [minject, minjF, m3, kd10, c22, c25, c26, c27, eq_self, ↓reduceIte, and_self, and_true, true_and]; done) | (simp only [minject, minjF, m3, kd10, c22, c25, c26, c27, eq_self, ↓reduceIte, and_self, and_true, true_and]; (try and_intros) <;> rfl)
                  exact kRi F hr hlocks hS32 dX9_inject_90 σ_31 q33 hP32 hD32
                · have lk : k < 9 := k_body (N := 9) hk (by decide) c30
                  refine lv_aload_n hx hb dX9_inject_56 rfl (lv_at hl29 1 rfl) ?_
                  refine kget F hK hP29 9 0 29 iX9 rfl rfl (by decide) (List.mem_of_getElem? (i := 4) rfl) rfl dX9_inject_57 ?_
                  refine lv_iload_n hx hb dX9_inject_60 rfl (lv_at hl29 0 rfl) ?_
                  refine lv_aload_n hx hb dX9_inject_61 rfl (lv_at hl29 1 rfl) ?_
                  refine kget F hK hP29 9 0 28 iX9 rfl rfl (by decide) (List.mem_of_getElem? (i := 5) rfl) rfl dX9_inject_62 ?_
                  refine lv_bipush (v := 9) hx hb dX9_inject_65 (by decide) ?_
                  refine lv_iload_n hx hb dX9_inject_67 rfl (lv_at hl29 3 rfl) ?_
                  refine lv_imul hx hb dX9_inject_68 ?_
                  refine lv_iload_n hx hb dX9_inject_69 rfl (lv_at hl29 0 rfl) ?_
                  refine lv_iadd hx hb dX9_inject_70 ?_
                  refine kild F hK hP29 19 (9 * g.toNatClampNeg + k) rfl (ix9 hi.1) (by have := hi.2; omega) (Nat.le_of_ble_eq_true rfl) dX9_inject_71 ?_
                  refine kMst F hK hP29 hD29 hS29 29 20 k rfl rfl (by omega) (Nat.le_of_ble_eq_true rfl) rfl dX9_inject_72 (fun H34 locs34 σ34 eσ34 hP34 hD34 hS34 => ?_)
                  clear hP29 hD29 hS29
                  refine lv_iinc (v := nI (k + 1)) (lv' := [(3, .int (nI (k + 1))), (0, .ref h), (1, .int 1), (2, .int g)]) hx hb dX9_inject_73 hl29 (k := 0) rfl (nI_1 _) (by decide) rfl (fun ls35 hl35 => ?_)
                  clear hl29
                  refine lv_goto (tgt := 50) hx hb dX9_inject_76 (by decide) ?_
                  exact ih (k + 1) (by omega) (by omega) σ34 (by subst eσ34; subst eσ29; subst w23_0; exact su_up _ _ _ _ _)  _ _ _ hl35 hP34 hD34 hS34
            exact LOOP29 (9 + 1) 0 (by omega) (by omega) σ (va_upid _ _).symm  _ _ _ hl28 hP24 hD24 hS24
          · refine lv_bipush (v := (-5)) hx hb dX9_inject_45 (by decide) ?_
            have q36 : ((-5) = (minject σ 1 g Mn).1) ∧ (σ = (minject σ 1 g Mn).2) := by
              subst w23_0
              first | (simp only [minject, minjF, m3, kd10, c22, c25, c26, eq_true c27, eq_self, ↓reduceIte, and_self, and_true, true_and]; done) | (simp only [minject, minjF, m3, kd10, c22, c25, c26, eq_true c27, eq_self, ↓reduceIte, and_self, and_true, true_and]; (try and_intros) <;> rfl)
            exact kRi F hr hlocks hS24 dX9_inject_47 σ q36 hP24 hD24
        · refine lv_bipush (v := (-4)) hx hb dX9_inject_31 (by decide) ?_
          have q37 : ((-4) = (minject σ 1 g Mn).1) ∧ (σ = (minject σ 1 g Mn).2) := by
            subst w23_0
            first | (simp only [minject, minjF, m3, kd10, c22, c25, eq_true c26, eq_self, ↓reduceIte, and_self, and_true, true_and]; done) | (simp only [minject, minjF, m3, kd10, c22, c25, eq_true c26, eq_self, ↓reduceIte, and_self, and_true, true_and]; (try and_intros) <;> rfl)
          exact kRi F hr hlocks hS24 dX9_inject_33 σ q37 hP24 hD24
      · refine lv_bipush (v := (-2)) hx hb dX9_inject_19 (by decide) ?_
        have q38 : ((-2) = (minject σ 1 g Mn).1) ∧ (σ = (minject σ 1 g Mn).2) := by
          subst w23_0
          first | (simp only [minject, minjF, m3, kd10, c22, eq_true c25, eq_self, ↓reduceIte, and_self, and_true, true_and]; done) | (simp only [minject, minjF, m3, kd10, c22, eq_true c25, eq_self, ↓reduceIte, and_self, and_true, true_and]; (try and_intros) <;> rfl)
        exact kRi F hr hlocks hS24 dX9_inject_21 σ q38 hP24 hD24
  · skip
    refine lv_iload_n hx hb dX9_inject_0 rfl (lv_at hl0 1 rfl) ?_
    refine kPSi F hK hP0 hD0 hS0 hA hl0.1 (c_X9_isSide l G s) (fun _ => rfl) gX9_inject_X9_isSide rfl 1 rfl (by decide +kernel) ⟨Nat.le_of_ble_eq_true rfl, Nat.le_of_ble_eq_true rfl⟩ ⟨Nat.zero_le _, Nat.zero_le _⟩ (Nat.le_of_ble_eq_true rfl) rfl dX9_inject_1 (fun r39 u39 H40 locs40 hw39 (hP40 : va_P G.1 vwCl (mW G h a σ) H40) (hD40 : va_D A (mW G h a σ)) hS40 => ?_)
    clear hP0 hD0 hS0
    have w39_0 : r39 = kinL s.toInt64 0 1 := hw39
    have g39 : r39 = 0 := w39_0.trans (kside_no hs0 hs1)
    clear w39_0
    subst g39
    refine lv_if_eq (tgt := 19) hx hb dX9_inject_4 (by decide) (fun c41 => ?_) (fun c41 => ?_)
    · refine lv_bipush (v := (-2)) hx hb dX9_inject_19 (by decide) ?_
      have q42 : ((-2) = (minject σ s g Mn).1) ∧ (σ = (minject σ s g Mn).2) := by
        first | (simp only [minject, minjF, m3, kd10, hs0, hs1, eq_true c41, eq_self, ↓reduceIte, and_self, and_true, true_and]; done) | (simp only [minject, minjF, m3, kd10, hs0, hs1, eq_true c41, eq_self, ↓reduceIte, and_self, and_true, true_and]; (try and_intros) <;> rfl)
      exact kRi F hr hlocks hS40 dX9_inject_21 σ q42 hP40 hD40
    · exact absurd (by decide) c41
set_option maxHeartbeats 1000000 in
set_option maxRecDepth 100000 in
theorem c_X9_held (l : Launch) (G : kG) (h : Nat) (a : Nat → Nat) (σ : kS) (i : Int32) : kM G l yX9_held wsX9_held ({ frames := 1, cells := 0, slots := 0, locals := 25 }) [.ref h, .int i] (mW G h a σ) (kQi G (fun (rr : Int32) (uu : Unit) => rr = mheld σ i) (fun (uu : Unit) => mW G h a σ)) := by
  refine kStart (cc := cX9_held) (maxL := 2) (ret := (some .int)) (by decide) rfl (Nat.le_of_ble_eq_true rfl) (fun pg ev st mi bl mt cd A ls0 F hr hlocks hin hK hP0 hD0 hA hS0 hl0 => ?_)
  obtain ⟨hx, hb, hml, hown, hts⟩ := id F
  have hl0 : lv_has ls0 2 [(0, .ref h), (1, .int i)] := hl0
  have iX9 : ∀ w ∈ u_ws RX9 TX9 43, w ∈ wsX9_held := fun w h => List.mem_cons_of_mem _ (List.mem_append_right _ h)
  refine lv_iload_n hx hb dX9_held_0 rfl (lv_at hl0 1 rfl) ?_
  refine lv_i2l (v := i.toInt64) hx hb dX9_held_1 rfl ?_
  refine lv_lconst (v := 0) hx hb dX9_held_2 (by decide) ?_
  refine lv_ldc2 (v := 4) hx hb hown (hts _ (List.mem_of_getElem? (i := 1) rfl)) dX9_held_3 ?_
  refine kPSi F hK hP0 hD0 hS0 hA hl0.1 (c_X9_in l G i.toInt64 0 4) (fun _ => rfl) gX9_held_X9_in rfl 3 rfl (by decide +kernel) ⟨Nat.le_of_ble_eq_true rfl, Nat.le_of_ble_eq_true rfl⟩ ⟨Nat.zero_le _, Nat.zero_le _⟩ (Nat.le_of_ble_eq_true rfl) rfl dX9_held_6 (fun r1 u1 H2 locs2 hw1 (hP2 : va_P G.1 vwCl (mW G h a σ) H2) (hD2 : va_D A (mW G h a σ)) hS2 => ?_)
  clear hP0 hD0 hS0
  have w1_0 : r1 = kinL i.toInt64 0 4 := hw1
  refine lv_if_ne (tgt := 15) hx hb dX9_held_9 (by decide) (fun c3 => ?_) (fun c3 => ?_)
  · have hi := kin4 (x := i) (by subst w1_0; exact c3)
    refine lv_aload_n hx hb dX9_held_15 rfl (lv_at hl0 0 rfl) ?_
    refine kget F hK hP2 9 0 15 iX9 rfl rfl (by decide) (List.mem_of_getElem? (i := 2) rfl) rfl dX9_held_16 ?_
    refine lv_iconst (v := 0) hx hb dX9_held_19 (by decide) ?_
    refine kild F hK hP2 13 0 rfl rfl (by decide) (Nat.le_of_ble_eq_true rfl) dX9_held_20 ?_
    refine lv_iconst (v := 1) hx hb dX9_held_21 (by decide) ?_
    refine lv_icmp_ne (tgt := 36) hx hb dX9_held_22 (by decide) (fun c4 => ?_) (fun c4 => ?_)
    · refine lv_bipush (v := (-4)) hx hb dX9_held_36 (by decide) ?_
      have q5 : (-4) = mheld σ i := by
        subst w1_0
        first | (simp only [mheld, c3, c4, eq_self, ↓reduceIte, and_self, and_true, true_and]; done) | (simp only [mheld, c3, c4, eq_self, ↓reduceIte, and_self, and_true, true_and]; (try and_intros) <;> rfl)
      exact kRi F hr hlocks hS2 dX9_held_38 () q5 hP2 hD2
    · refine lv_aload_n hx hb dX9_held_25 rfl (lv_at hl0 0 rfl) ?_
      refine kget F hK hP2 9 0 15 iX9 rfl rfl (by decide) (List.mem_of_getElem? (i := 2) rfl) rfl dX9_held_26 ?_
      refine lv_iconst (v := 1) hx hb dX9_held_29 (by decide) ?_
      refine lv_iload_n hx hb dX9_held_30 rfl (lv_at hl0 1 rfl) ?_
      refine lv_iadd hx hb dX9_held_31 ?_
      refine kild F hK hP2 13 (1 + i.toNatClampNeg) rfl (ixs (A := 1) rfl hi.1) (by have := hi.2; omega) (Nat.le_of_ble_eq_true rfl) dX9_held_32 ?_
      refine lv_goto (tgt := 38) hx hb dX9_held_33 (by decide) ?_
      have q6 : (σ 15 (1 + i.toNatClampNeg)) = mheld σ i := by
        subst w1_0
        first | (simp only [mheld, c3, eq_true c4, eq_self, ↓reduceIte, and_self, and_true, true_and]; done) | (simp only [mheld, c3, eq_true c4, eq_self, ↓reduceIte, and_self, and_true, true_and]; (try and_intros) <;> rfl)
      exact kRi F hr hlocks hS2 dX9_held_38 () q6 hP2 hD2
  · refine lv_bipush (v := (-3)) hx hb dX9_held_12 (by decide) ?_
    have q7 : (-3) = mheld σ i := by
      subst w1_0
      first | (simp only [mheld, eq_true c3, eq_self, ↓reduceIte, and_self, and_true, true_and]; done) | (simp only [mheld, eq_true c3, eq_self, ↓reduceIte, and_self, and_true, true_and]; (try and_intros) <;> rfl)
    exact kRi F hr hlocks hS2 dX9_held_14 () q7 hP2 hD2
set_option maxHeartbeats 1000000 in
set_option maxRecDepth 100000 in
theorem c_X9_share (l : Launch) (G : kG) (h : Nat) (a : Nat → Nat) (σ : kS) (g : Int32) (t : Int32) : kM G l yX9_share wsX9_share ({ frames := 2, cells := 0, slots := 0, locals := 45 }) [.ref h, .int g, .int t] (mW G h a σ) (kQi G (fun (rr : Int32) (uu : Unit) => rr = mshareR g t) (fun (uu : Unit) => mW G h a σ)) := by
  refine kStart (cc := cX9_share) (maxL := 3) (ret := (some .int)) (by decide) rfl (Nat.le_of_ble_eq_true rfl) (fun pg ev st mi bl mt cd A ls0 F hr hlocks hin hK hP0 hD0 hA hS0 hl0 => ?_)
  obtain ⟨hx, hb, hml, hown, hts⟩ := id F
  have hl0 : lv_has ls0 3 [(0, .ref h), (1, .int g), (2, .int t)] := hl0
  refine lv_iload_n hx hb dX9_share_0 rfl (lv_at hl0 1 rfl) ?_
  refine lv_i2l (v := g.toInt64) hx hb dX9_share_1 rfl ?_
  refine lv_lconst (v := 0) hx hb dX9_share_2 (by decide) ?_
  refine lv_ldc2 (v := 3) hx hb hown (hts _ (List.mem_of_getElem? (i := 1) rfl)) dX9_share_3 ?_
  refine kPSi F hK hP0 hD0 hS0 hA hl0.1 (c_X9_in l G g.toInt64 0 3) (fun _ => rfl) gX9_share_X9_in rfl 3 rfl (by decide +kernel) ⟨Nat.le_of_ble_eq_true rfl, Nat.le_of_ble_eq_true rfl⟩ ⟨Nat.zero_le _, Nat.zero_le _⟩ (Nat.le_of_ble_eq_true rfl) rfl dX9_share_6 (fun r1 u1 H2 locs2 hw1 (hP2 : va_P G.1 vwCl (mW G h a σ) H2) (hD2 : va_D A (mW G h a σ)) hS2 => ?_)
  clear hP0 hD0 hS0
  have w1_0 : r1 = kinL g.toInt64 0 3 := hw1
  refine lv_if_ne (tgt := 15) hx hb dX9_share_9 (by decide) (fun c3 => ?_) (fun c3 => ?_)
  · refine lv_iload_n hx hb dX9_share_15 rfl (lv_at hl0 2 rfl) ?_
    refine lv_i2l (v := t.toInt64) hx hb dX9_share_16 rfl ?_
    refine lv_lconst (v := 1) hx hb dX9_share_17 (by decide) ?_
    refine lv_ldc2 (v := 999) hx hb hown (hts _ (List.mem_of_getElem? (i := 2) rfl)) dX9_share_18 ?_
    refine kPSi F hK hP2 hD2 hS2 hA hl0.1 (c_X9_in l G t.toInt64 1 999) (fun _ => rfl) gX9_share_X9_in rfl 3 rfl (by decide +kernel) ⟨Nat.le_of_ble_eq_true rfl, Nat.le_of_ble_eq_true rfl⟩ ⟨Nat.zero_le _, Nat.zero_le _⟩ (Nat.le_of_ble_eq_true rfl) rfl dX9_share_21 (fun r4 u4 H5 locs5 hw4 (hP5 : va_P G.1 vwCl (mW G h a σ) H5) (hD5 : va_D A (mW G h a σ)) hS5 => ?_)
    clear hP2 hD2 hS2
    have w4_0 : r4 = kinL t.toInt64 1 999 := hw4
    refine lv_if_eq (tgt := 35) hx hb dX9_share_24 (by decide) (fun c6 => ?_) (fun c6 => ?_)
    · refine lv_bipush (v := (-3)) hx hb dX9_share_35 (by decide) ?_
      have q7 : (-3) = mshareR g t := by
        subst w4_0
        subst w1_0
        first | (simp only [mshareR, c3, eq_true c6, eq_self, ↓reduceIte, and_self, and_true, true_and]; done) | (simp only [mshareR, c3, eq_true c6, eq_self, ↓reduceIte, and_self, and_true, true_and]; (try and_intros) <;> rfl)
      exact kRi F hr hlocks hS5 dX9_share_37 () q7 hP5 hD5
    · have hi := kin999 (x := t) (by subst w4_0; subst w1_0; exact c6)
      refine lv_iload_n hx hb dX9_share_27 rfl (lv_at hl0 1 rfl) ?_
      refine lv_iload_n hx hb dX9_share_28 rfl (lv_at hl0 2 rfl) ?_
      refine kPSi F hK hP5 hD5 hS5 hA hl0.1 (c_X9_shareOf l G g t (t.toNatClampNeg) hi.1 hi.2) (fun _ => rfl) gX9_share_X9_shareOf rfl 2 rfl (by decide +kernel) ⟨Nat.le_of_ble_eq_true rfl, Nat.le_of_ble_eq_true rfl⟩ ⟨Nat.zero_le _, Nat.zero_le _⟩ (Nat.le_of_ble_eq_true rfl) rfl dX9_share_29 (fun r8 u8 H9 locs9 hw8 (hP9 : va_P G.1 vwCl (mW G h a σ) H9) (hD9 : va_D A (mW G h a σ)) hS9 => ?_)
      clear hP5 hD5 hS5
      have w8_0 : r8 = mshare g (t.toNatClampNeg) := hw8
      refine lv_goto (tgt := 37) hx hb dX9_share_32 (by decide) ?_
      have q10 : r8 = mshareR g t := by
        subst w8_0
        subst w4_0
        subst w1_0
        first | (simp only [mshareR, c3, c6, eq_self, ↓reduceIte, and_self, and_true, true_and]; done) | (simp only [mshareR, c3, c6, eq_self, ↓reduceIte, and_self, and_true, true_and]; (try and_intros) <;> rfl)
      exact kRi F hr hlocks hS9 dX9_share_37 () q10 hP9 hD9
  · refine lv_bipush (v := (-2)) hx hb dX9_share_12 (by decide) ?_
    have q11 : (-2) = mshareR g t := by
      subst w1_0
      first | (simp only [mshareR, eq_true c3, eq_self, ↓reduceIte, and_self, and_true, true_and]; done) | (simp only [mshareR, eq_true c3, eq_self, ↓reduceIte, and_self, and_true, true_and]; (try and_intros) <;> rfl)
    exact kRi F hr hlocks hS2 dX9_share_14 () q11 hP2 hD2
set_option maxHeartbeats 1000000 in
set_option maxRecDepth 100000 in
theorem c_X9_kept (l : Launch) (G : kG) (h : Nat) (a : Nat → Nat) (σ : kS) (k : Int32) (i : Int32) (S : Nat → Nat) (Mn : Nat → Nat) (E : Nat) (K : Nat) (ok : mOK σ S Mn E K) : kM G l yX9_kept wsX9_kept ({ frames := 1, cells := 0, slots := 0, locals := 25 }) [.ref h, .int k, .int i] (mW G h a σ) (kQi G (fun (rr : Int32) (uu : Unit) => rr = mkept σ k i) (fun (uu : Unit) => mW G h a σ)) := by
  refine kStart (cc := cX9_kept) (maxL := 3) (ret := (some .int)) (by decide) rfl (Nat.le_of_ble_eq_true rfl) (fun pg ev st mi bl mt cd A ls0 F hr hlocks hin hK hP0 hD0 hA hS0 hl0 => ?_)
  obtain ⟨hx, hb, hml, hown, hts⟩ := id F
  have hl0 : lv_has ls0 3 [(0, .ref h), (1, .int k), (2, .int i)] := hl0
  have iX9 : ∀ w ∈ u_ws RX9 TX9 43, w ∈ wsX9_kept := fun w h => List.mem_cons_of_mem _ (List.mem_append_right _ h)
  refine lv_iload_n hx hb dX9_kept_0 rfl (lv_at hl0 1 rfl) ?_
  refine lv_i2l (v := k.toInt64) hx hb dX9_kept_1 rfl ?_
  refine lv_lconst (v := 0) hx hb dX9_kept_2 (by decide) ?_
  refine lv_aload_n hx hb dX9_kept_3 rfl (lv_at hl0 0 rfl) ?_
  refine kget F hK hP0 9 0 20 iX9 rfl rfl (by decide) (List.mem_of_getElem? (i := 1) rfl) rfl dX9_kept_4 ?_
  refine lv_iconst (v := 1) hx hb dX9_kept_7 (by decide) ?_
  refine lv_isub hx hb dX9_kept_8 ?_
  refine lv_i2l (v := ((σ 20 0) - 1).toInt64) hx hb dX9_kept_9 rfl ?_
  refine kPSi F hK hP0 hD0 hS0 hA hl0.1 (c_X9_in l G k.toInt64 0 (((σ 20 0) - 1).toInt64)) (fun _ => rfl) gX9_kept_X9_in rfl 3 rfl (by decide +kernel) ⟨Nat.le_of_ble_eq_true rfl, Nat.le_of_ble_eq_true rfl⟩ ⟨Nat.zero_le _, Nat.zero_le _⟩ (Nat.le_of_ble_eq_true rfl) rfl dX9_kept_10 (fun r1 u1 H2 locs2 hw1 (hP2 : va_P G.1 vwCl (mW G h a σ) H2) (hD2 : va_D A (mW G h a σ)) hS2 => ?_)
  clear hP0 hD0 hS0
  have w1_0 : r1 = kinL k.toInt64 0 (((σ 20 0) - 1).toInt64) := hw1
  refine lv_if_ne (tgt := 19) hx hb dX9_kept_13 (by decide) (fun c3 => ?_) (fun c3 => ?_)
  · have hk := kinK (x := k) ok.2.2.2.1.1 ok.2.2.2.1.2 (by subst w1_0; exact c3)
    refine lv_iload_n hx hb dX9_kept_19 rfl (lv_at hl0 2 rfl) ?_
    refine lv_i2l (v := i.toInt64) hx hb dX9_kept_20 rfl ?_
    refine lv_lconst (v := 0) hx hb dX9_kept_21 (by decide) ?_
    refine lv_ldc2 (v := 4) hx hb hown (hts _ (List.mem_of_getElem? (i := 2) rfl)) dX9_kept_22 ?_
    refine kPSi F hK hP2 hD2 hS2 hA hl0.1 (c_X9_in l G i.toInt64 0 4) (fun _ => rfl) gX9_kept_X9_in rfl 3 rfl (by decide +kernel) ⟨Nat.le_of_ble_eq_true rfl, Nat.le_of_ble_eq_true rfl⟩ ⟨Nat.zero_le _, Nat.zero_le _⟩ (Nat.le_of_ble_eq_true rfl) rfl dX9_kept_25 (fun r4 u4 H5 locs5 hw4 (hP5 : va_P G.1 vwCl (mW G h a σ) H5) (hD5 : va_D A (mW G h a σ)) hS5 => ?_)
    clear hP2 hD2 hS2
    have w4_0 : r4 = kinL i.toInt64 0 4 := hw4
    refine lv_if_eq (tgt := 44) hx hb dX9_kept_28 (by decide) (fun c6 => ?_) (fun c6 => ?_)
    · refine lv_bipush (v := (-3)) hx hb dX9_kept_44 (by decide) ?_
      have q7 : (-3) = mkept σ k i := by
        subst w4_0
        subst w1_0
        first | (simp only [mkept, c3, eq_true c6, eq_self, ↓reduceIte, and_self, and_true, true_and]; done) | (simp only [mkept, c3, eq_true c6, eq_self, ↓reduceIte, and_self, and_true, true_and]; (try and_intros) <;> rfl)
      exact kRi F hr hlocks hS5 dX9_kept_46 () q7 hP5 hD5
    · have hi := kin4 (x := i) (by subst w4_0; subst w1_0; exact c6)
      refine lv_aload_n hx hb dX9_kept_31 rfl (lv_at hl0 0 rfl) ?_
      refine kget F hK hP5 9 0 22 iX9 rfl rfl (by decide) (List.mem_of_getElem? (i := 3) rfl) rfl dX9_kept_32 ?_
      refine lv_iconst (v := 5) hx hb dX9_kept_35 (by decide) ?_
      refine lv_iload_n hx hb dX9_kept_36 rfl (lv_at hl0 1 rfl) ?_
      refine lv_imul hx hb dX9_kept_37 ?_
      refine lv_iload_n hx hb dX9_kept_38 rfl (lv_at hl0 2 rfl) ?_
      refine lv_iadd hx hb dX9_kept_39 ?_
      refine kild F hK hP5 14 (5 * k.toNatClampNeg + i.toNatClampNeg) rfl (ix5 hk.1 hi.1) (by have := hk.2; have := hi.2; have := ok.2.2.2.1.2; omega) (Nat.le_of_ble_eq_true rfl) dX9_kept_40 ?_
      refine lv_goto (tgt := 46) hx hb dX9_kept_41 (by decide) ?_
      have q8 : (σ 22 (5 * k.toNatClampNeg + i.toNatClampNeg)) = mkept σ k i := by
        subst w4_0
        subst w1_0
        first | (simp only [mkept, c3, c6, eq_self, ↓reduceIte, and_self, and_true, true_and]; done) | (simp only [mkept, c3, c6, eq_self, ↓reduceIte, and_self, and_true, true_and]; (try and_intros) <;> rfl)
      exact kRi F hr hlocks hS5 dX9_kept_46 () q8 hP5 hD5
  · refine lv_bipush (v := (-2)) hx hb dX9_kept_16 (by decide) ?_
    have q9 : (-2) = mkept σ k i := by
      subst w1_0
      first | (simp only [mkept, eq_true c3, eq_self, ↓reduceIte, and_self, and_true, true_and]; done) | (simp only [mkept, eq_true c3, eq_self, ↓reduceIte, and_self, and_true, true_and]; (try and_intros) <;> rfl)
    exact kRi F hr hlocks hS2 dX9_kept_18 () q9 hP2 hD2
set_option maxHeartbeats 1000000 in
set_option maxRecDepth 100000 in
theorem c_X9_count (l : Launch) (G : kG) (h : Nat) (a : Nat → Nat) (σ : kS) (i : Int32) : kM G l yX9_count wsX9_count ({ frames := 0, cells := 0, slots := 0, locals := 0 }) [.ref h, .int i] (mW G h a σ) (kQi G (fun (rr : Int32) (uu : Unit) => rr = mcount σ i) (fun (uu : Unit) => mW G h a σ)) := by
  refine kStart (cc := cX9_count) (maxL := 2) (ret := (some .int)) (by decide) rfl (Nat.le_of_ble_eq_true rfl) (fun pg ev st mi bl mt cd A ls0 F hr hlocks hin hK hP0 hD0 hA hS0 hl0 => ?_)
  obtain ⟨hx, hb, hml, hown, hts⟩ := id F
  have hl0 : lv_has ls0 2 [(0, .ref h), (1, .int i)] := hl0
  have iX9 : ∀ w ∈ u_ws RX9 TX9 43, w ∈ wsX9_count := fun w h => List.mem_cons_of_mem _ (List.mem_append_right _ h)
  refine lv_iload_n hx hb dX9_count_0 rfl (lv_at hl0 1 rfl) ?_
  rcases ksw i 0 12 with c1 | c1
  · refine lv_tableOut (tgt := 132) hx hb dX9_count_1 c1 (by decide) ?_
    refine lv_bipush (v := (-3)) hx hb dX9_count_132 (by decide) ?_
    have q2 : (-3) = mcount σ i := by
      have z0 : ¬ i = 0 := by intro z; rw [z] at c1; revert c1; decide
      have z1 : ¬ i = 1 := by intro z; rw [z] at c1; revert c1; decide
      have z2 : ¬ i = 2 := by intro z; rw [z] at c1; revert c1; decide
      have z3 : ¬ i = 3 := by intro z; rw [z] at c1; revert c1; decide
      have z4 : ¬ i = 4 := by intro z; rw [z] at c1; revert c1; decide
      have z5 : ¬ i = 5 := by intro z; rw [z] at c1; revert c1; decide
      have z6 : ¬ i = 6 := by intro z; rw [z] at c1; revert c1; decide
      have z7 : ¬ i = 7 := by intro z; rw [z] at c1; revert c1; decide
      have z8 : ¬ i = 8 := by intro z; rw [z] at c1; revert c1; decide
      have z9 : ¬ i = 9 := by intro z; rw [z] at c1; revert c1; decide
      have z10 : ¬ i = 10 := by intro z; rw [z] at c1; revert c1; decide
      have z11 : ¬ i = 11 := by intro z; rw [z] at c1; revert c1; decide
      have z12 : ¬ i = 12 := by intro z; rw [z] at c1; revert c1; decide
      simp only [mcount, z0, z1, z2, z3, z4, z5, z6, z7, z8, z9, z10, z11, z12, ↓reduceIte]
    exact kRi F hr hlocks hS0 dX9_count_134 () q2 hP0 hD0
  · obtain ⟨c1a, c1b⟩ := c1
    rcases kswE i 0 (v := 0) (by decide) with c1_0 | c1_0
    · refine lv_tableIn (off := 67) (tgt := 68) hx hb dX9_count_1 c1a c1b (by rw [c1_0]; rfl) (by decide) ?_
      refine lv_aload_n hx hb dX9_count_68 rfl (lv_at hl0 0 rfl) ?_
      refine kget F hK hP0 9 0 14 iX9 rfl rfl (by decide) (List.mem_of_getElem? (i := 1) rfl) rfl dX9_count_69 ?_
      have q3 : (σ 14 0) = mcount σ i := by
        first | (subst c1_0; rfl) | (subst c1_0; simp only [mcount, show ¬ ((0 : Int32) = 1) from by decide, show ¬ ((0 : Int32) = 2) from by decide, show ¬ ((0 : Int32) = 3) from by decide, show ¬ ((0 : Int32) = 4) from by decide, show ¬ ((0 : Int32) = 5) from by decide, show ¬ ((0 : Int32) = 6) from by decide, show ¬ ((0 : Int32) = 7) from by decide, show ¬ ((0 : Int32) = 8) from by decide, show ¬ ((0 : Int32) = 9) from by decide, show ¬ ((0 : Int32) = 10) from by decide, show ¬ ((0 : Int32) = 11) from by decide, show ¬ ((0 : Int32) = 12) from by decide, eq_self, ↓reduceIte]; done) | (simp only [mcount, c1_0, ↓reduceIte]) | (simp only [mcount, c1_0, ↓reduceIte]; simp; done)
      exact kRi F hr hlocks hS0 dX9_count_72 () q3 hP0 hD0
    rcases kswE i 1 (v := 1) (by decide) with c1_1 | c1_1
    · refine lv_tableIn (off := 72) (tgt := 73) hx hb dX9_count_1 c1a c1b (by rw [c1_1]; rfl) (by decide) ?_
      refine lv_aload_n hx hb dX9_count_73 rfl (lv_at hl0 0 rfl) ?_
      refine kget F hK hP0 9 0 26 iX9 rfl rfl (by decide) (List.mem_of_getElem? (i := 2) rfl) rfl dX9_count_74 ?_
      refine lv_iload_n hx hb dX9_count_77 rfl (lv_at hl0 1 rfl) ?_
      refine lv_iconst (v := 1) hx hb dX9_count_78 (by decide) ?_
      refine lv_isub hx hb dX9_count_79 ?_
      refine kild F hK hP0 17 0 rfl (by rw [c1_1]; decide) (by decide) (Nat.le_of_ble_eq_true rfl) dX9_count_80 ?_
      have q4 : (σ 26 0) = mcount σ i := by
        first | (subst c1_1; rfl) | (subst c1_1; simp only [mcount, show ¬ ((1 : Int32) = 0) from by decide, show ¬ ((1 : Int32) = 2) from by decide, show ¬ ((1 : Int32) = 3) from by decide, show ¬ ((1 : Int32) = 4) from by decide, show ¬ ((1 : Int32) = 5) from by decide, show ¬ ((1 : Int32) = 6) from by decide, show ¬ ((1 : Int32) = 7) from by decide, show ¬ ((1 : Int32) = 8) from by decide, show ¬ ((1 : Int32) = 9) from by decide, show ¬ ((1 : Int32) = 10) from by decide, show ¬ ((1 : Int32) = 11) from by decide, show ¬ ((1 : Int32) = 12) from by decide, eq_self, ↓reduceIte]; done) | (simp only [mcount, c1_1, ↓reduceIte]) | (simp only [mcount, c1_1, ↓reduceIte]; simp; done)
      exact kRi F hr hlocks hS0 dX9_count_81 () q4 hP0 hD0
    rcases kswE i 2 (v := 2) (by decide) with c1_2 | c1_2
    · refine lv_tableIn (off := 72) (tgt := 73) hx hb dX9_count_1 c1a c1b (by rw [c1_2]; rfl) (by decide) ?_
      refine lv_aload_n hx hb dX9_count_73 rfl (lv_at hl0 0 rfl) ?_
      refine kget F hK hP0 9 0 26 iX9 rfl rfl (by decide) (List.mem_of_getElem? (i := 2) rfl) rfl dX9_count_74 ?_
      refine lv_iload_n hx hb dX9_count_77 rfl (lv_at hl0 1 rfl) ?_
      refine lv_iconst (v := 1) hx hb dX9_count_78 (by decide) ?_
      refine lv_isub hx hb dX9_count_79 ?_
      refine kild F hK hP0 17 1 rfl (by rw [c1_2]; decide) (by decide) (Nat.le_of_ble_eq_true rfl) dX9_count_80 ?_
      have q5 : (σ 26 1) = mcount σ i := by
        first | (subst c1_2; rfl) | (subst c1_2; simp only [mcount, show ¬ ((2 : Int32) = 0) from by decide, show ¬ ((2 : Int32) = 1) from by decide, show ¬ ((2 : Int32) = 3) from by decide, show ¬ ((2 : Int32) = 4) from by decide, show ¬ ((2 : Int32) = 5) from by decide, show ¬ ((2 : Int32) = 6) from by decide, show ¬ ((2 : Int32) = 7) from by decide, show ¬ ((2 : Int32) = 8) from by decide, show ¬ ((2 : Int32) = 9) from by decide, show ¬ ((2 : Int32) = 10) from by decide, show ¬ ((2 : Int32) = 11) from by decide, show ¬ ((2 : Int32) = 12) from by decide, eq_self, ↓reduceIte]; done) | (simp only [mcount, c1_2, ↓reduceIte]) | (simp only [mcount, c1_2, ↓reduceIte]; simp; done)
      exact kRi F hr hlocks hS0 dX9_count_81 () q5 hP0 hD0
    rcases kswE i 3 (v := 3) (by decide) with c1_3 | c1_3
    · refine lv_tableIn (off := 81) (tgt := 82) hx hb dX9_count_1 c1a c1b (by rw [c1_3]; rfl) (by decide) ?_
      refine lv_aload_n hx hb dX9_count_82 rfl (lv_at hl0 0 rfl) ?_
      refine kget F hK hP0 9 0 20 iX9 rfl rfl (by decide) (List.mem_of_getElem? (i := 3) rfl) rfl dX9_count_83 ?_
      have q6 : (σ 20 0) = mcount σ i := by
        first | (subst c1_3; rfl) | (subst c1_3; simp only [mcount, show ¬ ((3 : Int32) = 0) from by decide, show ¬ ((3 : Int32) = 1) from by decide, show ¬ ((3 : Int32) = 2) from by decide, show ¬ ((3 : Int32) = 4) from by decide, show ¬ ((3 : Int32) = 5) from by decide, show ¬ ((3 : Int32) = 6) from by decide, show ¬ ((3 : Int32) = 7) from by decide, show ¬ ((3 : Int32) = 8) from by decide, show ¬ ((3 : Int32) = 9) from by decide, show ¬ ((3 : Int32) = 10) from by decide, show ¬ ((3 : Int32) = 11) from by decide, show ¬ ((3 : Int32) = 12) from by decide, eq_self, ↓reduceIte]; done) | (simp only [mcount, c1_3, ↓reduceIte]) | (simp only [mcount, c1_3, ↓reduceIte]; simp; done)
      exact kRi F hr hlocks hS0 dX9_count_86 () q6 hP0 hD0
    rcases kswE i 4 (v := 4) (by decide) with c1_4 | c1_4
    · refine lv_tableIn (off := 86) (tgt := 87) hx hb dX9_count_1 c1a c1b (by rw [c1_4]; rfl) (by decide) ?_
      refine lv_aload_n hx hb dX9_count_87 rfl (lv_at hl0 0 rfl) ?_
      refine kget F hK hP0 9 0 23 iX9 rfl rfl (by decide) (List.mem_of_getElem? (i := 4) rfl) rfl dX9_count_88 ?_
      have q7 : (σ 23 0) = mcount σ i := by
        first | (subst c1_4; rfl) | (subst c1_4; simp only [mcount, show ¬ ((4 : Int32) = 0) from by decide, show ¬ ((4 : Int32) = 1) from by decide, show ¬ ((4 : Int32) = 2) from by decide, show ¬ ((4 : Int32) = 3) from by decide, show ¬ ((4 : Int32) = 5) from by decide, show ¬ ((4 : Int32) = 6) from by decide, show ¬ ((4 : Int32) = 7) from by decide, show ¬ ((4 : Int32) = 8) from by decide, show ¬ ((4 : Int32) = 9) from by decide, show ¬ ((4 : Int32) = 10) from by decide, show ¬ ((4 : Int32) = 11) from by decide, show ¬ ((4 : Int32) = 12) from by decide, eq_self, ↓reduceIte]; done) | (simp only [mcount, c1_4, ↓reduceIte]) | (simp only [mcount, c1_4, ↓reduceIte]; simp; done)
      exact kRi F hr hlocks hS0 dX9_count_91 () q7 hP0 hD0
    rcases kswE i 5 (v := 5) (by decide) with c1_5 | c1_5
    · refine lv_tableIn (off := 91) (tgt := 92) hx hb dX9_count_1 c1a c1b (by rw [c1_5]; rfl) (by decide) ?_
      refine lv_aload_n hx hb dX9_count_92 rfl (lv_at hl0 0 rfl) ?_
      refine kget F hK hP0 9 0 31 iX9 rfl rfl (by decide) (List.mem_of_getElem? (i := 5) rfl) rfl dX9_count_93 ?_
      have q8 : (σ 31 0) = mcount σ i := by
        first | (subst c1_5; rfl) | (subst c1_5; simp only [mcount, show ¬ ((5 : Int32) = 0) from by decide, show ¬ ((5 : Int32) = 1) from by decide, show ¬ ((5 : Int32) = 2) from by decide, show ¬ ((5 : Int32) = 3) from by decide, show ¬ ((5 : Int32) = 4) from by decide, show ¬ ((5 : Int32) = 6) from by decide, show ¬ ((5 : Int32) = 7) from by decide, show ¬ ((5 : Int32) = 8) from by decide, show ¬ ((5 : Int32) = 9) from by decide, show ¬ ((5 : Int32) = 10) from by decide, show ¬ ((5 : Int32) = 11) from by decide, show ¬ ((5 : Int32) = 12) from by decide, eq_self, ↓reduceIte]; done) | (simp only [mcount, c1_5, ↓reduceIte]) | (simp only [mcount, c1_5, ↓reduceIte]; simp; done)
      exact kRi F hr hlocks hS0 dX9_count_96 () q8 hP0 hD0
    rcases kswE i 6 (v := 6) (by decide) with c1_6 | c1_6
    · refine lv_tableIn (off := 96) (tgt := 97) hx hb dX9_count_1 c1a c1b (by rw [c1_6]; rfl) (by decide) ?_
      refine lv_aload_n hx hb dX9_count_97 rfl (lv_at hl0 0 rfl) ?_
      refine kget F hK hP0 9 0 32 iX9 rfl rfl (by decide) (List.mem_of_getElem? (i := 6) rfl) rfl dX9_count_98 ?_
      have q9 : (σ 32 0) = mcount σ i := by
        first | (subst c1_6; rfl) | (subst c1_6; simp only [mcount, show ¬ ((6 : Int32) = 0) from by decide, show ¬ ((6 : Int32) = 1) from by decide, show ¬ ((6 : Int32) = 2) from by decide, show ¬ ((6 : Int32) = 3) from by decide, show ¬ ((6 : Int32) = 4) from by decide, show ¬ ((6 : Int32) = 5) from by decide, show ¬ ((6 : Int32) = 7) from by decide, show ¬ ((6 : Int32) = 8) from by decide, show ¬ ((6 : Int32) = 9) from by decide, show ¬ ((6 : Int32) = 10) from by decide, show ¬ ((6 : Int32) = 11) from by decide, show ¬ ((6 : Int32) = 12) from by decide, eq_self, ↓reduceIte]; done) | (simp only [mcount, c1_6, ↓reduceIte]) | (simp only [mcount, c1_6, ↓reduceIte]; simp; done)
      exact kRi F hr hlocks hS0 dX9_count_101 () q9 hP0 hD0
    rcases kswE i 7 (v := 7) (by decide) with c1_7 | c1_7
    · refine lv_tableIn (off := 101) (tgt := 102) hx hb dX9_count_1 c1a c1b (by rw [c1_7]; rfl) (by decide) ?_
      refine lv_aload_n hx hb dX9_count_102 rfl (lv_at hl0 0 rfl) ?_
      refine kget F hK hP0 9 0 33 iX9 rfl rfl (by decide) (List.mem_of_getElem? (i := 7) rfl) rfl dX9_count_103 ?_
      refine lv_iload_n hx hb dX9_count_106 rfl (lv_at hl0 1 rfl) ?_
      refine lv_bipush (v := 7) hx hb dX9_count_107 (by decide) ?_
      refine lv_isub hx hb dX9_count_109 ?_
      refine kild F hK hP0 21 0 rfl (by rw [c1_7]; decide) (by decide) (Nat.le_of_ble_eq_true rfl) dX9_count_110 ?_
      have q10 : (σ 33 0) = mcount σ i := by
        first | (subst c1_7; rfl) | (subst c1_7; simp only [mcount, show ¬ ((7 : Int32) = 0) from by decide, show ¬ ((7 : Int32) = 1) from by decide, show ¬ ((7 : Int32) = 2) from by decide, show ¬ ((7 : Int32) = 3) from by decide, show ¬ ((7 : Int32) = 4) from by decide, show ¬ ((7 : Int32) = 5) from by decide, show ¬ ((7 : Int32) = 6) from by decide, show ¬ ((7 : Int32) = 8) from by decide, show ¬ ((7 : Int32) = 9) from by decide, show ¬ ((7 : Int32) = 10) from by decide, show ¬ ((7 : Int32) = 11) from by decide, show ¬ ((7 : Int32) = 12) from by decide, eq_self, ↓reduceIte]; done) | (simp only [mcount, c1_7, ↓reduceIte]) | (simp only [mcount, c1_7, ↓reduceIte]; simp; done)
      exact kRi F hr hlocks hS0 dX9_count_111 () q10 hP0 hD0
    rcases kswE i 8 (v := 8) (by decide) with c1_8 | c1_8
    · refine lv_tableIn (off := 101) (tgt := 102) hx hb dX9_count_1 c1a c1b (by rw [c1_8]; rfl) (by decide) ?_
      refine lv_aload_n hx hb dX9_count_102 rfl (lv_at hl0 0 rfl) ?_
      refine kget F hK hP0 9 0 33 iX9 rfl rfl (by decide) (List.mem_of_getElem? (i := 7) rfl) rfl dX9_count_103 ?_
      refine lv_iload_n hx hb dX9_count_106 rfl (lv_at hl0 1 rfl) ?_
      refine lv_bipush (v := 7) hx hb dX9_count_107 (by decide) ?_
      refine lv_isub hx hb dX9_count_109 ?_
      refine kild F hK hP0 21 1 rfl (by rw [c1_8]; decide) (by decide) (Nat.le_of_ble_eq_true rfl) dX9_count_110 ?_
      have q11 : (σ 33 1) = mcount σ i := by
        first | (subst c1_8; rfl) | (subst c1_8; simp only [mcount, show ¬ ((8 : Int32) = 0) from by decide, show ¬ ((8 : Int32) = 1) from by decide, show ¬ ((8 : Int32) = 2) from by decide, show ¬ ((8 : Int32) = 3) from by decide, show ¬ ((8 : Int32) = 4) from by decide, show ¬ ((8 : Int32) = 5) from by decide, show ¬ ((8 : Int32) = 6) from by decide, show ¬ ((8 : Int32) = 7) from by decide, show ¬ ((8 : Int32) = 9) from by decide, show ¬ ((8 : Int32) = 10) from by decide, show ¬ ((8 : Int32) = 11) from by decide, show ¬ ((8 : Int32) = 12) from by decide, eq_self, ↓reduceIte]; done) | (simp only [mcount, c1_8, ↓reduceIte]) | (simp only [mcount, c1_8, ↓reduceIte]; simp; done)
      exact kRi F hr hlocks hS0 dX9_count_111 () q11 hP0 hD0
    rcases kswE i 9 (v := 9) (by decide) with c1_9 | c1_9
    · refine lv_tableIn (off := 111) (tgt := 112) hx hb dX9_count_1 c1a c1b (by rw [c1_9]; rfl) (by decide) ?_
      refine lv_aload_n hx hb dX9_count_112 rfl (lv_at hl0 0 rfl) ?_
      refine kget F hK hP0 9 0 34 iX9 rfl rfl (by decide) (List.mem_of_getElem? (i := 8) rfl) rfl dX9_count_113 ?_
      refine lv_iload_n hx hb dX9_count_116 rfl (lv_at hl0 1 rfl) ?_
      refine lv_bipush (v := 9) hx hb dX9_count_117 (by decide) ?_
      refine lv_isub hx hb dX9_count_119 ?_
      refine kild F hK hP0 22 0 rfl (by rw [c1_9]; decide) (by decide) (Nat.le_of_ble_eq_true rfl) dX9_count_120 ?_
      have q12 : (σ 34 0) = mcount σ i := by
        first | (subst c1_9; rfl) | (subst c1_9; simp only [mcount, show ¬ ((9 : Int32) = 0) from by decide, show ¬ ((9 : Int32) = 1) from by decide, show ¬ ((9 : Int32) = 2) from by decide, show ¬ ((9 : Int32) = 3) from by decide, show ¬ ((9 : Int32) = 4) from by decide, show ¬ ((9 : Int32) = 5) from by decide, show ¬ ((9 : Int32) = 6) from by decide, show ¬ ((9 : Int32) = 7) from by decide, show ¬ ((9 : Int32) = 8) from by decide, show ¬ ((9 : Int32) = 10) from by decide, show ¬ ((9 : Int32) = 11) from by decide, show ¬ ((9 : Int32) = 12) from by decide, eq_self, ↓reduceIte]; done) | (simp only [mcount, c1_9, ↓reduceIte]) | (simp only [mcount, c1_9, ↓reduceIte]; simp; done)
      exact kRi F hr hlocks hS0 dX9_count_121 () q12 hP0 hD0
    rcases kswE i 10 (v := 10) (by decide) with c1_10 | c1_10
    · refine lv_tableIn (off := 111) (tgt := 112) hx hb dX9_count_1 c1a c1b (by rw [c1_10]; rfl) (by decide) ?_
      refine lv_aload_n hx hb dX9_count_112 rfl (lv_at hl0 0 rfl) ?_
      refine kget F hK hP0 9 0 34 iX9 rfl rfl (by decide) (List.mem_of_getElem? (i := 8) rfl) rfl dX9_count_113 ?_
      refine lv_iload_n hx hb dX9_count_116 rfl (lv_at hl0 1 rfl) ?_
      refine lv_bipush (v := 9) hx hb dX9_count_117 (by decide) ?_
      refine lv_isub hx hb dX9_count_119 ?_
      refine kild F hK hP0 22 1 rfl (by rw [c1_10]; decide) (by decide) (Nat.le_of_ble_eq_true rfl) dX9_count_120 ?_
      have q13 : (σ 34 1) = mcount σ i := by
        first | (subst c1_10; rfl) | (subst c1_10; simp only [mcount, show ¬ ((10 : Int32) = 0) from by decide, show ¬ ((10 : Int32) = 1) from by decide, show ¬ ((10 : Int32) = 2) from by decide, show ¬ ((10 : Int32) = 3) from by decide, show ¬ ((10 : Int32) = 4) from by decide, show ¬ ((10 : Int32) = 5) from by decide, show ¬ ((10 : Int32) = 6) from by decide, show ¬ ((10 : Int32) = 7) from by decide, show ¬ ((10 : Int32) = 8) from by decide, show ¬ ((10 : Int32) = 9) from by decide, show ¬ ((10 : Int32) = 11) from by decide, show ¬ ((10 : Int32) = 12) from by decide, eq_self, ↓reduceIte]; done) | (simp only [mcount, c1_10, ↓reduceIte]) | (simp only [mcount, c1_10, ↓reduceIte]; simp; done)
      exact kRi F hr hlocks hS0 dX9_count_121 () q13 hP0 hD0
    rcases kswE i 11 (v := 11) (by decide) with c1_11 | c1_11
    · refine lv_tableIn (off := 121) (tgt := 122) hx hb dX9_count_1 c1a c1b (by rw [c1_11]; rfl) (by decide) ?_
      refine lv_aload_n hx hb dX9_count_122 rfl (lv_at hl0 0 rfl) ?_
      refine kget F hK hP0 9 0 36 iX9 rfl rfl (by decide) (List.mem_of_getElem? (i := 9) rfl) rfl dX9_count_123 ?_
      have q14 : (σ 36 0) = mcount σ i := by
        first | (subst c1_11; rfl) | (subst c1_11; simp only [mcount, show ¬ ((11 : Int32) = 0) from by decide, show ¬ ((11 : Int32) = 1) from by decide, show ¬ ((11 : Int32) = 2) from by decide, show ¬ ((11 : Int32) = 3) from by decide, show ¬ ((11 : Int32) = 4) from by decide, show ¬ ((11 : Int32) = 5) from by decide, show ¬ ((11 : Int32) = 6) from by decide, show ¬ ((11 : Int32) = 7) from by decide, show ¬ ((11 : Int32) = 8) from by decide, show ¬ ((11 : Int32) = 9) from by decide, show ¬ ((11 : Int32) = 10) from by decide, show ¬ ((11 : Int32) = 12) from by decide, eq_self, ↓reduceIte]; done) | (simp only [mcount, c1_11, ↓reduceIte]) | (simp only [mcount, c1_11, ↓reduceIte]; simp; done)
      exact kRi F hr hlocks hS0 dX9_count_126 () q14 hP0 hD0
    rcases kswE i 12 (v := 12) (by decide) with c1_12 | c1_12
    · refine lv_tableIn (off := 126) (tgt := 127) hx hb dX9_count_1 c1a c1b (by rw [c1_12]; rfl) (by decide) ?_
      refine lv_aload_n hx hb dX9_count_127 rfl (lv_at hl0 0 rfl) ?_
      refine kget F hK hP0 9 0 30 iX9 rfl rfl (by decide) (List.mem_of_getElem? (i := 10) rfl) rfl dX9_count_128 ?_
      have q15 : (σ 30 0) = mcount σ i := by
        first | (subst c1_12; rfl) | (subst c1_12; simp only [mcount, show ¬ ((12 : Int32) = 0) from by decide, show ¬ ((12 : Int32) = 1) from by decide, show ¬ ((12 : Int32) = 2) from by decide, show ¬ ((12 : Int32) = 3) from by decide, show ¬ ((12 : Int32) = 4) from by decide, show ¬ ((12 : Int32) = 5) from by decide, show ¬ ((12 : Int32) = 6) from by decide, show ¬ ((12 : Int32) = 7) from by decide, show ¬ ((12 : Int32) = 8) from by decide, show ¬ ((12 : Int32) = 9) from by decide, show ¬ ((12 : Int32) = 10) from by decide, show ¬ ((12 : Int32) = 11) from by decide, eq_self, ↓reduceIte]; done) | (simp only [mcount, c1_12, ↓reduceIte]) | (simp only [mcount, c1_12, ↓reduceIte]; simp; done)
      exact kRi F hr hlocks hS0 dX9_count_131 () q15 hP0 hD0
    omega
