set_option maxHeartbeats 1000000 in
set_option maxRecDepth 100000 in
theorem c_X8_fault (l : Launch) (G : kG) (Z : kZs) (h : Nat) (cl : Nat) (se : Nat) (rc : Nat) (rs : Nat) (ar : Nat) (co : Nat) (cz : Nat) (tx : Nat) (nw : Nat → Int32) (yl : Nat) (yk : Nat) (yf : Nat) (ys : Nat) (x : Nat → Int32) (xl : Nat → Int32) (fk : Nat → Int32) (ff : Nat → Int32) (fs : Nat → Int32) (L : Nat) (hL : x 1 = nI L) (lL : L ≤ 200) : kMz Z G l yX8_fault wsX8_fault ({ frames := 8, cells := 0, slots := 0, locals := 172 }) [.ref h] ([oTo h cl se rc rs ar co cz tx nw, oTx tx yl yk yf ys x, aI G yl 200 xl, aI G yk 24 fk, aI G yf 24 ff, aI G ys 24 fs]) (kQi G (fun (rr : Int32) (uu : (Nat → Int32) × (Nat → Int32) × (Nat → Int32) × (Nat → Int32)) => (rr = (krd xl L x fk ff fs).1) ∧ (uu.1 = (krd xl L x fk ff fs).2.1) ∧ (uu.2.1 = (krd xl L x fk ff fs).2.2.1) ∧ (uu.2.2.1 = (krd xl L x fk ff fs).2.2.2.1) ∧ (uu.2.2.2 = (krd xl L x fk ff fs).2.2.2.2)) (fun (uu : (Nat → Int32) × (Nat → Int32) × (Nat → Int32) × (Nat → Int32)) => [oTo h cl se rc rs ar co cz tx nw, oTx tx yl yk yf ys uu.1, aI G yl 200 xl, aI G yk 24 uu.2.1, aI G yf 24 uu.2.2.1, aI G ys 24 uu.2.2.2])) := by
  refine kzStart (cc := cX8_fault) (maxL := 1) (ret := (some .int)) (by decide) rfl (Nat.le_of_ble_eq_true rfl) (fun pg ev st mi bl mt cd A ls0 F hr hlocks hin hK hP0 hD0 hA hS0 hl0 hZ => ?_)
  obtain ⟨hx, hb, hml, hown, hts⟩ := id F
  have hl0 : lv_has ls0 1 [(0, .ref h)] := hl0
  have iX8 : ∀ w ∈ u_ws RX8 TX8 9, w ∈ wsX8_fault := fun w h => List.mem_cons_of_mem _ (List.mem_append_left _ (List.mem_append_right _ h))
  refine lv_aload_n hx hb dX8_fault_0 rfl (lv_at hl0 0 rfl) ?_
  refine kget F hK hP0 8 0 7 iX8 rfl rfl (by decide) (List.mem_of_getElem? (i := 1) rfl) rfl dX8_fault_1 ?_
  refine kzVi (wr := [oTo h cl se rc rs ar co cz tx nw]) F hK hP0 hD0 hS0 hA hl0.1 hZ (c_X6_read l G Z tx yl yk yf ys x xl fk ff fs L hL lL) [1, 2, 3, 4, 5] [0] 6 0 gX8_fault_X6_read rfl 0 rfl (by decide +kernel) ⟨Nat.le_of_ble_eq_true rfl, Nat.le_of_ble_eq_true rfl⟩ ⟨Nat.zero_le _, Nat.zero_le _⟩ rfl rfl rfl rfl (by decide) (by decide) (by decide) (Nat.le_of_ble_eq_true rfl) rfl dX8_fault_4 (fun r1 u1 H2 locs2 hw1 hP2 hD2 hS2 => ?_)
  obtain ⟨x_1, fk_1, ff_1, fs_1⟩ := u1
  have hP2 : va_P G.1 vwCl ([oTo h cl se rc rs ar co cz tx nw, oTx tx yl yk yf ys x_1, aI G yl 200 xl, aI G yk 24 fk_1, aI G yf 24 ff_1, aI G ys 24 fs_1]) H2 := hP2
  have hD2 : va_D A ([oTo h cl se rc rs ar co cz tx nw, oTx tx yl yk yf ys x_1, aI G yl 200 xl, aI G yk 24 fk_1, aI G yf 24 ff_1, aI G ys 24 fs_1]) := hD2
  clear hP0 hD0 hS0
  have w1_0 : r1 = (krd xl L x fk ff fs).1 := hw1.1
  have w1_1 : x_1 = (krd xl L x fk ff fs).2.1 := hw1.2.1
  have w1_2 : fk_1 = (krd xl L x fk ff fs).2.2.1 := hw1.2.2.1
  have w1_3 : ff_1 = (krd xl L x fk ff fs).2.2.2.1 := hw1.2.2.2.1
  have w1_4 : fs_1 = (krd xl L x fk ff fs).2.2.2.2 := hw1.2.2.2.2
  have q3 : (r1 = (krd xl L x fk ff fs).1) ∧ (x_1 = (krd xl L x fk ff fs).2.1) ∧ (fk_1 = (krd xl L x fk ff fs).2.2.1) ∧ (ff_1 = (krd xl L x fk ff fs).2.2.2.1) ∧ (fs_1 = (krd xl L x fk ff fs).2.2.2.2) := by
    subst w1_4
    subst w1_3
    subst w1_2
    subst w1_1
    subst w1_0
    first | (simp only [eq_self, ↓reduceIte, and_self, and_true, true_and]; done) | (simp only [eq_self, ↓reduceIte, and_self, and_true, true_and]; (try and_intros) <;> rfl) | exact ⟨rfl, rfl, rfl, rfl, rfl⟩
  exact kRi F hr hlocks hS2 dX8_fault_7 ⟨x_1, fk_1, ff_1, fs_1⟩ q3 hP2 hD2
set_option maxHeartbeats 4000000 in
set_option maxRecDepth 100000 in
theorem c_X8_apply (l : Launch) (G : kG) (h : Nat) (cl : Nat) (se : Nat) (rc : Nat) (rs : Nat) (ar : Nat) (co : Nat) (cz : Nat) (tx : Nat) (nw : Nat → Int32) (pe : Nat) (ti : Nat) (ta : Nat) (sn : Nat) (sb : Nat) (pr : Nat) (lc : Nat) (ls : Nat) (dr : Nat) (mc : Nat) (ms : Nat) (er : Nat) (c : Nat → Int32) (p : Nat → Int32) (s : Nat → Int32) (r : Nat → Int32) (kd : Int32) (v : Int32) (g : Int32) (h2 : kd = 2 → v = 0 ∨ v = 1) : kM G l yX8_apply wsX8_apply ({ frames := 2, cells := 0, slots := 0, locals := 46 }) [.ref h, .int kd, .int v, .int g] ([oTo h cl se rc rs ar co cz tx nw, oCl cl pe ti c, oPe pe lc ls lc ls dr p, oSe se pr ta sn sb s, oPe pr mc ms ms mc er r]) (kQv G (fun (uu : (Nat → Int32) × (Nat → Int32) × (Nat → Int32)) => (uu.1 = (kapply kd v g c p r).1) ∧ (uu.2.1 = (kapply kd v g c p r).2.1) ∧ (uu.2.2 = (kapply kd v g c p r).2.2)) (fun (uu : (Nat → Int32) × (Nat → Int32) × (Nat → Int32)) => [oTo h cl se rc rs ar co cz tx nw, oCl cl pe ti uu.1, oPe pe lc ls lc ls dr uu.2.1, oSe se pr ta sn sb s, oPe pr mc ms ms mc er uu.2.2])) := by
  refine kStart (cc := cX8_apply) (maxL := 4) (ret := none) (by decide) rfl (Nat.le_of_ble_eq_true rfl) (fun pg ev st mi bl mt cd A ls0 F hr hlocks hin hK hP0 hD0 hA hS0 hl0 => ?_)
  obtain ⟨hx, hb, hml, hown, hts⟩ := id F
  have hl0 : lv_has ls0 4 [(0, .ref h), (1, .int kd), (2, .int v), (3, .int g)] := hl0
  refine lv_iload_n hx hb dX8_apply_0 rfl (lv_at hl0 1 rfl) ?_
  rcases ksw kd 0 3 with c1 | c1
  · refine lv_tableOut (tgt := 73) hx hb dX8_apply_1 c1 (by decide) ?_
    refine lv_aload_n hx hb dX8_apply_73 rfl (lv_at hl0 0 rfl) ?_
    refine lv_iload_n hx hb dX8_apply_74 rfl (lv_at hl0 2 rfl) ?_
    refine kVi (wr := [oPe pe lc ls lc ls dr p, oSe se pr ta sn sb s, oPe pr mc ms ms mc er r]) F hK hP0 hD0 hS0 hA hl0.1 (c_X8_early l G h cl se rc rs ar co cz tx nw pe ti c v) [0, 1] [2, 3, 4] 8 0 gX8_apply_X8_early rfl 1 rfl (by decide +kernel) ⟨Nat.le_of_ble_eq_true rfl, Nat.le_of_ble_eq_true rfl⟩ ⟨Nat.zero_le _, Nat.zero_le _⟩ rfl rfl rfl rfl (by decide) (by decide) (by decide) (Nat.le_of_ble_eq_true rfl) rfl dX8_apply_75 (fun r2 c_2 H3 locs3 hw2 (hP3 : va_P G.1 vwCl ([oPe pe lc ls lc ls dr p, oSe se pr ta sn sb s, oPe pr mc ms ms mc er r, oTo h cl se rc rs ar co cz tx nw, oCl cl pe ti c_2]) H3) (hD3 : va_D A ([oPe pe lc ls lc ls dr p, oSe se pr ta sn sb s, oPe pr mc ms ms mc er r, oTo h cl se rc rs ar co cz tx nw, oCl cl pe ti c_2])) hS3 => ?_)
    clear hP0 hD0 hS0
    have w2_0 : r2 = (kearly c v).1 := hw2.1
    have w2_1 : c_2 = (kearly c v).2 := hw2.2
    refine lv_pop hx hb dX8_apply_78 rfl ?_
    have q4 : (c_2 = (kapply kd v g c p r).1) ∧ (p = (kapply kd v g c p r).2.1) ∧ (r = (kapply kd v g c p r).2.2) := by
      subst w2_1
      subst w2_0
      have z0 : ¬ kd = 0 := by intro z; rw [z] at c1; revert c1; decide
      have z1 : ¬ kd = 1 := by intro z; rw [z] at c1; revert c1; decide
      have z2 : ¬ kd = 2 := by intro z; rw [z] at c1; revert c1; decide
      have z3 : ¬ kd = 3 := by intro z; rw [z] at c1; revert c1; decide
      and_intros <;> first | (simp only [kapply, z0, z1, z2, z3, ↓reduceIte]; done) | (simp only [kapply, z0, z1, z2, z3, ↓reduceIte]; rfl)
    exact kRv F hr hlocks hS3 dX8_apply_79 ⟨c_2, p, r⟩ q4 (hP3.sub [3, 4, 0, 1, 2] rfl) (hD3.sub [3, 4, 0, 1, 2] (by decide) rfl)
  · obtain ⟨c1a, c1b⟩ := c1
    rcases kswE kd 0 (v := 0) (by decide) with c1_0 | c1_0
    · refine lv_tableIn (off := 31) (tgt := 32) hx hb dX8_apply_1 c1a c1b (by rw [c1_0]; rfl) (by decide) ?_
      refine lv_aload_n hx hb dX8_apply_32 rfl (lv_at hl0 0 rfl) ?_
      refine lv_iconst (v := 0) hx hb dX8_apply_33 (by decide) ?_
      refine lv_iload_n hx hb dX8_apply_34 rfl (lv_at hl0 2 rfl) ?_
      refine lv_iload_n hx hb dX8_apply_35 rfl (lv_at hl0 3 rfl) ?_
      refine kVi (wr := [oSe se pr ta sn sb s, oPe pr mc ms ms mc er r]) F hK hP0 hD0 hS0 hA hl0.1 (c_X8_offer0 l G h cl se rc rs ar co cz tx nw pe ti c lc ls dr p v g) [0, 1, 2] [3, 4] 8 0 gX8_apply_X8_offer rfl 3 rfl (by decide +kernel) ⟨Nat.le_of_ble_eq_true rfl, Nat.le_of_ble_eq_true rfl⟩ ⟨Nat.zero_le _, Nat.zero_le _⟩ rfl rfl rfl rfl (by decide) (by decide) (by decide) (Nat.le_of_ble_eq_true rfl) rfl dX8_apply_36 (fun r5 p_5 H6 locs6 hw5 (hP6 : va_P G.1 vwCl ([oSe se pr ta sn sb s, oPe pr mc ms ms mc er r, oTo h cl se rc rs ar co cz tx nw, oCl cl pe ti c, oPe pe lc ls lc ls dr p_5]) H6) (hD6 : va_D A ([oSe se pr ta sn sb s, oPe pr mc ms ms mc er r, oTo h cl se rc rs ar co cz tx nw, oCl cl pe ti c, oPe pe lc ls lc ls dr p_5])) hS6 => ?_)
      clear hP0 hD0 hS0
      have w5_0 : r5 = (koffer p v g).1 := hw5.1
      have w5_1 : p_5 = (koffer p v g).2 := hw5.2
      refine lv_pop hx hb dX8_apply_39 rfl ?_
      refine lv_goto (tgt := 79) hx hb dX8_apply_40 (by decide) ?_
      have q7 : (c = (kapply kd v g c p r).1) ∧ (p_5 = (kapply kd v g c p r).2.1) ∧ (r = (kapply kd v g c p r).2.2) := by
        subst w5_1
        subst w5_0
        and_intros <;> first | (simp only [kapply, c1_0, show ¬ ((0 : Int32) = 1) from by decide, show ¬ ((0 : Int32) = 2) from by decide, show ¬ ((0 : Int32) = 3) from by decide, show ¬ ((1 : Int32) = 0) from by decide, eq_self, ↓reduceIte]; done) | (simp only [kapply, c1_0, show ¬ ((0 : Int32) = 1) from by decide, show ¬ ((0 : Int32) = 2) from by decide, show ¬ ((0 : Int32) = 3) from by decide, show ¬ ((1 : Int32) = 0) from by decide, eq_self, ↓reduceIte]; rfl)
      exact kRv F hr hlocks hS6 dX8_apply_79 ⟨c, p_5, r⟩ q7 (hP6.sub [2, 3, 4, 0, 1] rfl) (hD6.sub [2, 3, 4, 0, 1] (by decide) rfl)
    rcases kswE kd 1 (v := 1) (by decide) with c1_1 | c1_1
    · refine lv_tableIn (off := 42) (tgt := 43) hx hb dX8_apply_1 c1a c1b (by rw [c1_1]; rfl) (by decide) ?_
      refine lv_aload_n hx hb dX8_apply_43 rfl (lv_at hl0 0 rfl) ?_
      refine lv_iconst (v := 1) hx hb dX8_apply_44 (by decide) ?_
      refine lv_iload_n hx hb dX8_apply_45 rfl (lv_at hl0 2 rfl) ?_
      refine lv_iload_n hx hb dX8_apply_46 rfl (lv_at hl0 3 rfl) ?_
      refine kVi (wr := [oCl cl pe ti c, oPe pe lc ls lc ls dr p]) F hK hP0 hD0 hS0 hA hl0.1 (c_X8_offer1 l G h cl se rc rs ar co cz tx nw pr ta sn sb s mc ms er r v g) [0, 3, 4] [1, 2] 8 0 gX8_apply_X8_offer rfl 3 rfl (by decide +kernel) ⟨Nat.le_of_ble_eq_true rfl, Nat.le_of_ble_eq_true rfl⟩ ⟨Nat.zero_le _, Nat.zero_le _⟩ rfl rfl rfl rfl (by decide) (by decide) (by decide) (Nat.le_of_ble_eq_true rfl) rfl dX8_apply_47 (fun r8 p_8 H9 locs9 hw8 (hP9 : va_P G.1 vwCl ([oCl cl pe ti c, oPe pe lc ls lc ls dr p, oTo h cl se rc rs ar co cz tx nw, oSe se pr ta sn sb s, oPe pr mc ms ms mc er p_8]) H9) (hD9 : va_D A ([oCl cl pe ti c, oPe pe lc ls lc ls dr p, oTo h cl se rc rs ar co cz tx nw, oSe se pr ta sn sb s, oPe pr mc ms ms mc er p_8])) hS9 => ?_)
      clear hP0 hD0 hS0
      have w8_0 : r8 = (koffer r v g).1 := hw8.1
      have w8_1 : p_8 = (koffer r v g).2 := hw8.2
      refine lv_pop hx hb dX8_apply_50 rfl ?_
      refine lv_goto (tgt := 79) hx hb dX8_apply_51 (by decide) ?_
      have q10 : (c = (kapply kd v g c p r).1) ∧ (p = (kapply kd v g c p r).2.1) ∧ (p_8 = (kapply kd v g c p r).2.2) := by
        subst w8_1
        subst w8_0
        and_intros <;> first | (simp only [kapply, c1_1, show ¬ ((1 : Int32) = 0) from by decide, show ¬ ((1 : Int32) = 2) from by decide, show ¬ ((1 : Int32) = 3) from by decide, show ¬ ((1 : Int32) = 0) from by decide, eq_self, ↓reduceIte]; done) | (simp only [kapply, c1_1, show ¬ ((1 : Int32) = 0) from by decide, show ¬ ((1 : Int32) = 2) from by decide, show ¬ ((1 : Int32) = 3) from by decide, show ¬ ((1 : Int32) = 0) from by decide, eq_self, ↓reduceIte]; rfl)
      exact kRv F hr hlocks hS9 dX8_apply_79 ⟨c, p, p_8⟩ q10 (hP9.sub [2, 0, 1, 3, 4] rfl) (hD9.sub [2, 0, 1, 3, 4] (by decide) rfl)
    rcases kswE kd 2 (v := 2) (by decide) with c1_2 | c1_2
    · refine lv_tableIn (off := 53) (tgt := 54) hx hb dX8_apply_1 c1a c1b (by rw [c1_2]; rfl) (by decide) ?_
      refine lv_aload_n hx hb dX8_apply_54 rfl (lv_at hl0 0 rfl) ?_
      refine lv_iload_n hx hb dX8_apply_55 rfl (lv_at hl0 2 rfl) ?_
      refine lv_iload_n hx hb dX8_apply_56 rfl (lv_at hl0 3 rfl) ?_
      rcases h2 c1_2 with q | q
      · subst q
        refine kVi (wr := [oSe se pr ta sn sb s, oPe pr mc ms ms mc er r]) F hK hP0 hD0 hS0 hA hl0.1 (c_X8_secret0 l G h cl se rc rs ar co cz tx nw pe ti c lc ls dr p g) [0, 1, 2] [3, 4] 8 0 gX8_apply_X8_secret rfl 2 rfl (by decide +kernel) ⟨Nat.le_of_ble_eq_true rfl, Nat.le_of_ble_eq_true rfl⟩ ⟨Nat.zero_le _, Nat.zero_le _⟩ rfl rfl rfl rfl (by decide) (by decide) (by decide) (Nat.le_of_ble_eq_true rfl) rfl dX8_apply_57 (fun r11 p_11 H12 locs12 hw11 (hP12 : va_P G.1 vwCl ([oSe se pr ta sn sb s, oPe pr mc ms ms mc er r, oTo h cl se rc rs ar co cz tx nw, oCl cl pe ti c, oPe pe lc ls lc ls dr p_11]) H12) (hD12 : va_D A ([oSe se pr ta sn sb s, oPe pr mc ms ms mc er r, oTo h cl se rc rs ar co cz tx nw, oCl cl pe ti c, oPe pe lc ls lc ls dr p_11])) hS12 => ?_)
        clear hP0 hD0 hS0
        have w11_0 : r11 = (ksecret p g).1 := hw11.1
        have w11_1 : p_11 = (ksecret p g).2 := hw11.2
        refine lv_pop hx hb dX8_apply_60 rfl ?_
        refine lv_goto (tgt := 79) hx hb dX8_apply_61 (by decide) ?_
        have q13 : (c = (kapply kd 0 g c p r).1) ∧ (p_11 = (kapply kd 0 g c p r).2.1) ∧ (r = (kapply kd 0 g c p r).2.2) := by
          subst w11_1
          subst w11_0
          and_intros <;> first | (simp only [kapply, c1_2, show ¬ ((2 : Int32) = 0) from by decide, show ¬ ((2 : Int32) = 1) from by decide, show ¬ ((2 : Int32) = 3) from by decide, show ¬ ((1 : Int32) = 0) from by decide, eq_self, ↓reduceIte]; done) | (simp only [kapply, c1_2, show ¬ ((2 : Int32) = 0) from by decide, show ¬ ((2 : Int32) = 1) from by decide, show ¬ ((2 : Int32) = 3) from by decide, show ¬ ((1 : Int32) = 0) from by decide, eq_self, ↓reduceIte]; rfl)
        exact kRv F hr hlocks hS12 dX8_apply_79 ⟨c, p_11, r⟩ q13 (hP12.sub [2, 3, 4, 0, 1] rfl) (hD12.sub [2, 3, 4, 0, 1] (by decide) rfl)
      · subst q
        refine kVi (wr := [oCl cl pe ti c, oPe pe lc ls lc ls dr p]) F hK hP0 hD0 hS0 hA hl0.1 (c_X8_secret1 l G h cl se rc rs ar co cz tx nw pr ta sn sb s mc ms er r g) [0, 3, 4] [1, 2] 8 0 gX8_apply_X8_secret rfl 2 rfl (by decide +kernel) ⟨Nat.le_of_ble_eq_true rfl, Nat.le_of_ble_eq_true rfl⟩ ⟨Nat.zero_le _, Nat.zero_le _⟩ rfl rfl rfl rfl (by decide) (by decide) (by decide) (Nat.le_of_ble_eq_true rfl) rfl dX8_apply_57 (fun r14 p_14 H15 locs15 hw14 (hP15 : va_P G.1 vwCl ([oCl cl pe ti c, oPe pe lc ls lc ls dr p, oTo h cl se rc rs ar co cz tx nw, oSe se pr ta sn sb s, oPe pr mc ms ms mc er p_14]) H15) (hD15 : va_D A ([oCl cl pe ti c, oPe pe lc ls lc ls dr p, oTo h cl se rc rs ar co cz tx nw, oSe se pr ta sn sb s, oPe pr mc ms ms mc er p_14])) hS15 => ?_)
        clear hP0 hD0 hS0
        have w14_0 : r14 = (ksecret r g).1 := hw14.1
        have w14_1 : p_14 = (ksecret r g).2 := hw14.2
        refine lv_pop hx hb dX8_apply_60 rfl ?_
        refine lv_goto (tgt := 79) hx hb dX8_apply_61 (by decide) ?_
        have q16 : (c = (kapply kd 1 g c p r).1) ∧ (p = (kapply kd 1 g c p r).2.1) ∧ (p_14 = (kapply kd 1 g c p r).2.2) := by
          subst w14_1
          subst w14_0
          and_intros <;> first | (simp only [kapply, c1_2, show ¬ ((2 : Int32) = 0) from by decide, show ¬ ((2 : Int32) = 1) from by decide, show ¬ ((2 : Int32) = 3) from by decide, show ¬ ((1 : Int32) = 0) from by decide, eq_self, ↓reduceIte]; done) | (simp only [kapply, c1_2, show ¬ ((2 : Int32) = 0) from by decide, show ¬ ((2 : Int32) = 1) from by decide, show ¬ ((2 : Int32) = 3) from by decide, show ¬ ((1 : Int32) = 0) from by decide, eq_self, ↓reduceIte]; rfl)
        exact kRv F hr hlocks hS15 dX8_apply_79 ⟨c, p, p_14⟩ q16 (hP15.sub [2, 0, 1, 3, 4] rfl) (hD15.sub [2, 0, 1, 3, 4] (by decide) rfl)
    rcases kswE kd 3 (v := 3) (by decide) with c1_3 | c1_3
    · refine lv_tableIn (off := 63) (tgt := 64) hx hb dX8_apply_1 c1a c1b (by rw [c1_3]; rfl) (by decide) ?_
      refine lv_aload_n hx hb dX8_apply_64 rfl (lv_at hl0 0 rfl) ?_
      refine lv_iload_n hx hb dX8_apply_65 rfl (lv_at hl0 2 rfl) ?_
      refine kVi (wr := [oPe pe lc ls lc ls dr p, oSe se pr ta sn sb s, oPe pr mc ms ms mc er r]) F hK hP0 hD0 hS0 hA hl0.1 (c_X8_guess l G h cl se rc rs ar co cz tx nw pe ti c v) [0, 1] [2, 3, 4] 8 0 gX8_apply_X8_guess rfl 1 rfl (by decide +kernel) ⟨Nat.le_of_ble_eq_true rfl, Nat.le_of_ble_eq_true rfl⟩ ⟨Nat.zero_le _, Nat.zero_le _⟩ rfl rfl rfl rfl (by decide) (by decide) (by decide) (Nat.le_of_ble_eq_true rfl) rfl dX8_apply_66 (fun r17 c_17 H18 locs18 hw17 (hP18 : va_P G.1 vwCl ([oPe pe lc ls lc ls dr p, oSe se pr ta sn sb s, oPe pr mc ms ms mc er r, oTo h cl se rc rs ar co cz tx nw, oCl cl pe ti c_17]) H18) (hD18 : va_D A ([oPe pe lc ls lc ls dr p, oSe se pr ta sn sb s, oPe pr mc ms ms mc er r, oTo h cl se rc rs ar co cz tx nw, oCl cl pe ti c_17])) hS18 => ?_)
      clear hP0 hD0 hS0
      have w17_0 : r17 = (kguess c v).1 := hw17.1
      have w17_1 : c_17 = (kguess c v).2 := hw17.2
      refine lv_pop hx hb dX8_apply_69 rfl ?_
      refine lv_goto (tgt := 79) hx hb dX8_apply_70 (by decide) ?_
      have q19 : (c_17 = (kapply kd v g c p r).1) ∧ (p = (kapply kd v g c p r).2.1) ∧ (r = (kapply kd v g c p r).2.2) := by
        subst w17_1
        subst w17_0
        and_intros <;> first | (simp only [kapply, c1_3, show ¬ ((3 : Int32) = 0) from by decide, show ¬ ((3 : Int32) = 1) from by decide, show ¬ ((3 : Int32) = 2) from by decide, show ¬ ((1 : Int32) = 0) from by decide, eq_self, ↓reduceIte]; done) | (simp only [kapply, c1_3, show ¬ ((3 : Int32) = 0) from by decide, show ¬ ((3 : Int32) = 1) from by decide, show ¬ ((3 : Int32) = 2) from by decide, show ¬ ((1 : Int32) = 0) from by decide, eq_self, ↓reduceIte]; rfl)
      exact kRv F hr hlocks hS18 dX8_apply_79 ⟨c_17, p, r⟩ q19 (hP18.sub [3, 4, 0, 1, 2] rfl) (hD18.sub [3, 4, 0, 1, 2] (by decide) rfl)
    omega
