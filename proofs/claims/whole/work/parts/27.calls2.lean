set_option maxHeartbeats 1000000 in
set_option maxRecDepth 100000 in
theorem c_X8_step0E (l : Launch) (G : kG) (h : Nat) (cl : Nat) (se : Nat) (rs : Nat) (ar : Nat) (co : Nat) (cz : Nat) (tx : Nat) (nw : Nat → Int32) (rh : Nat) (w : Nat) (rp : Nat → Int32) (he : rp 1 = 0) : kM G l yX8_step wsX8_step ({ frames := 1, cells := 0, slots := 0, locals := 21 }) [.ref h, .int 0] ([oTo h cl se rh rs ar co cz tx nw, oRo rh w rp]) (kQi G (fun (rr : Int32) (uu : Unit) => rr = (-4 : Int32)) (fun (uu : Unit) => [oTo h cl se rh rs ar co cz tx nw, oRo rh w rp])) := by
  refine kStart (cc := cX8_step) (maxL := 3) (ret := (some .int)) (by decide) rfl (Nat.le_of_ble_eq_true rfl) (fun pg ev st mi bl mt cd A ls0 F hr hlocks hin hK hP0 hD0 hA hS0 hl0 => ?_)
  obtain ⟨hx, hb, hml, hown, hts⟩ := id F
  have hl0 : lv_has ls0 3 [(0, .ref h), (1, .int 0)] := hl0
  have iX4 : ∀ w ∈ u_ws RX4 TX4 3, w ∈ wsX8_step := fun w h => List.mem_cons_of_mem _ (List.mem_append_left _ (List.mem_append_left _ (List.mem_append_left _ (List.mem_append_left _ (List.mem_append_left _ (List.mem_append_left _ (List.mem_append_left _ (List.mem_append_right _ h))))))))
  refine lv_iload_n hx hb dX8_step_0 rfl (lv_at hl0 1 rfl) ?_
  refine kPSi F hK hP0 hD0 hS0 hA hl0.1 (c_X8_isSide l G 0) (fun _ => rfl) gX8_step_X8_isSide rfl 1 rfl (by decide +kernel) ⟨Nat.le_of_ble_eq_true rfl, Nat.le_of_ble_eq_true rfl⟩ ⟨Nat.zero_le _, Nat.zero_le _⟩ (Nat.le_of_ble_eq_true rfl) rfl dX8_step_1 (fun r1 u1 H2 locs2 hw1 (hP2 : va_P G.1 vwCl ([oTo h cl se rh rs ar co cz tx nw, oRo rh w rp]) H2) (hD2 : va_D A ([oTo h cl se rh rs ar co cz tx nw, oRo rh w rp])) hS2 => ?_)
  clear hP0 hD0 hS0
  have w1_0 : r1 = kside 0 := hw1
  have g1 : r1 = 1 := w1_0.trans (by decide)
  clear w1_0
  subst g1
  refine lv_if_ne (tgt := 10) hx hb dX8_step_4 (by decide) (fun c3 => ?_) (fun c3 => ?_)
  · refine lv_aload_n hx hb dX8_step_10 rfl (lv_at hl0 0 rfl) ?_
    refine lv_iload_n hx hb dX8_step_11 rfl (lv_at hl0 1 rfl) ?_
    refine kVr (wr := [oRo rh w rp]) F hK hP2 hD2 hS2 hA hl0.1 (c_X8_roadTo0 l G h cl se rh rs ar co cz tx nw) [0] [1] 8 0 gX8_step_X8_roadTo rfl 1 rfl (by decide +kernel) ⟨Nat.le_of_ble_eq_true rfl, Nat.le_of_ble_eq_true rfl⟩ ⟨Nat.zero_le _, Nat.zero_le _⟩ rfl rfl rfl rfl (by decide) (by decide) (by decide) (Nat.le_of_ble_eq_true rfl) rfl dX8_step_12 (fun u4 H5 locs5 hw4 (hP5 : va_P G.1 vwCl ([oRo rh w rp, oTo h cl se rh rs ar co cz tx nw]) H5) (hD5 : va_D A ([oRo rh w rp, oTo h cl se rh rs ar co cz tx nw])) hS5 => ?_)
    clear hP2 hD2 hS2
    refine lv_astore_n (lv' := [(2, .ref rh), (0, .ref h), (1, .int 0)]) hx hb dX8_step_15 rfl hl0 (by decide) rfl (fun ls6 hl6 => ?_)
    clear hl0
    refine lv_aload_n hx hb dX8_step_16 rfl (lv_at hl6 0 rfl) ?_
    refine kget F hK hP5 4 0 1 iX4 rfl rfl (by decide) (List.mem_of_getElem? (i := 1) rfl) rfl dX8_step_17 ?_
    refine lv_if_ne (tgt := 26) hx hb dX8_step_20 (by decide) (fun c7 => ?_) (fun c7 => ?_)
    · exact absurd he c7
    · refine lv_bipush (v := (-4)) hx hb dX8_step_23 (by decide) ?_
      have q8 : (-4) = (-4 : Int32) := by
        first | rfl | (simp only [c3, c7, ↓reduceIte]; done) | (simp [c3, c7]; done)
      exact kRi F hr hlocks hS5 dX8_step_25 () q8 (hP5.sub [1, 0] rfl) (hD5.sub [1, 0] (by decide) rfl)
  · exact absurd c3 (by decide)
set_option maxHeartbeats 1000000 in
set_option maxRecDepth 100000 in
theorem c_X8_drop0E (l : Launch) (G : kG) (h : Nat) (cl : Nat) (se : Nat) (rs : Nat) (ar : Nat) (co : Nat) (cz : Nat) (tx : Nat) (nw : Nat → Int32) (rh : Nat) (w : Nat) (rp : Nat → Int32) (he : rp 1 = 0) : kM G l yX8_drop wsX8_drop ({ frames := 1, cells := 0, slots := 0, locals := 21 }) [.ref h, .int 0] ([oTo h cl se rh rs ar co cz tx nw, oRo rh w rp]) (kQi G (fun (rr : Int32) (uu : Unit) => rr = (-4 : Int32)) (fun (uu : Unit) => [oTo h cl se rh rs ar co cz tx nw, oRo rh w rp])) := by
  refine kStart (cc := cX8_drop) (maxL := 3) (ret := (some .int)) (by decide) rfl (Nat.le_of_ble_eq_true rfl) (fun pg ev st mi bl mt cd A ls0 F hr hlocks hin hK hP0 hD0 hA hS0 hl0 => ?_)
  obtain ⟨hx, hb, hml, hown, hts⟩ := id F
  have hl0 : lv_has ls0 3 [(0, .ref h), (1, .int 0)] := hl0
  have iX4 : ∀ w ∈ u_ws RX4 TX4 3, w ∈ wsX8_drop := fun w h => List.mem_cons_of_mem _ (List.mem_append_left _ (List.mem_append_left _ (List.mem_append_right _ h)))
  refine lv_iload_n hx hb dX8_drop_0 rfl (lv_at hl0 1 rfl) ?_
  refine kPSi F hK hP0 hD0 hS0 hA hl0.1 (c_X8_isSide l G 0) (fun _ => rfl) gX8_drop_X8_isSide rfl 1 rfl (by decide +kernel) ⟨Nat.le_of_ble_eq_true rfl, Nat.le_of_ble_eq_true rfl⟩ ⟨Nat.zero_le _, Nat.zero_le _⟩ (Nat.le_of_ble_eq_true rfl) rfl dX8_drop_1 (fun r1 u1 H2 locs2 hw1 (hP2 : va_P G.1 vwCl ([oTo h cl se rh rs ar co cz tx nw, oRo rh w rp]) H2) (hD2 : va_D A ([oTo h cl se rh rs ar co cz tx nw, oRo rh w rp])) hS2 => ?_)
  clear hP0 hD0 hS0
  have w1_0 : r1 = kside 0 := hw1
  have g1 : r1 = 1 := w1_0.trans (by decide)
  clear w1_0
  subst g1
  refine lv_if_ne (tgt := 10) hx hb dX8_drop_4 (by decide) (fun c3 => ?_) (fun c3 => ?_)
  · refine lv_aload_n hx hb dX8_drop_10 rfl (lv_at hl0 0 rfl) ?_
    refine lv_iload_n hx hb dX8_drop_11 rfl (lv_at hl0 1 rfl) ?_
    refine kVr (wr := [oRo rh w rp]) F hK hP2 hD2 hS2 hA hl0.1 (c_X8_roadTo0 l G h cl se rh rs ar co cz tx nw) [0] [1] 8 0 gX8_drop_X8_roadTo rfl 1 rfl (by decide +kernel) ⟨Nat.le_of_ble_eq_true rfl, Nat.le_of_ble_eq_true rfl⟩ ⟨Nat.zero_le _, Nat.zero_le _⟩ rfl rfl rfl rfl (by decide) (by decide) (by decide) (Nat.le_of_ble_eq_true rfl) rfl dX8_drop_12 (fun u4 H5 locs5 hw4 (hP5 : va_P G.1 vwCl ([oRo rh w rp, oTo h cl se rh rs ar co cz tx nw]) H5) (hD5 : va_D A ([oRo rh w rp, oTo h cl se rh rs ar co cz tx nw])) hS5 => ?_)
    clear hP2 hD2 hS2
    refine lv_astore_n (lv' := [(2, .ref rh), (0, .ref h), (1, .int 0)]) hx hb dX8_drop_15 rfl hl0 (by decide) rfl (fun ls6 hl6 => ?_)
    clear hl0
    refine lv_aload_n hx hb dX8_drop_16 rfl (lv_at hl6 0 rfl) ?_
    refine kget F hK hP5 4 0 1 iX4 rfl rfl (by decide) (List.mem_of_getElem? (i := 1) rfl) rfl dX8_drop_17 ?_
    refine lv_if_ne (tgt := 26) hx hb dX8_drop_20 (by decide) (fun c7 => ?_) (fun c7 => ?_)
    · exact absurd he c7
    · refine lv_bipush (v := (-4)) hx hb dX8_drop_23 (by decide) ?_
      have q8 : (-4) = (-4 : Int32) := by
        first | rfl | (simp only [c3, c7, ↓reduceIte]; done) | (simp [c3, c7]; done)
      exact kRi F hr hlocks hS5 dX8_drop_25 () q8 (hP5.sub [1, 0] rfl) (hD5.sub [1, 0] (by decide) rfl)
  · exact absurd c3 (by decide)
set_option maxHeartbeats 1000000 in
set_option maxRecDepth 100000 in
theorem c_X8_drop0N (l : Launch) (G : kG) (h : Nat) (cl : Nat) (se : Nat) (rs : Nat) (ar : Nat) (co : Nat) (cz : Nat) (tx : Nat) (nw : Nat → Int32) (rh : Nat) (w : Nat) (q : Nat → Nat) (d : Nat → Nat) (rp : Nat → Int32) (M : Nat → Nat → Int32) (L : Nat) (az : Nat) (z : Nat → Int32) (hL : rp 1 = nI L) (hL1 : 1 ≤ L) (hL8 : L ≤ 8) : kM G l yX8_drop wsX8_drop ({ frames := 2, cells := 0, slots := 0, locals := 45 }) [.ref h, .int 0] ([oTo h cl se rh rs ar co cz tx nw, oRo rh w rp, aM G w 8 (krow q), oMs (q 0) (d 0), aI G (d 0) 9 (M 0), oMs (q 1) (d 1), aI G (d 1) 9 (M 1), oMs (q 2) (d 2), aI G (d 2) 9 (M 2), oMs (q 3) (d 3), aI G (d 3) 9 (M 3), oMs (q 4) (d 4), aI G (d 4) 9 (M 4), oMs (q 5) (d 5), aI G (d 5) 9 (M 5), oMs (q 6) (d 6), aI G (d 6) 9 (M 6), oMs (q 7) (d 7), aI G (d 7) 9 (M 7), oMs ar az, aI G az 9 z]) (kQi G (fun (rr : Int32) (uu : (Nat → Int32) × (Nat → Int32)) => (rr = rp 1 - 1) ∧ (uu.1 = upd rp 1 (rp 1 - 1)) ∧ (uu.2 = kcpy z (M 0) 9)) (fun (uu : (Nat → Int32) × (Nat → Int32)) => [oTo h cl se rh rs ar co cz tx nw, oRo rh w uu.1, aM G w 8 (krow (krot q)), oMs (q 1) (d 1), aI G (d 1) 9 (M 1), oMs (q 2) (d 2), aI G (d 2) 9 (M 2), oMs (q 3) (d 3), aI G (d 3) 9 (M 3), oMs (q 4) (d 4), aI G (d 4) 9 (M 4), oMs (q 5) (d 5), aI G (d 5) 9 (M 5), oMs (q 6) (d 6), aI G (d 6) 9 (M 6), oMs (q 7) (d 7), aI G (d 7) 9 (M 7), oMs (q 0) (d 0), aI G (d 0) 9 (M 0), oMs ar az, aI G az 9 uu.2])) := by
  refine kStart (cc := cX8_drop) (maxL := 3) (ret := (some .int)) (by decide) rfl (Nat.le_of_ble_eq_true rfl) (fun pg ev st mi bl mt cd A ls0 F hr hlocks hin hK hP0 hD0 hA hS0 hl0 => ?_)
  obtain ⟨hx, hb, hml, hown, hts⟩ := id F
  have hl0 : lv_has ls0 3 [(0, .ref h), (1, .int 0)] := hl0
  have iX4 : ∀ w ∈ u_ws RX4 TX4 3, w ∈ wsX8_drop := fun w h => List.mem_cons_of_mem _ (List.mem_append_left _ (List.mem_append_left _ (List.mem_append_right _ h)))
  have iX8 : ∀ w ∈ u_ws RX8 TX8 9, w ∈ wsX8_drop := fun w h => List.mem_cons_of_mem _ (List.mem_append_left _ (List.mem_append_right _ h))
  refine lv_iload_n hx hb dX8_drop_0 rfl (lv_at hl0 1 rfl) ?_
  refine kPSi F hK hP0 hD0 hS0 hA hl0.1 (c_X8_isSide l G 0) (fun _ => rfl) gX8_drop_X8_isSide rfl 1 rfl (by decide +kernel) ⟨Nat.le_of_ble_eq_true rfl, Nat.le_of_ble_eq_true rfl⟩ ⟨Nat.zero_le _, Nat.zero_le _⟩ (Nat.le_of_ble_eq_true rfl) rfl dX8_drop_1 (fun r1 u1 H2 locs2 hw1 (hP2 : va_P G.1 vwCl ([oTo h cl se rh rs ar co cz tx nw, oRo rh w rp, aM G w 8 (krow q), oMs (q 0) (d 0), aI G (d 0) 9 (M 0), oMs (q 1) (d 1), aI G (d 1) 9 (M 1), oMs (q 2) (d 2), aI G (d 2) 9 (M 2), oMs (q 3) (d 3), aI G (d 3) 9 (M 3), oMs (q 4) (d 4), aI G (d 4) 9 (M 4), oMs (q 5) (d 5), aI G (d 5) 9 (M 5), oMs (q 6) (d 6), aI G (d 6) 9 (M 6), oMs (q 7) (d 7), aI G (d 7) 9 (M 7), oMs ar az, aI G az 9 z]) H2) (hD2 : va_D A ([oTo h cl se rh rs ar co cz tx nw, oRo rh w rp, aM G w 8 (krow q), oMs (q 0) (d 0), aI G (d 0) 9 (M 0), oMs (q 1) (d 1), aI G (d 1) 9 (M 1), oMs (q 2) (d 2), aI G (d 2) 9 (M 2), oMs (q 3) (d 3), aI G (d 3) 9 (M 3), oMs (q 4) (d 4), aI G (d 4) 9 (M 4), oMs (q 5) (d 5), aI G (d 5) 9 (M 5), oMs (q 6) (d 6), aI G (d 6) 9 (M 6), oMs (q 7) (d 7), aI G (d 7) 9 (M 7), oMs ar az, aI G az 9 z])) hS2 => ?_)
  clear hP0 hD0 hS0
  have w1_0 : r1 = kside 0 := hw1
  have g1 : r1 = 1 := w1_0.trans (by decide)
  clear w1_0
  subst g1
  refine lv_if_ne (tgt := 10) hx hb dX8_drop_4 (by decide) (fun c3 => ?_) (fun c3 => ?_)
  · refine lv_aload_n hx hb dX8_drop_10 rfl (lv_at hl0 0 rfl) ?_
    refine lv_iload_n hx hb dX8_drop_11 rfl (lv_at hl0 1 rfl) ?_
    refine kVr (wr := [oRo rh w rp, aM G w 8 (krow q), oMs (q 0) (d 0), aI G (d 0) 9 (M 0), oMs (q 1) (d 1), aI G (d 1) 9 (M 1), oMs (q 2) (d 2), aI G (d 2) 9 (M 2), oMs (q 3) (d 3), aI G (d 3) 9 (M 3), oMs (q 4) (d 4), aI G (d 4) 9 (M 4), oMs (q 5) (d 5), aI G (d 5) 9 (M 5), oMs (q 6) (d 6), aI G (d 6) 9 (M 6), oMs (q 7) (d 7), aI G (d 7) 9 (M 7), oMs ar az, aI G az 9 z]) F hK hP2 hD2 hS2 hA hl0.1 (c_X8_roadTo0 l G h cl se rh rs ar co cz tx nw) [0] [1, 2, 3, 4, 5, 6, 7, 8, 9, 10, 11, 12, 13, 14, 15, 16, 17, 18, 19, 20] 8 0 gX8_drop_X8_roadTo rfl 1 rfl (by decide +kernel) ⟨Nat.le_of_ble_eq_true rfl, Nat.le_of_ble_eq_true rfl⟩ ⟨Nat.zero_le _, Nat.zero_le _⟩ rfl rfl rfl rfl (by decide) (by decide) (by decide) (Nat.le_of_ble_eq_true rfl) rfl dX8_drop_12 (fun u4 H5 locs5 hw4 (hP5 : va_P G.1 vwCl ([oRo rh w rp, aM G w 8 (krow q), oMs (q 0) (d 0), aI G (d 0) 9 (M 0), oMs (q 1) (d 1), aI G (d 1) 9 (M 1), oMs (q 2) (d 2), aI G (d 2) 9 (M 2), oMs (q 3) (d 3), aI G (d 3) 9 (M 3), oMs (q 4) (d 4), aI G (d 4) 9 (M 4), oMs (q 5) (d 5), aI G (d 5) 9 (M 5), oMs (q 6) (d 6), aI G (d 6) 9 (M 6), oMs (q 7) (d 7), aI G (d 7) 9 (M 7), oMs ar az, aI G az 9 z, oTo h cl se rh rs ar co cz tx nw]) H5) (hD5 : va_D A ([oRo rh w rp, aM G w 8 (krow q), oMs (q 0) (d 0), aI G (d 0) 9 (M 0), oMs (q 1) (d 1), aI G (d 1) 9 (M 1), oMs (q 2) (d 2), aI G (d 2) 9 (M 2), oMs (q 3) (d 3), aI G (d 3) 9 (M 3), oMs (q 4) (d 4), aI G (d 4) 9 (M 4), oMs (q 5) (d 5), aI G (d 5) 9 (M 5), oMs (q 6) (d 6), aI G (d 6) 9 (M 6), oMs (q 7) (d 7), aI G (d 7) 9 (M 7), oMs ar az, aI G az 9 z, oTo h cl se rh rs ar co cz tx nw])) hS5 => ?_)
    clear hP2 hD2 hS2
    refine lv_astore_n (lv' := [(2, .ref rh), (0, .ref h), (1, .int 0)]) hx hb dX8_drop_15 rfl hl0 (by decide) rfl (fun ls6 hl6 => ?_)
    clear hl0
    refine lv_aload_n hx hb dX8_drop_16 rfl (lv_at hl6 0 rfl) ?_
    refine kget F hK hP5 4 0 1 iX4 rfl rfl (by decide) (List.mem_of_getElem? (i := 1) rfl) rfl dX8_drop_17 ?_
    refine lv_if_ne (tgt := 26) hx hb dX8_drop_20 (by decide) (fun c7 => ?_) (fun c7 => ?_)
    · refine lv_aload_n hx hb dX8_drop_26 rfl (lv_at hl6 0 rfl) ?_
      refine lv_aload_n hx hb dX8_drop_27 rfl (lv_at hl6 1 rfl) ?_
      refine kget F hK hP5 8 20 4 iX8 rfl rfl (by decide) (List.mem_of_getElem? (i := 2) rfl) rfl dX8_drop_28 ?_
      refine kVv (wr := [oTo h cl se rh rs ar co cz tx nw]) F hK hP5 hD5 hS5 hA hl6.1 (c_X4_takeFirst l G rh w q d rp M ar az z L hL hL1 hL8) [0, 1, 2, 3, 4, 5, 6, 7, 8, 9, 10, 11, 12, 13, 14, 15, 16, 17, 18, 19] [20] 4 0 gX8_drop_X4_takeFirst rfl 1 rfl (by decide +kernel) ⟨Nat.le_of_ble_eq_true rfl, Nat.le_of_ble_eq_true rfl⟩ ⟨Nat.zero_le _, Nat.zero_le _⟩ rfl rfl rfl rfl (by decide) (by decide) (by decide) (Nat.le_of_ble_eq_true rfl) rfl dX8_drop_31 (fun u8 H9 locs9 hw8 hP9 hD9 hS9 => ?_)
      obtain ⟨p_8, g_8⟩ := u8
      have hP9 : va_P G.1 vwCl ([oTo h cl se rh rs ar co cz tx nw, oRo rh w p_8, aM G w 8 (krow (krot q)), oMs (q 1) (d 1), aI G (d 1) 9 (M 1), oMs (q 2) (d 2), aI G (d 2) 9 (M 2), oMs (q 3) (d 3), aI G (d 3) 9 (M 3), oMs (q 4) (d 4), aI G (d 4) 9 (M 4), oMs (q 5) (d 5), aI G (d 5) 9 (M 5), oMs (q 6) (d 6), aI G (d 6) 9 (M 6), oMs (q 7) (d 7), aI G (d 7) 9 (M 7), oMs (q 0) (d 0), aI G (d 0) 9 (M 0), oMs ar az, aI G az 9 g_8]) H9 := hP9
      have hD9 : va_D A ([oTo h cl se rh rs ar co cz tx nw, oRo rh w p_8, aM G w 8 (krow (krot q)), oMs (q 1) (d 1), aI G (d 1) 9 (M 1), oMs (q 2) (d 2), aI G (d 2) 9 (M 2), oMs (q 3) (d 3), aI G (d 3) 9 (M 3), oMs (q 4) (d 4), aI G (d 4) 9 (M 4), oMs (q 5) (d 5), aI G (d 5) 9 (M 5), oMs (q 6) (d 6), aI G (d 6) 9 (M 6), oMs (q 7) (d 7), aI G (d 7) 9 (M 7), oMs (q 0) (d 0), aI G (d 0) 9 (M 0), oMs ar az, aI G az 9 g_8]) := hD9
      clear hP5 hD5 hS5
      have w8_0 : p_8 = upd rp 1 (rp 1 - 1) := hw8.1
      have w8_1 : g_8 = kcpy z (M 0) 9 := hw8.2
      refine lv_aload_n hx hb dX8_drop_34 rfl (lv_at hl6 0 rfl) ?_
      refine kget F hK hP9 4 1 1 iX4 rfl rfl (by decide) (List.mem_of_getElem? (i := 1) rfl) rfl dX8_drop_35 ?_
      have q10 : ((p_8 1) = rp 1 - 1) ∧ (p_8 = upd rp 1 (rp 1 - 1)) ∧ (g_8 = kcpy z (M 0) 9) := by
        subst w8_1
        subst w8_0
        first | (simp only [c3, c7, eq_self, ↓reduceIte, and_self, and_true, true_and]; done) | (simp only [c3, c7, eq_self, ↓reduceIte, and_self, and_true, true_and]; (try and_intros) <;> rfl) | exact ⟨rfl, rfl, rfl⟩
      exact kRi F hr hlocks hS9 dX8_drop_38 ⟨p_8, g_8⟩ q10 hP9 hD9
    · exact absurd c7 (by rw [hL]; exact nI_ne0 (by omega) (by omega))
  · exact absurd c3 (by decide)
set_option maxHeartbeats 1000000 in
set_option maxRecDepth 100000 in
theorem c_X8_step1E (l : Launch) (G : kG) (h : Nat) (cl : Nat) (se : Nat) (rc : Nat) (ar : Nat) (co : Nat) (cz : Nat) (tx : Nat) (nw : Nat → Int32) (rh : Nat) (w : Nat) (rp : Nat → Int32) (he : rp 1 = 0) : kM G l yX8_step wsX8_step ({ frames := 1, cells := 0, slots := 0, locals := 21 }) [.ref h, .int 1] ([oTo h cl se rc rh ar co cz tx nw, oRo rh w rp]) (kQi G (fun (rr : Int32) (uu : Unit) => rr = (-4 : Int32)) (fun (uu : Unit) => [oTo h cl se rc rh ar co cz tx nw, oRo rh w rp])) := by
  refine kStart (cc := cX8_step) (maxL := 3) (ret := (some .int)) (by decide) rfl (Nat.le_of_ble_eq_true rfl) (fun pg ev st mi bl mt cd A ls0 F hr hlocks hin hK hP0 hD0 hA hS0 hl0 => ?_)
  obtain ⟨hx, hb, hml, hown, hts⟩ := id F
  have hl0 : lv_has ls0 3 [(0, .ref h), (1, .int 1)] := hl0
  have iX4 : ∀ w ∈ u_ws RX4 TX4 3, w ∈ wsX8_step := fun w h => List.mem_cons_of_mem _ (List.mem_append_left _ (List.mem_append_left _ (List.mem_append_left _ (List.mem_append_left _ (List.mem_append_left _ (List.mem_append_left _ (List.mem_append_left _ (List.mem_append_right _ h))))))))
  refine lv_iload_n hx hb dX8_step_0 rfl (lv_at hl0 1 rfl) ?_
  refine kPSi F hK hP0 hD0 hS0 hA hl0.1 (c_X8_isSide l G 1) (fun _ => rfl) gX8_step_X8_isSide rfl 1 rfl (by decide +kernel) ⟨Nat.le_of_ble_eq_true rfl, Nat.le_of_ble_eq_true rfl⟩ ⟨Nat.zero_le _, Nat.zero_le _⟩ (Nat.le_of_ble_eq_true rfl) rfl dX8_step_1 (fun r1 u1 H2 locs2 hw1 (hP2 : va_P G.1 vwCl ([oTo h cl se rc rh ar co cz tx nw, oRo rh w rp]) H2) (hD2 : va_D A ([oTo h cl se rc rh ar co cz tx nw, oRo rh w rp])) hS2 => ?_)
  clear hP0 hD0 hS0
  have w1_0 : r1 = kside 1 := hw1
  have g1 : r1 = 1 := w1_0.trans (by decide)
  clear w1_0
  subst g1
  refine lv_if_ne (tgt := 10) hx hb dX8_step_4 (by decide) (fun c3 => ?_) (fun c3 => ?_)
  · refine lv_aload_n hx hb dX8_step_10 rfl (lv_at hl0 0 rfl) ?_
    refine lv_iload_n hx hb dX8_step_11 rfl (lv_at hl0 1 rfl) ?_
    refine kVr (wr := [oRo rh w rp]) F hK hP2 hD2 hS2 hA hl0.1 (c_X8_roadTo1 l G h cl se rc rh ar co cz tx nw) [0] [1] 8 0 gX8_step_X8_roadTo rfl 1 rfl (by decide +kernel) ⟨Nat.le_of_ble_eq_true rfl, Nat.le_of_ble_eq_true rfl⟩ ⟨Nat.zero_le _, Nat.zero_le _⟩ rfl rfl rfl rfl (by decide) (by decide) (by decide) (Nat.le_of_ble_eq_true rfl) rfl dX8_step_12 (fun u4 H5 locs5 hw4 (hP5 : va_P G.1 vwCl ([oRo rh w rp, oTo h cl se rc rh ar co cz tx nw]) H5) (hD5 : va_D A ([oRo rh w rp, oTo h cl se rc rh ar co cz tx nw])) hS5 => ?_)
    clear hP2 hD2 hS2
    refine lv_astore_n (lv' := [(2, .ref rh), (0, .ref h), (1, .int 1)]) hx hb dX8_step_15 rfl hl0 (by decide) rfl (fun ls6 hl6 => ?_)
    clear hl0
    refine lv_aload_n hx hb dX8_step_16 rfl (lv_at hl6 0 rfl) ?_
    refine kget F hK hP5 4 0 1 iX4 rfl rfl (by decide) (List.mem_of_getElem? (i := 1) rfl) rfl dX8_step_17 ?_
    refine lv_if_ne (tgt := 26) hx hb dX8_step_20 (by decide) (fun c7 => ?_) (fun c7 => ?_)
    · exact absurd he c7
    · refine lv_bipush (v := (-4)) hx hb dX8_step_23 (by decide) ?_
      have q8 : (-4) = (-4 : Int32) := by
        first | rfl | (simp only [c3, c7, ↓reduceIte]; done) | (simp [c3, c7]; done)
      exact kRi F hr hlocks hS5 dX8_step_25 () q8 (hP5.sub [1, 0] rfl) (hD5.sub [1, 0] (by decide) rfl)
  · exact absurd c3 (by decide)
set_option maxHeartbeats 1000000 in
set_option maxRecDepth 100000 in
theorem c_X8_drop1E (l : Launch) (G : kG) (h : Nat) (cl : Nat) (se : Nat) (rc : Nat) (ar : Nat) (co : Nat) (cz : Nat) (tx : Nat) (nw : Nat → Int32) (rh : Nat) (w : Nat) (rp : Nat → Int32) (he : rp 1 = 0) : kM G l yX8_drop wsX8_drop ({ frames := 1, cells := 0, slots := 0, locals := 21 }) [.ref h, .int 1] ([oTo h cl se rc rh ar co cz tx nw, oRo rh w rp]) (kQi G (fun (rr : Int32) (uu : Unit) => rr = (-4 : Int32)) (fun (uu : Unit) => [oTo h cl se rc rh ar co cz tx nw, oRo rh w rp])) := by
  refine kStart (cc := cX8_drop) (maxL := 3) (ret := (some .int)) (by decide) rfl (Nat.le_of_ble_eq_true rfl) (fun pg ev st mi bl mt cd A ls0 F hr hlocks hin hK hP0 hD0 hA hS0 hl0 => ?_)
  obtain ⟨hx, hb, hml, hown, hts⟩ := id F
  have hl0 : lv_has ls0 3 [(0, .ref h), (1, .int 1)] := hl0
  have iX4 : ∀ w ∈ u_ws RX4 TX4 3, w ∈ wsX8_drop := fun w h => List.mem_cons_of_mem _ (List.mem_append_left _ (List.mem_append_left _ (List.mem_append_right _ h)))
  refine lv_iload_n hx hb dX8_drop_0 rfl (lv_at hl0 1 rfl) ?_
  refine kPSi F hK hP0 hD0 hS0 hA hl0.1 (c_X8_isSide l G 1) (fun _ => rfl) gX8_drop_X8_isSide rfl 1 rfl (by decide +kernel) ⟨Nat.le_of_ble_eq_true rfl, Nat.le_of_ble_eq_true rfl⟩ ⟨Nat.zero_le _, Nat.zero_le _⟩ (Nat.le_of_ble_eq_true rfl) rfl dX8_drop_1 (fun r1 u1 H2 locs2 hw1 (hP2 : va_P G.1 vwCl ([oTo h cl se rc rh ar co cz tx nw, oRo rh w rp]) H2) (hD2 : va_D A ([oTo h cl se rc rh ar co cz tx nw, oRo rh w rp])) hS2 => ?_)
  clear hP0 hD0 hS0
  have w1_0 : r1 = kside 1 := hw1
  have g1 : r1 = 1 := w1_0.trans (by decide)
  clear w1_0
  subst g1
  refine lv_if_ne (tgt := 10) hx hb dX8_drop_4 (by decide) (fun c3 => ?_) (fun c3 => ?_)
  · refine lv_aload_n hx hb dX8_drop_10 rfl (lv_at hl0 0 rfl) ?_
    refine lv_iload_n hx hb dX8_drop_11 rfl (lv_at hl0 1 rfl) ?_
    refine kVr (wr := [oRo rh w rp]) F hK hP2 hD2 hS2 hA hl0.1 (c_X8_roadTo1 l G h cl se rc rh ar co cz tx nw) [0] [1] 8 0 gX8_drop_X8_roadTo rfl 1 rfl (by decide +kernel) ⟨Nat.le_of_ble_eq_true rfl, Nat.le_of_ble_eq_true rfl⟩ ⟨Nat.zero_le _, Nat.zero_le _⟩ rfl rfl rfl rfl (by decide) (by decide) (by decide) (Nat.le_of_ble_eq_true rfl) rfl dX8_drop_12 (fun u4 H5 locs5 hw4 (hP5 : va_P G.1 vwCl ([oRo rh w rp, oTo h cl se rc rh ar co cz tx nw]) H5) (hD5 : va_D A ([oRo rh w rp, oTo h cl se rc rh ar co cz tx nw])) hS5 => ?_)
    clear hP2 hD2 hS2
    refine lv_astore_n (lv' := [(2, .ref rh), (0, .ref h), (1, .int 1)]) hx hb dX8_drop_15 rfl hl0 (by decide) rfl (fun ls6 hl6 => ?_)
    clear hl0
    refine lv_aload_n hx hb dX8_drop_16 rfl (lv_at hl6 0 rfl) ?_
    refine kget F hK hP5 4 0 1 iX4 rfl rfl (by decide) (List.mem_of_getElem? (i := 1) rfl) rfl dX8_drop_17 ?_
    refine lv_if_ne (tgt := 26) hx hb dX8_drop_20 (by decide) (fun c7 => ?_) (fun c7 => ?_)
    · exact absurd he c7
    · refine lv_bipush (v := (-4)) hx hb dX8_drop_23 (by decide) ?_
      have q8 : (-4) = (-4 : Int32) := by
        first | rfl | (simp only [c3, c7, ↓reduceIte]; done) | (simp [c3, c7]; done)
      exact kRi F hr hlocks hS5 dX8_drop_25 () q8 (hP5.sub [1, 0] rfl) (hD5.sub [1, 0] (by decide) rfl)
  · exact absurd c3 (by decide)
set_option maxHeartbeats 1000000 in
set_option maxRecDepth 100000 in
theorem c_X8_drop1N (l : Launch) (G : kG) (h : Nat) (cl : Nat) (se : Nat) (rc : Nat) (ar : Nat) (co : Nat) (cz : Nat) (tx : Nat) (nw : Nat → Int32) (rh : Nat) (w : Nat) (q : Nat → Nat) (d : Nat → Nat) (rp : Nat → Int32) (M : Nat → Nat → Int32) (L : Nat) (az : Nat) (z : Nat → Int32) (hL : rp 1 = nI L) (hL1 : 1 ≤ L) (hL8 : L ≤ 8) : kM G l yX8_drop wsX8_drop ({ frames := 2, cells := 0, slots := 0, locals := 45 }) [.ref h, .int 1] ([oTo h cl se rc rh ar co cz tx nw, oRo rh w rp, aM G w 8 (krow q), oMs (q 0) (d 0), aI G (d 0) 9 (M 0), oMs (q 1) (d 1), aI G (d 1) 9 (M 1), oMs (q 2) (d 2), aI G (d 2) 9 (M 2), oMs (q 3) (d 3), aI G (d 3) 9 (M 3), oMs (q 4) (d 4), aI G (d 4) 9 (M 4), oMs (q 5) (d 5), aI G (d 5) 9 (M 5), oMs (q 6) (d 6), aI G (d 6) 9 (M 6), oMs (q 7) (d 7), aI G (d 7) 9 (M 7), oMs ar az, aI G az 9 z]) (kQi G (fun (rr : Int32) (uu : (Nat → Int32) × (Nat → Int32)) => (rr = rp 1 - 1) ∧ (uu.1 = upd rp 1 (rp 1 - 1)) ∧ (uu.2 = kcpy z (M 0) 9)) (fun (uu : (Nat → Int32) × (Nat → Int32)) => [oTo h cl se rc rh ar co cz tx nw, oRo rh w uu.1, aM G w 8 (krow (krot q)), oMs (q 1) (d 1), aI G (d 1) 9 (M 1), oMs (q 2) (d 2), aI G (d 2) 9 (M 2), oMs (q 3) (d 3), aI G (d 3) 9 (M 3), oMs (q 4) (d 4), aI G (d 4) 9 (M 4), oMs (q 5) (d 5), aI G (d 5) 9 (M 5), oMs (q 6) (d 6), aI G (d 6) 9 (M 6), oMs (q 7) (d 7), aI G (d 7) 9 (M 7), oMs (q 0) (d 0), aI G (d 0) 9 (M 0), oMs ar az, aI G az 9 uu.2])) := by
  refine kStart (cc := cX8_drop) (maxL := 3) (ret := (some .int)) (by decide) rfl (Nat.le_of_ble_eq_true rfl) (fun pg ev st mi bl mt cd A ls0 F hr hlocks hin hK hP0 hD0 hA hS0 hl0 => ?_)
  obtain ⟨hx, hb, hml, hown, hts⟩ := id F
  have hl0 : lv_has ls0 3 [(0, .ref h), (1, .int 1)] := hl0
  have iX4 : ∀ w ∈ u_ws RX4 TX4 3, w ∈ wsX8_drop := fun w h => List.mem_cons_of_mem _ (List.mem_append_left _ (List.mem_append_left _ (List.mem_append_right _ h)))
  have iX8 : ∀ w ∈ u_ws RX8 TX8 9, w ∈ wsX8_drop := fun w h => List.mem_cons_of_mem _ (List.mem_append_left _ (List.mem_append_right _ h))
  refine lv_iload_n hx hb dX8_drop_0 rfl (lv_at hl0 1 rfl) ?_
  refine kPSi F hK hP0 hD0 hS0 hA hl0.1 (c_X8_isSide l G 1) (fun _ => rfl) gX8_drop_X8_isSide rfl 1 rfl (by decide +kernel) ⟨Nat.le_of_ble_eq_true rfl, Nat.le_of_ble_eq_true rfl⟩ ⟨Nat.zero_le _, Nat.zero_le _⟩ (Nat.le_of_ble_eq_true rfl) rfl dX8_drop_1 (fun r1 u1 H2 locs2 hw1 (hP2 : va_P G.1 vwCl ([oTo h cl se rc rh ar co cz tx nw, oRo rh w rp, aM G w 8 (krow q), oMs (q 0) (d 0), aI G (d 0) 9 (M 0), oMs (q 1) (d 1), aI G (d 1) 9 (M 1), oMs (q 2) (d 2), aI G (d 2) 9 (M 2), oMs (q 3) (d 3), aI G (d 3) 9 (M 3), oMs (q 4) (d 4), aI G (d 4) 9 (M 4), oMs (q 5) (d 5), aI G (d 5) 9 (M 5), oMs (q 6) (d 6), aI G (d 6) 9 (M 6), oMs (q 7) (d 7), aI G (d 7) 9 (M 7), oMs ar az, aI G az 9 z]) H2) (hD2 : va_D A ([oTo h cl se rc rh ar co cz tx nw, oRo rh w rp, aM G w 8 (krow q), oMs (q 0) (d 0), aI G (d 0) 9 (M 0), oMs (q 1) (d 1), aI G (d 1) 9 (M 1), oMs (q 2) (d 2), aI G (d 2) 9 (M 2), oMs (q 3) (d 3), aI G (d 3) 9 (M 3), oMs (q 4) (d 4), aI G (d 4) 9 (M 4), oMs (q 5) (d 5), aI G (d 5) 9 (M 5), oMs (q 6) (d 6), aI G (d 6) 9 (M 6), oMs (q 7) (d 7), aI G (d 7) 9 (M 7), oMs ar az, aI G az 9 z])) hS2 => ?_)
  clear hP0 hD0 hS0
  have w1_0 : r1 = kside 1 := hw1
  have g1 : r1 = 1 := w1_0.trans (by decide)
  clear w1_0
  subst g1
  refine lv_if_ne (tgt := 10) hx hb dX8_drop_4 (by decide) (fun c3 => ?_) (fun c3 => ?_)
  · refine lv_aload_n hx hb dX8_drop_10 rfl (lv_at hl0 0 rfl) ?_
    refine lv_iload_n hx hb dX8_drop_11 rfl (lv_at hl0 1 rfl) ?_
    refine kVr (wr := [oRo rh w rp, aM G w 8 (krow q), oMs (q 0) (d 0), aI G (d 0) 9 (M 0), oMs (q 1) (d 1), aI G (d 1) 9 (M 1), oMs (q 2) (d 2), aI G (d 2) 9 (M 2), oMs (q 3) (d 3), aI G (d 3) 9 (M 3), oMs (q 4) (d 4), aI G (d 4) 9 (M 4), oMs (q 5) (d 5), aI G (d 5) 9 (M 5), oMs (q 6) (d 6), aI G (d 6) 9 (M 6), oMs (q 7) (d 7), aI G (d 7) 9 (M 7), oMs ar az, aI G az 9 z]) F hK hP2 hD2 hS2 hA hl0.1 (c_X8_roadTo1 l G h cl se rc rh ar co cz tx nw) [0] [1, 2, 3, 4, 5, 6, 7, 8, 9, 10, 11, 12, 13, 14, 15, 16, 17, 18, 19, 20] 8 0 gX8_drop_X8_roadTo rfl 1 rfl (by decide +kernel) ⟨Nat.le_of_ble_eq_true rfl, Nat.le_of_ble_eq_true rfl⟩ ⟨Nat.zero_le _, Nat.zero_le _⟩ rfl rfl rfl rfl (by decide) (by decide) (by decide) (Nat.le_of_ble_eq_true rfl) rfl dX8_drop_12 (fun u4 H5 locs5 hw4 (hP5 : va_P G.1 vwCl ([oRo rh w rp, aM G w 8 (krow q), oMs (q 0) (d 0), aI G (d 0) 9 (M 0), oMs (q 1) (d 1), aI G (d 1) 9 (M 1), oMs (q 2) (d 2), aI G (d 2) 9 (M 2), oMs (q 3) (d 3), aI G (d 3) 9 (M 3), oMs (q 4) (d 4), aI G (d 4) 9 (M 4), oMs (q 5) (d 5), aI G (d 5) 9 (M 5), oMs (q 6) (d 6), aI G (d 6) 9 (M 6), oMs (q 7) (d 7), aI G (d 7) 9 (M 7), oMs ar az, aI G az 9 z, oTo h cl se rc rh ar co cz tx nw]) H5) (hD5 : va_D A ([oRo rh w rp, aM G w 8 (krow q), oMs (q 0) (d 0), aI G (d 0) 9 (M 0), oMs (q 1) (d 1), aI G (d 1) 9 (M 1), oMs (q 2) (d 2), aI G (d 2) 9 (M 2), oMs (q 3) (d 3), aI G (d 3) 9 (M 3), oMs (q 4) (d 4), aI G (d 4) 9 (M 4), oMs (q 5) (d 5), aI G (d 5) 9 (M 5), oMs (q 6) (d 6), aI G (d 6) 9 (M 6), oMs (q 7) (d 7), aI G (d 7) 9 (M 7), oMs ar az, aI G az 9 z, oTo h cl se rc rh ar co cz tx nw])) hS5 => ?_)
    clear hP2 hD2 hS2
    refine lv_astore_n (lv' := [(2, .ref rh), (0, .ref h), (1, .int 1)]) hx hb dX8_drop_15 rfl hl0 (by decide) rfl (fun ls6 hl6 => ?_)
    clear hl0
    refine lv_aload_n hx hb dX8_drop_16 rfl (lv_at hl6 0 rfl) ?_
    refine kget F hK hP5 4 0 1 iX4 rfl rfl (by decide) (List.mem_of_getElem? (i := 1) rfl) rfl dX8_drop_17 ?_
    refine lv_if_ne (tgt := 26) hx hb dX8_drop_20 (by decide) (fun c7 => ?_) (fun c7 => ?_)
    · refine lv_aload_n hx hb dX8_drop_26 rfl (lv_at hl6 0 rfl) ?_
      refine lv_aload_n hx hb dX8_drop_27 rfl (lv_at hl6 1 rfl) ?_
      refine kget F hK hP5 8 20 4 iX8 rfl rfl (by decide) (List.mem_of_getElem? (i := 2) rfl) rfl dX8_drop_28 ?_
      refine kVv (wr := [oTo h cl se rc rh ar co cz tx nw]) F hK hP5 hD5 hS5 hA hl6.1 (c_X4_takeFirst l G rh w q d rp M ar az z L hL hL1 hL8) [0, 1, 2, 3, 4, 5, 6, 7, 8, 9, 10, 11, 12, 13, 14, 15, 16, 17, 18, 19] [20] 4 0 gX8_drop_X4_takeFirst rfl 1 rfl (by decide +kernel) ⟨Nat.le_of_ble_eq_true rfl, Nat.le_of_ble_eq_true rfl⟩ ⟨Nat.zero_le _, Nat.zero_le _⟩ rfl rfl rfl rfl (by decide) (by decide) (by decide) (Nat.le_of_ble_eq_true rfl) rfl dX8_drop_31 (fun u8 H9 locs9 hw8 hP9 hD9 hS9 => ?_)
      obtain ⟨p_8, g_8⟩ := u8
      have hP9 : va_P G.1 vwCl ([oTo h cl se rc rh ar co cz tx nw, oRo rh w p_8, aM G w 8 (krow (krot q)), oMs (q 1) (d 1), aI G (d 1) 9 (M 1), oMs (q 2) (d 2), aI G (d 2) 9 (M 2), oMs (q 3) (d 3), aI G (d 3) 9 (M 3), oMs (q 4) (d 4), aI G (d 4) 9 (M 4), oMs (q 5) (d 5), aI G (d 5) 9 (M 5), oMs (q 6) (d 6), aI G (d 6) 9 (M 6), oMs (q 7) (d 7), aI G (d 7) 9 (M 7), oMs (q 0) (d 0), aI G (d 0) 9 (M 0), oMs ar az, aI G az 9 g_8]) H9 := hP9
      have hD9 : va_D A ([oTo h cl se rc rh ar co cz tx nw, oRo rh w p_8, aM G w 8 (krow (krot q)), oMs (q 1) (d 1), aI G (d 1) 9 (M 1), oMs (q 2) (d 2), aI G (d 2) 9 (M 2), oMs (q 3) (d 3), aI G (d 3) 9 (M 3), oMs (q 4) (d 4), aI G (d 4) 9 (M 4), oMs (q 5) (d 5), aI G (d 5) 9 (M 5), oMs (q 6) (d 6), aI G (d 6) 9 (M 6), oMs (q 7) (d 7), aI G (d 7) 9 (M 7), oMs (q 0) (d 0), aI G (d 0) 9 (M 0), oMs ar az, aI G az 9 g_8]) := hD9
      clear hP5 hD5 hS5
      have w8_0 : p_8 = upd rp 1 (rp 1 - 1) := hw8.1
      have w8_1 : g_8 = kcpy z (M 0) 9 := hw8.2
      refine lv_aload_n hx hb dX8_drop_34 rfl (lv_at hl6 0 rfl) ?_
      refine kget F hK hP9 4 1 1 iX4 rfl rfl (by decide) (List.mem_of_getElem? (i := 1) rfl) rfl dX8_drop_35 ?_
      have q10 : ((p_8 1) = rp 1 - 1) ∧ (p_8 = upd rp 1 (rp 1 - 1)) ∧ (g_8 = kcpy z (M 0) 9) := by
        subst w8_1
        subst w8_0
        first | (simp only [c3, c7, eq_self, ↓reduceIte, and_self, and_true, true_and]; done) | (simp only [c3, c7, eq_self, ↓reduceIte, and_self, and_true, true_and]; (try and_intros) <;> rfl) | exact ⟨rfl, rfl, rfl⟩
      exact kRi F hr hlocks hS9 dX8_drop_38 ⟨p_8, g_8⟩ q10 hP9 hD9
    · exact absurd c7 (by rw [hL]; exact nI_ne0 (by omega) (by omega))
  · exact absurd c3 (by decide)
set_option maxHeartbeats 4000000 in
set_option maxRecDepth 100000 in
theorem c_X8_step0N (l : Launch) (G : kG) (h : Nat) (cl : Nat) (se : Nat) (ar : Nat) (co : Nat) (cz : Nat) (tx : Nat) (nw : Nat → Int32) (pe : Nat) (ti : Nat) (c : Nat → Int32) (lc : Nat) (ls : Nat) (dr : Nat) (da : Nat) (p : Nat → Int32) (a : Nat → Int32) (b : Nat → Int32) (f : Nat → Int32) (t : Nat → Int32) (rh : Nat) (w : Nat) (q : Nat → Nat) (d : Nat → Nat) (rp : Nat → Int32) (M : Nat → Nat → Int32) (L : Nat) (sh : Nat) (sw : Nat) (q2 : Nat → Nat) (d2 : Nat → Nat) (rp2 : Nat → Int32) (M2 : Nat → Nat → Int32) (J : Nat) (az : Nat) (z : Nat → Int32) (hL : rp 1 = nI L) (hL1 : 1 ≤ L) (hL8 : L ≤ 8) (hJ : rp2 1 = nI J) (hJ8 : J ≤ 8) (hbo : c 2 = 0 ∨ c 2 = 1) : kM G l yX8_step wsX8_step ({ frames := 6, cells := 0, slots := 0, locals := 140 }) [.ref h, .int 0] ([oTo h cl se rh sh ar co cz tx nw, oCl cl pe ti c, oPe pe lc ls lc ls dr p, oLa lc a, oLa ls b, oMs dr da, aI G da 9 f, oTi ti t, oRo rh w rp, aM G w 8 (krow q), oMs (q 0) (d 0), aI G (d 0) 9 (M 0), oMs (q 1) (d 1), aI G (d 1) 9 (M 1), oMs (q 2) (d 2), aI G (d 2) 9 (M 2), oMs (q 3) (d 3), aI G (d 3) 9 (M 3), oMs (q 4) (d 4), aI G (d 4) 9 (M 4), oMs (q 5) (d 5), aI G (d 5) 9 (M 5), oMs (q 6) (d 6), aI G (d 6) 9 (M 6), oMs (q 7) (d 7), aI G (d 7) 9 (M 7), oRo sh sw rp2, aM G sw 8 (krow q2), oMs (q2 0) (d2 0), aI G (d2 0) 9 (M2 0), oMs (q2 1) (d2 1), aI G (d2 1) 9 (M2 1), oMs (q2 2) (d2 2), aI G (d2 2) 9 (M2 2), oMs (q2 3) (d2 3), aI G (d2 3) 9 (M2 3), oMs (q2 4) (d2 4), aI G (d2 4) 9 (M2 4), oMs (q2 5) (d2 5), aI G (d2 5) 9 (M2 5), oMs (q2 6) (d2 6), aI G (d2 6) 9 (M2 6), oMs (q2 7) (d2 7), aI G (d2 7) 9 (M2 7), oMs ar az, aI G az 9 z]) (kQi G (fun (rr : Int32) (uu : (Nat → Int32) × (Nat → Int32) × (Nat → Int32) × (Nat → Int32) × (Nat → Int32) × (Nat → Int32) × (Nat → Int32) × (Nat → Int32) × (Nat → Int32) × (Nat → Nat → Int32)) => (rr = kcpy z (M 0) 9 0) ∧ (uu.1 = upd rp 1 (rp 1 - 1)) ∧ (uu.2.1 = kcpy z (M 0) 9) ∧ (uu.2.2.1 = (kcliR J c p a b f t rp2 M2 (kcpy z (M 0) 9) (nw 8)).1) ∧ (uu.2.2.2.1 = (kcliR J c p a b f t rp2 M2 (kcpy z (M 0) 9) (nw 8)).2.1) ∧ (uu.2.2.2.2.1 = (kcliR J c p a b f t rp2 M2 (kcpy z (M 0) 9) (nw 8)).2.2.1) ∧ (uu.2.2.2.2.2.1 = (kcliR J c p a b f t rp2 M2 (kcpy z (M 0) 9) (nw 8)).2.2.2.1) ∧ (uu.2.2.2.2.2.2.1 = (kcliR J c p a b f t rp2 M2 (kcpy z (M 0) 9) (nw 8)).2.2.2.2.1) ∧ (uu.2.2.2.2.2.2.2.1 = (kcliR J c p a b f t rp2 M2 (kcpy z (M 0) 9) (nw 8)).2.2.2.2.2.1) ∧ (uu.2.2.2.2.2.2.2.2.1 = (kcliR J c p a b f t rp2 M2 (kcpy z (M 0) 9) (nw 8)).2.2.2.2.2.2.1) ∧ (uu.2.2.2.2.2.2.2.2.2 = (kcliR J c p a b f t rp2 M2 (kcpy z (M 0) 9) (nw 8)).2.2.2.2.2.2.2)) (fun (uu : (Nat → Int32) × (Nat → Int32) × (Nat → Int32) × (Nat → Int32) × (Nat → Int32) × (Nat → Int32) × (Nat → Int32) × (Nat → Int32) × (Nat → Int32) × (Nat → Nat → Int32)) => [oTo h cl se rh sh ar co cz tx nw, oCl cl pe ti uu.2.2.1, oPe pe lc ls lc ls dr uu.2.2.2.1, oLa lc uu.2.2.2.2.1, oLa ls uu.2.2.2.2.2.1, oMs dr da, aI G da 9 uu.2.2.2.2.2.2.1, oTi ti uu.2.2.2.2.2.2.2.1, oRo rh w uu.1, aM G w 8 (krow (krot q)), oMs (q 1) (d 1), aI G (d 1) 9 (M 1), oMs (q 2) (d 2), aI G (d 2) 9 (M 2), oMs (q 3) (d 3), aI G (d 3) 9 (M 3), oMs (q 4) (d 4), aI G (d 4) 9 (M 4), oMs (q 5) (d 5), aI G (d 5) 9 (M 5), oMs (q 6) (d 6), aI G (d 6) 9 (M 6), oMs (q 7) (d 7), aI G (d 7) 9 (M 7), oMs (q 0) (d 0), aI G (d 0) 9 (M 0), oRo sh sw uu.2.2.2.2.2.2.2.2.1, aM G sw 8 (krow q2), oMs (q2 0) (d2 0), aI G (d2 0) 9 (uu.2.2.2.2.2.2.2.2.2 0), oMs (q2 1) (d2 1), aI G (d2 1) 9 (uu.2.2.2.2.2.2.2.2.2 1), oMs (q2 2) (d2 2), aI G (d2 2) 9 (uu.2.2.2.2.2.2.2.2.2 2), oMs (q2 3) (d2 3), aI G (d2 3) 9 (uu.2.2.2.2.2.2.2.2.2 3), oMs (q2 4) (d2 4), aI G (d2 4) 9 (uu.2.2.2.2.2.2.2.2.2 4), oMs (q2 5) (d2 5), aI G (d2 5) 9 (uu.2.2.2.2.2.2.2.2.2 5), oMs (q2 6) (d2 6), aI G (d2 6) 9 (uu.2.2.2.2.2.2.2.2.2 6), oMs (q2 7) (d2 7), aI G (d2 7) 9 (uu.2.2.2.2.2.2.2.2.2 7), oMs ar az, aI G az 9 uu.2.1])) := by
  refine kStart (cc := cX8_step) (maxL := 3) (ret := (some .int)) (by decide) rfl (Nat.le_of_ble_eq_true rfl) (fun pg ev st mi bl mt cd A ls0 F hr hlocks hin hK hP0 hD0 hA hS0 hl0 => ?_)
  obtain ⟨hx, hb, hml, hown, hts⟩ := id F
  have hl0 : lv_has ls0 3 [(0, .ref h), (1, .int 0)] := hl0
  have iX4 : ∀ w ∈ u_ws RX4 TX4 3, w ∈ wsX8_step := fun w h => List.mem_cons_of_mem _ (List.mem_append_left _ (List.mem_append_left _ (List.mem_append_left _ (List.mem_append_left _ (List.mem_append_left _ (List.mem_append_left _ (List.mem_append_left _ (List.mem_append_right _ h))))))))
  have iX8 : ∀ w ∈ u_ws RX8 TX8 9, w ∈ wsX8_step := fun w h => List.mem_cons_of_mem _ (List.mem_append_left _ (List.mem_append_left _ (List.mem_append_left _ (List.mem_append_left _ (List.mem_append_left _ (List.mem_append_left _ (List.mem_append_right _ h)))))))
  refine lv_iload_n hx hb dX8_step_0 rfl (lv_at hl0 1 rfl) ?_
  refine kPSi F hK hP0 hD0 hS0 hA hl0.1 (c_X8_isSide l G 0) (fun _ => rfl) gX8_step_X8_isSide rfl 1 rfl (by decide +kernel) ⟨Nat.le_of_ble_eq_true rfl, Nat.le_of_ble_eq_true rfl⟩ ⟨Nat.zero_le _, Nat.zero_le _⟩ (Nat.le_of_ble_eq_true rfl) rfl dX8_step_1 (fun r1 u1 H2 locs2 hw1 (hP2 : va_P G.1 vwCl ([oTo h cl se rh sh ar co cz tx nw, oCl cl pe ti c, oPe pe lc ls lc ls dr p, oLa lc a, oLa ls b, oMs dr da, aI G da 9 f, oTi ti t, oRo rh w rp, aM G w 8 (krow q), oMs (q 0) (d 0), aI G (d 0) 9 (M 0), oMs (q 1) (d 1), aI G (d 1) 9 (M 1), oMs (q 2) (d 2), aI G (d 2) 9 (M 2), oMs (q 3) (d 3), aI G (d 3) 9 (M 3), oMs (q 4) (d 4), aI G (d 4) 9 (M 4), oMs (q 5) (d 5), aI G (d 5) 9 (M 5), oMs (q 6) (d 6), aI G (d 6) 9 (M 6), oMs (q 7) (d 7), aI G (d 7) 9 (M 7), oRo sh sw rp2, aM G sw 8 (krow q2), oMs (q2 0) (d2 0), aI G (d2 0) 9 (M2 0), oMs (q2 1) (d2 1), aI G (d2 1) 9 (M2 1), oMs (q2 2) (d2 2), aI G (d2 2) 9 (M2 2), oMs (q2 3) (d2 3), aI G (d2 3) 9 (M2 3), oMs (q2 4) (d2 4), aI G (d2 4) 9 (M2 4), oMs (q2 5) (d2 5), aI G (d2 5) 9 (M2 5), oMs (q2 6) (d2 6), aI G (d2 6) 9 (M2 6), oMs (q2 7) (d2 7), aI G (d2 7) 9 (M2 7), oMs ar az, aI G az 9 z]) H2) (hD2 : va_D A ([oTo h cl se rh sh ar co cz tx nw, oCl cl pe ti c, oPe pe lc ls lc ls dr p, oLa lc a, oLa ls b, oMs dr da, aI G da 9 f, oTi ti t, oRo rh w rp, aM G w 8 (krow q), oMs (q 0) (d 0), aI G (d 0) 9 (M 0), oMs (q 1) (d 1), aI G (d 1) 9 (M 1), oMs (q 2) (d 2), aI G (d 2) 9 (M 2), oMs (q 3) (d 3), aI G (d 3) 9 (M 3), oMs (q 4) (d 4), aI G (d 4) 9 (M 4), oMs (q 5) (d 5), aI G (d 5) 9 (M 5), oMs (q 6) (d 6), aI G (d 6) 9 (M 6), oMs (q 7) (d 7), aI G (d 7) 9 (M 7), oRo sh sw rp2, aM G sw 8 (krow q2), oMs (q2 0) (d2 0), aI G (d2 0) 9 (M2 0), oMs (q2 1) (d2 1), aI G (d2 1) 9 (M2 1), oMs (q2 2) (d2 2), aI G (d2 2) 9 (M2 2), oMs (q2 3) (d2 3), aI G (d2 3) 9 (M2 3), oMs (q2 4) (d2 4), aI G (d2 4) 9 (M2 4), oMs (q2 5) (d2 5), aI G (d2 5) 9 (M2 5), oMs (q2 6) (d2 6), aI G (d2 6) 9 (M2 6), oMs (q2 7) (d2 7), aI G (d2 7) 9 (M2 7), oMs ar az, aI G az 9 z])) hS2 => ?_)
  clear hP0 hD0 hS0
  have w1_0 : r1 = kside 0 := hw1
  have g1 : r1 = 1 := w1_0.trans (by decide)
  clear w1_0
  subst g1
  refine lv_if_ne (tgt := 10) hx hb dX8_step_4 (by decide) (fun c3 => ?_) (fun c3 => ?_)
  · refine lv_aload_n hx hb dX8_step_10 rfl (lv_at hl0 0 rfl) ?_
    refine lv_iload_n hx hb dX8_step_11 rfl (lv_at hl0 1 rfl) ?_
    refine kVr (wr := [oCl cl pe ti c, oPe pe lc ls lc ls dr p, oLa lc a, oLa ls b, oMs dr da, aI G da 9 f, oTi ti t, oRo rh w rp, aM G w 8 (krow q), oMs (q 0) (d 0), aI G (d 0) 9 (M 0), oMs (q 1) (d 1), aI G (d 1) 9 (M 1), oMs (q 2) (d 2), aI G (d 2) 9 (M 2), oMs (q 3) (d 3), aI G (d 3) 9 (M 3), oMs (q 4) (d 4), aI G (d 4) 9 (M 4), oMs (q 5) (d 5), aI G (d 5) 9 (M 5), oMs (q 6) (d 6), aI G (d 6) 9 (M 6), oMs (q 7) (d 7), aI G (d 7) 9 (M 7), oRo sh sw rp2, aM G sw 8 (krow q2), oMs (q2 0) (d2 0), aI G (d2 0) 9 (M2 0), oMs (q2 1) (d2 1), aI G (d2 1) 9 (M2 1), oMs (q2 2) (d2 2), aI G (d2 2) 9 (M2 2), oMs (q2 3) (d2 3), aI G (d2 3) 9 (M2 3), oMs (q2 4) (d2 4), aI G (d2 4) 9 (M2 4), oMs (q2 5) (d2 5), aI G (d2 5) 9 (M2 5), oMs (q2 6) (d2 6), aI G (d2 6) 9 (M2 6), oMs (q2 7) (d2 7), aI G (d2 7) 9 (M2 7), oMs ar az, aI G az 9 z]) F hK hP2 hD2 hS2 hA hl0.1 (c_X8_roadTo0 l G h cl se rh sh ar co cz tx nw) [0] [1, 2, 3, 4, 5, 6, 7, 8, 9, 10, 11, 12, 13, 14, 15, 16, 17, 18, 19, 20, 21, 22, 23, 24, 25, 26, 27, 28, 29, 30, 31, 32, 33, 34, 35, 36, 37, 38, 39, 40, 41, 42, 43, 44, 45] 8 0 gX8_step_X8_roadTo rfl 1 rfl (by decide +kernel) ⟨Nat.le_of_ble_eq_true rfl, Nat.le_of_ble_eq_true rfl⟩ ⟨Nat.zero_le _, Nat.zero_le _⟩ rfl rfl rfl rfl (by decide) (by decide) (by decide) (Nat.le_of_ble_eq_true rfl) rfl dX8_step_12 (fun u4 H5 locs5 hw4 (hP5 : va_P G.1 vwCl ([oCl cl pe ti c, oPe pe lc ls lc ls dr p, oLa lc a, oLa ls b, oMs dr da, aI G da 9 f, oTi ti t, oRo rh w rp, aM G w 8 (krow q), oMs (q 0) (d 0), aI G (d 0) 9 (M 0), oMs (q 1) (d 1), aI G (d 1) 9 (M 1), oMs (q 2) (d 2), aI G (d 2) 9 (M 2), oMs (q 3) (d 3), aI G (d 3) 9 (M 3), oMs (q 4) (d 4), aI G (d 4) 9 (M 4), oMs (q 5) (d 5), aI G (d 5) 9 (M 5), oMs (q 6) (d 6), aI G (d 6) 9 (M 6), oMs (q 7) (d 7), aI G (d 7) 9 (M 7), oRo sh sw rp2, aM G sw 8 (krow q2), oMs (q2 0) (d2 0), aI G (d2 0) 9 (M2 0), oMs (q2 1) (d2 1), aI G (d2 1) 9 (M2 1), oMs (q2 2) (d2 2), aI G (d2 2) 9 (M2 2), oMs (q2 3) (d2 3), aI G (d2 3) 9 (M2 3), oMs (q2 4) (d2 4), aI G (d2 4) 9 (M2 4), oMs (q2 5) (d2 5), aI G (d2 5) 9 (M2 5), oMs (q2 6) (d2 6), aI G (d2 6) 9 (M2 6), oMs (q2 7) (d2 7), aI G (d2 7) 9 (M2 7), oMs ar az, aI G az 9 z, oTo h cl se rh sh ar co cz tx nw]) H5) (hD5 : va_D A ([oCl cl pe ti c, oPe pe lc ls lc ls dr p, oLa lc a, oLa ls b, oMs dr da, aI G da 9 f, oTi ti t, oRo rh w rp, aM G w 8 (krow q), oMs (q 0) (d 0), aI G (d 0) 9 (M 0), oMs (q 1) (d 1), aI G (d 1) 9 (M 1), oMs (q 2) (d 2), aI G (d 2) 9 (M 2), oMs (q 3) (d 3), aI G (d 3) 9 (M 3), oMs (q 4) (d 4), aI G (d 4) 9 (M 4), oMs (q 5) (d 5), aI G (d 5) 9 (M 5), oMs (q 6) (d 6), aI G (d 6) 9 (M 6), oMs (q 7) (d 7), aI G (d 7) 9 (M 7), oRo sh sw rp2, aM G sw 8 (krow q2), oMs (q2 0) (d2 0), aI G (d2 0) 9 (M2 0), oMs (q2 1) (d2 1), aI G (d2 1) 9 (M2 1), oMs (q2 2) (d2 2), aI G (d2 2) 9 (M2 2), oMs (q2 3) (d2 3), aI G (d2 3) 9 (M2 3), oMs (q2 4) (d2 4), aI G (d2 4) 9 (M2 4), oMs (q2 5) (d2 5), aI G (d2 5) 9 (M2 5), oMs (q2 6) (d2 6), aI G (d2 6) 9 (M2 6), oMs (q2 7) (d2 7), aI G (d2 7) 9 (M2 7), oMs ar az, aI G az 9 z, oTo h cl se rh sh ar co cz tx nw])) hS5 => ?_)
    clear hP2 hD2 hS2
    refine lv_astore_n (lv' := [(2, .ref rh), (0, .ref h), (1, .int 0)]) hx hb dX8_step_15 rfl hl0 (by decide) rfl (fun ls6 hl6 => ?_)
    clear hl0
    refine lv_aload_n hx hb dX8_step_16 rfl (lv_at hl6 0 rfl) ?_
    refine kget F hK hP5 4 7 1 iX4 rfl rfl (by decide) (List.mem_of_getElem? (i := 1) rfl) rfl dX8_step_17 ?_
    refine lv_if_ne (tgt := 26) hx hb dX8_step_20 (by decide) (fun c7 => ?_) (fun c7 => ?_)
    · refine lv_aload_n hx hb dX8_step_26 rfl (lv_at hl6 0 rfl) ?_
      refine lv_aload_n hx hb dX8_step_27 rfl (lv_at hl6 1 rfl) ?_
      refine kget F hK hP5 8 45 4 iX8 rfl rfl (by decide) (List.mem_of_getElem? (i := 2) rfl) rfl dX8_step_28 ?_
      refine kVv (wr := [oCl cl pe ti c, oPe pe lc ls lc ls dr p, oLa lc a, oLa ls b, oMs dr da, aI G da 9 f, oTi ti t, oRo sh sw rp2, aM G sw 8 (krow q2), oMs (q2 0) (d2 0), aI G (d2 0) 9 (M2 0), oMs (q2 1) (d2 1), aI G (d2 1) 9 (M2 1), oMs (q2 2) (d2 2), aI G (d2 2) 9 (M2 2), oMs (q2 3) (d2 3), aI G (d2 3) 9 (M2 3), oMs (q2 4) (d2 4), aI G (d2 4) 9 (M2 4), oMs (q2 5) (d2 5), aI G (d2 5) 9 (M2 5), oMs (q2 6) (d2 6), aI G (d2 6) 9 (M2 6), oMs (q2 7) (d2 7), aI G (d2 7) 9 (M2 7), oTo h cl se rh sh ar co cz tx nw]) F hK hP5 hD5 hS5 hA hl6.1 (c_X4_takeFirst l G rh w q d rp M ar az z L hL hL1 hL8) [7, 8, 9, 10, 11, 12, 13, 14, 15, 16, 17, 18, 19, 20, 21, 22, 23, 24, 43, 44] [0, 1, 2, 3, 4, 5, 6, 25, 26, 27, 28, 29, 30, 31, 32, 33, 34, 35, 36, 37, 38, 39, 40, 41, 42, 45] 4 0 gX8_step_X4_takeFirst rfl 1 rfl (by decide +kernel) ⟨Nat.le_of_ble_eq_true rfl, Nat.le_of_ble_eq_true rfl⟩ ⟨Nat.zero_le _, Nat.zero_le _⟩ rfl rfl rfl rfl (by decide) (by decide) (by decide) (Nat.le_of_ble_eq_true rfl) rfl dX8_step_31 (fun u8 H9 locs9 hw8 hP9 hD9 hS9 => ?_)
      obtain ⟨p_8, g_8⟩ := u8
      have hP9 : va_P G.1 vwCl ([oCl cl pe ti c, oPe pe lc ls lc ls dr p, oLa lc a, oLa ls b, oMs dr da, aI G da 9 f, oTi ti t, oRo sh sw rp2, aM G sw 8 (krow q2), oMs (q2 0) (d2 0), aI G (d2 0) 9 (M2 0), oMs (q2 1) (d2 1), aI G (d2 1) 9 (M2 1), oMs (q2 2) (d2 2), aI G (d2 2) 9 (M2 2), oMs (q2 3) (d2 3), aI G (d2 3) 9 (M2 3), oMs (q2 4) (d2 4), aI G (d2 4) 9 (M2 4), oMs (q2 5) (d2 5), aI G (d2 5) 9 (M2 5), oMs (q2 6) (d2 6), aI G (d2 6) 9 (M2 6), oMs (q2 7) (d2 7), aI G (d2 7) 9 (M2 7), oTo h cl se rh sh ar co cz tx nw, oRo rh w p_8, aM G w 8 (krow (krot q)), oMs (q 1) (d 1), aI G (d 1) 9 (M 1), oMs (q 2) (d 2), aI G (d 2) 9 (M 2), oMs (q 3) (d 3), aI G (d 3) 9 (M 3), oMs (q 4) (d 4), aI G (d 4) 9 (M 4), oMs (q 5) (d 5), aI G (d 5) 9 (M 5), oMs (q 6) (d 6), aI G (d 6) 9 (M 6), oMs (q 7) (d 7), aI G (d 7) 9 (M 7), oMs (q 0) (d 0), aI G (d 0) 9 (M 0), oMs ar az, aI G az 9 g_8]) H9 := hP9
      have hD9 : va_D A ([oCl cl pe ti c, oPe pe lc ls lc ls dr p, oLa lc a, oLa ls b, oMs dr da, aI G da 9 f, oTi ti t, oRo sh sw rp2, aM G sw 8 (krow q2), oMs (q2 0) (d2 0), aI G (d2 0) 9 (M2 0), oMs (q2 1) (d2 1), aI G (d2 1) 9 (M2 1), oMs (q2 2) (d2 2), aI G (d2 2) 9 (M2 2), oMs (q2 3) (d2 3), aI G (d2 3) 9 (M2 3), oMs (q2 4) (d2 4), aI G (d2 4) 9 (M2 4), oMs (q2 5) (d2 5), aI G (d2 5) 9 (M2 5), oMs (q2 6) (d2 6), aI G (d2 6) 9 (M2 6), oMs (q2 7) (d2 7), aI G (d2 7) 9 (M2 7), oTo h cl se rh sh ar co cz tx nw, oRo rh w p_8, aM G w 8 (krow (krot q)), oMs (q 1) (d 1), aI G (d 1) 9 (M 1), oMs (q 2) (d 2), aI G (d 2) 9 (M 2), oMs (q 3) (d 3), aI G (d 3) 9 (M 3), oMs (q 4) (d 4), aI G (d 4) 9 (M 4), oMs (q 5) (d 5), aI G (d 5) 9 (M 5), oMs (q 6) (d 6), aI G (d 6) 9 (M 6), oMs (q 7) (d 7), aI G (d 7) 9 (M 7), oMs (q 0) (d 0), aI G (d 0) 9 (M 0), oMs ar az, aI G az 9 g_8]) := hD9
      clear hP5 hD5 hS5
      have w8_0 : p_8 = upd rp 1 (rp 1 - 1) := hw8.1
      have w8_1 : g_8 = kcpy z (M 0) 9 := hw8.2
      refine lv_iload_n hx hb dX8_step_34 rfl (lv_at hl6 2 rfl) ?_
      refine lv_if_ne (tgt := 60) hx hb dX8_step_35 (by decide) (fun c10 => ?_) (fun c10 => ?_)
      · exact absurd (by decide) c10
      · refine lv_aload_n hx hb dX8_step_38 rfl (lv_at hl6 1 rfl) ?_
        refine kget F hK hP9 8 25 0 iX8 rfl rfl (by decide) (List.mem_of_getElem? (i := 3) rfl) rfl dX8_step_39 ?_
        refine lv_aload_n hx hb dX8_step_42 rfl (lv_at hl6 1 rfl) ?_
        refine kget F hK hP9 8 25 4 iX8 rfl rfl (by decide) (List.mem_of_getElem? (i := 2) rfl) rfl dX8_step_43 ?_
        refine lv_aload_n hx hb dX8_step_46 rfl (lv_at hl6 1 rfl) ?_
        refine kget F hK hP9 8 25 8 iX8 rfl rfl (by decide) (List.mem_of_getElem? (i := 4) rfl) rfl dX8_step_47 ?_
        refine lv_aload_n hx hb dX8_step_50 rfl (lv_at hl6 1 rfl) ?_
        refine kget F hK hP9 8 25 3 iX8 rfl rfl (by decide) (List.mem_of_getElem? (i := 5) rfl) rfl dX8_step_51 ?_
        refine kVv (wr := [oTo h cl se rh sh ar co cz tx nw, oRo rh w p_8, aM G w 8 (krow (krot q)), oMs (q 1) (d 1), aI G (d 1) 9 (M 1), oMs (q 2) (d 2), aI G (d 2) 9 (M 2), oMs (q 3) (d 3), aI G (d 3) 9 (M 3), oMs (q 4) (d 4), aI G (d 4) 9 (M 4), oMs (q 5) (d 5), aI G (d 5) 9 (M 5), oMs (q 6) (d 6), aI G (d 6) 9 (M 6), oMs (q 7) (d 7), aI G (d 7) 9 (M 7), oMs (q 0) (d 0), aI G (d 0) 9 (M 0)]) F hK hP9 hD9 hS9 hA hl6.1 (c_X0_receive l G cl pe ti lc ls dr da c p a b f t sh sw q2 d2 rp2 M2 J ar az g_8 (nw 8) hJ hJ8 hbo) [0, 1, 2, 3, 4, 5, 6, 7, 8, 9, 10, 11, 12, 13, 14, 15, 16, 17, 18, 19, 20, 21, 22, 23, 24, 44, 45] [25, 26, 27, 28, 29, 30, 31, 32, 33, 34, 35, 36, 37, 38, 39, 40, 41, 42, 43] 0 0 gX8_step_X0_receive rfl 3 rfl (by decide +kernel) ⟨Nat.le_of_ble_eq_true rfl, Nat.le_of_ble_eq_true rfl⟩ ⟨Nat.zero_le _, Nat.zero_le _⟩ rfl rfl rfl rfl (by decide) (by decide) (by decide) (Nat.le_of_ble_eq_true rfl) rfl dX8_step_54 (fun u11 H12 locs12 hw11 hP12 hD12 hS12 => ?_)
        obtain ⟨c_11, p_11, a_11, b_11, f_11, t_11, rp_11, M_11⟩ := u11
        have hP12 : va_P G.1 vwCl ([oTo h cl se rh sh ar co cz tx nw, oRo rh w p_8, aM G w 8 (krow (krot q)), oMs (q 1) (d 1), aI G (d 1) 9 (M 1), oMs (q 2) (d 2), aI G (d 2) 9 (M 2), oMs (q 3) (d 3), aI G (d 3) 9 (M 3), oMs (q 4) (d 4), aI G (d 4) 9 (M 4), oMs (q 5) (d 5), aI G (d 5) 9 (M 5), oMs (q 6) (d 6), aI G (d 6) 9 (M 6), oMs (q 7) (d 7), aI G (d 7) 9 (M 7), oMs (q 0) (d 0), aI G (d 0) 9 (M 0), oCl cl pe ti c_11, oPe pe lc ls lc ls dr p_11, oLa lc a_11, oLa ls b_11, oMs dr da, aI G da 9 f_11, oTi ti t_11, oRo sh sw rp_11, aM G sw 8 (krow q2), oMs (q2 0) (d2 0), aI G (d2 0) 9 (M_11 0), oMs (q2 1) (d2 1), aI G (d2 1) 9 (M_11 1), oMs (q2 2) (d2 2), aI G (d2 2) 9 (M_11 2), oMs (q2 3) (d2 3), aI G (d2 3) 9 (M_11 3), oMs (q2 4) (d2 4), aI G (d2 4) 9 (M_11 4), oMs (q2 5) (d2 5), aI G (d2 5) 9 (M_11 5), oMs (q2 6) (d2 6), aI G (d2 6) 9 (M_11 6), oMs (q2 7) (d2 7), aI G (d2 7) 9 (M_11 7), oMs ar az, aI G az 9 g_8]) H12 := hP12
        have hD12 : va_D A ([oTo h cl se rh sh ar co cz tx nw, oRo rh w p_8, aM G w 8 (krow (krot q)), oMs (q 1) (d 1), aI G (d 1) 9 (M 1), oMs (q 2) (d 2), aI G (d 2) 9 (M 2), oMs (q 3) (d 3), aI G (d 3) 9 (M 3), oMs (q 4) (d 4), aI G (d 4) 9 (M 4), oMs (q 5) (d 5), aI G (d 5) 9 (M 5), oMs (q 6) (d 6), aI G (d 6) 9 (M 6), oMs (q 7) (d 7), aI G (d 7) 9 (M 7), oMs (q 0) (d 0), aI G (d 0) 9 (M 0), oCl cl pe ti c_11, oPe pe lc ls lc ls dr p_11, oLa lc a_11, oLa ls b_11, oMs dr da, aI G da 9 f_11, oTi ti t_11, oRo sh sw rp_11, aM G sw 8 (krow q2), oMs (q2 0) (d2 0), aI G (d2 0) 9 (M_11 0), oMs (q2 1) (d2 1), aI G (d2 1) 9 (M_11 1), oMs (q2 2) (d2 2), aI G (d2 2) 9 (M_11 2), oMs (q2 3) (d2 3), aI G (d2 3) 9 (M_11 3), oMs (q2 4) (d2 4), aI G (d2 4) 9 (M_11 4), oMs (q2 5) (d2 5), aI G (d2 5) 9 (M_11 5), oMs (q2 6) (d2 6), aI G (d2 6) 9 (M_11 6), oMs (q2 7) (d2 7), aI G (d2 7) 9 (M_11 7), oMs ar az, aI G az 9 g_8]) := hD12
        clear hP9 hD9 hS9
        have w11_0 : c_11 = (kcliR J c p a b f t rp2 M2 g_8 (nw 8)).1 := hw11.1
        have w11_1 : p_11 = (kcliR J c p a b f t rp2 M2 g_8 (nw 8)).2.1 := hw11.2.1
        have w11_2 : a_11 = (kcliR J c p a b f t rp2 M2 g_8 (nw 8)).2.2.1 := hw11.2.2.1
        have w11_3 : b_11 = (kcliR J c p a b f t rp2 M2 g_8 (nw 8)).2.2.2.1 := hw11.2.2.2.1
        have w11_4 : f_11 = (kcliR J c p a b f t rp2 M2 g_8 (nw 8)).2.2.2.2.1 := hw11.2.2.2.2.1
        have w11_5 : t_11 = (kcliR J c p a b f t rp2 M2 g_8 (nw 8)).2.2.2.2.2.1 := hw11.2.2.2.2.2.1
        have w11_6 : rp_11 = (kcliR J c p a b f t rp2 M2 g_8 (nw 8)).2.2.2.2.2.2.1 := hw11.2.2.2.2.2.2.1
        have w11_7 : M_11 = (kcliR J c p a b f t rp2 M2 g_8 (nw 8)).2.2.2.2.2.2.2 := hw11.2.2.2.2.2.2.2
        refine lv_goto (tgt := 79) hx hb dX8_step_57 (by decide) ?_
        refine lv_aload_n hx hb dX8_step_79 rfl (lv_at hl6 1 rfl) ?_
        refine kget F hK hP12 8 0 4 iX8 rfl rfl (by decide) (List.mem_of_getElem? (i := 2) rfl) rfl dX8_step_80 ?_
        refine lv_iconst (v := 0) hx hb dX8_step_83 (by decide) ?_
        refine kVi (wr := [oTo h cl se rh sh ar co cz tx nw, oRo rh w p_8, aM G w 8 (krow (krot q)), oMs (q 1) (d 1), aI G (d 1) 9 (M 1), oMs (q 2) (d 2), aI G (d 2) 9 (M 2), oMs (q 3) (d 3), aI G (d 3) 9 (M 3), oMs (q 4) (d 4), aI G (d 4) 9 (M 4), oMs (q 5) (d 5), aI G (d 5) 9 (M 5), oMs (q 6) (d 6), aI G (d 6) 9 (M 6), oMs (q 7) (d 7), aI G (d 7) 9 (M 7), oMs (q 0) (d 0), aI G (d 0) 9 (M 0), oCl cl pe ti c_11, oPe pe lc ls lc ls dr p_11, oLa lc a_11, oLa ls b_11, oMs dr da, aI G da 9 f_11, oTi ti t_11, oRo sh sw rp_11, aM G sw 8 (krow q2), oMs (q2 0) (d2 0), aI G (d2 0) 9 (M_11 0), oMs (q2 1) (d2 1), aI G (d2 1) 9 (M_11 1), oMs (q2 2) (d2 2), aI G (d2 2) 9 (M_11 2), oMs (q2 3) (d2 3), aI G (d2 3) 9 (M_11 3), oMs (q2 4) (d2 4), aI G (d2 4) 9 (M_11 4), oMs (q2 5) (d2 5), aI G (d2 5) 9 (M_11 5), oMs (q2 6) (d2 6), aI G (d2 6) 9 (M_11 6), oMs (q2 7) (d2 7), aI G (d2 7) 9 (M_11 7)]) F hK hP12 hD12 hS12 hA hl6.1 (c_X2_at l G ar az g_8 0 (by first | assumption | decide | omega)) [44, 45] [0, 1, 2, 3, 4, 5, 6, 7, 8, 9, 10, 11, 12, 13, 14, 15, 16, 17, 18, 19, 20, 21, 22, 23, 24, 25, 26, 27, 28, 29, 30, 31, 32, 33, 34, 35, 36, 37, 38, 39, 40, 41, 42, 43] 2 0 gX8_step_X2_at rfl 1 rfl (by decide +kernel) ⟨Nat.le_of_ble_eq_true rfl, Nat.le_of_ble_eq_true rfl⟩ ⟨Nat.zero_le _, Nat.zero_le _⟩ rfl rfl rfl rfl (by decide) (by decide) (by decide) (Nat.le_of_ble_eq_true rfl) rfl dX8_step_84 (fun r13 u13 H14 locs14 hw13 (hP14 : va_P G.1 vwCl ([oTo h cl se rh sh ar co cz tx nw, oRo rh w p_8, aM G w 8 (krow (krot q)), oMs (q 1) (d 1), aI G (d 1) 9 (M 1), oMs (q 2) (d 2), aI G (d 2) 9 (M 2), oMs (q 3) (d 3), aI G (d 3) 9 (M 3), oMs (q 4) (d 4), aI G (d 4) 9 (M 4), oMs (q 5) (d 5), aI G (d 5) 9 (M 5), oMs (q 6) (d 6), aI G (d 6) 9 (M 6), oMs (q 7) (d 7), aI G (d 7) 9 (M 7), oMs (q 0) (d 0), aI G (d 0) 9 (M 0), oCl cl pe ti c_11, oPe pe lc ls lc ls dr p_11, oLa lc a_11, oLa ls b_11, oMs dr da, aI G da 9 f_11, oTi ti t_11, oRo sh sw rp_11, aM G sw 8 (krow q2), oMs (q2 0) (d2 0), aI G (d2 0) 9 (M_11 0), oMs (q2 1) (d2 1), aI G (d2 1) 9 (M_11 1), oMs (q2 2) (d2 2), aI G (d2 2) 9 (M_11 2), oMs (q2 3) (d2 3), aI G (d2 3) 9 (M_11 3), oMs (q2 4) (d2 4), aI G (d2 4) 9 (M_11 4), oMs (q2 5) (d2 5), aI G (d2 5) 9 (M_11 5), oMs (q2 6) (d2 6), aI G (d2 6) 9 (M_11 6), oMs (q2 7) (d2 7), aI G (d2 7) 9 (M_11 7), oMs ar az, aI G az 9 g_8]) H14) (hD14 : va_D A ([oTo h cl se rh sh ar co cz tx nw, oRo rh w p_8, aM G w 8 (krow (krot q)), oMs (q 1) (d 1), aI G (d 1) 9 (M 1), oMs (q 2) (d 2), aI G (d 2) 9 (M 2), oMs (q 3) (d 3), aI G (d 3) 9 (M 3), oMs (q 4) (d 4), aI G (d 4) 9 (M 4), oMs (q 5) (d 5), aI G (d 5) 9 (M 5), oMs (q 6) (d 6), aI G (d 6) 9 (M 6), oMs (q 7) (d 7), aI G (d 7) 9 (M 7), oMs (q 0) (d 0), aI G (d 0) 9 (M 0), oCl cl pe ti c_11, oPe pe lc ls lc ls dr p_11, oLa lc a_11, oLa ls b_11, oMs dr da, aI G da 9 f_11, oTi ti t_11, oRo sh sw rp_11, aM G sw 8 (krow q2), oMs (q2 0) (d2 0), aI G (d2 0) 9 (M_11 0), oMs (q2 1) (d2 1), aI G (d2 1) 9 (M_11 1), oMs (q2 2) (d2 2), aI G (d2 2) 9 (M_11 2), oMs (q2 3) (d2 3), aI G (d2 3) 9 (M_11 3), oMs (q2 4) (d2 4), aI G (d2 4) 9 (M_11 4), oMs (q2 5) (d2 5), aI G (d2 5) 9 (M_11 5), oMs (q2 6) (d2 6), aI G (d2 6) 9 (M_11 6), oMs (q2 7) (d2 7), aI G (d2 7) 9 (M_11 7), oMs ar az, aI G az 9 g_8])) hS14 => ?_)
        clear hP12 hD12 hS12
        have w13_0 : r13 = g_8 0 := hw13
        have q15 : (r13 = kcpy z (M 0) 9 0) ∧ (p_8 = upd rp 1 (rp 1 - 1)) ∧ (g_8 = kcpy z (M 0) 9) ∧ (c_11 = (kcliR J c p a b f t rp2 M2 (kcpy z (M 0) 9) (nw 8)).1) ∧ (p_11 = (kcliR J c p a b f t rp2 M2 (kcpy z (M 0) 9) (nw 8)).2.1) ∧ (a_11 = (kcliR J c p a b f t rp2 M2 (kcpy z (M 0) 9) (nw 8)).2.2.1) ∧ (b_11 = (kcliR J c p a b f t rp2 M2 (kcpy z (M 0) 9) (nw 8)).2.2.2.1) ∧ (f_11 = (kcliR J c p a b f t rp2 M2 (kcpy z (M 0) 9) (nw 8)).2.2.2.2.1) ∧ (t_11 = (kcliR J c p a b f t rp2 M2 (kcpy z (M 0) 9) (nw 8)).2.2.2.2.2.1) ∧ (rp_11 = (kcliR J c p a b f t rp2 M2 (kcpy z (M 0) 9) (nw 8)).2.2.2.2.2.2.1) ∧ (M_11 = (kcliR J c p a b f t rp2 M2 (kcpy z (M 0) 9) (nw 8)).2.2.2.2.2.2.2) := by
          subst w13_0
          subst w11_7
          subst w11_6
          subst w11_5
          subst w11_4
          subst w11_3
          subst w11_2
          subst w11_1
          subst w11_0
          subst w8_1
          subst w8_0
          first | (simp only [c3, c7, eq_true c10, eq_self, ↓reduceIte, and_self, and_true, true_and]; done) | (simp only [c3, c7, eq_true c10, eq_self, ↓reduceIte, and_self, and_true, true_and]; (try and_intros) <;> rfl)
        exact kRi F hr hlocks hS14 dX8_step_87 ⟨p_8, g_8, c_11, p_11, a_11, b_11, f_11, t_11, rp_11, M_11⟩ q15 (hP14.sub [0, 19, 20, 21, 22, 23, 24, 25, 1, 2, 3, 4, 5, 6, 7, 8, 9, 10, 11, 12, 13, 14, 15, 16, 17, 18, 26, 27, 28, 29, 30, 31, 32, 33, 34, 35, 36, 37, 38, 39, 40, 41, 42, 43, 44, 45] rfl) (hD14.sub [0, 19, 20, 21, 22, 23, 24, 25, 1, 2, 3, 4, 5, 6, 7, 8, 9, 10, 11, 12, 13, 14, 15, 16, 17, 18, 26, 27, 28, 29, 30, 31, 32, 33, 34, 35, 36, 37, 38, 39, 40, 41, 42, 43, 44, 45] (by decide) rfl)
    · exact absurd c7 (by rw [hL]; exact nI_ne0 (by omega) (by omega))
  · exact absurd c3 (by decide)
set_option maxHeartbeats 4000000 in
set_option maxRecDepth 100000 in
theorem c_X8_step1N (l : Launch) (G : kG) (h : Nat) (cl : Nat) (se : Nat) (ar : Nat) (co : Nat) (cz : Nat) (tx : Nat) (nw : Nat → Int32) (pe : Nat) (ta : Nat) (sn : Nat) (sb : Nat) (s : Nat → Int32) (lc : Nat) (ls : Nat) (dr : Nat) (da : Nat) (p : Nat → Int32) (a : Nat → Int32) (b : Nat → Int32) (f : Nat → Int32) (N : Nat → Int32) (B : Nat → Int32) (k : Nat → Nat) (T : Nat → Nat → Int32) (rh : Nat) (w : Nat) (q : Nat → Nat) (d : Nat → Nat) (rp : Nat → Int32) (M : Nat → Nat → Int32) (L : Nat) (sh : Nat) (sw : Nat) (q2 : Nat → Nat) (d2 : Nat → Nat) (rp2 : Nat → Int32) (M2 : Nat → Nat → Int32) (J : Nat) (E : Nat) (az : Nat) (z : Nat → Int32) (hL : rp 1 = nI L) (hL1 : 1 ≤ L) (hL8 : L ≤ 8) (hJ : rp2 1 = nI J) (hJ8 : J ≤ 8) (hE : s 6 = nI E) (hE4 : E ≤ 4) : kM G l yX8_step wsX8_step ({ frames := 6, cells := 0, slots := 0, locals := 145 }) [.ref h, .int 1] ([oTo h cl se sh rh ar co cz tx nw, oSe se pe ta sn sb s, oPe pe lc ls ls lc dr p, oLa lc a, oLa ls b, oMs dr da, aI G da 9 f, aT G ta 3 (krow3 k), oTi (k 0) (T 0), oTi (k 1) (T 1), oTi (k 2) (T 2), aI G sn 4 N, aI G sb 4 B, oRo rh w rp, aM G w 8 (krow q), oMs (q 0) (d 0), aI G (d 0) 9 (M 0), oMs (q 1) (d 1), aI G (d 1) 9 (M 1), oMs (q 2) (d 2), aI G (d 2) 9 (M 2), oMs (q 3) (d 3), aI G (d 3) 9 (M 3), oMs (q 4) (d 4), aI G (d 4) 9 (M 4), oMs (q 5) (d 5), aI G (d 5) 9 (M 5), oMs (q 6) (d 6), aI G (d 6) 9 (M 6), oMs (q 7) (d 7), aI G (d 7) 9 (M 7), oRo sh sw rp2, aM G sw 8 (krow q2), oMs (q2 0) (d2 0), aI G (d2 0) 9 (M2 0), oMs (q2 1) (d2 1), aI G (d2 1) 9 (M2 1), oMs (q2 2) (d2 2), aI G (d2 2) 9 (M2 2), oMs (q2 3) (d2 3), aI G (d2 3) 9 (M2 3), oMs (q2 4) (d2 4), aI G (d2 4) 9 (M2 4), oMs (q2 5) (d2 5), aI G (d2 5) 9 (M2 5), oMs (q2 6) (d2 6), aI G (d2 6) 9 (M2 6), oMs (q2 7) (d2 7), aI G (d2 7) 9 (M2 7), oMs ar az, aI G az 9 z]) (kQi G (fun (rr : Int32) (uu : (Nat → Int32) × (Nat → Int32) × (Nat → Int32) × (Nat → Int32) × (Nat → Int32) × (Nat → Int32) × (Nat → Int32) × (Nat → Int32) × (Nat → Int32) × (Nat → Int32) × (Nat → Nat → Int32)) => (rr = kcpy z (M 0) 9 0) ∧ (uu.1 = upd rp 1 (rp 1 - 1)) ∧ (uu.2.1 = kcpy z (M 0) 9) ∧ (uu.2.2.1 = (ksrvR J E s p a b f N B T rp2 M2 (kcpy z (M 0) 9) (nw 8)).1) ∧ (uu.2.2.2.1 = (ksrvR J E s p a b f N B T rp2 M2 (kcpy z (M 0) 9) (nw 8)).2.1) ∧ (uu.2.2.2.2.1 = (ksrvR J E s p a b f N B T rp2 M2 (kcpy z (M 0) 9) (nw 8)).2.2.1) ∧ (uu.2.2.2.2.2.1 = (ksrvR J E s p a b f N B T rp2 M2 (kcpy z (M 0) 9) (nw 8)).2.2.2.1) ∧ (uu.2.2.2.2.2.2.1 = (ksrvR J E s p a b f N B T rp2 M2 (kcpy z (M 0) 9) (nw 8)).2.2.2.2.1) ∧ (uu.2.2.2.2.2.2.2.1 = (ksrvR J E s p a b f N B T rp2 M2 (kcpy z (M 0) 9) (nw 8)).2.2.2.2.2.1) ∧ (uu.2.2.2.2.2.2.2.2.1 = (ksrvR J E s p a b f N B T rp2 M2 (kcpy z (M 0) 9) (nw 8)).2.2.2.2.2.2.1) ∧ (uu.2.2.2.2.2.2.2.2.2.1 = (ksrvR J E s p a b f N B T rp2 M2 (kcpy z (M 0) 9) (nw 8)).2.2.2.2.2.2.2.1) ∧ (uu.2.2.2.2.2.2.2.2.2.2 = (ksrvR J E s p a b f N B T rp2 M2 (kcpy z (M 0) 9) (nw 8)).2.2.2.2.2.2.2.2)) (fun (uu : (Nat → Int32) × (Nat → Int32) × (Nat → Int32) × (Nat → Int32) × (Nat → Int32) × (Nat → Int32) × (Nat → Int32) × (Nat → Int32) × (Nat → Int32) × (Nat → Int32) × (Nat → Nat → Int32)) => [oTo h cl se sh rh ar co cz tx nw, oSe se pe ta sn sb uu.2.2.1, oPe pe lc ls ls lc dr uu.2.2.2.1, oLa lc uu.2.2.2.2.1, oLa ls uu.2.2.2.2.2.1, oMs dr da, aI G da 9 uu.2.2.2.2.2.2.1, aT G ta 3 (krow3 k), oTi (k 0) (T 0), oTi (k 1) (T 1), oTi (k 2) (T 2), aI G sn 4 uu.2.2.2.2.2.2.2.1, aI G sb 4 uu.2.2.2.2.2.2.2.2.1, oRo rh w uu.1, aM G w 8 (krow (krot q)), oMs (q 1) (d 1), aI G (d 1) 9 (M 1), oMs (q 2) (d 2), aI G (d 2) 9 (M 2), oMs (q 3) (d 3), aI G (d 3) 9 (M 3), oMs (q 4) (d 4), aI G (d 4) 9 (M 4), oMs (q 5) (d 5), aI G (d 5) 9 (M 5), oMs (q 6) (d 6), aI G (d 6) 9 (M 6), oMs (q 7) (d 7), aI G (d 7) 9 (M 7), oMs (q 0) (d 0), aI G (d 0) 9 (M 0), oRo sh sw uu.2.2.2.2.2.2.2.2.2.1, aM G sw 8 (krow q2), oMs (q2 0) (d2 0), aI G (d2 0) 9 (uu.2.2.2.2.2.2.2.2.2.2 0), oMs (q2 1) (d2 1), aI G (d2 1) 9 (uu.2.2.2.2.2.2.2.2.2.2 1), oMs (q2 2) (d2 2), aI G (d2 2) 9 (uu.2.2.2.2.2.2.2.2.2.2 2), oMs (q2 3) (d2 3), aI G (d2 3) 9 (uu.2.2.2.2.2.2.2.2.2.2 3), oMs (q2 4) (d2 4), aI G (d2 4) 9 (uu.2.2.2.2.2.2.2.2.2.2 4), oMs (q2 5) (d2 5), aI G (d2 5) 9 (uu.2.2.2.2.2.2.2.2.2.2 5), oMs (q2 6) (d2 6), aI G (d2 6) 9 (uu.2.2.2.2.2.2.2.2.2.2 6), oMs (q2 7) (d2 7), aI G (d2 7) 9 (uu.2.2.2.2.2.2.2.2.2.2 7), oMs ar az, aI G az 9 uu.2.1])) := by
  refine kStart (cc := cX8_step) (maxL := 3) (ret := (some .int)) (by decide) rfl (Nat.le_of_ble_eq_true rfl) (fun pg ev st mi bl mt cd A ls0 F hr hlocks hin hK hP0 hD0 hA hS0 hl0 => ?_)
  obtain ⟨hx, hb, hml, hown, hts⟩ := id F
  have hl0 : lv_has ls0 3 [(0, .ref h), (1, .int 1)] := hl0
  have iX4 : ∀ w ∈ u_ws RX4 TX4 3, w ∈ wsX8_step := fun w h => List.mem_cons_of_mem _ (List.mem_append_left _ (List.mem_append_left _ (List.mem_append_left _ (List.mem_append_left _ (List.mem_append_left _ (List.mem_append_left _ (List.mem_append_left _ (List.mem_append_right _ h))))))))
  have iX8 : ∀ w ∈ u_ws RX8 TX8 9, w ∈ wsX8_step := fun w h => List.mem_cons_of_mem _ (List.mem_append_left _ (List.mem_append_left _ (List.mem_append_left _ (List.mem_append_left _ (List.mem_append_left _ (List.mem_append_left _ (List.mem_append_right _ h)))))))
  refine lv_iload_n hx hb dX8_step_0 rfl (lv_at hl0 1 rfl) ?_
  refine kPSi F hK hP0 hD0 hS0 hA hl0.1 (c_X8_isSide l G 1) (fun _ => rfl) gX8_step_X8_isSide rfl 1 rfl (by decide +kernel) ⟨Nat.le_of_ble_eq_true rfl, Nat.le_of_ble_eq_true rfl⟩ ⟨Nat.zero_le _, Nat.zero_le _⟩ (Nat.le_of_ble_eq_true rfl) rfl dX8_step_1 (fun r1 u1 H2 locs2 hw1 (hP2 : va_P G.1 vwCl ([oTo h cl se sh rh ar co cz tx nw, oSe se pe ta sn sb s, oPe pe lc ls ls lc dr p, oLa lc a, oLa ls b, oMs dr da, aI G da 9 f, aT G ta 3 (krow3 k), oTi (k 0) (T 0), oTi (k 1) (T 1), oTi (k 2) (T 2), aI G sn 4 N, aI G sb 4 B, oRo rh w rp, aM G w 8 (krow q), oMs (q 0) (d 0), aI G (d 0) 9 (M 0), oMs (q 1) (d 1), aI G (d 1) 9 (M 1), oMs (q 2) (d 2), aI G (d 2) 9 (M 2), oMs (q 3) (d 3), aI G (d 3) 9 (M 3), oMs (q 4) (d 4), aI G (d 4) 9 (M 4), oMs (q 5) (d 5), aI G (d 5) 9 (M 5), oMs (q 6) (d 6), aI G (d 6) 9 (M 6), oMs (q 7) (d 7), aI G (d 7) 9 (M 7), oRo sh sw rp2, aM G sw 8 (krow q2), oMs (q2 0) (d2 0), aI G (d2 0) 9 (M2 0), oMs (q2 1) (d2 1), aI G (d2 1) 9 (M2 1), oMs (q2 2) (d2 2), aI G (d2 2) 9 (M2 2), oMs (q2 3) (d2 3), aI G (d2 3) 9 (M2 3), oMs (q2 4) (d2 4), aI G (d2 4) 9 (M2 4), oMs (q2 5) (d2 5), aI G (d2 5) 9 (M2 5), oMs (q2 6) (d2 6), aI G (d2 6) 9 (M2 6), oMs (q2 7) (d2 7), aI G (d2 7) 9 (M2 7), oMs ar az, aI G az 9 z]) H2) (hD2 : va_D A ([oTo h cl se sh rh ar co cz tx nw, oSe se pe ta sn sb s, oPe pe lc ls ls lc dr p, oLa lc a, oLa ls b, oMs dr da, aI G da 9 f, aT G ta 3 (krow3 k), oTi (k 0) (T 0), oTi (k 1) (T 1), oTi (k 2) (T 2), aI G sn 4 N, aI G sb 4 B, oRo rh w rp, aM G w 8 (krow q), oMs (q 0) (d 0), aI G (d 0) 9 (M 0), oMs (q 1) (d 1), aI G (d 1) 9 (M 1), oMs (q 2) (d 2), aI G (d 2) 9 (M 2), oMs (q 3) (d 3), aI G (d 3) 9 (M 3), oMs (q 4) (d 4), aI G (d 4) 9 (M 4), oMs (q 5) (d 5), aI G (d 5) 9 (M 5), oMs (q 6) (d 6), aI G (d 6) 9 (M 6), oMs (q 7) (d 7), aI G (d 7) 9 (M 7), oRo sh sw rp2, aM G sw 8 (krow q2), oMs (q2 0) (d2 0), aI G (d2 0) 9 (M2 0), oMs (q2 1) (d2 1), aI G (d2 1) 9 (M2 1), oMs (q2 2) (d2 2), aI G (d2 2) 9 (M2 2), oMs (q2 3) (d2 3), aI G (d2 3) 9 (M2 3), oMs (q2 4) (d2 4), aI G (d2 4) 9 (M2 4), oMs (q2 5) (d2 5), aI G (d2 5) 9 (M2 5), oMs (q2 6) (d2 6), aI G (d2 6) 9 (M2 6), oMs (q2 7) (d2 7), aI G (d2 7) 9 (M2 7), oMs ar az, aI G az 9 z])) hS2 => ?_)
  clear hP0 hD0 hS0
  have w1_0 : r1 = kside 1 := hw1
  have g1 : r1 = 1 := w1_0.trans (by decide)
  clear w1_0
  subst g1
  refine lv_if_ne (tgt := 10) hx hb dX8_step_4 (by decide) (fun c3 => ?_) (fun c3 => ?_)
  · refine lv_aload_n hx hb dX8_step_10 rfl (lv_at hl0 0 rfl) ?_
    refine lv_iload_n hx hb dX8_step_11 rfl (lv_at hl0 1 rfl) ?_
    refine kVr (wr := [oSe se pe ta sn sb s, oPe pe lc ls ls lc dr p, oLa lc a, oLa ls b, oMs dr da, aI G da 9 f, aT G ta 3 (krow3 k), oTi (k 0) (T 0), oTi (k 1) (T 1), oTi (k 2) (T 2), aI G sn 4 N, aI G sb 4 B, oRo rh w rp, aM G w 8 (krow q), oMs (q 0) (d 0), aI G (d 0) 9 (M 0), oMs (q 1) (d 1), aI G (d 1) 9 (M 1), oMs (q 2) (d 2), aI G (d 2) 9 (M 2), oMs (q 3) (d 3), aI G (d 3) 9 (M 3), oMs (q 4) (d 4), aI G (d 4) 9 (M 4), oMs (q 5) (d 5), aI G (d 5) 9 (M 5), oMs (q 6) (d 6), aI G (d 6) 9 (M 6), oMs (q 7) (d 7), aI G (d 7) 9 (M 7), oRo sh sw rp2, aM G sw 8 (krow q2), oMs (q2 0) (d2 0), aI G (d2 0) 9 (M2 0), oMs (q2 1) (d2 1), aI G (d2 1) 9 (M2 1), oMs (q2 2) (d2 2), aI G (d2 2) 9 (M2 2), oMs (q2 3) (d2 3), aI G (d2 3) 9 (M2 3), oMs (q2 4) (d2 4), aI G (d2 4) 9 (M2 4), oMs (q2 5) (d2 5), aI G (d2 5) 9 (M2 5), oMs (q2 6) (d2 6), aI G (d2 6) 9 (M2 6), oMs (q2 7) (d2 7), aI G (d2 7) 9 (M2 7), oMs ar az, aI G az 9 z]) F hK hP2 hD2 hS2 hA hl0.1 (c_X8_roadTo1 l G h cl se sh rh ar co cz tx nw) [0] [1, 2, 3, 4, 5, 6, 7, 8, 9, 10, 11, 12, 13, 14, 15, 16, 17, 18, 19, 20, 21, 22, 23, 24, 25, 26, 27, 28, 29, 30, 31, 32, 33, 34, 35, 36, 37, 38, 39, 40, 41, 42, 43, 44, 45, 46, 47, 48, 49, 50] 8 0 gX8_step_X8_roadTo rfl 1 rfl (by decide +kernel) ⟨Nat.le_of_ble_eq_true rfl, Nat.le_of_ble_eq_true rfl⟩ ⟨Nat.zero_le _, Nat.zero_le _⟩ rfl rfl rfl rfl (by decide) (by decide) (by decide) (Nat.le_of_ble_eq_true rfl) rfl dX8_step_12 (fun u4 H5 locs5 hw4 (hP5 : va_P G.1 vwCl ([oSe se pe ta sn sb s, oPe pe lc ls ls lc dr p, oLa lc a, oLa ls b, oMs dr da, aI G da 9 f, aT G ta 3 (krow3 k), oTi (k 0) (T 0), oTi (k 1) (T 1), oTi (k 2) (T 2), aI G sn 4 N, aI G sb 4 B, oRo rh w rp, aM G w 8 (krow q), oMs (q 0) (d 0), aI G (d 0) 9 (M 0), oMs (q 1) (d 1), aI G (d 1) 9 (M 1), oMs (q 2) (d 2), aI G (d 2) 9 (M 2), oMs (q 3) (d 3), aI G (d 3) 9 (M 3), oMs (q 4) (d 4), aI G (d 4) 9 (M 4), oMs (q 5) (d 5), aI G (d 5) 9 (M 5), oMs (q 6) (d 6), aI G (d 6) 9 (M 6), oMs (q 7) (d 7), aI G (d 7) 9 (M 7), oRo sh sw rp2, aM G sw 8 (krow q2), oMs (q2 0) (d2 0), aI G (d2 0) 9 (M2 0), oMs (q2 1) (d2 1), aI G (d2 1) 9 (M2 1), oMs (q2 2) (d2 2), aI G (d2 2) 9 (M2 2), oMs (q2 3) (d2 3), aI G (d2 3) 9 (M2 3), oMs (q2 4) (d2 4), aI G (d2 4) 9 (M2 4), oMs (q2 5) (d2 5), aI G (d2 5) 9 (M2 5), oMs (q2 6) (d2 6), aI G (d2 6) 9 (M2 6), oMs (q2 7) (d2 7), aI G (d2 7) 9 (M2 7), oMs ar az, aI G az 9 z, oTo h cl se sh rh ar co cz tx nw]) H5) (hD5 : va_D A ([oSe se pe ta sn sb s, oPe pe lc ls ls lc dr p, oLa lc a, oLa ls b, oMs dr da, aI G da 9 f, aT G ta 3 (krow3 k), oTi (k 0) (T 0), oTi (k 1) (T 1), oTi (k 2) (T 2), aI G sn 4 N, aI G sb 4 B, oRo rh w rp, aM G w 8 (krow q), oMs (q 0) (d 0), aI G (d 0) 9 (M 0), oMs (q 1) (d 1), aI G (d 1) 9 (M 1), oMs (q 2) (d 2), aI G (d 2) 9 (M 2), oMs (q 3) (d 3), aI G (d 3) 9 (M 3), oMs (q 4) (d 4), aI G (d 4) 9 (M 4), oMs (q 5) (d 5), aI G (d 5) 9 (M 5), oMs (q 6) (d 6), aI G (d 6) 9 (M 6), oMs (q 7) (d 7), aI G (d 7) 9 (M 7), oRo sh sw rp2, aM G sw 8 (krow q2), oMs (q2 0) (d2 0), aI G (d2 0) 9 (M2 0), oMs (q2 1) (d2 1), aI G (d2 1) 9 (M2 1), oMs (q2 2) (d2 2), aI G (d2 2) 9 (M2 2), oMs (q2 3) (d2 3), aI G (d2 3) 9 (M2 3), oMs (q2 4) (d2 4), aI G (d2 4) 9 (M2 4), oMs (q2 5) (d2 5), aI G (d2 5) 9 (M2 5), oMs (q2 6) (d2 6), aI G (d2 6) 9 (M2 6), oMs (q2 7) (d2 7), aI G (d2 7) 9 (M2 7), oMs ar az, aI G az 9 z, oTo h cl se sh rh ar co cz tx nw])) hS5 => ?_)
    clear hP2 hD2 hS2
    refine lv_astore_n (lv' := [(2, .ref rh), (0, .ref h), (1, .int 1)]) hx hb dX8_step_15 rfl hl0 (by decide) rfl (fun ls6 hl6 => ?_)
    clear hl0
    refine lv_aload_n hx hb dX8_step_16 rfl (lv_at hl6 0 rfl) ?_
    refine kget F hK hP5 4 12 1 iX4 rfl rfl (by decide) (List.mem_of_getElem? (i := 1) rfl) rfl dX8_step_17 ?_
    refine lv_if_ne (tgt := 26) hx hb dX8_step_20 (by decide) (fun c7 => ?_) (fun c7 => ?_)
    · refine lv_aload_n hx hb dX8_step_26 rfl (lv_at hl6 0 rfl) ?_
      refine lv_aload_n hx hb dX8_step_27 rfl (lv_at hl6 1 rfl) ?_
      refine kget F hK hP5 8 50 4 iX8 rfl rfl (by decide) (List.mem_of_getElem? (i := 2) rfl) rfl dX8_step_28 ?_
      refine kVv (wr := [oSe se pe ta sn sb s, oPe pe lc ls ls lc dr p, oLa lc a, oLa ls b, oMs dr da, aI G da 9 f, aT G ta 3 (krow3 k), oTi (k 0) (T 0), oTi (k 1) (T 1), oTi (k 2) (T 2), aI G sn 4 N, aI G sb 4 B, oRo sh sw rp2, aM G sw 8 (krow q2), oMs (q2 0) (d2 0), aI G (d2 0) 9 (M2 0), oMs (q2 1) (d2 1), aI G (d2 1) 9 (M2 1), oMs (q2 2) (d2 2), aI G (d2 2) 9 (M2 2), oMs (q2 3) (d2 3), aI G (d2 3) 9 (M2 3), oMs (q2 4) (d2 4), aI G (d2 4) 9 (M2 4), oMs (q2 5) (d2 5), aI G (d2 5) 9 (M2 5), oMs (q2 6) (d2 6), aI G (d2 6) 9 (M2 6), oMs (q2 7) (d2 7), aI G (d2 7) 9 (M2 7), oTo h cl se sh rh ar co cz tx nw]) F hK hP5 hD5 hS5 hA hl6.1 (c_X4_takeFirst l G rh w q d rp M ar az z L hL hL1 hL8) [12, 13, 14, 15, 16, 17, 18, 19, 20, 21, 22, 23, 24, 25, 26, 27, 28, 29, 48, 49] [0, 1, 2, 3, 4, 5, 6, 7, 8, 9, 10, 11, 30, 31, 32, 33, 34, 35, 36, 37, 38, 39, 40, 41, 42, 43, 44, 45, 46, 47, 50] 4 0 gX8_step_X4_takeFirst rfl 1 rfl (by decide +kernel) ⟨Nat.le_of_ble_eq_true rfl, Nat.le_of_ble_eq_true rfl⟩ ⟨Nat.zero_le _, Nat.zero_le _⟩ rfl rfl rfl rfl (by decide) (by decide) (by decide) (Nat.le_of_ble_eq_true rfl) rfl dX8_step_31 (fun u8 H9 locs9 hw8 hP9 hD9 hS9 => ?_)
      obtain ⟨p_8, g_8⟩ := u8
      have hP9 : va_P G.1 vwCl ([oSe se pe ta sn sb s, oPe pe lc ls ls lc dr p, oLa lc a, oLa ls b, oMs dr da, aI G da 9 f, aT G ta 3 (krow3 k), oTi (k 0) (T 0), oTi (k 1) (T 1), oTi (k 2) (T 2), aI G sn 4 N, aI G sb 4 B, oRo sh sw rp2, aM G sw 8 (krow q2), oMs (q2 0) (d2 0), aI G (d2 0) 9 (M2 0), oMs (q2 1) (d2 1), aI G (d2 1) 9 (M2 1), oMs (q2 2) (d2 2), aI G (d2 2) 9 (M2 2), oMs (q2 3) (d2 3), aI G (d2 3) 9 (M2 3), oMs (q2 4) (d2 4), aI G (d2 4) 9 (M2 4), oMs (q2 5) (d2 5), aI G (d2 5) 9 (M2 5), oMs (q2 6) (d2 6), aI G (d2 6) 9 (M2 6), oMs (q2 7) (d2 7), aI G (d2 7) 9 (M2 7), oTo h cl se sh rh ar co cz tx nw, oRo rh w p_8, aM G w 8 (krow (krot q)), oMs (q 1) (d 1), aI G (d 1) 9 (M 1), oMs (q 2) (d 2), aI G (d 2) 9 (M 2), oMs (q 3) (d 3), aI G (d 3) 9 (M 3), oMs (q 4) (d 4), aI G (d 4) 9 (M 4), oMs (q 5) (d 5), aI G (d 5) 9 (M 5), oMs (q 6) (d 6), aI G (d 6) 9 (M 6), oMs (q 7) (d 7), aI G (d 7) 9 (M 7), oMs (q 0) (d 0), aI G (d 0) 9 (M 0), oMs ar az, aI G az 9 g_8]) H9 := hP9
      have hD9 : va_D A ([oSe se pe ta sn sb s, oPe pe lc ls ls lc dr p, oLa lc a, oLa ls b, oMs dr da, aI G da 9 f, aT G ta 3 (krow3 k), oTi (k 0) (T 0), oTi (k 1) (T 1), oTi (k 2) (T 2), aI G sn 4 N, aI G sb 4 B, oRo sh sw rp2, aM G sw 8 (krow q2), oMs (q2 0) (d2 0), aI G (d2 0) 9 (M2 0), oMs (q2 1) (d2 1), aI G (d2 1) 9 (M2 1), oMs (q2 2) (d2 2), aI G (d2 2) 9 (M2 2), oMs (q2 3) (d2 3), aI G (d2 3) 9 (M2 3), oMs (q2 4) (d2 4), aI G (d2 4) 9 (M2 4), oMs (q2 5) (d2 5), aI G (d2 5) 9 (M2 5), oMs (q2 6) (d2 6), aI G (d2 6) 9 (M2 6), oMs (q2 7) (d2 7), aI G (d2 7) 9 (M2 7), oTo h cl se sh rh ar co cz tx nw, oRo rh w p_8, aM G w 8 (krow (krot q)), oMs (q 1) (d 1), aI G (d 1) 9 (M 1), oMs (q 2) (d 2), aI G (d 2) 9 (M 2), oMs (q 3) (d 3), aI G (d 3) 9 (M 3), oMs (q 4) (d 4), aI G (d 4) 9 (M 4), oMs (q 5) (d 5), aI G (d 5) 9 (M 5), oMs (q 6) (d 6), aI G (d 6) 9 (M 6), oMs (q 7) (d 7), aI G (d 7) 9 (M 7), oMs (q 0) (d 0), aI G (d 0) 9 (M 0), oMs ar az, aI G az 9 g_8]) := hD9
      clear hP5 hD5 hS5
      have w8_0 : p_8 = upd rp 1 (rp 1 - 1) := hw8.1
      have w8_1 : g_8 = kcpy z (M 0) 9 := hw8.2
      refine lv_iload_n hx hb dX8_step_34 rfl (lv_at hl6 2 rfl) ?_
      refine lv_if_ne (tgt := 60) hx hb dX8_step_35 (by decide) (fun c10 => ?_) (fun c10 => ?_)
      · refine lv_aload_n hx hb dX8_step_60 rfl (lv_at hl6 1 rfl) ?_
        refine kget F hK hP9 8 30 1 iX8 rfl rfl (by decide) (List.mem_of_getElem? (i := 6) rfl) rfl dX8_step_61 ?_
        refine lv_aload_n hx hb dX8_step_64 rfl (lv_at hl6 1 rfl) ?_
        refine kget F hK hP9 8 30 4 iX8 rfl rfl (by decide) (List.mem_of_getElem? (i := 2) rfl) rfl dX8_step_65 ?_
        refine lv_aload_n hx hb dX8_step_68 rfl (lv_at hl6 1 rfl) ?_
        refine kget F hK hP9 8 30 8 iX8 rfl rfl (by decide) (List.mem_of_getElem? (i := 4) rfl) rfl dX8_step_69 ?_
        refine lv_aload_n hx hb dX8_step_72 rfl (lv_at hl6 1 rfl) ?_
        refine kget F hK hP9 8 30 2 iX8 rfl rfl (by decide) (List.mem_of_getElem? (i := 7) rfl) rfl dX8_step_73 ?_
        refine kVv (wr := [oTo h cl se sh rh ar co cz tx nw, oRo rh w p_8, aM G w 8 (krow (krot q)), oMs (q 1) (d 1), aI G (d 1) 9 (M 1), oMs (q 2) (d 2), aI G (d 2) 9 (M 2), oMs (q 3) (d 3), aI G (d 3) 9 (M 3), oMs (q 4) (d 4), aI G (d 4) 9 (M 4), oMs (q 5) (d 5), aI G (d 5) 9 (M 5), oMs (q 6) (d 6), aI G (d 6) 9 (M 6), oMs (q 7) (d 7), aI G (d 7) 9 (M 7), oMs (q 0) (d 0), aI G (d 0) 9 (M 0)]) F hK hP9 hD9 hS9 hA hl6.1 (c_X5_receive l G se pe ta sn sb lc ls dr da s p a b f N B k T sh sw q2 d2 rp2 M2 J E ar az g_8 (nw 8) hJ hJ8 hE hE4) [0, 1, 2, 3, 4, 5, 6, 7, 8, 9, 10, 11, 12, 13, 14, 15, 16, 17, 18, 19, 20, 21, 22, 23, 24, 25, 26, 27, 28, 29, 49, 50] [30, 31, 32, 33, 34, 35, 36, 37, 38, 39, 40, 41, 42, 43, 44, 45, 46, 47, 48] 5 0 gX8_step_X5_receive rfl 3 rfl (by decide +kernel) ⟨Nat.le_of_ble_eq_true rfl, Nat.le_of_ble_eq_true rfl⟩ ⟨Nat.zero_le _, Nat.zero_le _⟩ rfl rfl rfl rfl (by decide) (by decide) (by decide) (Nat.le_of_ble_eq_true rfl) rfl dX8_step_76 (fun u11 H12 locs12 hw11 hP12 hD12 hS12 => ?_)
        obtain ⟨s_11, p_11, a_11, b_11, f_11, N_11, B_11, rp_11, M_11⟩ := u11
        have hP12 : va_P G.1 vwCl ([oTo h cl se sh rh ar co cz tx nw, oRo rh w p_8, aM G w 8 (krow (krot q)), oMs (q 1) (d 1), aI G (d 1) 9 (M 1), oMs (q 2) (d 2), aI G (d 2) 9 (M 2), oMs (q 3) (d 3), aI G (d 3) 9 (M 3), oMs (q 4) (d 4), aI G (d 4) 9 (M 4), oMs (q 5) (d 5), aI G (d 5) 9 (M 5), oMs (q 6) (d 6), aI G (d 6) 9 (M 6), oMs (q 7) (d 7), aI G (d 7) 9 (M 7), oMs (q 0) (d 0), aI G (d 0) 9 (M 0), oSe se pe ta sn sb s_11, oPe pe lc ls ls lc dr p_11, oLa lc a_11, oLa ls b_11, oMs dr da, aI G da 9 f_11, aT G ta 3 (krow3 k), oTi (k 0) (T 0), oTi (k 1) (T 1), oTi (k 2) (T 2), aI G sn 4 N_11, aI G sb 4 B_11, oRo sh sw rp_11, aM G sw 8 (krow q2), oMs (q2 0) (d2 0), aI G (d2 0) 9 (M_11 0), oMs (q2 1) (d2 1), aI G (d2 1) 9 (M_11 1), oMs (q2 2) (d2 2), aI G (d2 2) 9 (M_11 2), oMs (q2 3) (d2 3), aI G (d2 3) 9 (M_11 3), oMs (q2 4) (d2 4), aI G (d2 4) 9 (M_11 4), oMs (q2 5) (d2 5), aI G (d2 5) 9 (M_11 5), oMs (q2 6) (d2 6), aI G (d2 6) 9 (M_11 6), oMs (q2 7) (d2 7), aI G (d2 7) 9 (M_11 7), oMs ar az, aI G az 9 g_8]) H12 := hP12
        have hD12 : va_D A ([oTo h cl se sh rh ar co cz tx nw, oRo rh w p_8, aM G w 8 (krow (krot q)), oMs (q 1) (d 1), aI G (d 1) 9 (M 1), oMs (q 2) (d 2), aI G (d 2) 9 (M 2), oMs (q 3) (d 3), aI G (d 3) 9 (M 3), oMs (q 4) (d 4), aI G (d 4) 9 (M 4), oMs (q 5) (d 5), aI G (d 5) 9 (M 5), oMs (q 6) (d 6), aI G (d 6) 9 (M 6), oMs (q 7) (d 7), aI G (d 7) 9 (M 7), oMs (q 0) (d 0), aI G (d 0) 9 (M 0), oSe se pe ta sn sb s_11, oPe pe lc ls ls lc dr p_11, oLa lc a_11, oLa ls b_11, oMs dr da, aI G da 9 f_11, aT G ta 3 (krow3 k), oTi (k 0) (T 0), oTi (k 1) (T 1), oTi (k 2) (T 2), aI G sn 4 N_11, aI G sb 4 B_11, oRo sh sw rp_11, aM G sw 8 (krow q2), oMs (q2 0) (d2 0), aI G (d2 0) 9 (M_11 0), oMs (q2 1) (d2 1), aI G (d2 1) 9 (M_11 1), oMs (q2 2) (d2 2), aI G (d2 2) 9 (M_11 2), oMs (q2 3) (d2 3), aI G (d2 3) 9 (M_11 3), oMs (q2 4) (d2 4), aI G (d2 4) 9 (M_11 4), oMs (q2 5) (d2 5), aI G (d2 5) 9 (M_11 5), oMs (q2 6) (d2 6), aI G (d2 6) 9 (M_11 6), oMs (q2 7) (d2 7), aI G (d2 7) 9 (M_11 7), oMs ar az, aI G az 9 g_8]) := hD12
        clear hP9 hD9 hS9
        have w11_0 : s_11 = (ksrvR J E s p a b f N B T rp2 M2 g_8 (nw 8)).1 := hw11.1
        have w11_1 : p_11 = (ksrvR J E s p a b f N B T rp2 M2 g_8 (nw 8)).2.1 := hw11.2.1
        have w11_2 : a_11 = (ksrvR J E s p a b f N B T rp2 M2 g_8 (nw 8)).2.2.1 := hw11.2.2.1
        have w11_3 : b_11 = (ksrvR J E s p a b f N B T rp2 M2 g_8 (nw 8)).2.2.2.1 := hw11.2.2.2.1
        have w11_4 : f_11 = (ksrvR J E s p a b f N B T rp2 M2 g_8 (nw 8)).2.2.2.2.1 := hw11.2.2.2.2.1
        have w11_5 : N_11 = (ksrvR J E s p a b f N B T rp2 M2 g_8 (nw 8)).2.2.2.2.2.1 := hw11.2.2.2.2.2.1
        have w11_6 : B_11 = (ksrvR J E s p a b f N B T rp2 M2 g_8 (nw 8)).2.2.2.2.2.2.1 := hw11.2.2.2.2.2.2.1
        have w11_7 : rp_11 = (ksrvR J E s p a b f N B T rp2 M2 g_8 (nw 8)).2.2.2.2.2.2.2.1 := hw11.2.2.2.2.2.2.2.1
        have w11_8 : M_11 = (ksrvR J E s p a b f N B T rp2 M2 g_8 (nw 8)).2.2.2.2.2.2.2.2 := hw11.2.2.2.2.2.2.2.2
        refine lv_aload_n hx hb dX8_step_79 rfl (lv_at hl6 1 rfl) ?_
        refine kget F hK hP12 8 0 4 iX8 rfl rfl (by decide) (List.mem_of_getElem? (i := 2) rfl) rfl dX8_step_80 ?_
        refine lv_iconst (v := 0) hx hb dX8_step_83 (by decide) ?_
        refine kVi (wr := [oTo h cl se sh rh ar co cz tx nw, oRo rh w p_8, aM G w 8 (krow (krot q)), oMs (q 1) (d 1), aI G (d 1) 9 (M 1), oMs (q 2) (d 2), aI G (d 2) 9 (M 2), oMs (q 3) (d 3), aI G (d 3) 9 (M 3), oMs (q 4) (d 4), aI G (d 4) 9 (M 4), oMs (q 5) (d 5), aI G (d 5) 9 (M 5), oMs (q 6) (d 6), aI G (d 6) 9 (M 6), oMs (q 7) (d 7), aI G (d 7) 9 (M 7), oMs (q 0) (d 0), aI G (d 0) 9 (M 0), oSe se pe ta sn sb s_11, oPe pe lc ls ls lc dr p_11, oLa lc a_11, oLa ls b_11, oMs dr da, aI G da 9 f_11, aT G ta 3 (krow3 k), oTi (k 0) (T 0), oTi (k 1) (T 1), oTi (k 2) (T 2), aI G sn 4 N_11, aI G sb 4 B_11, oRo sh sw rp_11, aM G sw 8 (krow q2), oMs (q2 0) (d2 0), aI G (d2 0) 9 (M_11 0), oMs (q2 1) (d2 1), aI G (d2 1) 9 (M_11 1), oMs (q2 2) (d2 2), aI G (d2 2) 9 (M_11 2), oMs (q2 3) (d2 3), aI G (d2 3) 9 (M_11 3), oMs (q2 4) (d2 4), aI G (d2 4) 9 (M_11 4), oMs (q2 5) (d2 5), aI G (d2 5) 9 (M_11 5), oMs (q2 6) (d2 6), aI G (d2 6) 9 (M_11 6), oMs (q2 7) (d2 7), aI G (d2 7) 9 (M_11 7)]) F hK hP12 hD12 hS12 hA hl6.1 (c_X2_at l G ar az g_8 0 (by first | assumption | decide | omega)) [49, 50] [0, 1, 2, 3, 4, 5, 6, 7, 8, 9, 10, 11, 12, 13, 14, 15, 16, 17, 18, 19, 20, 21, 22, 23, 24, 25, 26, 27, 28, 29, 30, 31, 32, 33, 34, 35, 36, 37, 38, 39, 40, 41, 42, 43, 44, 45, 46, 47, 48] 2 0 gX8_step_X2_at rfl 1 rfl (by decide +kernel) ⟨Nat.le_of_ble_eq_true rfl, Nat.le_of_ble_eq_true rfl⟩ ⟨Nat.zero_le _, Nat.zero_le _⟩ rfl rfl rfl rfl (by decide) (by decide) (by decide) (Nat.le_of_ble_eq_true rfl) rfl dX8_step_84 (fun r13 u13 H14 locs14 hw13 (hP14 : va_P G.1 vwCl ([oTo h cl se sh rh ar co cz tx nw, oRo rh w p_8, aM G w 8 (krow (krot q)), oMs (q 1) (d 1), aI G (d 1) 9 (M 1), oMs (q 2) (d 2), aI G (d 2) 9 (M 2), oMs (q 3) (d 3), aI G (d 3) 9 (M 3), oMs (q 4) (d 4), aI G (d 4) 9 (M 4), oMs (q 5) (d 5), aI G (d 5) 9 (M 5), oMs (q 6) (d 6), aI G (d 6) 9 (M 6), oMs (q 7) (d 7), aI G (d 7) 9 (M 7), oMs (q 0) (d 0), aI G (d 0) 9 (M 0), oSe se pe ta sn sb s_11, oPe pe lc ls ls lc dr p_11, oLa lc a_11, oLa ls b_11, oMs dr da, aI G da 9 f_11, aT G ta 3 (krow3 k), oTi (k 0) (T 0), oTi (k 1) (T 1), oTi (k 2) (T 2), aI G sn 4 N_11, aI G sb 4 B_11, oRo sh sw rp_11, aM G sw 8 (krow q2), oMs (q2 0) (d2 0), aI G (d2 0) 9 (M_11 0), oMs (q2 1) (d2 1), aI G (d2 1) 9 (M_11 1), oMs (q2 2) (d2 2), aI G (d2 2) 9 (M_11 2), oMs (q2 3) (d2 3), aI G (d2 3) 9 (M_11 3), oMs (q2 4) (d2 4), aI G (d2 4) 9 (M_11 4), oMs (q2 5) (d2 5), aI G (d2 5) 9 (M_11 5), oMs (q2 6) (d2 6), aI G (d2 6) 9 (M_11 6), oMs (q2 7) (d2 7), aI G (d2 7) 9 (M_11 7), oMs ar az, aI G az 9 g_8]) H14) (hD14 : va_D A ([oTo h cl se sh rh ar co cz tx nw, oRo rh w p_8, aM G w 8 (krow (krot q)), oMs (q 1) (d 1), aI G (d 1) 9 (M 1), oMs (q 2) (d 2), aI G (d 2) 9 (M 2), oMs (q 3) (d 3), aI G (d 3) 9 (M 3), oMs (q 4) (d 4), aI G (d 4) 9 (M 4), oMs (q 5) (d 5), aI G (d 5) 9 (M 5), oMs (q 6) (d 6), aI G (d 6) 9 (M 6), oMs (q 7) (d 7), aI G (d 7) 9 (M 7), oMs (q 0) (d 0), aI G (d 0) 9 (M 0), oSe se pe ta sn sb s_11, oPe pe lc ls ls lc dr p_11, oLa lc a_11, oLa ls b_11, oMs dr da, aI G da 9 f_11, aT G ta 3 (krow3 k), oTi (k 0) (T 0), oTi (k 1) (T 1), oTi (k 2) (T 2), aI G sn 4 N_11, aI G sb 4 B_11, oRo sh sw rp_11, aM G sw 8 (krow q2), oMs (q2 0) (d2 0), aI G (d2 0) 9 (M_11 0), oMs (q2 1) (d2 1), aI G (d2 1) 9 (M_11 1), oMs (q2 2) (d2 2), aI G (d2 2) 9 (M_11 2), oMs (q2 3) (d2 3), aI G (d2 3) 9 (M_11 3), oMs (q2 4) (d2 4), aI G (d2 4) 9 (M_11 4), oMs (q2 5) (d2 5), aI G (d2 5) 9 (M_11 5), oMs (q2 6) (d2 6), aI G (d2 6) 9 (M_11 6), oMs (q2 7) (d2 7), aI G (d2 7) 9 (M_11 7), oMs ar az, aI G az 9 g_8])) hS14 => ?_)
        clear hP12 hD12 hS12
        have w13_0 : r13 = g_8 0 := hw13
        have q15 : (r13 = kcpy z (M 0) 9 0) ∧ (p_8 = upd rp 1 (rp 1 - 1)) ∧ (g_8 = kcpy z (M 0) 9) ∧ (s_11 = (ksrvR J E s p a b f N B T rp2 M2 (kcpy z (M 0) 9) (nw 8)).1) ∧ (p_11 = (ksrvR J E s p a b f N B T rp2 M2 (kcpy z (M 0) 9) (nw 8)).2.1) ∧ (a_11 = (ksrvR J E s p a b f N B T rp2 M2 (kcpy z (M 0) 9) (nw 8)).2.2.1) ∧ (b_11 = (ksrvR J E s p a b f N B T rp2 M2 (kcpy z (M 0) 9) (nw 8)).2.2.2.1) ∧ (f_11 = (ksrvR J E s p a b f N B T rp2 M2 (kcpy z (M 0) 9) (nw 8)).2.2.2.2.1) ∧ (N_11 = (ksrvR J E s p a b f N B T rp2 M2 (kcpy z (M 0) 9) (nw 8)).2.2.2.2.2.1) ∧ (B_11 = (ksrvR J E s p a b f N B T rp2 M2 (kcpy z (M 0) 9) (nw 8)).2.2.2.2.2.2.1) ∧ (rp_11 = (ksrvR J E s p a b f N B T rp2 M2 (kcpy z (M 0) 9) (nw 8)).2.2.2.2.2.2.2.1) ∧ (M_11 = (ksrvR J E s p a b f N B T rp2 M2 (kcpy z (M 0) 9) (nw 8)).2.2.2.2.2.2.2.2) := by
          subst w13_0
          subst w11_8
          subst w11_7
          subst w11_6
          subst w11_5
          subst w11_4
          subst w11_3
          subst w11_2
          subst w11_1
          subst w11_0
          subst w8_1
          subst w8_0
          first | (simp only [c3, c7, c10, eq_self, ↓reduceIte, and_self, and_true, true_and]; done) | (simp only [c3, c7, c10, eq_self, ↓reduceIte, and_self, and_true, true_and]; (try and_intros) <;> rfl)
        exact kRi F hr hlocks hS14 dX8_step_87 ⟨p_8, g_8, s_11, p_11, a_11, b_11, f_11, N_11, B_11, rp_11, M_11⟩ q15 (hP14.sub [0, 19, 20, 21, 22, 23, 24, 25, 26, 27, 28, 29, 30, 1, 2, 3, 4, 5, 6, 7, 8, 9, 10, 11, 12, 13, 14, 15, 16, 17, 18, 31, 32, 33, 34, 35, 36, 37, 38, 39, 40, 41, 42, 43, 44, 45, 46, 47, 48, 49, 50] rfl) (hD14.sub [0, 19, 20, 21, 22, 23, 24, 25, 26, 27, 28, 29, 30, 1, 2, 3, 4, 5, 6, 7, 8, 9, 10, 11, 12, 13, 14, 15, 16, 17, 18, 31, 32, 33, 34, 35, 36, 37, 38, 39, 40, 41, 42, 43, 44, 45, 46, 47, 48, 49, 50] (by decide) rfl)
      · exact absurd c10 (by decide)
    · exact absurd c7 (by rw [hL]; exact nI_ne0 (by omega) (by omega))
  · exact absurd c3 (by decide)
set_option maxHeartbeats 1000000 in
set_option maxRecDepth 100000 in
theorem c_X8_ticketN (l : Launch) (G : kG) (h : Nat) (cl : Nat) (se : Nat) (rc : Nat) (rs : Nat) (ar : Nat) (co : Nat) (cz : Nat) (tx : Nat) (nw : Nat → Int32) (pe : Nat) (ta : Nat) (sn : Nat) (sb : Nat) (s : Nat → Int32) (lc : Nat) (ls : Nat) (dr : Nat) (p : Nat → Int32) (v : Int32) (hno : v < 0 ∨ ¬ v ≤ 99 ∨ ¬ p 3 = 4 ∨ ¬ p 6 = 3) : kM G l yX8_ticket wsX8_ticket ({ frames := 0, cells := 0, slots := 0, locals := 0 }) [.ref h, .int v] ([oTo h cl se rc rs ar co cz tx nw, oSe se pe ta sn sb s, oPe pe lc ls ls lc dr p]) (kQi G (fun (rr : Int32) (uu : Unit) => rr = ktickN p v) (fun (uu : Unit) => [oTo h cl se rc rs ar co cz tx nw, oSe se pe ta sn sb s, oPe pe lc ls ls lc dr p])) := by
  refine kStart (cc := cX8_ticket) (maxL := 2) (ret := (some .int)) (by decide) rfl (Nat.le_of_ble_eq_true rfl) (fun pg ev st mi bl mt cd A ls0 F hr hlocks hin hK hP0 hD0 hA hS0 hl0 => ?_)
  obtain ⟨hx, hb, hml, hown, hts⟩ := id F
  have hl0 : lv_has ls0 2 [(0, .ref h), (1, .int v)] := hl0
  have iX3 : ∀ w ∈ u_ws RX3 TX3 18, w ∈ wsX8_ticket := fun w h => List.mem_cons_of_mem _ (List.mem_append_left _ (List.mem_append_left _ (List.mem_append_left _ (List.mem_append_right _ h))))
  have iX5 : ∀ w ∈ u_ws RX5 TX5 9, w ∈ wsX8_ticket := fun w h => List.mem_cons_of_mem _ (List.mem_append_left _ (List.mem_append_left _ (List.mem_append_left _ (List.mem_append_left _ (List.mem_append_right _ h)))))
  have iX8 : ∀ w ∈ u_ws RX8 TX8 9, w ∈ wsX8_ticket := fun w h => List.mem_cons_of_mem _ (List.mem_append_left _ (List.mem_append_left _ (List.mem_append_left _ (List.mem_append_left _ (List.mem_append_left _ (List.mem_append_right _ h))))))
  refine lv_iload_n hx hb dX8_ticket_0 rfl (lv_at hl0 1 rfl) ?_
  refine lv_if_lt (tgt := 10) hx hb dX8_ticket_1 (by decide) (fun c1 => ?_) (fun c1 => ?_)
  · refine lv_bipush (v := (-3)) hx hb dX8_ticket_10 (by decide) ?_
    have q2 : (-3) = ktickN p v := by
      first | (simp only [ktickN, eq_true c1, eq_self, ↓reduceIte, and_self, and_true, true_and]; done) | (simp only [ktickN, eq_true c1, eq_self, ↓reduceIte, and_self, and_true, true_and]; (try and_intros) <;> rfl)
    exact kRi F hr hlocks hS0 dX8_ticket_12 () q2 hP0 hD0
  · refine lv_iload_n hx hb dX8_ticket_4 rfl (lv_at hl0 1 rfl) ?_
    refine lv_bipush (v := 99) hx hb dX8_ticket_5 (by decide) ?_
    refine lv_icmp_le (tgt := 13) hx hb dX8_ticket_7 (by decide) (fun c3 => ?_) (fun c3 => ?_)
    · refine lv_aload_n hx hb dX8_ticket_13 rfl (lv_at hl0 0 rfl) ?_
      refine kget F hK hP0 8 0 1 iX8 rfl rfl (by decide) (List.mem_of_getElem? (i := 1) rfl) rfl dX8_ticket_14 ?_
      refine kget F hK hP0 5 1 0 iX5 rfl rfl (by decide) (List.mem_of_getElem? (i := 2) rfl) rfl dX8_ticket_17 ?_
      refine kget F hK hP0 3 2 3 iX3 rfl rfl (by decide) (List.mem_of_getElem? (i := 3) rfl) rfl dX8_ticket_20 ?_
      refine lv_iconst (v := 4) hx hb dX8_ticket_23 (by decide) ?_
      refine lv_icmp_ne (tgt := 41) hx hb dX8_ticket_24 (by decide) (fun c4 => ?_) (fun c4 => ?_)
      · refine lv_bipush (v := (-4)) hx hb dX8_ticket_41 (by decide) ?_
        have q5 : (-4) = ktickN p v := by
          first | (simp only [ktickN, c1, eq_true c3, c4, eq_self, ↓reduceIte, and_self, and_true, true_and]; done) | (simp only [ktickN, c1, eq_true c3, c4, eq_self, ↓reduceIte, and_self, and_true, true_and]; (try and_intros) <;> rfl)
        exact kRi F hr hlocks hS0 dX8_ticket_43 () q5 hP0 hD0
      · refine lv_aload_n hx hb dX8_ticket_27 rfl (lv_at hl0 0 rfl) ?_
        refine kget F hK hP0 8 0 1 iX8 rfl rfl (by decide) (List.mem_of_getElem? (i := 1) rfl) rfl dX8_ticket_28 ?_
        refine kget F hK hP0 5 1 0 iX5 rfl rfl (by decide) (List.mem_of_getElem? (i := 2) rfl) rfl dX8_ticket_31 ?_
        refine kget F hK hP0 3 2 6 iX3 rfl rfl (by decide) (List.mem_of_getElem? (i := 4) rfl) rfl dX8_ticket_34 ?_
        refine lv_iconst (v := 3) hx hb dX8_ticket_37 (by decide) ?_
        refine lv_icmp_eq (tgt := 44) hx hb dX8_ticket_38 (by decide) (fun c6 => ?_) (fun c6 => ?_)
        · exact absurd hno (by simp only [c1, eq_true c3, eq_true c4, eq_true c6, not_true_eq_false, or_self, not_false_eq_true])
        · refine lv_bipush (v := (-4)) hx hb dX8_ticket_41 (by decide) ?_
          have q7 : (-4) = ktickN p v := by
            first | (simp only [ktickN, c1, eq_true c3, eq_true c4, c6, eq_self, ↓reduceIte, and_self, and_true, true_and]; done) | (simp only [ktickN, c1, eq_true c3, eq_true c4, c6, eq_self, ↓reduceIte, and_self, and_true, true_and]; (try and_intros) <;> rfl)
          exact kRi F hr hlocks hS0 dX8_ticket_43 () q7 hP0 hD0
    · refine lv_bipush (v := (-3)) hx hb dX8_ticket_10 (by decide) ?_
      have q8 : (-3) = ktickN p v := by
        first | (simp only [ktickN, c1, c3, eq_self, ↓reduceIte, and_self, and_true, true_and]; done) | (simp only [ktickN, c1, c3, eq_self, ↓reduceIte, and_self, and_true, true_and]; (try and_intros) <;> rfl)
      exact kRi F hr hlocks hS0 dX8_ticket_12 () q8 hP0 hD0
set_option maxHeartbeats 1000000 in
set_option maxRecDepth 100000 in
theorem c_X8_ticketA (l : Launch) (G : kG) (h : Nat) (cl : Nat) (se : Nat) (rs : Nat) (ar : Nat) (co : Nat) (cz : Nat) (tx : Nat) (nw : Nat → Int32) (pe : Nat) (ta : Nat) (sn : Nat) (sb : Nat) (s : Nat → Int32) (lc : Nat) (ls : Nat) (dr : Nat) (da : Nat) (p : Nat → Int32) (f : Nat → Int32) (k : Nat → Nat) (T : Nat → Nat → Int32) (rh : Nat) (w : Nat) (q : Nat → Nat) (d : Nat → Nat) (rp : Nat → Int32) (M : Nat → Nat → Int32) (L : Nat) (v : Int32) (K : Nat) (h0 : ¬ v < 0) (h99 : v ≤ 99) (hj : p 3 = 4) (hv3 : p 6 = 3) (hL : rp 1 = nI L) (hL8 : L ≤ 8) (hKe : s 2 = nI K) (lK : K < 3) : kM G l yX8_ticket wsX8_ticket ({ frames := 3, cells := 0, slots := 0, locals := 67 }) [.ref h, .int v] ([oTo h cl se rh rs ar co cz tx nw, oSe se pe ta sn sb s, oPe pe lc ls ls lc dr p, oMs dr da, aI G da 9 f, aT G ta 3 (krow3 k), oTi (k 0) (T 0), oTi (k 1) (T 1), oTi (k 2) (T 2), oRo rh w rp, aM G w 8 (krow q), oMs (q 0) (d 0), aI G (d 0) 9 (M 0), oMs (q 1) (d 1), aI G (d 1) 9 (M 1), oMs (q 2) (d 2), aI G (d 2) 9 (M 2), oMs (q 3) (d 3), aI G (d 3) 9 (M 3), oMs (q 4) (d 4), aI G (d 4) 9 (M 4), oMs (q 5) (d 5), aI G (d 5) 9 (M 5), oMs (q 6) (d 6), aI G (d 6) 9 (M 6), oMs (q 7) (d 7), aI G (d 7) 9 (M 7)]) (kQi G (fun (rr : Int32) (uu : (Nat → Int32) × (Nat → Int32) × (Nat → Nat → Int32) × (Nat → Int32) × (Nat → Nat → Int32)) => (rr = s 3 + 1) ∧ (uu.1 = upd (upd s 3 (s 3 + 1)) 2 (s 2 + 1)) ∧ (uu.2.1 = ktkm p f (s 3 + 1) v) ∧ (uu.2.2.1 = va_up T K (ktk (T K) (s 3 + 1) v (nw 8) (kmix (p 10) (s 3 + 1)) (kmix (s 3 + 1) 77))) ∧ (uu.2.2.2.1 = ksendP L rp) ∧ (uu.2.2.2.2 = ksendM L M (ktkm p f (s 3 + 1) v))) (fun (uu : (Nat → Int32) × (Nat → Int32) × (Nat → Nat → Int32) × (Nat → Int32) × (Nat → Nat → Int32)) => [oTo h cl se rh rs ar co cz tx nw, oSe se pe ta sn sb uu.1, oPe pe lc ls ls lc dr p, oMs dr da, aI G da 9 uu.2.1, aT G ta 3 (krow3 k), oTi (k 0) (uu.2.2.1 0), oTi (k 1) (uu.2.2.1 1), oTi (k 2) (uu.2.2.1 2), oRo rh w uu.2.2.2.1, aM G w 8 (krow q), oMs (q 0) (d 0), aI G (d 0) 9 (uu.2.2.2.2 0), oMs (q 1) (d 1), aI G (d 1) 9 (uu.2.2.2.2 1), oMs (q 2) (d 2), aI G (d 2) 9 (uu.2.2.2.2 2), oMs (q 3) (d 3), aI G (d 3) 9 (uu.2.2.2.2 3), oMs (q 4) (d 4), aI G (d 4) 9 (uu.2.2.2.2 4), oMs (q 5) (d 5), aI G (d 5) 9 (uu.2.2.2.2 5), oMs (q 6) (d 6), aI G (d 6) 9 (uu.2.2.2.2 6), oMs (q 7) (d 7), aI G (d 7) 9 (uu.2.2.2.2 7)])) := by
  refine kStart (cc := cX8_ticket) (maxL := 2) (ret := (some .int)) (by decide) rfl (Nat.le_of_ble_eq_true rfl) (fun pg ev st mi bl mt cd A ls0 F hr hlocks hin hK hP0 hD0 hA hS0 hl0 => ?_)
  obtain ⟨hx, hb, hml, hown, hts⟩ := id F
  have hl0 : lv_has ls0 2 [(0, .ref h), (1, .int v)] := hl0
  have iX3 : ∀ w ∈ u_ws RX3 TX3 18, w ∈ wsX8_ticket := fun w h => List.mem_cons_of_mem _ (List.mem_append_left _ (List.mem_append_left _ (List.mem_append_left _ (List.mem_append_right _ h))))
  have iX5 : ∀ w ∈ u_ws RX5 TX5 9, w ∈ wsX8_ticket := fun w h => List.mem_cons_of_mem _ (List.mem_append_left _ (List.mem_append_left _ (List.mem_append_left _ (List.mem_append_left _ (List.mem_append_right _ h)))))
  have iX8 : ∀ w ∈ u_ws RX8 TX8 9, w ∈ wsX8_ticket := fun w h => List.mem_cons_of_mem _ (List.mem_append_left _ (List.mem_append_left _ (List.mem_append_left _ (List.mem_append_left _ (List.mem_append_left _ (List.mem_append_right _ h))))))
  refine lv_iload_n hx hb dX8_ticket_0 rfl (lv_at hl0 1 rfl) ?_
  refine lv_if_lt (tgt := 10) hx hb dX8_ticket_1 (by decide) (fun c1 => ?_) (fun c1 => ?_)
  · exact absurd c1 h0
  · refine lv_iload_n hx hb dX8_ticket_4 rfl (lv_at hl0 1 rfl) ?_
    refine lv_bipush (v := 99) hx hb dX8_ticket_5 (by decide) ?_
    refine lv_icmp_le (tgt := 13) hx hb dX8_ticket_7 (by decide) (fun c2 => ?_) (fun c2 => ?_)
    · refine lv_aload_n hx hb dX8_ticket_13 rfl (lv_at hl0 0 rfl) ?_
      refine kget F hK hP0 8 0 1 iX8 rfl rfl (by decide) (List.mem_of_getElem? (i := 1) rfl) rfl dX8_ticket_14 ?_
      refine kget F hK hP0 5 1 0 iX5 rfl rfl (by decide) (List.mem_of_getElem? (i := 2) rfl) rfl dX8_ticket_17 ?_
      refine kget F hK hP0 3 2 3 iX3 rfl rfl (by decide) (List.mem_of_getElem? (i := 3) rfl) rfl dX8_ticket_20 ?_
      refine lv_iconst (v := 4) hx hb dX8_ticket_23 (by decide) ?_
      refine lv_icmp_ne (tgt := 41) hx hb dX8_ticket_24 (by decide) (fun c3 => ?_) (fun c3 => ?_)
      · exact absurd hj c3
      · refine lv_aload_n hx hb dX8_ticket_27 rfl (lv_at hl0 0 rfl) ?_
        refine kget F hK hP0 8 0 1 iX8 rfl rfl (by decide) (List.mem_of_getElem? (i := 1) rfl) rfl dX8_ticket_28 ?_
        refine kget F hK hP0 5 1 0 iX5 rfl rfl (by decide) (List.mem_of_getElem? (i := 2) rfl) rfl dX8_ticket_31 ?_
        refine kget F hK hP0 3 2 6 iX3 rfl rfl (by decide) (List.mem_of_getElem? (i := 4) rfl) rfl dX8_ticket_34 ?_
        refine lv_iconst (v := 3) hx hb dX8_ticket_37 (by decide) ?_
        refine lv_icmp_eq (tgt := 44) hx hb dX8_ticket_38 (by decide) (fun c4 => ?_) (fun c4 => ?_)
        · refine lv_aload_n hx hb dX8_ticket_44 rfl (lv_at hl0 0 rfl) ?_
          refine kget F hK hP0 8 0 1 iX8 rfl rfl (by decide) (List.mem_of_getElem? (i := 1) rfl) rfl dX8_ticket_45 ?_
          refine lv_iload_n hx hb dX8_ticket_48 rfl (lv_at hl0 1 rfl) ?_
          refine lv_aload_n hx hb dX8_ticket_49 rfl (lv_at hl0 0 rfl) ?_
          refine kget F hK hP0 8 0 8 iX8 rfl rfl (by decide) (List.mem_of_getElem? (i := 5) rfl) rfl dX8_ticket_50 ?_
          refine lv_aload_n hx hb dX8_ticket_53 rfl (lv_at hl0 0 rfl) ?_
          refine kget F hK hP0 8 0 2 iX8 rfl rfl (by decide) (List.mem_of_getElem? (i := 6) rfl) rfl dX8_ticket_54 ?_
          refine kVi (wr := [oTo h cl se rh rs ar co cz tx nw]) F hK hP0 hD0 hS0 hA hl0.1 (c_X5_makeTicketA l G se pe ta sn sb lc ls ls lc dr da s p f k T rh w q d rp M L v (nw 8) K hL hL8 hKe lK) [1, 2, 3, 4, 5, 6, 7, 8, 9, 10, 11, 12, 13, 14, 15, 16, 17, 18, 19, 20, 21, 22, 23, 24, 25, 26] [0] 5 0 gX8_ticket_X5_makeTicket rfl 3 rfl (by decide +kernel) ⟨Nat.le_of_ble_eq_true rfl, Nat.le_of_ble_eq_true rfl⟩ ⟨Nat.zero_le _, Nat.zero_le _⟩ rfl rfl rfl rfl (by decide) (by decide) (by decide) (Nat.le_of_ble_eq_true rfl) rfl dX8_ticket_57 (fun r5 u5 H6 locs6 hw5 hP6 hD6 hS6 => ?_)
          obtain ⟨s_5, f_5, T_5, rp_5, M_5⟩ := u5
          have hP6 : va_P G.1 vwCl ([oTo h cl se rh rs ar co cz tx nw, oSe se pe ta sn sb s_5, oPe pe lc ls ls lc dr p, oMs dr da, aI G da 9 f_5, aT G ta 3 (krow3 k), oTi (k 0) (T_5 0), oTi (k 1) (T_5 1), oTi (k 2) (T_5 2), oRo rh w rp_5, aM G w 8 (krow q), oMs (q 0) (d 0), aI G (d 0) 9 (M_5 0), oMs (q 1) (d 1), aI G (d 1) 9 (M_5 1), oMs (q 2) (d 2), aI G (d 2) 9 (M_5 2), oMs (q 3) (d 3), aI G (d 3) 9 (M_5 3), oMs (q 4) (d 4), aI G (d 4) 9 (M_5 4), oMs (q 5) (d 5), aI G (d 5) 9 (M_5 5), oMs (q 6) (d 6), aI G (d 6) 9 (M_5 6), oMs (q 7) (d 7), aI G (d 7) 9 (M_5 7)]) H6 := hP6
          have hD6 : va_D A ([oTo h cl se rh rs ar co cz tx nw, oSe se pe ta sn sb s_5, oPe pe lc ls ls lc dr p, oMs dr da, aI G da 9 f_5, aT G ta 3 (krow3 k), oTi (k 0) (T_5 0), oTi (k 1) (T_5 1), oTi (k 2) (T_5 2), oRo rh w rp_5, aM G w 8 (krow q), oMs (q 0) (d 0), aI G (d 0) 9 (M_5 0), oMs (q 1) (d 1), aI G (d 1) 9 (M_5 1), oMs (q 2) (d 2), aI G (d 2) 9 (M_5 2), oMs (q 3) (d 3), aI G (d 3) 9 (M_5 3), oMs (q 4) (d 4), aI G (d 4) 9 (M_5 4), oMs (q 5) (d 5), aI G (d 5) 9 (M_5 5), oMs (q 6) (d 6), aI G (d 6) 9 (M_5 6), oMs (q 7) (d 7), aI G (d 7) 9 (M_5 7)]) := hD6
          clear hP0 hD0 hS0
          have w5_0 : r5 = s 3 + 1 := hw5.1
          have w5_1 : s_5 = upd (upd s 3 (s 3 + 1)) 2 (s 2 + 1) := hw5.2.1
          have w5_2 : f_5 = ktkm p f (s 3 + 1) v := hw5.2.2.1
          have w5_3 : T_5 = va_up T K (ktk (T K) (s 3 + 1) v (nw 8) (kmix (p 10) (s 3 + 1)) (kmix (s 3 + 1) 77)) := hw5.2.2.2.1
          have w5_4 : rp_5 = ksendP L rp := hw5.2.2.2.2.1
          have w5_5 : M_5 = ksendM L M (ktkm p f (s 3 + 1) v) := hw5.2.2.2.2.2
          have q7 : (r5 = s 3 + 1) ∧ (s_5 = upd (upd s 3 (s 3 + 1)) 2 (s 2 + 1)) ∧ (f_5 = ktkm p f (s 3 + 1) v) ∧ (T_5 = va_up T K (ktk (T K) (s 3 + 1) v (nw 8) (kmix (p 10) (s 3 + 1)) (kmix (s 3 + 1) 77))) ∧ (rp_5 = ksendP L rp) ∧ (M_5 = ksendM L M (ktkm p f (s 3 + 1) v)) := by
            subst w5_5
            subst w5_4
            subst w5_3
            subst w5_2
            subst w5_1
            subst w5_0
            first | (simp only [c1, eq_true c2, eq_true c3, eq_true c4, eq_self, ↓reduceIte, and_self, and_true, true_and]; done) | (simp only [c1, eq_true c2, eq_true c3, eq_true c4, eq_self, ↓reduceIte, and_self, and_true, true_and]; (try and_intros) <;> rfl)
          exact kRi F hr hlocks hS6 dX8_ticket_60 ⟨s_5, f_5, T_5, rp_5, M_5⟩ q7 hP6 hD6
        · exact absurd hv3 c4
    · exact absurd h99 c2
set_option maxHeartbeats 1000000 in
set_option maxRecDepth 100000 in
theorem c_X8_ticketB (l : Launch) (G : kG) (h : Nat) (cl : Nat) (se : Nat) (rs : Nat) (ar : Nat) (co : Nat) (cz : Nat) (tx : Nat) (nw : Nat → Int32) (pe : Nat) (ta : Nat) (sn : Nat) (sb : Nat) (s : Nat → Int32) (lc : Nat) (ls : Nat) (dr : Nat) (da : Nat) (p : Nat → Int32) (f : Nat → Int32) (k : Nat → Nat) (T : Nat → Nat → Int32) (rh : Nat) (w : Nat) (q : Nat → Nat) (d : Nat → Nat) (rp : Nat → Int32) (M : Nat → Nat → Int32) (L : Nat) (v : Int32) (h0 : ¬ v < 0) (h99 : v ≤ 99) (hj : p 3 = 4) (hv3 : p 6 = 3) (hL : rp 1 = nI L) (hL8 : L ≤ 8) (hKe : s 2 = nI 3) : kM G l yX8_ticket wsX8_ticket ({ frames := 3, cells := 0, slots := 0, locals := 67 }) [.ref h, .int v] ([oTo h cl se rh rs ar co cz tx nw, oSe se pe ta sn sb s, oPe pe lc ls ls lc dr p, oMs dr da, aI G da 9 f, aT G ta 3 (krow3 k), oTi (k 0) (T 0), oTi (k 1) (T 1), oTi (k 2) (T 2), oRo rh w rp, aM G w 8 (krow q), oMs (q 0) (d 0), aI G (d 0) 9 (M 0), oMs (q 1) (d 1), aI G (d 1) 9 (M 1), oMs (q 2) (d 2), aI G (d 2) 9 (M 2), oMs (q 3) (d 3), aI G (d 3) 9 (M 3), oMs (q 4) (d 4), aI G (d 4) 9 (M 4), oMs (q 5) (d 5), aI G (d 5) 9 (M 5), oMs (q 6) (d 6), aI G (d 6) 9 (M 6), oMs (q 7) (d 7), aI G (d 7) 9 (M 7)]) (kQi G (fun (rr : Int32) (uu : (Nat → Int32) × (Nat → Int32) × (Nat → Int32) × (Nat → Int32) × (Nat → Nat → Int32)) => (rr = s 3 + 1) ∧ (uu.1 = upd s 3 (s 3 + 1)) ∧ (uu.2.1 = ktkm p f (s 3 + 1) v) ∧ (uu.2.2.1 = ktk (T 0) (s 3 + 1) v (nw 8) (kmix (p 10) (s 3 + 1)) (kmix (s 3 + 1) 77)) ∧ (uu.2.2.2.1 = ksendP L rp) ∧ (uu.2.2.2.2 = ksendM L M (ktkm p f (s 3 + 1) v))) (fun (uu : (Nat → Int32) × (Nat → Int32) × (Nat → Int32) × (Nat → Int32) × (Nat → Nat → Int32)) => [oTo h cl se rh rs ar co cz tx nw, oSe se pe ta sn sb uu.1, oPe pe lc ls ls lc dr p, oMs dr da, aI G da 9 uu.2.1, aT G ta 3 (krow3 (krot3 k)), oTi (k 1) (T 1), oTi (k 2) (T 2), oTi (k 0) uu.2.2.1, oRo rh w uu.2.2.2.1, aM G w 8 (krow q), oMs (q 0) (d 0), aI G (d 0) 9 (uu.2.2.2.2 0), oMs (q 1) (d 1), aI G (d 1) 9 (uu.2.2.2.2 1), oMs (q 2) (d 2), aI G (d 2) 9 (uu.2.2.2.2 2), oMs (q 3) (d 3), aI G (d 3) 9 (uu.2.2.2.2 3), oMs (q 4) (d 4), aI G (d 4) 9 (uu.2.2.2.2 4), oMs (q 5) (d 5), aI G (d 5) 9 (uu.2.2.2.2 5), oMs (q 6) (d 6), aI G (d 6) 9 (uu.2.2.2.2 6), oMs (q 7) (d 7), aI G (d 7) 9 (uu.2.2.2.2 7)])) := by
  refine kStart (cc := cX8_ticket) (maxL := 2) (ret := (some .int)) (by decide) rfl (Nat.le_of_ble_eq_true rfl) (fun pg ev st mi bl mt cd A ls0 F hr hlocks hin hK hP0 hD0 hA hS0 hl0 => ?_)
  obtain ⟨hx, hb, hml, hown, hts⟩ := id F
  have hl0 : lv_has ls0 2 [(0, .ref h), (1, .int v)] := hl0
  have iX3 : ∀ w ∈ u_ws RX3 TX3 18, w ∈ wsX8_ticket := fun w h => List.mem_cons_of_mem _ (List.mem_append_left _ (List.mem_append_left _ (List.mem_append_left _ (List.mem_append_right _ h))))
  have iX5 : ∀ w ∈ u_ws RX5 TX5 9, w ∈ wsX8_ticket := fun w h => List.mem_cons_of_mem _ (List.mem_append_left _ (List.mem_append_left _ (List.mem_append_left _ (List.mem_append_left _ (List.mem_append_right _ h)))))
  have iX8 : ∀ w ∈ u_ws RX8 TX8 9, w ∈ wsX8_ticket := fun w h => List.mem_cons_of_mem _ (List.mem_append_left _ (List.mem_append_left _ (List.mem_append_left _ (List.mem_append_left _ (List.mem_append_left _ (List.mem_append_right _ h))))))
  refine lv_iload_n hx hb dX8_ticket_0 rfl (lv_at hl0 1 rfl) ?_
  refine lv_if_lt (tgt := 10) hx hb dX8_ticket_1 (by decide) (fun c1 => ?_) (fun c1 => ?_)
  · exact absurd c1 h0
  · refine lv_iload_n hx hb dX8_ticket_4 rfl (lv_at hl0 1 rfl) ?_
    refine lv_bipush (v := 99) hx hb dX8_ticket_5 (by decide) ?_
    refine lv_icmp_le (tgt := 13) hx hb dX8_ticket_7 (by decide) (fun c2 => ?_) (fun c2 => ?_)
    · refine lv_aload_n hx hb dX8_ticket_13 rfl (lv_at hl0 0 rfl) ?_
      refine kget F hK hP0 8 0 1 iX8 rfl rfl (by decide) (List.mem_of_getElem? (i := 1) rfl) rfl dX8_ticket_14 ?_
      refine kget F hK hP0 5 1 0 iX5 rfl rfl (by decide) (List.mem_of_getElem? (i := 2) rfl) rfl dX8_ticket_17 ?_
      refine kget F hK hP0 3 2 3 iX3 rfl rfl (by decide) (List.mem_of_getElem? (i := 3) rfl) rfl dX8_ticket_20 ?_
      refine lv_iconst (v := 4) hx hb dX8_ticket_23 (by decide) ?_
      refine lv_icmp_ne (tgt := 41) hx hb dX8_ticket_24 (by decide) (fun c3 => ?_) (fun c3 => ?_)
      · exact absurd hj c3
      · refine lv_aload_n hx hb dX8_ticket_27 rfl (lv_at hl0 0 rfl) ?_
        refine kget F hK hP0 8 0 1 iX8 rfl rfl (by decide) (List.mem_of_getElem? (i := 1) rfl) rfl dX8_ticket_28 ?_
        refine kget F hK hP0 5 1 0 iX5 rfl rfl (by decide) (List.mem_of_getElem? (i := 2) rfl) rfl dX8_ticket_31 ?_
        refine kget F hK hP0 3 2 6 iX3 rfl rfl (by decide) (List.mem_of_getElem? (i := 4) rfl) rfl dX8_ticket_34 ?_
        refine lv_iconst (v := 3) hx hb dX8_ticket_37 (by decide) ?_
        refine lv_icmp_eq (tgt := 44) hx hb dX8_ticket_38 (by decide) (fun c4 => ?_) (fun c4 => ?_)
        · refine lv_aload_n hx hb dX8_ticket_44 rfl (lv_at hl0 0 rfl) ?_
          refine kget F hK hP0 8 0 1 iX8 rfl rfl (by decide) (List.mem_of_getElem? (i := 1) rfl) rfl dX8_ticket_45 ?_
          refine lv_iload_n hx hb dX8_ticket_48 rfl (lv_at hl0 1 rfl) ?_
          refine lv_aload_n hx hb dX8_ticket_49 rfl (lv_at hl0 0 rfl) ?_
          refine kget F hK hP0 8 0 8 iX8 rfl rfl (by decide) (List.mem_of_getElem? (i := 5) rfl) rfl dX8_ticket_50 ?_
          refine lv_aload_n hx hb dX8_ticket_53 rfl (lv_at hl0 0 rfl) ?_
          refine kget F hK hP0 8 0 2 iX8 rfl rfl (by decide) (List.mem_of_getElem? (i := 6) rfl) rfl dX8_ticket_54 ?_
          refine kVi (wr := [oTo h cl se rh rs ar co cz tx nw]) F hK hP0 hD0 hS0 hA hl0.1 (c_X5_makeTicketB l G se pe ta sn sb lc ls ls lc dr da s p f k T rh w q d rp M L v (nw 8) hL hL8 hKe) [1, 2, 3, 4, 5, 6, 7, 8, 9, 10, 11, 12, 13, 14, 15, 16, 17, 18, 19, 20, 21, 22, 23, 24, 25, 26] [0] 5 0 gX8_ticket_X5_makeTicket rfl 3 rfl (by decide +kernel) ⟨Nat.le_of_ble_eq_true rfl, Nat.le_of_ble_eq_true rfl⟩ ⟨Nat.zero_le _, Nat.zero_le _⟩ rfl rfl rfl rfl (by decide) (by decide) (by decide) (Nat.le_of_ble_eq_true rfl) rfl dX8_ticket_57 (fun r5 u5 H6 locs6 hw5 hP6 hD6 hS6 => ?_)
          obtain ⟨s_5, f_5, t_5, rp_5, M_5⟩ := u5
          have hP6 : va_P G.1 vwCl ([oTo h cl se rh rs ar co cz tx nw, oSe se pe ta sn sb s_5, oPe pe lc ls ls lc dr p, oMs dr da, aI G da 9 f_5, aT G ta 3 (krow3 (krot3 k)), oTi (k 1) (T 1), oTi (k 2) (T 2), oTi (k 0) t_5, oRo rh w rp_5, aM G w 8 (krow q), oMs (q 0) (d 0), aI G (d 0) 9 (M_5 0), oMs (q 1) (d 1), aI G (d 1) 9 (M_5 1), oMs (q 2) (d 2), aI G (d 2) 9 (M_5 2), oMs (q 3) (d 3), aI G (d 3) 9 (M_5 3), oMs (q 4) (d 4), aI G (d 4) 9 (M_5 4), oMs (q 5) (d 5), aI G (d 5) 9 (M_5 5), oMs (q 6) (d 6), aI G (d 6) 9 (M_5 6), oMs (q 7) (d 7), aI G (d 7) 9 (M_5 7)]) H6 := hP6
          have hD6 : va_D A ([oTo h cl se rh rs ar co cz tx nw, oSe se pe ta sn sb s_5, oPe pe lc ls ls lc dr p, oMs dr da, aI G da 9 f_5, aT G ta 3 (krow3 (krot3 k)), oTi (k 1) (T 1), oTi (k 2) (T 2), oTi (k 0) t_5, oRo rh w rp_5, aM G w 8 (krow q), oMs (q 0) (d 0), aI G (d 0) 9 (M_5 0), oMs (q 1) (d 1), aI G (d 1) 9 (M_5 1), oMs (q 2) (d 2), aI G (d 2) 9 (M_5 2), oMs (q 3) (d 3), aI G (d 3) 9 (M_5 3), oMs (q 4) (d 4), aI G (d 4) 9 (M_5 4), oMs (q 5) (d 5), aI G (d 5) 9 (M_5 5), oMs (q 6) (d 6), aI G (d 6) 9 (M_5 6), oMs (q 7) (d 7), aI G (d 7) 9 (M_5 7)]) := hD6
          clear hP0 hD0 hS0
          have w5_0 : r5 = s 3 + 1 := hw5.1
          have w5_1 : s_5 = upd s 3 (s 3 + 1) := hw5.2.1
          have w5_2 : f_5 = ktkm p f (s 3 + 1) v := hw5.2.2.1
          have w5_3 : t_5 = ktk (T 0) (s 3 + 1) v (nw 8) (kmix (p 10) (s 3 + 1)) (kmix (s 3 + 1) 77) := hw5.2.2.2.1
          have w5_4 : rp_5 = ksendP L rp := hw5.2.2.2.2.1
          have w5_5 : M_5 = ksendM L M (ktkm p f (s 3 + 1) v) := hw5.2.2.2.2.2
          have q7 : (r5 = s 3 + 1) ∧ (s_5 = upd s 3 (s 3 + 1)) ∧ (f_5 = ktkm p f (s 3 + 1) v) ∧ (t_5 = ktk (T 0) (s 3 + 1) v (nw 8) (kmix (p 10) (s 3 + 1)) (kmix (s 3 + 1) 77)) ∧ (rp_5 = ksendP L rp) ∧ (M_5 = ksendM L M (ktkm p f (s 3 + 1) v)) := by
            subst w5_5
            subst w5_4
            subst w5_3
            subst w5_2
            subst w5_1
            subst w5_0
            first | (simp only [c1, eq_true c2, eq_true c3, eq_true c4, eq_self, ↓reduceIte, and_self, and_true, true_and]; done) | (simp only [c1, eq_true c2, eq_true c3, eq_true c4, eq_self, ↓reduceIte, and_self, and_true, true_and]; (try and_intros) <;> rfl)
          exact kRi F hr hlocks hS6 dX8_ticket_60 ⟨s_5, f_5, t_5, rp_5, M_5⟩ q7 hP6 hD6
        · exact absurd hv3 c4
    · exact absurd h99 c2
