set_option maxHeartbeats 1000000 in
set_option maxRecDepth 100000 in
theorem c_X8_share (l : Launch) (G : kG) (h : Nat) (cl : Nat) (se : Nat) (rc : Nat) (rs : Nat) (ar : Nat) (co : Nat) (cz : Nat) (tx : Nat) (nw : Nat → Int32) (g : Int32) (v : Int32) : kM G l yX8_share wsX8_share ({ frames := 2, cells := 0, slots := 0, locals := 46 }) [.ref h, .int g, .int v] ([oTo h cl se rc rs ar co cz tx nw]) (kQi G (fun (rr : Int32) (uu : Unit) => rr = kshareR g v) (fun (uu : Unit) => [oTo h cl se rc rs ar co cz tx nw])) := by
  refine kStart (cc := cX8_share) (maxL := 3) (ret := (some .int)) (by decide) rfl (Nat.le_of_ble_eq_true rfl) (fun pg ev st mi bl mt cd A ls0 F hr hlocks hin hK hP0 hD0 hA hS0 hl0 => ?_)
  obtain ⟨hx, hb, hml, hown, hts⟩ := id F
  have hl0 : lv_has ls0 3 [(0, .ref h), (1, .int g), (2, .int v)] := hl0
  refine lv_iload_n hx hb dX8_share_0 rfl (lv_at hl0 1 rfl) ?_
  refine kPSi F hK hP0 hD0 hS0 hA hl0.1 (c_X8_isGroup l G g) (fun _ => rfl) gX8_share_X8_isGroup rfl 1 rfl (by decide +kernel) ⟨Nat.le_of_ble_eq_true rfl, Nat.le_of_ble_eq_true rfl⟩ ⟨Nat.zero_le _, Nat.zero_le _⟩ (Nat.le_of_ble_eq_true rfl) rfl dX8_share_1 (fun r1 u1 H2 locs2 hw1 (hP2 : va_P G.1 vwCl ([oTo h cl se rc rs ar co cz tx nw]) H2) (hD2 : va_D A ([oTo h cl se rc rs ar co cz tx nw])) hS2 => ?_)
  clear hP0 hD0 hS0
  have w1_0 : r1 = kgrp g := hw1
  refine lv_if_ne (tgt := 10) hx hb dX8_share_4 (by decide) (fun c3 => ?_) (fun c3 => ?_)
  · refine lv_iload_n hx hb dX8_share_10 rfl (lv_at hl0 2 rfl) ?_
    refine lv_iconst (v := 1) hx hb dX8_share_11 (by decide) ?_
    refine lv_icmp_lt (tgt := 22) hx hb dX8_share_12 (by decide) (fun c4 => ?_) (fun c4 => ?_)
    · refine lv_bipush (v := (-3)) hx hb dX8_share_22 (by decide) ?_
      refine lv_goto (tgt := 32) hx hb dX8_share_24 (by decide) ?_
      have q5 : (-3) = kshareR g v := by
        subst w1_0
        first | (simp only [kshareR, c3, eq_true c4, eq_self, ↓reduceIte, and_self, and_true, true_and]; done) | (simp only [kshareR, c3, eq_true c4, eq_self, ↓reduceIte, and_self, and_true, true_and]; (try and_intros) <;> rfl)
      exact kRi F hr hlocks hS2 dX8_share_32 () q5 hP2 hD2
    · refine lv_iload_n hx hb dX8_share_15 rfl (lv_at hl0 2 rfl) ?_
      refine lv_sipush (v := 999) hx hb dX8_share_16 (by decide) ?_
      refine lv_icmp_le (tgt := 27) hx hb dX8_share_19 (by decide) (fun c6 => ?_) (fun c6 => ?_)
      · refine lv_iload_n hx hb dX8_share_27 rfl (lv_at hl0 1 rfl) ?_
        refine lv_iload_n hx hb dX8_share_28 rfl (lv_at hl0 2 rfl) ?_
        refine kPSi F hK hP2 hD2 hS2 hA hl0.1 (c_X8_shareOf l G g v) (fun _ => rfl) gX8_share_X8_shareOf rfl 2 rfl (by decide +kernel) ⟨Nat.le_of_ble_eq_true rfl, Nat.le_of_ble_eq_true rfl⟩ ⟨Nat.zero_le _, Nat.zero_le _⟩ (Nat.le_of_ble_eq_true rfl) rfl dX8_share_29 (fun r7 u7 H8 locs8 hw7 (hP8 : va_P G.1 vwCl ([oTo h cl se rc rs ar co cz tx nw]) H8) (hD8 : va_D A ([oTo h cl se rc rs ar co cz tx nw])) hS8 => ?_)
        clear hP2 hD2 hS2
        have w7_0 : r7 = kshareC g v := hw7
        have q9 : r7 = kshareR g v := by
          subst w7_0
          subst w1_0
          first | (simp only [kshareR, c3, c4, eq_true c6, eq_self, ↓reduceIte, and_self, and_true, true_and]; done) | (simp only [kshareR, c3, c4, eq_true c6, eq_self, ↓reduceIte, and_self, and_true, true_and]; (try and_intros) <;> rfl)
        exact kRi F hr hlocks hS8 dX8_share_32 () q9 hP8 hD8
      · refine lv_bipush (v := (-3)) hx hb dX8_share_22 (by decide) ?_
        refine lv_goto (tgt := 32) hx hb dX8_share_24 (by decide) ?_
        have q10 : (-3) = kshareR g v := by
          subst w1_0
          first | (simp only [kshareR, c3, c4, c6, eq_self, ↓reduceIte, and_self, and_true, true_and]; done) | (simp only [kshareR, c3, c4, c6, eq_self, ↓reduceIte, and_self, and_true, true_and]; (try and_intros) <;> rfl)
        exact kRi F hr hlocks hS2 dX8_share_32 () q10 hP2 hD2
  · refine lv_bipush (v := (-2)) hx hb dX8_share_7 (by decide) ?_
    have q11 : (-2) = kshareR g v := by
      subst w1_0
      first | (simp only [kshareR, eq_true c3, eq_self, ↓reduceIte, and_self, and_true, true_and]; done) | (simp only [kshareR, eq_true c3, eq_self, ↓reduceIte, and_self, and_true, true_and]; (try and_intros) <;> rfl)
    exact kRi F hr hlocks hS2 dX8_share_9 () q11 hP2 hD2
set_option maxHeartbeats 1000000 in
set_option maxRecDepth 100000 in
theorem c_X8_held (l : Launch) (G : kG) (h : Nat) (cl : Nat) (se : Nat) (rc : Nat) (rs : Nat) (ar : Nat) (co : Nat) (cz : Nat) (tx : Nat) (nw : Nat → Int32) (pe : Nat) (ti : Nat) (c : Nat → Int32) (t : Nat → Int32) (i : Int32) : kM G l yX8_held wsX8_held ({ frames := 1, cells := 0, slots := 0, locals := 21 }) [.ref h, .int i] ([oTo h cl se rc rs ar co cz tx nw, oCl cl pe ti c, oTi ti t]) (kQi G (fun (rr : Int32) (uu : Unit) => rr = kheldR c t i) (fun (uu : Unit) => [oTo h cl se rc rs ar co cz tx nw, oCl cl pe ti c, oTi ti t])) := by
  refine kStart (cc := cX8_held) (maxL := 2) (ret := (some .int)) (by decide) rfl (Nat.le_of_ble_eq_true rfl) (fun pg ev st mi bl mt cd A ls0 F hr hlocks hin hK hP0 hD0 hA hS0 hl0 => ?_)
  obtain ⟨hx, hb, hml, hown, hts⟩ := id F
  have hl0 : lv_has ls0 2 [(0, .ref h), (1, .int i)] := hl0
  have iX0 : ∀ w ∈ u_ws RX0 TX0 9, w ∈ wsX8_held := fun w h => List.mem_cons_of_mem _ (List.mem_append_left _ (List.mem_append_right _ h))
  have iX8 : ∀ w ∈ u_ws RX8 TX8 9, w ∈ wsX8_held := fun w h => List.mem_cons_of_mem _ (List.mem_append_left _ (List.mem_append_left _ (List.mem_append_right _ h)))
  refine lv_iload_n hx hb dX8_held_0 rfl (lv_at hl0 1 rfl) ?_
  refine kPSi F hK hP0 hD0 hS0 hA hl0.1 (c_X7_tells l G i) (fun _ => rfl) gX8_held_X7_tells rfl 1 rfl (by decide +kernel) ⟨Nat.le_of_ble_eq_true rfl, Nat.le_of_ble_eq_true rfl⟩ ⟨Nat.zero_le _, Nat.zero_le _⟩ (Nat.le_of_ble_eq_true rfl) rfl dX8_held_1 (fun r1 u1 H2 locs2 hw1 (hP2 : va_P G.1 vwCl ([oTo h cl se rc rs ar co cz tx nw, oCl cl pe ti c, oTi ti t]) H2) (hD2 : va_D A ([oTo h cl se rc rs ar co cz tx nw, oCl cl pe ti c, oTi ti t])) hS2 => ?_)
  clear hP0 hD0 hS0
  have w1_0 : r1 = kin5 i := hw1
  refine lv_if_ne (tgt := 10) hx hb dX8_held_4 (by decide) (fun c3 => ?_) (fun c3 => ?_)
  · refine lv_aload_n hx hb dX8_held_10 rfl (lv_at hl0 0 rfl) ?_
    refine kget F hK hP2 8 0 0 iX8 rfl rfl (by decide) (List.mem_of_getElem? (i := 1) rfl) rfl dX8_held_11 ?_
    refine kget F hK hP2 0 1 2 iX0 rfl rfl (by decide) (List.mem_of_getElem? (i := 2) rfl) rfl dX8_held_14 ?_
    refine lv_if_eq (tgt := 34) hx hb dX8_held_17 (by decide) (fun c4 => ?_) (fun c4 => ?_)
    · refine lv_bipush (v := (-4)) hx hb dX8_held_34 (by decide) ?_
      have q5 : (-4) = kheldR c t i := by
        subst w1_0
        first | (simp only [kheldR, c3, eq_true c4, eq_self, ↓reduceIte, and_self, and_true, true_and]; done) | (simp only [kheldR, c3, eq_true c4, eq_self, ↓reduceIte, and_self, and_true, true_and]; (try and_intros) <;> rfl)
      exact kRi F hr hlocks hS2 dX8_held_36 () q5 hP2 hD2
    · refine lv_aload_n hx hb dX8_held_20 rfl (lv_at hl0 0 rfl) ?_
      refine kget F hK hP2 8 0 0 iX8 rfl rfl (by decide) (List.mem_of_getElem? (i := 1) rfl) rfl dX8_held_21 ?_
      refine kget F hK hP2 0 1 1 iX0 rfl rfl (by decide) (List.mem_of_getElem? (i := 3) rfl) rfl dX8_held_24 ?_
      refine lv_iload_n hx hb dX8_held_27 rfl (lv_at hl0 1 rfl) ?_
      refine kVi (wr := [oTo h cl se rc rs ar co cz tx nw, oCl cl pe ti c]) F hK hP2 hD2 hS2 hA hl0.1 (c_X7_tell l G ti t i) [2] [0, 1] 7 0 gX8_held_X7_tell rfl 1 rfl (by decide +kernel) ⟨Nat.le_of_ble_eq_true rfl, Nat.le_of_ble_eq_true rfl⟩ ⟨Nat.zero_le _, Nat.zero_le _⟩ rfl rfl rfl rfl (by decide) (by decide) (by decide) (Nat.le_of_ble_eq_true rfl) rfl dX8_held_28 (fun r6 u6 H7 locs7 hw6 (hP7 : va_P G.1 vwCl ([oTo h cl se rc rs ar co cz tx nw, oCl cl pe ti c, oTi ti t]) H7) (hD7 : va_D A ([oTo h cl se rc rs ar co cz tx nw, oCl cl pe ti c, oTi ti t])) hS7 => ?_)
      clear hP2 hD2 hS2
      have w6_0 : r6 = ktell t i := hw6
      refine lv_goto (tgt := 36) hx hb dX8_held_31 (by decide) ?_
      have q8 : r6 = kheldR c t i := by
        subst w6_0
        subst w1_0
        first | (simp only [kheldR, c3, c4, eq_self, ↓reduceIte, and_self, and_true, true_and]; done) | (simp only [kheldR, c3, c4, eq_self, ↓reduceIte, and_self, and_true, true_and]; (try and_intros) <;> rfl)
      exact kRi F hr hlocks hS7 dX8_held_36 () q8 hP7 hD7
  · refine lv_bipush (v := (-3)) hx hb dX8_held_7 (by decide) ?_
    have q9 : (-3) = kheldR c t i := by
      subst w1_0
      first | (simp only [kheldR, eq_true c3, eq_self, ↓reduceIte, and_self, and_true, true_and]; done) | (simp only [kheldR, eq_true c3, eq_self, ↓reduceIte, and_self, and_true, true_and]; (try and_intros) <;> rfl)
    exact kRi F hr hlocks hS2 dX8_held_9 () q9 hP2 hD2
set_option maxHeartbeats 1000000 in
set_option maxRecDepth 100000 in
theorem c_X8_message0X (l : Launch) (G : kG) (h : Nat) (cl : Nat) (se : Nat) (rc : Nat) (rs : Nat) (ar : Nat) (co : Nat) (cz : Nat) (tx : Nat) (nw : Nat → Int32) (v : Int32) (h9 : kin9 v = 0) : kM G l yX8_message wsX8_message ({ frames := 1, cells := 0, slots := 0, locals := 20 }) [.ref h, .int 0, .int v] ([oTo h cl se rc rs ar co cz tx nw]) (kQi G (fun (rr : Int32) (uu : Unit) => rr = (-3 : Int32)) (fun (uu : Unit) => [oTo h cl se rc rs ar co cz tx nw])) := by
  refine kStart (cc := cX8_message) (maxL := 3) (ret := (some .int)) (by decide) rfl (Nat.le_of_ble_eq_true rfl) (fun pg ev st mi bl mt cd A ls0 F hr hlocks hin hK hP0 hD0 hA hS0 hl0 => ?_)
  obtain ⟨hx, hb, hml, hown, hts⟩ := id F
  have hl0 : lv_has ls0 3 [(0, .ref h), (1, .int 0), (2, .int v)] := hl0
  refine lv_iload_n hx hb dX8_message_0 rfl (lv_at hl0 1 rfl) ?_
  refine kPSi F hK hP0 hD0 hS0 hA hl0.1 (c_X8_isSide l G 0) (fun _ => rfl) gX8_message_X8_isSide rfl 1 rfl (by decide +kernel) ⟨Nat.le_of_ble_eq_true rfl, Nat.le_of_ble_eq_true rfl⟩ ⟨Nat.zero_le _, Nat.zero_le _⟩ (Nat.le_of_ble_eq_true rfl) rfl dX8_message_1 (fun r1 u1 H2 locs2 hw1 (hP2 : va_P G.1 vwCl ([oTo h cl se rc rs ar co cz tx nw]) H2) (hD2 : va_D A ([oTo h cl se rc rs ar co cz tx nw])) hS2 => ?_)
  clear hP0 hD0 hS0
  have w1_0 : r1 = kside 0 := hw1
  have g1 : r1 = 1 := w1_0.trans (by decide)
  clear w1_0
  subst g1
  refine lv_if_ne (tgt := 10) hx hb dX8_message_4 (by decide) (fun c3 => ?_) (fun c3 => ?_)
  · refine lv_iload_n hx hb dX8_message_10 rfl (lv_at hl0 2 rfl) ?_
    refine kPSi F hK hP2 hD2 hS2 hA hl0.1 (c_X2_hasNumber l G v) (fun _ => rfl) gX8_message_X2_hasNumber rfl 1 rfl (by decide +kernel) ⟨Nat.le_of_ble_eq_true rfl, Nat.le_of_ble_eq_true rfl⟩ ⟨Nat.zero_le _, Nat.zero_le _⟩ (Nat.le_of_ble_eq_true rfl) rfl dX8_message_11 (fun r4 u4 H5 locs5 hw4 (hP5 : va_P G.1 vwCl ([oTo h cl se rc rs ar co cz tx nw]) H5) (hD5 : va_D A ([oTo h cl se rc rs ar co cz tx nw])) hS5 => ?_)
    clear hP2 hD2 hS2
    have w4_0 : r4 = kin9 v := hw4
    have g4 : r4 = 0 := w4_0.trans h9
    clear w4_0
    subst g4
    refine lv_if_ne (tgt := 20) hx hb dX8_message_14 (by decide) (fun c6 => ?_) (fun c6 => ?_)
    · exact absurd (by decide) c6
    · refine lv_bipush (v := (-3)) hx hb dX8_message_17 (by decide) ?_
      have q7 : (-3) = (-3 : Int32) := by
        first | (simp only [c3, eq_true c6, eq_self, ↓reduceIte, and_self, and_true, true_and]; done) | (simp only [c3, eq_true c6, eq_self, ↓reduceIte, and_self, and_true, true_and]; (try and_intros) <;> rfl) | exact rfl
      exact kRi F hr hlocks hS5 dX8_message_19 () q7 hP5 hD5
  · exact absurd c3 (by decide)
set_option maxHeartbeats 1000000 in
set_option maxRecDepth 100000 in
theorem c_X8_message0K (l : Launch) (G : kG) (h : Nat) (cl : Nat) (se : Nat) (rs : Nat) (ar : Nat) (co : Nat) (cz : Nat) (tx : Nat) (nw : Nat → Int32) (rh : Nat) (w : Nat) (q : Nat → Nat) (d : Nat → Nat) (rp : Nat → Int32) (M : Nat → Nat → Int32) (k : Nat) (hk : k < 9) : kM G l yX8_message wsX8_message ({ frames := 2, cells := 0, slots := 0, locals := 41 }) [.ref h, .int 0, .int (nI k)] ([oTo h cl se rh rs ar co cz tx nw, oRo rh w rp, aM G w 8 (krow q), oMs (q 0) (d 0), aI G (d 0) 9 (M 0), oMs (q 1) (d 1), aI G (d 1) 9 (M 1), oMs (q 2) (d 2), aI G (d 2) 9 (M 2), oMs (q 3) (d 3), aI G (d 3) 9 (M 3), oMs (q 4) (d 4), aI G (d 4) 9 (M 4), oMs (q 5) (d 5), aI G (d 5) 9 (M 5), oMs (q 6) (d 6), aI G (d 6) 9 (M 6), oMs (q 7) (d 7), aI G (d 7) 9 (M 7)]) (kQi G (fun (rr : Int32) (uu : Unit) => rr = kmsgR rp M k) (fun (uu : Unit) => [oTo h cl se rh rs ar co cz tx nw, oRo rh w rp, aM G w 8 (krow q), oMs (q 0) (d 0), aI G (d 0) 9 (M 0), oMs (q 1) (d 1), aI G (d 1) 9 (M 1), oMs (q 2) (d 2), aI G (d 2) 9 (M 2), oMs (q 3) (d 3), aI G (d 3) 9 (M 3), oMs (q 4) (d 4), aI G (d 4) 9 (M 4), oMs (q 5) (d 5), aI G (d 5) 9 (M 5), oMs (q 6) (d 6), aI G (d 6) 9 (M 6), oMs (q 7) (d 7), aI G (d 7) 9 (M 7)])) := by
  refine kStart (cc := cX8_message) (maxL := 3) (ret := (some .int)) (by decide) rfl (Nat.le_of_ble_eq_true rfl) (fun pg ev st mi bl mt cd A ls0 F hr hlocks hin hK hP0 hD0 hA hS0 hl0 => ?_)
  obtain ⟨hx, hb, hml, hown, hts⟩ := id F
  have hl0 : lv_has ls0 3 [(0, .ref h), (1, .int 0), (2, .int (nI k))] := hl0
  have iX4 : ∀ w ∈ u_ws RX4 TX4 3, w ∈ wsX8_message := fun w h => List.mem_cons_of_mem _ (List.mem_append_left _ (List.mem_append_left _ (List.mem_append_right _ h)))
  refine lv_iload_n hx hb dX8_message_0 rfl (lv_at hl0 1 rfl) ?_
  refine kPSi F hK hP0 hD0 hS0 hA hl0.1 (c_X8_isSide l G 0) (fun _ => rfl) gX8_message_X8_isSide rfl 1 rfl (by decide +kernel) ⟨Nat.le_of_ble_eq_true rfl, Nat.le_of_ble_eq_true rfl⟩ ⟨Nat.zero_le _, Nat.zero_le _⟩ (Nat.le_of_ble_eq_true rfl) rfl dX8_message_1 (fun r1 u1 H2 locs2 hw1 (hP2 : va_P G.1 vwCl ([oTo h cl se rh rs ar co cz tx nw, oRo rh w rp, aM G w 8 (krow q), oMs (q 0) (d 0), aI G (d 0) 9 (M 0), oMs (q 1) (d 1), aI G (d 1) 9 (M 1), oMs (q 2) (d 2), aI G (d 2) 9 (M 2), oMs (q 3) (d 3), aI G (d 3) 9 (M 3), oMs (q 4) (d 4), aI G (d 4) 9 (M 4), oMs (q 5) (d 5), aI G (d 5) 9 (M 5), oMs (q 6) (d 6), aI G (d 6) 9 (M 6), oMs (q 7) (d 7), aI G (d 7) 9 (M 7)]) H2) (hD2 : va_D A ([oTo h cl se rh rs ar co cz tx nw, oRo rh w rp, aM G w 8 (krow q), oMs (q 0) (d 0), aI G (d 0) 9 (M 0), oMs (q 1) (d 1), aI G (d 1) 9 (M 1), oMs (q 2) (d 2), aI G (d 2) 9 (M 2), oMs (q 3) (d 3), aI G (d 3) 9 (M 3), oMs (q 4) (d 4), aI G (d 4) 9 (M 4), oMs (q 5) (d 5), aI G (d 5) 9 (M 5), oMs (q 6) (d 6), aI G (d 6) 9 (M 6), oMs (q 7) (d 7), aI G (d 7) 9 (M 7)])) hS2 => ?_)
  clear hP0 hD0 hS0
  have w1_0 : r1 = kside 0 := hw1
  have g1 : r1 = 1 := w1_0.trans (by decide)
  clear w1_0
  subst g1
  refine lv_if_ne (tgt := 10) hx hb dX8_message_4 (by decide) (fun c3 => ?_) (fun c3 => ?_)
  · refine lv_iload_n hx hb dX8_message_10 rfl (lv_at hl0 2 rfl) ?_
    refine kPSi F hK hP2 hD2 hS2 hA hl0.1 (c_X2_hasNumber l G (nI k)) (fun _ => rfl) gX8_message_X2_hasNumber rfl 1 rfl (by decide +kernel) ⟨Nat.le_of_ble_eq_true rfl, Nat.le_of_ble_eq_true rfl⟩ ⟨Nat.zero_le _, Nat.zero_le _⟩ (Nat.le_of_ble_eq_true rfl) rfl dX8_message_11 (fun r4 u4 H5 locs5 hw4 (hP5 : va_P G.1 vwCl ([oTo h cl se rh rs ar co cz tx nw, oRo rh w rp, aM G w 8 (krow q), oMs (q 0) (d 0), aI G (d 0) 9 (M 0), oMs (q 1) (d 1), aI G (d 1) 9 (M 1), oMs (q 2) (d 2), aI G (d 2) 9 (M 2), oMs (q 3) (d 3), aI G (d 3) 9 (M 3), oMs (q 4) (d 4), aI G (d 4) 9 (M 4), oMs (q 5) (d 5), aI G (d 5) 9 (M 5), oMs (q 6) (d 6), aI G (d 6) 9 (M 6), oMs (q 7) (d 7), aI G (d 7) 9 (M 7)]) H5) (hD5 : va_D A ([oTo h cl se rh rs ar co cz tx nw, oRo rh w rp, aM G w 8 (krow q), oMs (q 0) (d 0), aI G (d 0) 9 (M 0), oMs (q 1) (d 1), aI G (d 1) 9 (M 1), oMs (q 2) (d 2), aI G (d 2) 9 (M 2), oMs (q 3) (d 3), aI G (d 3) 9 (M 3), oMs (q 4) (d 4), aI G (d 4) 9 (M 4), oMs (q 5) (d 5), aI G (d 5) 9 (M 5), oMs (q 6) (d 6), aI G (d 6) 9 (M 6), oMs (q 7) (d 7), aI G (d 7) 9 (M 7)])) hS5 => ?_)
    clear hP2 hD2 hS2
    have w4_0 : r4 = kin9 (nI k) := hw4
    have g4 : r4 = 1 := w4_0.trans (kin9_k hk)
    clear w4_0
    subst g4
    refine lv_if_ne (tgt := 20) hx hb dX8_message_14 (by decide) (fun c6 => ?_) (fun c6 => ?_)
    · refine lv_aload_n hx hb dX8_message_20 rfl (lv_at hl0 0 rfl) ?_
      refine lv_iload_n hx hb dX8_message_21 rfl (lv_at hl0 1 rfl) ?_
      refine kVr (wr := [oRo rh w rp, aM G w 8 (krow q), oMs (q 0) (d 0), aI G (d 0) 9 (M 0), oMs (q 1) (d 1), aI G (d 1) 9 (M 1), oMs (q 2) (d 2), aI G (d 2) 9 (M 2), oMs (q 3) (d 3), aI G (d 3) 9 (M 3), oMs (q 4) (d 4), aI G (d 4) 9 (M 4), oMs (q 5) (d 5), aI G (d 5) 9 (M 5), oMs (q 6) (d 6), aI G (d 6) 9 (M 6), oMs (q 7) (d 7), aI G (d 7) 9 (M 7)]) F hK hP5 hD5 hS5 hA hl0.1 (c_X8_roadTo0 l G h cl se rh rs ar co cz tx nw) [0] [1, 2, 3, 4, 5, 6, 7, 8, 9, 10, 11, 12, 13, 14, 15, 16, 17, 18] 8 0 gX8_message_X8_roadTo rfl 1 rfl (by decide +kernel) ⟨Nat.le_of_ble_eq_true rfl, Nat.le_of_ble_eq_true rfl⟩ ⟨Nat.zero_le _, Nat.zero_le _⟩ rfl rfl rfl rfl (by decide) (by decide) (by decide) (Nat.le_of_ble_eq_true rfl) rfl dX8_message_22 (fun u7 H8 locs8 hw7 (hP8 : va_P G.1 vwCl ([oRo rh w rp, aM G w 8 (krow q), oMs (q 0) (d 0), aI G (d 0) 9 (M 0), oMs (q 1) (d 1), aI G (d 1) 9 (M 1), oMs (q 2) (d 2), aI G (d 2) 9 (M 2), oMs (q 3) (d 3), aI G (d 3) 9 (M 3), oMs (q 4) (d 4), aI G (d 4) 9 (M 4), oMs (q 5) (d 5), aI G (d 5) 9 (M 5), oMs (q 6) (d 6), aI G (d 6) 9 (M 6), oMs (q 7) (d 7), aI G (d 7) 9 (M 7), oTo h cl se rh rs ar co cz tx nw]) H8) (hD8 : va_D A ([oRo rh w rp, aM G w 8 (krow q), oMs (q 0) (d 0), aI G (d 0) 9 (M 0), oMs (q 1) (d 1), aI G (d 1) 9 (M 1), oMs (q 2) (d 2), aI G (d 2) 9 (M 2), oMs (q 3) (d 3), aI G (d 3) 9 (M 3), oMs (q 4) (d 4), aI G (d 4) 9 (M 4), oMs (q 5) (d 5), aI G (d 5) 9 (M 5), oMs (q 6) (d 6), aI G (d 6) 9 (M 6), oMs (q 7) (d 7), aI G (d 7) 9 (M 7), oTo h cl se rh rs ar co cz tx nw])) hS8 => ?_)
      clear hP5 hD5 hS5
      refine kget F hK hP8 4 0 1 iX4 rfl rfl (by decide) (List.mem_of_getElem? (i := 1) rfl) rfl dX8_message_25 ?_
      refine lv_if_ne (tgt := 36) hx hb dX8_message_28 (by decide) (fun c9 => ?_) (fun c9 => ?_)
      · refine lv_aload_n hx hb dX8_message_36 rfl (lv_at hl0 0 rfl) ?_
        refine lv_iload_n hx hb dX8_message_37 rfl (lv_at hl0 1 rfl) ?_
        refine kVr (wr := [oRo rh w rp, aM G w 8 (krow q), oMs (q 0) (d 0), aI G (d 0) 9 (M 0), oMs (q 1) (d 1), aI G (d 1) 9 (M 1), oMs (q 2) (d 2), aI G (d 2) 9 (M 2), oMs (q 3) (d 3), aI G (d 3) 9 (M 3), oMs (q 4) (d 4), aI G (d 4) 9 (M 4), oMs (q 5) (d 5), aI G (d 5) 9 (M 5), oMs (q 6) (d 6), aI G (d 6) 9 (M 6), oMs (q 7) (d 7), aI G (d 7) 9 (M 7)]) F hK hP8 hD8 hS8 hA hl0.1 (c_X8_roadTo0 l G h cl se rh rs ar co cz tx nw) [18] [0, 1, 2, 3, 4, 5, 6, 7, 8, 9, 10, 11, 12, 13, 14, 15, 16, 17] 8 0 gX8_message_X8_roadTo rfl 1 rfl (by decide +kernel) ⟨Nat.le_of_ble_eq_true rfl, Nat.le_of_ble_eq_true rfl⟩ ⟨Nat.zero_le _, Nat.zero_le _⟩ rfl rfl rfl rfl (by decide) (by decide) (by decide) (Nat.le_of_ble_eq_true rfl) rfl dX8_message_38 (fun u10 H11 locs11 hw10 (hP11 : va_P G.1 vwCl ([oRo rh w rp, aM G w 8 (krow q), oMs (q 0) (d 0), aI G (d 0) 9 (M 0), oMs (q 1) (d 1), aI G (d 1) 9 (M 1), oMs (q 2) (d 2), aI G (d 2) 9 (M 2), oMs (q 3) (d 3), aI G (d 3) 9 (M 3), oMs (q 4) (d 4), aI G (d 4) 9 (M 4), oMs (q 5) (d 5), aI G (d 5) 9 (M 5), oMs (q 6) (d 6), aI G (d 6) 9 (M 6), oMs (q 7) (d 7), aI G (d 7) 9 (M 7), oTo h cl se rh rs ar co cz tx nw]) H11) (hD11 : va_D A ([oRo rh w rp, aM G w 8 (krow q), oMs (q 0) (d 0), aI G (d 0) 9 (M 0), oMs (q 1) (d 1), aI G (d 1) 9 (M 1), oMs (q 2) (d 2), aI G (d 2) 9 (M 2), oMs (q 3) (d 3), aI G (d 3) 9 (M 3), oMs (q 4) (d 4), aI G (d 4) 9 (M 4), oMs (q 5) (d 5), aI G (d 5) 9 (M 5), oMs (q 6) (d 6), aI G (d 6) 9 (M 6), oMs (q 7) (d 7), aI G (d 7) 9 (M 7), oTo h cl se rh rs ar co cz tx nw])) hS11 => ?_)
        clear hP8 hD8 hS8
        refine kVr (wr := [oTo h cl se rh rs ar co cz tx nw]) F hK hP11 hD11 hS11 hA hl0.1 (c_X4_first l G rh w q d rp M) [0, 1, 2, 3, 4, 5, 6, 7, 8, 9, 10, 11, 12, 13, 14, 15, 16, 17] [18] 4 0 gX8_message_X4_first rfl 0 rfl (by decide +kernel) ⟨Nat.le_of_ble_eq_true rfl, Nat.le_of_ble_eq_true rfl⟩ ⟨Nat.zero_le _, Nat.zero_le _⟩ rfl rfl rfl rfl (by decide) (by decide) (by decide) (Nat.le_of_ble_eq_true rfl) rfl dX8_message_41 (fun u12 H13 locs13 hw12 (hP13 : va_P G.1 vwCl ([oTo h cl se rh rs ar co cz tx nw, oRo rh w rp, aM G w 8 (krow q), oMs (q 0) (d 0), aI G (d 0) 9 (M 0), oMs (q 1) (d 1), aI G (d 1) 9 (M 1), oMs (q 2) (d 2), aI G (d 2) 9 (M 2), oMs (q 3) (d 3), aI G (d 3) 9 (M 3), oMs (q 4) (d 4), aI G (d 4) 9 (M 4), oMs (q 5) (d 5), aI G (d 5) 9 (M 5), oMs (q 6) (d 6), aI G (d 6) 9 (M 6), oMs (q 7) (d 7), aI G (d 7) 9 (M 7)]) H13) (hD13 : va_D A ([oTo h cl se rh rs ar co cz tx nw, oRo rh w rp, aM G w 8 (krow q), oMs (q 0) (d 0), aI G (d 0) 9 (M 0), oMs (q 1) (d 1), aI G (d 1) 9 (M 1), oMs (q 2) (d 2), aI G (d 2) 9 (M 2), oMs (q 3) (d 3), aI G (d 3) 9 (M 3), oMs (q 4) (d 4), aI G (d 4) 9 (M 4), oMs (q 5) (d 5), aI G (d 5) 9 (M 5), oMs (q 6) (d 6), aI G (d 6) 9 (M 6), oMs (q 7) (d 7), aI G (d 7) 9 (M 7)])) hS13 => ?_)
        clear hP11 hD11 hS11
        refine lv_iload_n hx hb dX8_message_44 rfl (lv_at hl0 2 rfl) ?_
        refine kVi (wr := [oTo h cl se rh rs ar co cz tx nw, oRo rh w rp, aM G w 8 (krow q), oMs (q 1) (d 1), aI G (d 1) 9 (M 1), oMs (q 2) (d 2), aI G (d 2) 9 (M 2), oMs (q 3) (d 3), aI G (d 3) 9 (M 3), oMs (q 4) (d 4), aI G (d 4) 9 (M 4), oMs (q 5) (d 5), aI G (d 5) 9 (M 5), oMs (q 6) (d 6), aI G (d 6) 9 (M 6), oMs (q 7) (d 7), aI G (d 7) 9 (M 7)]) F hK hP13 hD13 hS13 hA hl0.1 (c_X2_at l G (q 0) (d 0) (M 0) k hk) [3, 4] [0, 1, 2, 5, 6, 7, 8, 9, 10, 11, 12, 13, 14, 15, 16, 17, 18] 2 0 gX8_message_X2_at rfl 1 rfl (by decide +kernel) ⟨Nat.le_of_ble_eq_true rfl, Nat.le_of_ble_eq_true rfl⟩ ⟨Nat.zero_le _, Nat.zero_le _⟩ rfl rfl rfl rfl (by decide) (by decide) (by decide) (Nat.le_of_ble_eq_true rfl) rfl dX8_message_45 (fun r14 u14 H15 locs15 hw14 (hP15 : va_P G.1 vwCl ([oTo h cl se rh rs ar co cz tx nw, oRo rh w rp, aM G w 8 (krow q), oMs (q 1) (d 1), aI G (d 1) 9 (M 1), oMs (q 2) (d 2), aI G (d 2) 9 (M 2), oMs (q 3) (d 3), aI G (d 3) 9 (M 3), oMs (q 4) (d 4), aI G (d 4) 9 (M 4), oMs (q 5) (d 5), aI G (d 5) 9 (M 5), oMs (q 6) (d 6), aI G (d 6) 9 (M 6), oMs (q 7) (d 7), aI G (d 7) 9 (M 7), oMs (q 0) (d 0), aI G (d 0) 9 (M 0)]) H15) (hD15 : va_D A ([oTo h cl se rh rs ar co cz tx nw, oRo rh w rp, aM G w 8 (krow q), oMs (q 1) (d 1), aI G (d 1) 9 (M 1), oMs (q 2) (d 2), aI G (d 2) 9 (M 2), oMs (q 3) (d 3), aI G (d 3) 9 (M 3), oMs (q 4) (d 4), aI G (d 4) 9 (M 4), oMs (q 5) (d 5), aI G (d 5) 9 (M 5), oMs (q 6) (d 6), aI G (d 6) 9 (M 6), oMs (q 7) (d 7), aI G (d 7) 9 (M 7), oMs (q 0) (d 0), aI G (d 0) 9 (M 0)])) hS15 => ?_)
        clear hP13 hD13 hS13
        have w14_0 : r14 = (M 0) k := hw14
        have q16 : r14 = kmsgR rp M k := by
          subst w14_0
          first | (simp only [kmsgR, c3, c6, c9, eq_self, ↓reduceIte, and_self, and_true, true_and]; done) | (simp only [kmsgR, c3, c6, c9, eq_self, ↓reduceIte, and_self, and_true, true_and]; (try and_intros) <;> rfl)
        exact kRi F hr hlocks hS15 dX8_message_48 () q16 (hP15.sub [0, 1, 2, 17, 18, 3, 4, 5, 6, 7, 8, 9, 10, 11, 12, 13, 14, 15, 16] rfl) (hD15.sub [0, 1, 2, 17, 18, 3, 4, 5, 6, 7, 8, 9, 10, 11, 12, 13, 14, 15, 16] (by decide) rfl)
      · refine lv_bipush (v := (-4)) hx hb dX8_message_31 (by decide) ?_
        refine lv_goto (tgt := 48) hx hb dX8_message_33 (by decide) ?_
        have q17 : (-4) = kmsgR rp M k := by
          first | (simp only [kmsgR, c3, c6, eq_true c9, eq_self, ↓reduceIte, and_self, and_true, true_and]; done) | (simp only [kmsgR, c3, c6, eq_true c9, eq_self, ↓reduceIte, and_self, and_true, true_and]; (try and_intros) <;> rfl)
        exact kRi F hr hlocks hS8 dX8_message_48 () q17 (hP8.sub [18, 0, 1, 2, 3, 4, 5, 6, 7, 8, 9, 10, 11, 12, 13, 14, 15, 16, 17] rfl) (hD8.sub [18, 0, 1, 2, 3, 4, 5, 6, 7, 8, 9, 10, 11, 12, 13, 14, 15, 16, 17] (by decide) rfl)
    · exact absurd c6 (by decide)
  · exact absurd c3 (by decide)
set_option maxHeartbeats 1000000 in
set_option maxRecDepth 100000 in
theorem c_X8_message1X (l : Launch) (G : kG) (h : Nat) (cl : Nat) (se : Nat) (rc : Nat) (rs : Nat) (ar : Nat) (co : Nat) (cz : Nat) (tx : Nat) (nw : Nat → Int32) (v : Int32) (h9 : kin9 v = 0) : kM G l yX8_message wsX8_message ({ frames := 1, cells := 0, slots := 0, locals := 20 }) [.ref h, .int 1, .int v] ([oTo h cl se rc rs ar co cz tx nw]) (kQi G (fun (rr : Int32) (uu : Unit) => rr = (-3 : Int32)) (fun (uu : Unit) => [oTo h cl se rc rs ar co cz tx nw])) := by
  refine kStart (cc := cX8_message) (maxL := 3) (ret := (some .int)) (by decide) rfl (Nat.le_of_ble_eq_true rfl) (fun pg ev st mi bl mt cd A ls0 F hr hlocks hin hK hP0 hD0 hA hS0 hl0 => ?_)
  obtain ⟨hx, hb, hml, hown, hts⟩ := id F
  have hl0 : lv_has ls0 3 [(0, .ref h), (1, .int 1), (2, .int v)] := hl0
  refine lv_iload_n hx hb dX8_message_0 rfl (lv_at hl0 1 rfl) ?_
  refine kPSi F hK hP0 hD0 hS0 hA hl0.1 (c_X8_isSide l G 1) (fun _ => rfl) gX8_message_X8_isSide rfl 1 rfl (by decide +kernel) ⟨Nat.le_of_ble_eq_true rfl, Nat.le_of_ble_eq_true rfl⟩ ⟨Nat.zero_le _, Nat.zero_le _⟩ (Nat.le_of_ble_eq_true rfl) rfl dX8_message_1 (fun r1 u1 H2 locs2 hw1 (hP2 : va_P G.1 vwCl ([oTo h cl se rc rs ar co cz tx nw]) H2) (hD2 : va_D A ([oTo h cl se rc rs ar co cz tx nw])) hS2 => ?_)
  clear hP0 hD0 hS0
  have w1_0 : r1 = kside 1 := hw1
  have g1 : r1 = 1 := w1_0.trans (by decide)
  clear w1_0
  subst g1
  refine lv_if_ne (tgt := 10) hx hb dX8_message_4 (by decide) (fun c3 => ?_) (fun c3 => ?_)
  · refine lv_iload_n hx hb dX8_message_10 rfl (lv_at hl0 2 rfl) ?_
    refine kPSi F hK hP2 hD2 hS2 hA hl0.1 (c_X2_hasNumber l G v) (fun _ => rfl) gX8_message_X2_hasNumber rfl 1 rfl (by decide +kernel) ⟨Nat.le_of_ble_eq_true rfl, Nat.le_of_ble_eq_true rfl⟩ ⟨Nat.zero_le _, Nat.zero_le _⟩ (Nat.le_of_ble_eq_true rfl) rfl dX8_message_11 (fun r4 u4 H5 locs5 hw4 (hP5 : va_P G.1 vwCl ([oTo h cl se rc rs ar co cz tx nw]) H5) (hD5 : va_D A ([oTo h cl se rc rs ar co cz tx nw])) hS5 => ?_)
    clear hP2 hD2 hS2
    have w4_0 : r4 = kin9 v := hw4
    have g4 : r4 = 0 := w4_0.trans h9
    clear w4_0
    subst g4
    refine lv_if_ne (tgt := 20) hx hb dX8_message_14 (by decide) (fun c6 => ?_) (fun c6 => ?_)
    · exact absurd (by decide) c6
    · refine lv_bipush (v := (-3)) hx hb dX8_message_17 (by decide) ?_
      have q7 : (-3) = (-3 : Int32) := by
        first | (simp only [c3, eq_true c6, eq_self, ↓reduceIte, and_self, and_true, true_and]; done) | (simp only [c3, eq_true c6, eq_self, ↓reduceIte, and_self, and_true, true_and]; (try and_intros) <;> rfl) | exact rfl
      exact kRi F hr hlocks hS5 dX8_message_19 () q7 hP5 hD5
  · exact absurd c3 (by decide)
set_option maxHeartbeats 1000000 in
set_option maxRecDepth 100000 in
theorem c_X8_message1K (l : Launch) (G : kG) (h : Nat) (cl : Nat) (se : Nat) (rc : Nat) (ar : Nat) (co : Nat) (cz : Nat) (tx : Nat) (nw : Nat → Int32) (rh : Nat) (w : Nat) (q : Nat → Nat) (d : Nat → Nat) (rp : Nat → Int32) (M : Nat → Nat → Int32) (k : Nat) (hk : k < 9) : kM G l yX8_message wsX8_message ({ frames := 2, cells := 0, slots := 0, locals := 41 }) [.ref h, .int 1, .int (nI k)] ([oTo h cl se rc rh ar co cz tx nw, oRo rh w rp, aM G w 8 (krow q), oMs (q 0) (d 0), aI G (d 0) 9 (M 0), oMs (q 1) (d 1), aI G (d 1) 9 (M 1), oMs (q 2) (d 2), aI G (d 2) 9 (M 2), oMs (q 3) (d 3), aI G (d 3) 9 (M 3), oMs (q 4) (d 4), aI G (d 4) 9 (M 4), oMs (q 5) (d 5), aI G (d 5) 9 (M 5), oMs (q 6) (d 6), aI G (d 6) 9 (M 6), oMs (q 7) (d 7), aI G (d 7) 9 (M 7)]) (kQi G (fun (rr : Int32) (uu : Unit) => rr = kmsgR rp M k) (fun (uu : Unit) => [oTo h cl se rc rh ar co cz tx nw, oRo rh w rp, aM G w 8 (krow q), oMs (q 0) (d 0), aI G (d 0) 9 (M 0), oMs (q 1) (d 1), aI G (d 1) 9 (M 1), oMs (q 2) (d 2), aI G (d 2) 9 (M 2), oMs (q 3) (d 3), aI G (d 3) 9 (M 3), oMs (q 4) (d 4), aI G (d 4) 9 (M 4), oMs (q 5) (d 5), aI G (d 5) 9 (M 5), oMs (q 6) (d 6), aI G (d 6) 9 (M 6), oMs (q 7) (d 7), aI G (d 7) 9 (M 7)])) := by
  refine kStart (cc := cX8_message) (maxL := 3) (ret := (some .int)) (by decide) rfl (Nat.le_of_ble_eq_true rfl) (fun pg ev st mi bl mt cd A ls0 F hr hlocks hin hK hP0 hD0 hA hS0 hl0 => ?_)
  obtain ⟨hx, hb, hml, hown, hts⟩ := id F
  have hl0 : lv_has ls0 3 [(0, .ref h), (1, .int 1), (2, .int (nI k))] := hl0
  have iX4 : ∀ w ∈ u_ws RX4 TX4 3, w ∈ wsX8_message := fun w h => List.mem_cons_of_mem _ (List.mem_append_left _ (List.mem_append_left _ (List.mem_append_right _ h)))
  refine lv_iload_n hx hb dX8_message_0 rfl (lv_at hl0 1 rfl) ?_
  refine kPSi F hK hP0 hD0 hS0 hA hl0.1 (c_X8_isSide l G 1) (fun _ => rfl) gX8_message_X8_isSide rfl 1 rfl (by decide +kernel) ⟨Nat.le_of_ble_eq_true rfl, Nat.le_of_ble_eq_true rfl⟩ ⟨Nat.zero_le _, Nat.zero_le _⟩ (Nat.le_of_ble_eq_true rfl) rfl dX8_message_1 (fun r1 u1 H2 locs2 hw1 (hP2 : va_P G.1 vwCl ([oTo h cl se rc rh ar co cz tx nw, oRo rh w rp, aM G w 8 (krow q), oMs (q 0) (d 0), aI G (d 0) 9 (M 0), oMs (q 1) (d 1), aI G (d 1) 9 (M 1), oMs (q 2) (d 2), aI G (d 2) 9 (M 2), oMs (q 3) (d 3), aI G (d 3) 9 (M 3), oMs (q 4) (d 4), aI G (d 4) 9 (M 4), oMs (q 5) (d 5), aI G (d 5) 9 (M 5), oMs (q 6) (d 6), aI G (d 6) 9 (M 6), oMs (q 7) (d 7), aI G (d 7) 9 (M 7)]) H2) (hD2 : va_D A ([oTo h cl se rc rh ar co cz tx nw, oRo rh w rp, aM G w 8 (krow q), oMs (q 0) (d 0), aI G (d 0) 9 (M 0), oMs (q 1) (d 1), aI G (d 1) 9 (M 1), oMs (q 2) (d 2), aI G (d 2) 9 (M 2), oMs (q 3) (d 3), aI G (d 3) 9 (M 3), oMs (q 4) (d 4), aI G (d 4) 9 (M 4), oMs (q 5) (d 5), aI G (d 5) 9 (M 5), oMs (q 6) (d 6), aI G (d 6) 9 (M 6), oMs (q 7) (d 7), aI G (d 7) 9 (M 7)])) hS2 => ?_)
  clear hP0 hD0 hS0
  have w1_0 : r1 = kside 1 := hw1
  have g1 : r1 = 1 := w1_0.trans (by decide)
  clear w1_0
  subst g1
  refine lv_if_ne (tgt := 10) hx hb dX8_message_4 (by decide) (fun c3 => ?_) (fun c3 => ?_)
  · refine lv_iload_n hx hb dX8_message_10 rfl (lv_at hl0 2 rfl) ?_
    refine kPSi F hK hP2 hD2 hS2 hA hl0.1 (c_X2_hasNumber l G (nI k)) (fun _ => rfl) gX8_message_X2_hasNumber rfl 1 rfl (by decide +kernel) ⟨Nat.le_of_ble_eq_true rfl, Nat.le_of_ble_eq_true rfl⟩ ⟨Nat.zero_le _, Nat.zero_le _⟩ (Nat.le_of_ble_eq_true rfl) rfl dX8_message_11 (fun r4 u4 H5 locs5 hw4 (hP5 : va_P G.1 vwCl ([oTo h cl se rc rh ar co cz tx nw, oRo rh w rp, aM G w 8 (krow q), oMs (q 0) (d 0), aI G (d 0) 9 (M 0), oMs (q 1) (d 1), aI G (d 1) 9 (M 1), oMs (q 2) (d 2), aI G (d 2) 9 (M 2), oMs (q 3) (d 3), aI G (d 3) 9 (M 3), oMs (q 4) (d 4), aI G (d 4) 9 (M 4), oMs (q 5) (d 5), aI G (d 5) 9 (M 5), oMs (q 6) (d 6), aI G (d 6) 9 (M 6), oMs (q 7) (d 7), aI G (d 7) 9 (M 7)]) H5) (hD5 : va_D A ([oTo h cl se rc rh ar co cz tx nw, oRo rh w rp, aM G w 8 (krow q), oMs (q 0) (d 0), aI G (d 0) 9 (M 0), oMs (q 1) (d 1), aI G (d 1) 9 (M 1), oMs (q 2) (d 2), aI G (d 2) 9 (M 2), oMs (q 3) (d 3), aI G (d 3) 9 (M 3), oMs (q 4) (d 4), aI G (d 4) 9 (M 4), oMs (q 5) (d 5), aI G (d 5) 9 (M 5), oMs (q 6) (d 6), aI G (d 6) 9 (M 6), oMs (q 7) (d 7), aI G (d 7) 9 (M 7)])) hS5 => ?_)
    clear hP2 hD2 hS2
    have w4_0 : r4 = kin9 (nI k) := hw4
    have g4 : r4 = 1 := w4_0.trans (kin9_k hk)
    clear w4_0
    subst g4
    refine lv_if_ne (tgt := 20) hx hb dX8_message_14 (by decide) (fun c6 => ?_) (fun c6 => ?_)
    · refine lv_aload_n hx hb dX8_message_20 rfl (lv_at hl0 0 rfl) ?_
      refine lv_iload_n hx hb dX8_message_21 rfl (lv_at hl0 1 rfl) ?_
      refine kVr (wr := [oRo rh w rp, aM G w 8 (krow q), oMs (q 0) (d 0), aI G (d 0) 9 (M 0), oMs (q 1) (d 1), aI G (d 1) 9 (M 1), oMs (q 2) (d 2), aI G (d 2) 9 (M 2), oMs (q 3) (d 3), aI G (d 3) 9 (M 3), oMs (q 4) (d 4), aI G (d 4) 9 (M 4), oMs (q 5) (d 5), aI G (d 5) 9 (M 5), oMs (q 6) (d 6), aI G (d 6) 9 (M 6), oMs (q 7) (d 7), aI G (d 7) 9 (M 7)]) F hK hP5 hD5 hS5 hA hl0.1 (c_X8_roadTo1 l G h cl se rc rh ar co cz tx nw) [0] [1, 2, 3, 4, 5, 6, 7, 8, 9, 10, 11, 12, 13, 14, 15, 16, 17, 18] 8 0 gX8_message_X8_roadTo rfl 1 rfl (by decide +kernel) ⟨Nat.le_of_ble_eq_true rfl, Nat.le_of_ble_eq_true rfl⟩ ⟨Nat.zero_le _, Nat.zero_le _⟩ rfl rfl rfl rfl (by decide) (by decide) (by decide) (Nat.le_of_ble_eq_true rfl) rfl dX8_message_22 (fun u7 H8 locs8 hw7 (hP8 : va_P G.1 vwCl ([oRo rh w rp, aM G w 8 (krow q), oMs (q 0) (d 0), aI G (d 0) 9 (M 0), oMs (q 1) (d 1), aI G (d 1) 9 (M 1), oMs (q 2) (d 2), aI G (d 2) 9 (M 2), oMs (q 3) (d 3), aI G (d 3) 9 (M 3), oMs (q 4) (d 4), aI G (d 4) 9 (M 4), oMs (q 5) (d 5), aI G (d 5) 9 (M 5), oMs (q 6) (d 6), aI G (d 6) 9 (M 6), oMs (q 7) (d 7), aI G (d 7) 9 (M 7), oTo h cl se rc rh ar co cz tx nw]) H8) (hD8 : va_D A ([oRo rh w rp, aM G w 8 (krow q), oMs (q 0) (d 0), aI G (d 0) 9 (M 0), oMs (q 1) (d 1), aI G (d 1) 9 (M 1), oMs (q 2) (d 2), aI G (d 2) 9 (M 2), oMs (q 3) (d 3), aI G (d 3) 9 (M 3), oMs (q 4) (d 4), aI G (d 4) 9 (M 4), oMs (q 5) (d 5), aI G (d 5) 9 (M 5), oMs (q 6) (d 6), aI G (d 6) 9 (M 6), oMs (q 7) (d 7), aI G (d 7) 9 (M 7), oTo h cl se rc rh ar co cz tx nw])) hS8 => ?_)
      clear hP5 hD5 hS5
      refine kget F hK hP8 4 0 1 iX4 rfl rfl (by decide) (List.mem_of_getElem? (i := 1) rfl) rfl dX8_message_25 ?_
      refine lv_if_ne (tgt := 36) hx hb dX8_message_28 (by decide) (fun c9 => ?_) (fun c9 => ?_)
      · refine lv_aload_n hx hb dX8_message_36 rfl (lv_at hl0 0 rfl) ?_
        refine lv_iload_n hx hb dX8_message_37 rfl (lv_at hl0 1 rfl) ?_
        refine kVr (wr := [oRo rh w rp, aM G w 8 (krow q), oMs (q 0) (d 0), aI G (d 0) 9 (M 0), oMs (q 1) (d 1), aI G (d 1) 9 (M 1), oMs (q 2) (d 2), aI G (d 2) 9 (M 2), oMs (q 3) (d 3), aI G (d 3) 9 (M 3), oMs (q 4) (d 4), aI G (d 4) 9 (M 4), oMs (q 5) (d 5), aI G (d 5) 9 (M 5), oMs (q 6) (d 6), aI G (d 6) 9 (M 6), oMs (q 7) (d 7), aI G (d 7) 9 (M 7)]) F hK hP8 hD8 hS8 hA hl0.1 (c_X8_roadTo1 l G h cl se rc rh ar co cz tx nw) [18] [0, 1, 2, 3, 4, 5, 6, 7, 8, 9, 10, 11, 12, 13, 14, 15, 16, 17] 8 0 gX8_message_X8_roadTo rfl 1 rfl (by decide +kernel) ⟨Nat.le_of_ble_eq_true rfl, Nat.le_of_ble_eq_true rfl⟩ ⟨Nat.zero_le _, Nat.zero_le _⟩ rfl rfl rfl rfl (by decide) (by decide) (by decide) (Nat.le_of_ble_eq_true rfl) rfl dX8_message_38 (fun u10 H11 locs11 hw10 (hP11 : va_P G.1 vwCl ([oRo rh w rp, aM G w 8 (krow q), oMs (q 0) (d 0), aI G (d 0) 9 (M 0), oMs (q 1) (d 1), aI G (d 1) 9 (M 1), oMs (q 2) (d 2), aI G (d 2) 9 (M 2), oMs (q 3) (d 3), aI G (d 3) 9 (M 3), oMs (q 4) (d 4), aI G (d 4) 9 (M 4), oMs (q 5) (d 5), aI G (d 5) 9 (M 5), oMs (q 6) (d 6), aI G (d 6) 9 (M 6), oMs (q 7) (d 7), aI G (d 7) 9 (M 7), oTo h cl se rc rh ar co cz tx nw]) H11) (hD11 : va_D A ([oRo rh w rp, aM G w 8 (krow q), oMs (q 0) (d 0), aI G (d 0) 9 (M 0), oMs (q 1) (d 1), aI G (d 1) 9 (M 1), oMs (q 2) (d 2), aI G (d 2) 9 (M 2), oMs (q 3) (d 3), aI G (d 3) 9 (M 3), oMs (q 4) (d 4), aI G (d 4) 9 (M 4), oMs (q 5) (d 5), aI G (d 5) 9 (M 5), oMs (q 6) (d 6), aI G (d 6) 9 (M 6), oMs (q 7) (d 7), aI G (d 7) 9 (M 7), oTo h cl se rc rh ar co cz tx nw])) hS11 => ?_)
        clear hP8 hD8 hS8
        refine kVr (wr := [oTo h cl se rc rh ar co cz tx nw]) F hK hP11 hD11 hS11 hA hl0.1 (c_X4_first l G rh w q d rp M) [0, 1, 2, 3, 4, 5, 6, 7, 8, 9, 10, 11, 12, 13, 14, 15, 16, 17] [18] 4 0 gX8_message_X4_first rfl 0 rfl (by decide +kernel) ⟨Nat.le_of_ble_eq_true rfl, Nat.le_of_ble_eq_true rfl⟩ ⟨Nat.zero_le _, Nat.zero_le _⟩ rfl rfl rfl rfl (by decide) (by decide) (by decide) (Nat.le_of_ble_eq_true rfl) rfl dX8_message_41 (fun u12 H13 locs13 hw12 (hP13 : va_P G.1 vwCl ([oTo h cl se rc rh ar co cz tx nw, oRo rh w rp, aM G w 8 (krow q), oMs (q 0) (d 0), aI G (d 0) 9 (M 0), oMs (q 1) (d 1), aI G (d 1) 9 (M 1), oMs (q 2) (d 2), aI G (d 2) 9 (M 2), oMs (q 3) (d 3), aI G (d 3) 9 (M 3), oMs (q 4) (d 4), aI G (d 4) 9 (M 4), oMs (q 5) (d 5), aI G (d 5) 9 (M 5), oMs (q 6) (d 6), aI G (d 6) 9 (M 6), oMs (q 7) (d 7), aI G (d 7) 9 (M 7)]) H13) (hD13 : va_D A ([oTo h cl se rc rh ar co cz tx nw, oRo rh w rp, aM G w 8 (krow q), oMs (q 0) (d 0), aI G (d 0) 9 (M 0), oMs (q 1) (d 1), aI G (d 1) 9 (M 1), oMs (q 2) (d 2), aI G (d 2) 9 (M 2), oMs (q 3) (d 3), aI G (d 3) 9 (M 3), oMs (q 4) (d 4), aI G (d 4) 9 (M 4), oMs (q 5) (d 5), aI G (d 5) 9 (M 5), oMs (q 6) (d 6), aI G (d 6) 9 (M 6), oMs (q 7) (d 7), aI G (d 7) 9 (M 7)])) hS13 => ?_)
        clear hP11 hD11 hS11
        refine lv_iload_n hx hb dX8_message_44 rfl (lv_at hl0 2 rfl) ?_
        refine kVi (wr := [oTo h cl se rc rh ar co cz tx nw, oRo rh w rp, aM G w 8 (krow q), oMs (q 1) (d 1), aI G (d 1) 9 (M 1), oMs (q 2) (d 2), aI G (d 2) 9 (M 2), oMs (q 3) (d 3), aI G (d 3) 9 (M 3), oMs (q 4) (d 4), aI G (d 4) 9 (M 4), oMs (q 5) (d 5), aI G (d 5) 9 (M 5), oMs (q 6) (d 6), aI G (d 6) 9 (M 6), oMs (q 7) (d 7), aI G (d 7) 9 (M 7)]) F hK hP13 hD13 hS13 hA hl0.1 (c_X2_at l G (q 0) (d 0) (M 0) k hk) [3, 4] [0, 1, 2, 5, 6, 7, 8, 9, 10, 11, 12, 13, 14, 15, 16, 17, 18] 2 0 gX8_message_X2_at rfl 1 rfl (by decide +kernel) ⟨Nat.le_of_ble_eq_true rfl, Nat.le_of_ble_eq_true rfl⟩ ⟨Nat.zero_le _, Nat.zero_le _⟩ rfl rfl rfl rfl (by decide) (by decide) (by decide) (Nat.le_of_ble_eq_true rfl) rfl dX8_message_45 (fun r14 u14 H15 locs15 hw14 (hP15 : va_P G.1 vwCl ([oTo h cl se rc rh ar co cz tx nw, oRo rh w rp, aM G w 8 (krow q), oMs (q 1) (d 1), aI G (d 1) 9 (M 1), oMs (q 2) (d 2), aI G (d 2) 9 (M 2), oMs (q 3) (d 3), aI G (d 3) 9 (M 3), oMs (q 4) (d 4), aI G (d 4) 9 (M 4), oMs (q 5) (d 5), aI G (d 5) 9 (M 5), oMs (q 6) (d 6), aI G (d 6) 9 (M 6), oMs (q 7) (d 7), aI G (d 7) 9 (M 7), oMs (q 0) (d 0), aI G (d 0) 9 (M 0)]) H15) (hD15 : va_D A ([oTo h cl se rc rh ar co cz tx nw, oRo rh w rp, aM G w 8 (krow q), oMs (q 1) (d 1), aI G (d 1) 9 (M 1), oMs (q 2) (d 2), aI G (d 2) 9 (M 2), oMs (q 3) (d 3), aI G (d 3) 9 (M 3), oMs (q 4) (d 4), aI G (d 4) 9 (M 4), oMs (q 5) (d 5), aI G (d 5) 9 (M 5), oMs (q 6) (d 6), aI G (d 6) 9 (M 6), oMs (q 7) (d 7), aI G (d 7) 9 (M 7), oMs (q 0) (d 0), aI G (d 0) 9 (M 0)])) hS15 => ?_)
        clear hP13 hD13 hS13
        have w14_0 : r14 = (M 0) k := hw14
        have q16 : r14 = kmsgR rp M k := by
          subst w14_0
          first | (simp only [kmsgR, c3, c6, c9, eq_self, ↓reduceIte, and_self, and_true, true_and]; done) | (simp only [kmsgR, c3, c6, c9, eq_self, ↓reduceIte, and_self, and_true, true_and]; (try and_intros) <;> rfl)
        exact kRi F hr hlocks hS15 dX8_message_48 () q16 (hP15.sub [0, 1, 2, 17, 18, 3, 4, 5, 6, 7, 8, 9, 10, 11, 12, 13, 14, 15, 16] rfl) (hD15.sub [0, 1, 2, 17, 18, 3, 4, 5, 6, 7, 8, 9, 10, 11, 12, 13, 14, 15, 16] (by decide) rfl)
      · refine lv_bipush (v := (-4)) hx hb dX8_message_31 (by decide) ?_
        refine lv_goto (tgt := 48) hx hb dX8_message_33 (by decide) ?_
        have q17 : (-4) = kmsgR rp M k := by
          first | (simp only [kmsgR, c3, c6, eq_true c9, eq_self, ↓reduceIte, and_self, and_true, true_and]; done) | (simp only [kmsgR, c3, c6, eq_true c9, eq_self, ↓reduceIte, and_self, and_true, true_and]; (try and_intros) <;> rfl)
        exact kRi F hr hlocks hS8 dX8_message_48 () q17 (hP8.sub [18, 0, 1, 2, 3, 4, 5, 6, 7, 8, 9, 10, 11, 12, 13, 14, 15, 16, 17] rfl) (hD8.sub [18, 0, 1, 2, 3, 4, 5, 6, 7, 8, 9, 10, 11, 12, 13, 14, 15, 16, 17] (by decide) rfl)
    · exact absurd c6 (by decide)
  · exact absurd c3 (by decide)
set_option maxHeartbeats 1000000 in
set_option maxRecDepth 100000 in
theorem c_X8_count (l : Launch) (G : kG) (h : Nat) (cl : Nat) (se : Nat) (rc : Nat) (rs : Nat) (ar : Nat) (co : Nat) (cz : Nat) (tx : Nat) (nw : Nat → Int32) (pe : Nat) (ti : Nat) (ta : Nat) (sn : Nat) (sb : Nat) (pr : Nat) (wc : Nat) (wd : Nat) (lc : Nat) (ls : Nat) (dr : Nat) (mc : Nat) (ms : Nat) (er : Nat) (x0 : Nat) (x2 : Nat) (x3 : Nat) (x4 : Nat) (c : Nat → Int32) (s : Nat → Int32) (rp : Nat → Int32) (rq : Nat → Int32) (p : Nat → Int32) (r : Nat → Int32) (x : Nat → Int32) (i : Int32) : kM G l yX8_count wsX8_count ({ frames := 0, cells := 0, slots := 0, locals := 0 }) [.ref h, .int i] ([oTo h cl se rc rs ar co cz tx nw, oCl cl pe ti c, oSe se pr ta sn sb s, oRo rc wc rp, oRo rs wd rq, oPe pe lc ls lc ls dr p, oPe pr mc ms ms mc er r, oTx tx x0 x2 x3 x4 x]) (kQi G (fun (rr : Int32) (uu : Unit) => rr = kcountR nw c s rp rq p r x i) (fun (uu : Unit) => [oTo h cl se rc rs ar co cz tx nw, oCl cl pe ti c, oSe se pr ta sn sb s, oRo rc wc rp, oRo rs wd rq, oPe pe lc ls lc ls dr p, oPe pr mc ms ms mc er r, oTx tx x0 x2 x3 x4 x])) := by
  refine kStart (cc := cX8_count) (maxL := 2) (ret := (some .int)) (by decide) rfl (Nat.le_of_ble_eq_true rfl) (fun pg ev st mi bl mt cd A ls0 F hr hlocks hin hK hP0 hD0 hA hS0 hl0 => ?_)
  obtain ⟨hx, hb, hml, hown, hts⟩ := id F
  have hl0 : lv_has ls0 2 [(0, .ref h), (1, .int i)] := hl0
  have iX0 : ∀ w ∈ u_ws RX0 TX0 9, w ∈ wsX8_count := fun w h => List.mem_cons_of_mem _ (List.mem_append_left _ (List.mem_append_left _ (List.mem_append_right _ h)))
  have iX3 : ∀ w ∈ u_ws RX3 TX3 18, w ∈ wsX8_count := fun w h => List.mem_cons_of_mem _ (List.mem_append_left _ (List.mem_append_right _ h))
  have iX4 : ∀ w ∈ u_ws RX4 TX4 3, w ∈ wsX8_count := fun w h => List.mem_cons_of_mem _ (List.mem_append_left _ (List.mem_append_left _ (List.mem_append_left _ (List.mem_append_left _ (List.mem_append_right _ h)))))
  have iX5 : ∀ w ∈ u_ws RX5 TX5 9, w ∈ wsX8_count := fun w h => List.mem_cons_of_mem _ (List.mem_append_left _ (List.mem_append_left _ (List.mem_append_left _ (List.mem_append_right _ h))))
  have iX6 : ∀ w ∈ u_ws RX6 TX6 8, w ∈ wsX8_count := fun w h => List.mem_cons_of_mem _ (List.mem_append_right _ h)
  have iX8 : ∀ w ∈ u_ws RX8 TX8 9, w ∈ wsX8_count := fun w h => List.mem_cons_of_mem _ (List.mem_append_left _ (List.mem_append_left _ (List.mem_append_left _ (List.mem_append_left _ (List.mem_append_left _ (List.mem_append_right _ h))))))
  refine lv_iload_n hx hb dX8_count_0 rfl (lv_at hl0 1 rfl) ?_
  rcases ksw i 0 12 with c1 | c1
  · refine lv_tableOut (tgt := 189) hx hb dX8_count_1 c1 (by decide) ?_
    refine lv_bipush (v := (-3)) hx hb dX8_count_189 (by decide) ?_
    have q2 : (-3) = kcountR nw c s rp rq p r x i := by
      have z0 : ¬ i = 0 := by intro z; rw [z] at c1; revert c1; decide
      have z1 : ¬ i = 1 := by intro z; rw [z] at c1; revert c1; decide
      have z2 : ¬ i = 2 := by intro z; rw [z] at c1; revert c1; decide
      have z3 : ¬ i = 3 := by intro z; rw [z] at c1; revert c1; decide
      have z4 : ¬ i = 4 := by intro z; rw [z] at c1; revert c1; decide
      have z5 : ¬ i = 5 := by intro z; rw [z] at c1; revert c1; decide
      have z6 : ¬ i = 6 := by intro z; rw [z] at c1; revert c1; decide
      have z7 : ¬ i = 7 := by intro z; rw [z] at c1; revert c1; decide
      have z8 : ¬ i = 8 := by intro z; rw [z] at c1; revert c1; decide
      have z9 : ¬ i = 9 := by intro z; rw [z] at c1; revert c1; decide
      have z10 : ¬ i = 10 := by intro z; rw [z] at c1; revert c1; decide
      have z11 : ¬ i = 11 := by intro z; rw [z] at c1; revert c1; decide
      have z12 : ¬ i = 12 := by intro z; rw [z] at c1; revert c1; decide
      simp only [kcountR, z0, z1, z2, z3, z4, z5, z6, z7, z8, z9, z10, z11, z12, ↓reduceIte]
    exact kRi F hr hlocks hS0 dX8_count_191 () q2 hP0 hD0
  · obtain ⟨c1a, c1b⟩ := c1
    rcases kswE i 0 (v := 0) (by decide) with c1_0 | c1_0
    · refine lv_tableIn (off := 67) (tgt := 68) hx hb dX8_count_1 c1a c1b (by rw [c1_0]; rfl) (by decide) ?_
      refine lv_aload_n hx hb dX8_count_68 rfl (lv_at hl0 0 rfl) ?_
      refine kget F hK hP0 8 0 8 iX8 rfl rfl (by decide) (List.mem_of_getElem? (i := 1) rfl) rfl dX8_count_69 ?_
      have q3 : (nw 8) = kcountR nw c s rp rq p r x i := by
        first | (subst c1_0; rfl) | (subst c1_0; simp only [kcountR, show ¬ ((0 : Int32) = 1) from by decide, show ¬ ((0 : Int32) = 2) from by decide, show ¬ ((0 : Int32) = 3) from by decide, show ¬ ((0 : Int32) = 4) from by decide, show ¬ ((0 : Int32) = 5) from by decide, show ¬ ((0 : Int32) = 6) from by decide, show ¬ ((0 : Int32) = 7) from by decide, show ¬ ((0 : Int32) = 8) from by decide, show ¬ ((0 : Int32) = 9) from by decide, show ¬ ((0 : Int32) = 10) from by decide, show ¬ ((0 : Int32) = 11) from by decide, show ¬ ((0 : Int32) = 12) from by decide, eq_self, ↓reduceIte]; done) | (simp only [kcountR, c1_0, ↓reduceIte]) | (simp only [kcountR, c1_0, ↓reduceIte]; simp; done)
      exact kRi F hr hlocks hS0 dX8_count_72 () q3 hP0 hD0
    rcases kswE i 1 (v := 1) (by decide) with c1_1 | c1_1
    · refine lv_tableIn (off := 72) (tgt := 73) hx hb dX8_count_1 c1a c1b (by rw [c1_1]; rfl) (by decide) ?_
      refine lv_aload_n hx hb dX8_count_73 rfl (lv_at hl0 0 rfl) ?_
      refine kget F hK hP0 8 0 2 iX8 rfl rfl (by decide) (List.mem_of_getElem? (i := 2) rfl) rfl dX8_count_74 ?_
      refine kget F hK hP0 4 3 1 iX4 rfl rfl (by decide) (List.mem_of_getElem? (i := 3) rfl) rfl dX8_count_77 ?_
      have q4 : (rp 1) = kcountR nw c s rp rq p r x i := by
        first | (subst c1_1; rfl) | (subst c1_1; simp only [kcountR, show ¬ ((1 : Int32) = 0) from by decide, show ¬ ((1 : Int32) = 2) from by decide, show ¬ ((1 : Int32) = 3) from by decide, show ¬ ((1 : Int32) = 4) from by decide, show ¬ ((1 : Int32) = 5) from by decide, show ¬ ((1 : Int32) = 6) from by decide, show ¬ ((1 : Int32) = 7) from by decide, show ¬ ((1 : Int32) = 8) from by decide, show ¬ ((1 : Int32) = 9) from by decide, show ¬ ((1 : Int32) = 10) from by decide, show ¬ ((1 : Int32) = 11) from by decide, show ¬ ((1 : Int32) = 12) from by decide, eq_self, ↓reduceIte]; done) | (simp only [kcountR, c1_1, ↓reduceIte]) | (simp only [kcountR, c1_1, ↓reduceIte]; simp; done)
      exact kRi F hr hlocks hS0 dX8_count_80 () q4 hP0 hD0
    rcases kswE i 2 (v := 2) (by decide) with c1_2 | c1_2
    · refine lv_tableIn (off := 80) (tgt := 81) hx hb dX8_count_1 c1a c1b (by rw [c1_2]; rfl) (by decide) ?_
      refine lv_aload_n hx hb dX8_count_81 rfl (lv_at hl0 0 rfl) ?_
      refine kget F hK hP0 8 0 3 iX8 rfl rfl (by decide) (List.mem_of_getElem? (i := 4) rfl) rfl dX8_count_82 ?_
      refine kget F hK hP0 4 4 1 iX4 rfl rfl (by decide) (List.mem_of_getElem? (i := 3) rfl) rfl dX8_count_85 ?_
      have q5 : (rq 1) = kcountR nw c s rp rq p r x i := by
        first | (subst c1_2; rfl) | (subst c1_2; simp only [kcountR, show ¬ ((2 : Int32) = 0) from by decide, show ¬ ((2 : Int32) = 1) from by decide, show ¬ ((2 : Int32) = 3) from by decide, show ¬ ((2 : Int32) = 4) from by decide, show ¬ ((2 : Int32) = 5) from by decide, show ¬ ((2 : Int32) = 6) from by decide, show ¬ ((2 : Int32) = 7) from by decide, show ¬ ((2 : Int32) = 8) from by decide, show ¬ ((2 : Int32) = 9) from by decide, show ¬ ((2 : Int32) = 10) from by decide, show ¬ ((2 : Int32) = 11) from by decide, show ¬ ((2 : Int32) = 12) from by decide, eq_self, ↓reduceIte]; done) | (simp only [kcountR, c1_2, ↓reduceIte]) | (simp only [kcountR, c1_2, ↓reduceIte]; simp; done)
      exact kRi F hr hlocks hS0 dX8_count_88 () q5 hP0 hD0
    rcases kswE i 3 (v := 3) (by decide) with c1_3 | c1_3
    · refine lv_tableIn (off := 88) (tgt := 89) hx hb dX8_count_1 c1a c1b (by rw [c1_3]; rfl) (by decide) ?_
      refine lv_aload_n hx hb dX8_count_89 rfl (lv_at hl0 0 rfl) ?_
      refine kget F hK hP0 8 0 1 iX8 rfl rfl (by decide) (List.mem_of_getElem? (i := 5) rfl) rfl dX8_count_90 ?_
      refine kget F hK hP0 5 2 2 iX5 rfl rfl (by decide) (List.mem_of_getElem? (i := 6) rfl) rfl dX8_count_93 ?_
      have q6 : (s 2) = kcountR nw c s rp rq p r x i := by
        first | (subst c1_3; rfl) | (subst c1_3; simp only [kcountR, show ¬ ((3 : Int32) = 0) from by decide, show ¬ ((3 : Int32) = 1) from by decide, show ¬ ((3 : Int32) = 2) from by decide, show ¬ ((3 : Int32) = 4) from by decide, show ¬ ((3 : Int32) = 5) from by decide, show ¬ ((3 : Int32) = 6) from by decide, show ¬ ((3 : Int32) = 7) from by decide, show ¬ ((3 : Int32) = 8) from by decide, show ¬ ((3 : Int32) = 9) from by decide, show ¬ ((3 : Int32) = 10) from by decide, show ¬ ((3 : Int32) = 11) from by decide, show ¬ ((3 : Int32) = 12) from by decide, eq_self, ↓reduceIte]; done) | (simp only [kcountR, c1_3, ↓reduceIte]) | (simp only [kcountR, c1_3, ↓reduceIte]; simp; done)
      exact kRi F hr hlocks hS0 dX8_count_96 () q6 hP0 hD0
    rcases kswE i 4 (v := 4) (by decide) with c1_4 | c1_4
    · refine lv_tableIn (off := 96) (tgt := 97) hx hb dX8_count_1 c1a c1b (by rw [c1_4]; rfl) (by decide) ?_
      refine lv_aload_n hx hb dX8_count_97 rfl (lv_at hl0 0 rfl) ?_
      refine kget F hK hP0 8 0 1 iX8 rfl rfl (by decide) (List.mem_of_getElem? (i := 5) rfl) rfl dX8_count_98 ?_
      refine kget F hK hP0 5 2 6 iX5 rfl rfl (by decide) (List.mem_of_getElem? (i := 7) rfl) rfl dX8_count_101 ?_
      have q7 : (s 6) = kcountR nw c s rp rq p r x i := by
        first | (subst c1_4; rfl) | (subst c1_4; simp only [kcountR, show ¬ ((4 : Int32) = 0) from by decide, show ¬ ((4 : Int32) = 1) from by decide, show ¬ ((4 : Int32) = 2) from by decide, show ¬ ((4 : Int32) = 3) from by decide, show ¬ ((4 : Int32) = 5) from by decide, show ¬ ((4 : Int32) = 6) from by decide, show ¬ ((4 : Int32) = 7) from by decide, show ¬ ((4 : Int32) = 8) from by decide, show ¬ ((4 : Int32) = 9) from by decide, show ¬ ((4 : Int32) = 10) from by decide, show ¬ ((4 : Int32) = 11) from by decide, show ¬ ((4 : Int32) = 12) from by decide, eq_self, ↓reduceIte]; done) | (simp only [kcountR, c1_4, ↓reduceIte]) | (simp only [kcountR, c1_4, ↓reduceIte]; simp; done)
      exact kRi F hr hlocks hS0 dX8_count_104 () q7 hP0 hD0
    rcases kswE i 5 (v := 5) (by decide) with c1_5 | c1_5
    · refine lv_tableIn (off := 104) (tgt := 105) hx hb dX8_count_1 c1a c1b (by rw [c1_5]; rfl) (by decide) ?_
      refine lv_aload_n hx hb dX8_count_105 rfl (lv_at hl0 0 rfl) ?_
      refine kget F hK hP0 8 0 1 iX8 rfl rfl (by decide) (List.mem_of_getElem? (i := 5) rfl) rfl dX8_count_106 ?_
      refine kget F hK hP0 5 2 7 iX5 rfl rfl (by decide) (List.mem_of_getElem? (i := 8) rfl) rfl dX8_count_109 ?_
      have q8 : (s 7) = kcountR nw c s rp rq p r x i := by
        first | (subst c1_5; rfl) | (subst c1_5; simp only [kcountR, show ¬ ((5 : Int32) = 0) from by decide, show ¬ ((5 : Int32) = 1) from by decide, show ¬ ((5 : Int32) = 2) from by decide, show ¬ ((5 : Int32) = 3) from by decide, show ¬ ((5 : Int32) = 4) from by decide, show ¬ ((5 : Int32) = 6) from by decide, show ¬ ((5 : Int32) = 7) from by decide, show ¬ ((5 : Int32) = 8) from by decide, show ¬ ((5 : Int32) = 9) from by decide, show ¬ ((5 : Int32) = 10) from by decide, show ¬ ((5 : Int32) = 11) from by decide, show ¬ ((5 : Int32) = 12) from by decide, eq_self, ↓reduceIte]; done) | (simp only [kcountR, c1_5, ↓reduceIte]) | (simp only [kcountR, c1_5, ↓reduceIte]; simp; done)
      exact kRi F hr hlocks hS0 dX8_count_112 () q8 hP0 hD0
    rcases kswE i 6 (v := 6) (by decide) with c1_6 | c1_6
    · refine lv_tableIn (off := 112) (tgt := 113) hx hb dX8_count_1 c1a c1b (by rw [c1_6]; rfl) (by decide) ?_
      refine lv_aload_n hx hb dX8_count_113 rfl (lv_at hl0 0 rfl) ?_
      refine kget F hK hP0 8 0 1 iX8 rfl rfl (by decide) (List.mem_of_getElem? (i := 5) rfl) rfl dX8_count_114 ?_
      refine kget F hK hP0 5 2 8 iX5 rfl rfl (by decide) (List.mem_of_getElem? (i := 9) rfl) rfl dX8_count_117 ?_
      have q9 : (s 8) = kcountR nw c s rp rq p r x i := by
        first | (subst c1_6; rfl) | (subst c1_6; simp only [kcountR, show ¬ ((6 : Int32) = 0) from by decide, show ¬ ((6 : Int32) = 1) from by decide, show ¬ ((6 : Int32) = 2) from by decide, show ¬ ((6 : Int32) = 3) from by decide, show ¬ ((6 : Int32) = 4) from by decide, show ¬ ((6 : Int32) = 5) from by decide, show ¬ ((6 : Int32) = 7) from by decide, show ¬ ((6 : Int32) = 8) from by decide, show ¬ ((6 : Int32) = 9) from by decide, show ¬ ((6 : Int32) = 10) from by decide, show ¬ ((6 : Int32) = 11) from by decide, show ¬ ((6 : Int32) = 12) from by decide, eq_self, ↓reduceIte]; done) | (simp only [kcountR, c1_6, ↓reduceIte]) | (simp only [kcountR, c1_6, ↓reduceIte]; simp; done)
      exact kRi F hr hlocks hS0 dX8_count_120 () q9 hP0 hD0
    rcases kswE i 7 (v := 7) (by decide) with c1_7 | c1_7
    · refine lv_tableIn (off := 120) (tgt := 121) hx hb dX8_count_1 c1a c1b (by rw [c1_7]; rfl) (by decide) ?_
      refine lv_aload_n hx hb dX8_count_121 rfl (lv_at hl0 0 rfl) ?_
      refine kget F hK hP0 8 0 0 iX8 rfl rfl (by decide) (List.mem_of_getElem? (i := 10) rfl) rfl dX8_count_122 ?_
      refine kget F hK hP0 0 1 0 iX0 rfl rfl (by decide) (List.mem_of_getElem? (i := 11) rfl) rfl dX8_count_125 ?_
      refine kget F hK hP0 3 5 11 iX3 rfl rfl (by decide) (List.mem_of_getElem? (i := 12) rfl) rfl dX8_count_128 ?_
      have q10 : (p 11) = kcountR nw c s rp rq p r x i := by
        first | (subst c1_7; rfl) | (subst c1_7; simp only [kcountR, show ¬ ((7 : Int32) = 0) from by decide, show ¬ ((7 : Int32) = 1) from by decide, show ¬ ((7 : Int32) = 2) from by decide, show ¬ ((7 : Int32) = 3) from by decide, show ¬ ((7 : Int32) = 4) from by decide, show ¬ ((7 : Int32) = 5) from by decide, show ¬ ((7 : Int32) = 6) from by decide, show ¬ ((7 : Int32) = 8) from by decide, show ¬ ((7 : Int32) = 9) from by decide, show ¬ ((7 : Int32) = 10) from by decide, show ¬ ((7 : Int32) = 11) from by decide, show ¬ ((7 : Int32) = 12) from by decide, eq_self, ↓reduceIte]; done) | (simp only [kcountR, c1_7, ↓reduceIte]) | (simp only [kcountR, c1_7, ↓reduceIte]; simp; done)
      exact kRi F hr hlocks hS0 dX8_count_131 () q10 hP0 hD0
    rcases kswE i 8 (v := 8) (by decide) with c1_8 | c1_8
    · refine lv_tableIn (off := 131) (tgt := 132) hx hb dX8_count_1 c1a c1b (by rw [c1_8]; rfl) (by decide) ?_
      refine lv_aload_n hx hb dX8_count_132 rfl (lv_at hl0 0 rfl) ?_
      refine kget F hK hP0 8 0 1 iX8 rfl rfl (by decide) (List.mem_of_getElem? (i := 5) rfl) rfl dX8_count_133 ?_
      refine kget F hK hP0 5 2 0 iX5 rfl rfl (by decide) (List.mem_of_getElem? (i := 13) rfl) rfl dX8_count_136 ?_
      refine kget F hK hP0 3 6 11 iX3 rfl rfl (by decide) (List.mem_of_getElem? (i := 12) rfl) rfl dX8_count_139 ?_
      have q11 : (r 11) = kcountR nw c s rp rq p r x i := by
        first | (subst c1_8; rfl) | (subst c1_8; simp only [kcountR, show ¬ ((8 : Int32) = 0) from by decide, show ¬ ((8 : Int32) = 1) from by decide, show ¬ ((8 : Int32) = 2) from by decide, show ¬ ((8 : Int32) = 3) from by decide, show ¬ ((8 : Int32) = 4) from by decide, show ¬ ((8 : Int32) = 5) from by decide, show ¬ ((8 : Int32) = 6) from by decide, show ¬ ((8 : Int32) = 7) from by decide, show ¬ ((8 : Int32) = 9) from by decide, show ¬ ((8 : Int32) = 10) from by decide, show ¬ ((8 : Int32) = 11) from by decide, show ¬ ((8 : Int32) = 12) from by decide, eq_self, ↓reduceIte]; done) | (simp only [kcountR, c1_8, ↓reduceIte]) | (simp only [kcountR, c1_8, ↓reduceIte]; simp; done)
      exact kRi F hr hlocks hS0 dX8_count_142 () q11 hP0 hD0
    rcases kswE i 9 (v := 9) (by decide) with c1_9 | c1_9
    · refine lv_tableIn (off := 142) (tgt := 143) hx hb dX8_count_1 c1a c1b (by rw [c1_9]; rfl) (by decide) ?_
      refine lv_aload_n hx hb dX8_count_143 rfl (lv_at hl0 0 rfl) ?_
      refine kget F hK hP0 8 0 0 iX8 rfl rfl (by decide) (List.mem_of_getElem? (i := 10) rfl) rfl dX8_count_144 ?_
      refine kget F hK hP0 0 1 0 iX0 rfl rfl (by decide) (List.mem_of_getElem? (i := 11) rfl) rfl dX8_count_147 ?_
      refine kget F hK hP0 3 5 12 iX3 rfl rfl (by decide) (List.mem_of_getElem? (i := 14) rfl) rfl dX8_count_150 ?_
      have q12 : (p 12) = kcountR nw c s rp rq p r x i := by
        first | (subst c1_9; rfl) | (subst c1_9; simp only [kcountR, show ¬ ((9 : Int32) = 0) from by decide, show ¬ ((9 : Int32) = 1) from by decide, show ¬ ((9 : Int32) = 2) from by decide, show ¬ ((9 : Int32) = 3) from by decide, show ¬ ((9 : Int32) = 4) from by decide, show ¬ ((9 : Int32) = 5) from by decide, show ¬ ((9 : Int32) = 6) from by decide, show ¬ ((9 : Int32) = 7) from by decide, show ¬ ((9 : Int32) = 8) from by decide, show ¬ ((9 : Int32) = 10) from by decide, show ¬ ((9 : Int32) = 11) from by decide, show ¬ ((9 : Int32) = 12) from by decide, eq_self, ↓reduceIte]; done) | (simp only [kcountR, c1_9, ↓reduceIte]) | (simp only [kcountR, c1_9, ↓reduceIte]; simp; done)
      exact kRi F hr hlocks hS0 dX8_count_153 () q12 hP0 hD0
    rcases kswE i 10 (v := 10) (by decide) with c1_10 | c1_10
    · refine lv_tableIn (off := 153) (tgt := 154) hx hb dX8_count_1 c1a c1b (by rw [c1_10]; rfl) (by decide) ?_
      refine lv_aload_n hx hb dX8_count_154 rfl (lv_at hl0 0 rfl) ?_
      refine kget F hK hP0 8 0 1 iX8 rfl rfl (by decide) (List.mem_of_getElem? (i := 5) rfl) rfl dX8_count_155 ?_
      refine kget F hK hP0 5 2 0 iX5 rfl rfl (by decide) (List.mem_of_getElem? (i := 13) rfl) rfl dX8_count_158 ?_
      refine kget F hK hP0 3 6 12 iX3 rfl rfl (by decide) (List.mem_of_getElem? (i := 14) rfl) rfl dX8_count_161 ?_
      have q13 : (r 12) = kcountR nw c s rp rq p r x i := by
        first | (subst c1_10; rfl) | (subst c1_10; simp only [kcountR, show ¬ ((10 : Int32) = 0) from by decide, show ¬ ((10 : Int32) = 1) from by decide, show ¬ ((10 : Int32) = 2) from by decide, show ¬ ((10 : Int32) = 3) from by decide, show ¬ ((10 : Int32) = 4) from by decide, show ¬ ((10 : Int32) = 5) from by decide, show ¬ ((10 : Int32) = 6) from by decide, show ¬ ((10 : Int32) = 7) from by decide, show ¬ ((10 : Int32) = 8) from by decide, show ¬ ((10 : Int32) = 9) from by decide, show ¬ ((10 : Int32) = 11) from by decide, show ¬ ((10 : Int32) = 12) from by decide, eq_self, ↓reduceIte]; done) | (simp only [kcountR, c1_10, ↓reduceIte]) | (simp only [kcountR, c1_10, ↓reduceIte]; simp; done)
      exact kRi F hr hlocks hS0 dX8_count_164 () q13 hP0 hD0
    rcases kswE i 11 (v := 11) (by decide) with c1_11 | c1_11
    · refine lv_tableIn (off := 164) (tgt := 165) hx hb dX8_count_1 c1a c1b (by rw [c1_11]; rfl) (by decide) ?_
      refine lv_aload_n hx hb dX8_count_165 rfl (lv_at hl0 0 rfl) ?_
      refine kget F hK hP0 8 0 7 iX8 rfl rfl (by decide) (List.mem_of_getElem? (i := 15) rfl) rfl dX8_count_166 ?_
      refine kget F hK hP0 6 7 1 iX6 rfl rfl (by decide) (List.mem_of_getElem? (i := 16) rfl) rfl dX8_count_169 ?_
      have q14 : (x 1) = kcountR nw c s rp rq p r x i := by
        first | (subst c1_11; rfl) | (subst c1_11; simp only [kcountR, show ¬ ((11 : Int32) = 0) from by decide, show ¬ ((11 : Int32) = 1) from by decide, show ¬ ((11 : Int32) = 2) from by decide, show ¬ ((11 : Int32) = 3) from by decide, show ¬ ((11 : Int32) = 4) from by decide, show ¬ ((11 : Int32) = 5) from by decide, show ¬ ((11 : Int32) = 6) from by decide, show ¬ ((11 : Int32) = 7) from by decide, show ¬ ((11 : Int32) = 8) from by decide, show ¬ ((11 : Int32) = 9) from by decide, show ¬ ((11 : Int32) = 10) from by decide, show ¬ ((11 : Int32) = 12) from by decide, eq_self, ↓reduceIte]; done) | (simp only [kcountR, c1_11, ↓reduceIte]) | (simp only [kcountR, c1_11, ↓reduceIte]; simp; done)
      exact kRi F hr hlocks hS0 dX8_count_172 () q14 hP0 hD0
    rcases kswE i 12 (v := 12) (by decide) with c1_12 | c1_12
    · refine lv_tableIn (off := 172) (tgt := 173) hx hb dX8_count_1 c1a c1b (by rw [c1_12]; rfl) (by decide) ?_
      refine lv_aload_n hx hb dX8_count_173 rfl (lv_at hl0 0 rfl) ?_
      refine kget F hK hP0 8 0 2 iX8 rfl rfl (by decide) (List.mem_of_getElem? (i := 2) rfl) rfl dX8_count_174 ?_
      refine kget F hK hP0 4 3 2 iX4 rfl rfl (by decide) (List.mem_of_getElem? (i := 17) rfl) rfl dX8_count_177 ?_
      refine lv_aload_n hx hb dX8_count_180 rfl (lv_at hl0 0 rfl) ?_
      refine kget F hK hP0 8 0 3 iX8 rfl rfl (by decide) (List.mem_of_getElem? (i := 4) rfl) rfl dX8_count_181 ?_
      refine kget F hK hP0 4 4 2 iX4 rfl rfl (by decide) (List.mem_of_getElem? (i := 17) rfl) rfl dX8_count_184 ?_
      refine lv_iadd hx hb dX8_count_187 ?_
      have q15 : ((rp 2) + (rq 2)) = kcountR nw c s rp rq p r x i := by
        first | (subst c1_12; rfl) | (subst c1_12; simp only [kcountR, show ¬ ((12 : Int32) = 0) from by decide, show ¬ ((12 : Int32) = 1) from by decide, show ¬ ((12 : Int32) = 2) from by decide, show ¬ ((12 : Int32) = 3) from by decide, show ¬ ((12 : Int32) = 4) from by decide, show ¬ ((12 : Int32) = 5) from by decide, show ¬ ((12 : Int32) = 6) from by decide, show ¬ ((12 : Int32) = 7) from by decide, show ¬ ((12 : Int32) = 8) from by decide, show ¬ ((12 : Int32) = 9) from by decide, show ¬ ((12 : Int32) = 10) from by decide, show ¬ ((12 : Int32) = 11) from by decide, eq_self, ↓reduceIte]; done) | (simp only [kcountR, c1_12, ↓reduceIte]) | (simp only [kcountR, c1_12, ↓reduceIte]; simp; done)
      exact kRi F hr hlocks hS0 dX8_count_188 () q15 hP0 hD0
    omega
set_option maxHeartbeats 1000000 in
set_option maxRecDepth 100000 in
theorem c_X8_keptN (l : Launch) (G : kG) (h : Nat) (cl : Nat) (se : Nat) (rc : Nat) (rs : Nat) (ar : Nat) (co : Nat) (cz : Nat) (tx : Nat) (nw : Nat → Int32) (pe : Nat) (ta : Nat) (sn : Nat) (sb : Nat) (s : Nat → Int32) (i : Int32) (v : Int32) (hno : i < 0 ∨ ¬ i < s 2) : kM G l yX8_kept wsX8_kept ({ frames := 0, cells := 0, slots := 0, locals := 0 }) [.ref h, .int i, .int v] ([oTo h cl se rc rs ar co cz tx nw, oSe se pe ta sn sb s]) (kQi G (fun (rr : Int32) (uu : Unit) => rr = (-2 : Int32)) (fun (uu : Unit) => [oTo h cl se rc rs ar co cz tx nw, oSe se pe ta sn sb s])) := by
  refine kStart (cc := cX8_kept) (maxL := 3) (ret := (some .int)) (by decide) rfl (Nat.le_of_ble_eq_true rfl) (fun pg ev st mi bl mt cd A ls0 F hr hlocks hin hK hP0 hD0 hA hS0 hl0 => ?_)
  obtain ⟨hx, hb, hml, hown, hts⟩ := id F
  have hl0 : lv_has ls0 3 [(0, .ref h), (1, .int i), (2, .int v)] := hl0
  have iX5 : ∀ w ∈ u_ws RX5 TX5 9, w ∈ wsX8_kept := fun w h => List.mem_cons_of_mem _ (List.mem_append_left _ (List.mem_append_right _ h))
  have iX8 : ∀ w ∈ u_ws RX8 TX8 9, w ∈ wsX8_kept := fun w h => List.mem_cons_of_mem _ (List.mem_append_left _ (List.mem_append_left _ (List.mem_append_right _ h)))
  refine lv_iload_n hx hb dX8_kept_0 rfl (lv_at hl0 1 rfl) ?_
  refine lv_if_lt (tgt := 15) hx hb dX8_kept_1 (by decide) (fun c1 => ?_) (fun c1 => ?_)
  · refine lv_bipush (v := (-2)) hx hb dX8_kept_15 (by decide) ?_
    have q2 : (-2) = (-2 : Int32) := by
      first | (simp only [eq_true c1, eq_self, ↓reduceIte, and_self, and_true, true_and]; done) | (simp only [eq_true c1, eq_self, ↓reduceIte, and_self, and_true, true_and]; (try and_intros) <;> rfl) | exact rfl
    exact kRi F hr hlocks hS0 dX8_kept_17 () q2 hP0 hD0
  · refine lv_iload_n hx hb dX8_kept_4 rfl (lv_at hl0 1 rfl) ?_
    refine lv_aload_n hx hb dX8_kept_5 rfl (lv_at hl0 0 rfl) ?_
    refine kget F hK hP0 8 0 1 iX8 rfl rfl (by decide) (List.mem_of_getElem? (i := 1) rfl) rfl dX8_kept_6 ?_
    refine kget F hK hP0 5 1 2 iX5 rfl rfl (by decide) (List.mem_of_getElem? (i := 2) rfl) rfl dX8_kept_9 ?_
    refine lv_icmp_lt (tgt := 18) hx hb dX8_kept_12 (by decide) (fun c3 => ?_) (fun c3 => ?_)
    · exact hno.elim (fun q => absurd q c1) (fun q => absurd c3 q)
    · refine lv_bipush (v := (-2)) hx hb dX8_kept_15 (by decide) ?_
      have q4 : (-2) = (-2 : Int32) := by
        first | (simp only [c1, c3, eq_self, ↓reduceIte, and_self, and_true, true_and]; done) | (simp only [c1, c3, eq_self, ↓reduceIte, and_self, and_true, true_and]; (try and_intros) <;> rfl) | exact rfl
      exact kRi F hr hlocks hS0 dX8_kept_17 () q4 hP0 hD0
set_option maxHeartbeats 1000000 in
set_option maxRecDepth 100000 in
theorem c_X8_kept0 (l : Launch) (G : kG) (h : Nat) (cl : Nat) (se : Nat) (rc : Nat) (rs : Nat) (ar : Nat) (co : Nat) (cz : Nat) (tx : Nat) (nw : Nat → Int32) (pe : Nat) (ta : Nat) (sn : Nat) (sb : Nat) (s : Nat → Int32) (k : Nat → Nat) (T : Nat → Nat → Int32) (v : Int32) (hj : 0 < s 2) : kM G l yX8_kept wsX8_kept ({ frames := 1, cells := 0, slots := 0, locals := 21 }) [.ref h, .int 0, .int v] ([oTo h cl se rc rs ar co cz tx nw, oSe se pe ta sn sb s, aT G ta 3 (krow3 k), oTi (k 0) (T 0), oTi (k 1) (T 1), oTi (k 2) (T 2)]) (kQi G (fun (rr : Int32) (uu : Unit) => rr = if kin5 v = 0 then -3 else ktell (T 0) v) (fun (uu : Unit) => [oTo h cl se rc rs ar co cz tx nw, oSe se pe ta sn sb s, aT G ta 3 (krow3 k), oTi (k 0) (T 0), oTi (k 1) (T 1), oTi (k 2) (T 2)])) := by
  refine kStart (cc := cX8_kept) (maxL := 3) (ret := (some .int)) (by decide) rfl (Nat.le_of_ble_eq_true rfl) (fun pg ev st mi bl mt cd A ls0 F hr hlocks hin hK hP0 hD0 hA hS0 hl0 => ?_)
  obtain ⟨hx, hb, hml, hown, hts⟩ := id F
  have hl0 : lv_has ls0 3 [(0, .ref h), (1, .int 0), (2, .int v)] := hl0
  have iX5 : ∀ w ∈ u_ws RX5 TX5 9, w ∈ wsX8_kept := fun w h => List.mem_cons_of_mem _ (List.mem_append_left _ (List.mem_append_right _ h))
  have iX8 : ∀ w ∈ u_ws RX8 TX8 9, w ∈ wsX8_kept := fun w h => List.mem_cons_of_mem _ (List.mem_append_left _ (List.mem_append_left _ (List.mem_append_right _ h)))
  refine lv_iload_n hx hb dX8_kept_0 rfl (lv_at hl0 1 rfl) ?_
  refine lv_if_lt (tgt := 15) hx hb dX8_kept_1 (by decide) (fun c1 => ?_) (fun c1 => ?_)
  · exact absurd c1 (by decide)
  · refine lv_iload_n hx hb dX8_kept_4 rfl (lv_at hl0 1 rfl) ?_
    refine lv_aload_n hx hb dX8_kept_5 rfl (lv_at hl0 0 rfl) ?_
    refine kget F hK hP0 8 0 1 iX8 rfl rfl (by decide) (List.mem_of_getElem? (i := 1) rfl) rfl dX8_kept_6 ?_
    refine kget F hK hP0 5 1 2 iX5 rfl rfl (by decide) (List.mem_of_getElem? (i := 2) rfl) rfl dX8_kept_9 ?_
    refine lv_icmp_lt (tgt := 18) hx hb dX8_kept_12 (by decide) (fun c2 => ?_) (fun c2 => ?_)
    · refine lv_iload_n hx hb dX8_kept_18 rfl (lv_at hl0 2 rfl) ?_
      refine kPSi F hK hP0 hD0 hS0 hA hl0.1 (c_X7_tells l G v) (fun _ => rfl) gX8_kept_X7_tells rfl 1 rfl (by decide +kernel) ⟨Nat.le_of_ble_eq_true rfl, Nat.le_of_ble_eq_true rfl⟩ ⟨Nat.zero_le _, Nat.zero_le _⟩ (Nat.le_of_ble_eq_true rfl) rfl dX8_kept_19 (fun r3 u3 H4 locs4 hw3 (hP4 : va_P G.1 vwCl ([oTo h cl se rc rs ar co cz tx nw, oSe se pe ta sn sb s, aT G ta 3 (krow3 k), oTi (k 0) (T 0), oTi (k 1) (T 1), oTi (k 2) (T 2)]) H4) (hD4 : va_D A ([oTo h cl se rc rs ar co cz tx nw, oSe se pe ta sn sb s, aT G ta 3 (krow3 k), oTi (k 0) (T 0), oTi (k 1) (T 1), oTi (k 2) (T 2)])) hS4 => ?_)
      clear hP0 hD0 hS0
      have w3_0 : r3 = kin5 v := hw3
      refine lv_if_eq (tgt := 41) hx hb dX8_kept_22 (by decide) (fun c5 => ?_) (fun c5 => ?_)
      · refine lv_bipush (v := (-3)) hx hb dX8_kept_41 (by decide) ?_
        have q6 : (-3) = if kin5 v = 0 then -3 else ktell (T 0) v := by
          subst w3_0
          first | (simp only [c1, eq_true c2, eq_true c5, eq_self, ↓reduceIte, and_self, and_true, true_and]; done) | (simp only [c1, eq_true c2, eq_true c5, eq_self, ↓reduceIte, and_self, and_true, true_and]; (try and_intros) <;> rfl)
        exact kRi F hr hlocks hS4 dX8_kept_43 () q6 hP4 hD4
      · refine lv_aload_n hx hb dX8_kept_25 rfl (lv_at hl0 0 rfl) ?_
        refine kget F hK hP4 8 0 1 iX8 rfl rfl (by decide) (List.mem_of_getElem? (i := 1) rfl) rfl dX8_kept_26 ?_
        refine kget F hK hP4 5 1 1 iX5 rfl rfl (by decide) (List.mem_of_getElem? (i := 3) rfl) rfl dX8_kept_29 ?_
        refine lv_iload_n hx hb dX8_kept_32 rfl (lv_at hl0 1 rfl) ?_
        refine kald F hK hP4 2 3 0 (x := (k 0)) rfl rfl rfl (by decide) (Nat.le_of_ble_eq_true rfl) rfl dX8_kept_33 ?_
        refine lv_iload_n hx hb dX8_kept_34 rfl (lv_at hl0 2 rfl) ?_
        refine kVi (wr := [oTo h cl se rc rs ar co cz tx nw, oSe se pe ta sn sb s, aT G ta 3 (krow3 k), oTi (k 1) (T 1), oTi (k 2) (T 2)]) F hK hP4 hD4 hS4 hA hl0.1 (c_X7_tell l G (k 0) (T 0) v) [3] [0, 1, 2, 4, 5] 7 0 gX8_kept_X7_tell rfl 1 rfl (by decide +kernel) ⟨Nat.le_of_ble_eq_true rfl, Nat.le_of_ble_eq_true rfl⟩ ⟨Nat.zero_le _, Nat.zero_le _⟩ rfl rfl rfl rfl (by decide) (by decide) (by decide) (Nat.le_of_ble_eq_true rfl) rfl dX8_kept_35 (fun r7 u7 H8 locs8 hw7 (hP8 : va_P G.1 vwCl ([oTo h cl se rc rs ar co cz tx nw, oSe se pe ta sn sb s, aT G ta 3 (krow3 k), oTi (k 1) (T 1), oTi (k 2) (T 2), oTi (k 0) (T 0)]) H8) (hD8 : va_D A ([oTo h cl se rc rs ar co cz tx nw, oSe se pe ta sn sb s, aT G ta 3 (krow3 k), oTi (k 1) (T 1), oTi (k 2) (T 2), oTi (k 0) (T 0)])) hS8 => ?_)
        clear hP4 hD4 hS4
        have w7_0 : r7 = ktell (T 0) v := hw7
        refine lv_goto (tgt := 43) hx hb dX8_kept_38 (by decide) ?_
        have q9 : r7 = if kin5 v = 0 then -3 else ktell (T 0) v := by
          subst w7_0
          subst w3_0
          first | (simp only [c1, eq_true c2, c5, eq_self, ↓reduceIte, and_self, and_true, true_and]; done) | (simp only [c1, eq_true c2, c5, eq_self, ↓reduceIte, and_self, and_true, true_and]; (try and_intros) <;> rfl)
        exact kRi F hr hlocks hS8 dX8_kept_43 () q9 (hP8.sub [0, 1, 2, 5, 3, 4] rfl) (hD8.sub [0, 1, 2, 5, 3, 4] (by decide) rfl)
    · exact absurd hj c2
set_option maxHeartbeats 1000000 in
set_option maxRecDepth 100000 in
theorem c_X8_kept1 (l : Launch) (G : kG) (h : Nat) (cl : Nat) (se : Nat) (rc : Nat) (rs : Nat) (ar : Nat) (co : Nat) (cz : Nat) (tx : Nat) (nw : Nat → Int32) (pe : Nat) (ta : Nat) (sn : Nat) (sb : Nat) (s : Nat → Int32) (k : Nat → Nat) (T : Nat → Nat → Int32) (v : Int32) (hj : 1 < s 2) : kM G l yX8_kept wsX8_kept ({ frames := 1, cells := 0, slots := 0, locals := 21 }) [.ref h, .int 1, .int v] ([oTo h cl se rc rs ar co cz tx nw, oSe se pe ta sn sb s, aT G ta 3 (krow3 k), oTi (k 0) (T 0), oTi (k 1) (T 1), oTi (k 2) (T 2)]) (kQi G (fun (rr : Int32) (uu : Unit) => rr = if kin5 v = 0 then -3 else ktell (T 1) v) (fun (uu : Unit) => [oTo h cl se rc rs ar co cz tx nw, oSe se pe ta sn sb s, aT G ta 3 (krow3 k), oTi (k 0) (T 0), oTi (k 1) (T 1), oTi (k 2) (T 2)])) := by
  refine kStart (cc := cX8_kept) (maxL := 3) (ret := (some .int)) (by decide) rfl (Nat.le_of_ble_eq_true rfl) (fun pg ev st mi bl mt cd A ls0 F hr hlocks hin hK hP0 hD0 hA hS0 hl0 => ?_)
  obtain ⟨hx, hb, hml, hown, hts⟩ := id F
  have hl0 : lv_has ls0 3 [(0, .ref h), (1, .int 1), (2, .int v)] := hl0
  have iX5 : ∀ w ∈ u_ws RX5 TX5 9, w ∈ wsX8_kept := fun w h => List.mem_cons_of_mem _ (List.mem_append_left _ (List.mem_append_right _ h))
  have iX8 : ∀ w ∈ u_ws RX8 TX8 9, w ∈ wsX8_kept := fun w h => List.mem_cons_of_mem _ (List.mem_append_left _ (List.mem_append_left _ (List.mem_append_right _ h)))
  refine lv_iload_n hx hb dX8_kept_0 rfl (lv_at hl0 1 rfl) ?_
  refine lv_if_lt (tgt := 15) hx hb dX8_kept_1 (by decide) (fun c1 => ?_) (fun c1 => ?_)
  · exact absurd c1 (by decide)
  · refine lv_iload_n hx hb dX8_kept_4 rfl (lv_at hl0 1 rfl) ?_
    refine lv_aload_n hx hb dX8_kept_5 rfl (lv_at hl0 0 rfl) ?_
    refine kget F hK hP0 8 0 1 iX8 rfl rfl (by decide) (List.mem_of_getElem? (i := 1) rfl) rfl dX8_kept_6 ?_
    refine kget F hK hP0 5 1 2 iX5 rfl rfl (by decide) (List.mem_of_getElem? (i := 2) rfl) rfl dX8_kept_9 ?_
    refine lv_icmp_lt (tgt := 18) hx hb dX8_kept_12 (by decide) (fun c2 => ?_) (fun c2 => ?_)
    · refine lv_iload_n hx hb dX8_kept_18 rfl (lv_at hl0 2 rfl) ?_
      refine kPSi F hK hP0 hD0 hS0 hA hl0.1 (c_X7_tells l G v) (fun _ => rfl) gX8_kept_X7_tells rfl 1 rfl (by decide +kernel) ⟨Nat.le_of_ble_eq_true rfl, Nat.le_of_ble_eq_true rfl⟩ ⟨Nat.zero_le _, Nat.zero_le _⟩ (Nat.le_of_ble_eq_true rfl) rfl dX8_kept_19 (fun r3 u3 H4 locs4 hw3 (hP4 : va_P G.1 vwCl ([oTo h cl se rc rs ar co cz tx nw, oSe se pe ta sn sb s, aT G ta 3 (krow3 k), oTi (k 0) (T 0), oTi (k 1) (T 1), oTi (k 2) (T 2)]) H4) (hD4 : va_D A ([oTo h cl se rc rs ar co cz tx nw, oSe se pe ta sn sb s, aT G ta 3 (krow3 k), oTi (k 0) (T 0), oTi (k 1) (T 1), oTi (k 2) (T 2)])) hS4 => ?_)
      clear hP0 hD0 hS0
      have w3_0 : r3 = kin5 v := hw3
      refine lv_if_eq (tgt := 41) hx hb dX8_kept_22 (by decide) (fun c5 => ?_) (fun c5 => ?_)
      · refine lv_bipush (v := (-3)) hx hb dX8_kept_41 (by decide) ?_
        have q6 : (-3) = if kin5 v = 0 then -3 else ktell (T 1) v := by
          subst w3_0
          first | (simp only [c1, eq_true c2, eq_true c5, eq_self, ↓reduceIte, and_self, and_true, true_and]; done) | (simp only [c1, eq_true c2, eq_true c5, eq_self, ↓reduceIte, and_self, and_true, true_and]; (try and_intros) <;> rfl)
        exact kRi F hr hlocks hS4 dX8_kept_43 () q6 hP4 hD4
      · refine lv_aload_n hx hb dX8_kept_25 rfl (lv_at hl0 0 rfl) ?_
        refine kget F hK hP4 8 0 1 iX8 rfl rfl (by decide) (List.mem_of_getElem? (i := 1) rfl) rfl dX8_kept_26 ?_
        refine kget F hK hP4 5 1 1 iX5 rfl rfl (by decide) (List.mem_of_getElem? (i := 3) rfl) rfl dX8_kept_29 ?_
        refine lv_iload_n hx hb dX8_kept_32 rfl (lv_at hl0 1 rfl) ?_
        refine kald F hK hP4 2 3 1 (x := (k 1)) rfl rfl rfl (by decide) (Nat.le_of_ble_eq_true rfl) rfl dX8_kept_33 ?_
        refine lv_iload_n hx hb dX8_kept_34 rfl (lv_at hl0 2 rfl) ?_
        refine kVi (wr := [oTo h cl se rc rs ar co cz tx nw, oSe se pe ta sn sb s, aT G ta 3 (krow3 k), oTi (k 0) (T 0), oTi (k 2) (T 2)]) F hK hP4 hD4 hS4 hA hl0.1 (c_X7_tell l G (k 1) (T 1) v) [4] [0, 1, 2, 3, 5] 7 0 gX8_kept_X7_tell rfl 1 rfl (by decide +kernel) ⟨Nat.le_of_ble_eq_true rfl, Nat.le_of_ble_eq_true rfl⟩ ⟨Nat.zero_le _, Nat.zero_le _⟩ rfl rfl rfl rfl (by decide) (by decide) (by decide) (Nat.le_of_ble_eq_true rfl) rfl dX8_kept_35 (fun r7 u7 H8 locs8 hw7 (hP8 : va_P G.1 vwCl ([oTo h cl se rc rs ar co cz tx nw, oSe se pe ta sn sb s, aT G ta 3 (krow3 k), oTi (k 0) (T 0), oTi (k 2) (T 2), oTi (k 1) (T 1)]) H8) (hD8 : va_D A ([oTo h cl se rc rs ar co cz tx nw, oSe se pe ta sn sb s, aT G ta 3 (krow3 k), oTi (k 0) (T 0), oTi (k 2) (T 2), oTi (k 1) (T 1)])) hS8 => ?_)
        clear hP4 hD4 hS4
        have w7_0 : r7 = ktell (T 1) v := hw7
        refine lv_goto (tgt := 43) hx hb dX8_kept_38 (by decide) ?_
        have q9 : r7 = if kin5 v = 0 then -3 else ktell (T 1) v := by
          subst w7_0
          subst w3_0
          first | (simp only [c1, eq_true c2, c5, eq_self, ↓reduceIte, and_self, and_true, true_and]; done) | (simp only [c1, eq_true c2, c5, eq_self, ↓reduceIte, and_self, and_true, true_and]; (try and_intros) <;> rfl)
        exact kRi F hr hlocks hS8 dX8_kept_43 () q9 (hP8.sub [0, 1, 2, 3, 5, 4] rfl) (hD8.sub [0, 1, 2, 3, 5, 4] (by decide) rfl)
    · exact absurd hj c2
set_option maxHeartbeats 1000000 in
set_option maxRecDepth 100000 in
theorem c_X8_kept2 (l : Launch) (G : kG) (h : Nat) (cl : Nat) (se : Nat) (rc : Nat) (rs : Nat) (ar : Nat) (co : Nat) (cz : Nat) (tx : Nat) (nw : Nat → Int32) (pe : Nat) (ta : Nat) (sn : Nat) (sb : Nat) (s : Nat → Int32) (k : Nat → Nat) (T : Nat → Nat → Int32) (v : Int32) (hj : 2 < s 2) : kM G l yX8_kept wsX8_kept ({ frames := 1, cells := 0, slots := 0, locals := 21 }) [.ref h, .int 2, .int v] ([oTo h cl se rc rs ar co cz tx nw, oSe se pe ta sn sb s, aT G ta 3 (krow3 k), oTi (k 0) (T 0), oTi (k 1) (T 1), oTi (k 2) (T 2)]) (kQi G (fun (rr : Int32) (uu : Unit) => rr = if kin5 v = 0 then -3 else ktell (T 2) v) (fun (uu : Unit) => [oTo h cl se rc rs ar co cz tx nw, oSe se pe ta sn sb s, aT G ta 3 (krow3 k), oTi (k 0) (T 0), oTi (k 1) (T 1), oTi (k 2) (T 2)])) := by
  refine kStart (cc := cX8_kept) (maxL := 3) (ret := (some .int)) (by decide) rfl (Nat.le_of_ble_eq_true rfl) (fun pg ev st mi bl mt cd A ls0 F hr hlocks hin hK hP0 hD0 hA hS0 hl0 => ?_)
  obtain ⟨hx, hb, hml, hown, hts⟩ := id F
  have hl0 : lv_has ls0 3 [(0, .ref h), (1, .int 2), (2, .int v)] := hl0
  have iX5 : ∀ w ∈ u_ws RX5 TX5 9, w ∈ wsX8_kept := fun w h => List.mem_cons_of_mem _ (List.mem_append_left _ (List.mem_append_right _ h))
  have iX8 : ∀ w ∈ u_ws RX8 TX8 9, w ∈ wsX8_kept := fun w h => List.mem_cons_of_mem _ (List.mem_append_left _ (List.mem_append_left _ (List.mem_append_right _ h)))
  refine lv_iload_n hx hb dX8_kept_0 rfl (lv_at hl0 1 rfl) ?_
  refine lv_if_lt (tgt := 15) hx hb dX8_kept_1 (by decide) (fun c1 => ?_) (fun c1 => ?_)
  · exact absurd c1 (by decide)
  · refine lv_iload_n hx hb dX8_kept_4 rfl (lv_at hl0 1 rfl) ?_
    refine lv_aload_n hx hb dX8_kept_5 rfl (lv_at hl0 0 rfl) ?_
    refine kget F hK hP0 8 0 1 iX8 rfl rfl (by decide) (List.mem_of_getElem? (i := 1) rfl) rfl dX8_kept_6 ?_
    refine kget F hK hP0 5 1 2 iX5 rfl rfl (by decide) (List.mem_of_getElem? (i := 2) rfl) rfl dX8_kept_9 ?_
    refine lv_icmp_lt (tgt := 18) hx hb dX8_kept_12 (by decide) (fun c2 => ?_) (fun c2 => ?_)
    · refine lv_iload_n hx hb dX8_kept_18 rfl (lv_at hl0 2 rfl) ?_
      refine kPSi F hK hP0 hD0 hS0 hA hl0.1 (c_X7_tells l G v) (fun _ => rfl) gX8_kept_X7_tells rfl 1 rfl (by decide +kernel) ⟨Nat.le_of_ble_eq_true rfl, Nat.le_of_ble_eq_true rfl⟩ ⟨Nat.zero_le _, Nat.zero_le _⟩ (Nat.le_of_ble_eq_true rfl) rfl dX8_kept_19 (fun r3 u3 H4 locs4 hw3 (hP4 : va_P G.1 vwCl ([oTo h cl se rc rs ar co cz tx nw, oSe se pe ta sn sb s, aT G ta 3 (krow3 k), oTi (k 0) (T 0), oTi (k 1) (T 1), oTi (k 2) (T 2)]) H4) (hD4 : va_D A ([oTo h cl se rc rs ar co cz tx nw, oSe se pe ta sn sb s, aT G ta 3 (krow3 k), oTi (k 0) (T 0), oTi (k 1) (T 1), oTi (k 2) (T 2)])) hS4 => ?_)
      clear hP0 hD0 hS0
      have w3_0 : r3 = kin5 v := hw3
      refine lv_if_eq (tgt := 41) hx hb dX8_kept_22 (by decide) (fun c5 => ?_) (fun c5 => ?_)
      · refine lv_bipush (v := (-3)) hx hb dX8_kept_41 (by decide) ?_
        have q6 : (-3) = if kin5 v = 0 then -3 else ktell (T 2) v := by
          subst w3_0
          first | (simp only [c1, eq_true c2, eq_true c5, eq_self, ↓reduceIte, and_self, and_true, true_and]; done) | (simp only [c1, eq_true c2, eq_true c5, eq_self, ↓reduceIte, and_self, and_true, true_and]; (try and_intros) <;> rfl)
        exact kRi F hr hlocks hS4 dX8_kept_43 () q6 hP4 hD4
      · refine lv_aload_n hx hb dX8_kept_25 rfl (lv_at hl0 0 rfl) ?_
        refine kget F hK hP4 8 0 1 iX8 rfl rfl (by decide) (List.mem_of_getElem? (i := 1) rfl) rfl dX8_kept_26 ?_
        refine kget F hK hP4 5 1 1 iX5 rfl rfl (by decide) (List.mem_of_getElem? (i := 3) rfl) rfl dX8_kept_29 ?_
        refine lv_iload_n hx hb dX8_kept_32 rfl (lv_at hl0 1 rfl) ?_
        refine kald F hK hP4 2 3 2 (x := (k 2)) rfl rfl rfl (by decide) (Nat.le_of_ble_eq_true rfl) rfl dX8_kept_33 ?_
        refine lv_iload_n hx hb dX8_kept_34 rfl (lv_at hl0 2 rfl) ?_
        refine kVi (wr := [oTo h cl se rc rs ar co cz tx nw, oSe se pe ta sn sb s, aT G ta 3 (krow3 k), oTi (k 0) (T 0), oTi (k 1) (T 1)]) F hK hP4 hD4 hS4 hA hl0.1 (c_X7_tell l G (k 2) (T 2) v) [5] [0, 1, 2, 3, 4] 7 0 gX8_kept_X7_tell rfl 1 rfl (by decide +kernel) ⟨Nat.le_of_ble_eq_true rfl, Nat.le_of_ble_eq_true rfl⟩ ⟨Nat.zero_le _, Nat.zero_le _⟩ rfl rfl rfl rfl (by decide) (by decide) (by decide) (Nat.le_of_ble_eq_true rfl) rfl dX8_kept_35 (fun r7 u7 H8 locs8 hw7 (hP8 : va_P G.1 vwCl ([oTo h cl se rc rs ar co cz tx nw, oSe se pe ta sn sb s, aT G ta 3 (krow3 k), oTi (k 0) (T 0), oTi (k 1) (T 1), oTi (k 2) (T 2)]) H8) (hD8 : va_D A ([oTo h cl se rc rs ar co cz tx nw, oSe se pe ta sn sb s, aT G ta 3 (krow3 k), oTi (k 0) (T 0), oTi (k 1) (T 1), oTi (k 2) (T 2)])) hS8 => ?_)
        clear hP4 hD4 hS4
        have w7_0 : r7 = ktell (T 2) v := hw7
        refine lv_goto (tgt := 43) hx hb dX8_kept_38 (by decide) ?_
        have q9 : r7 = if kin5 v = 0 then -3 else ktell (T 2) v := by
          subst w7_0
          subst w3_0
          first | (simp only [c1, eq_true c2, c5, eq_self, ↓reduceIte, and_self, and_true, true_and]; done) | (simp only [c1, eq_true c2, c5, eq_self, ↓reduceIte, and_self, and_true, true_and]; (try and_intros) <;> rfl)
        exact kRi F hr hlocks hS8 dX8_kept_43 () q9 hP8 hD8
    · exact absurd hj c2
