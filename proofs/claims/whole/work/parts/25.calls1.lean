set_option maxHeartbeats 1000000 in
set_option maxRecDepth 100000 in
theorem c_X8_peerOf0 (l : Launch) (G : kG) (h : Nat) (cl : Nat) (se : Nat) (rc : Nat) (rs : Nat) (ar : Nat) (co : Nat) (cz : Nat) (tx : Nat) (nw : Nat → Int32) (pe : Nat) (ti : Nat) (c : Nat → Int32) : kM G l yX8_peerOf wsX8_peerOf ({ frames := 0, cells := 0, slots := 0, locals := 0 }) [.ref h, .int 0] ([oTo h cl se rc rs ar co cz tx nw, oCl cl pe ti c]) (kQr G (fun (uu : Unit) => True) (fun (uu : Unit) => pe) (fun (uu : Unit) => [oTo h cl se rc rs ar co cz tx nw, oCl cl pe ti c])) := by
  refine kStart (cc := cX8_peerOf) (maxL := 2) (ret := (some (.object "ToyGreeting$Peer"))) (by decide) rfl (Nat.le_of_ble_eq_true rfl) (fun pg ev st mi bl mt cd A ls0 F hr hlocks hin hK hP0 hD0 hA hS0 hl0 => ?_)
  obtain ⟨hx, hb, hml, hown, hts⟩ := id F
  have hl0 : lv_has ls0 2 [(0, .ref h), (1, .int 0)] := hl0
  have iX0 : ∀ w ∈ u_ws RX0 TX0 9, w ∈ wsX8_peerOf := fun w h => List.mem_cons_of_mem _ (List.mem_append_left _ (List.mem_append_right _ h))
  have iX8 : ∀ w ∈ u_ws RX8 TX8 9, w ∈ wsX8_peerOf := fun w h => List.mem_cons_of_mem _ (List.mem_append_left _ (List.mem_append_left _ (List.mem_append_right _ h)))
  refine lv_iload_n hx hb dX8_peerOf_0 rfl (lv_at hl0 1 rfl) ?_
  refine lv_if_ne (tgt := 14) hx hb dX8_peerOf_1 (by decide) (fun c1 => ?_) (fun c1 => ?_)
  · exact absurd (by decide) c1
  · refine lv_aload_n hx hb dX8_peerOf_4 rfl (lv_at hl0 0 rfl) ?_
    refine kget F hK hP0 8 0 0 iX8 rfl rfl (by decide) (List.mem_of_getElem? (i := 1) rfl) rfl dX8_peerOf_5 ?_
    refine kget F hK hP0 0 1 0 iX0 rfl rfl (by decide) (List.mem_of_getElem? (i := 2) rfl) rfl dX8_peerOf_8 ?_
    refine lv_goto (tgt := 21) hx hb dX8_peerOf_11 (by decide) ?_
    have q2 : True := by
      first | rfl | (simp only [c1, ↓reduceIte]; done) | (simp [c1]; done)
    exact kRr F hr hlocks hS0 dX8_peerOf_21 () q2 rfl hP0 hD0
set_option maxHeartbeats 1000000 in
set_option maxRecDepth 100000 in
theorem c_X8_peerOf1 (l : Launch) (G : kG) (h : Nat) (cl : Nat) (se : Nat) (rc : Nat) (rs : Nat) (ar : Nat) (co : Nat) (cz : Nat) (tx : Nat) (nw : Nat → Int32) (pe : Nat) (ta : Nat) (sn : Nat) (sb : Nat) (s : Nat → Int32) : kM G l yX8_peerOf wsX8_peerOf ({ frames := 0, cells := 0, slots := 0, locals := 0 }) [.ref h, .int 1] ([oTo h cl se rc rs ar co cz tx nw, oSe se pe ta sn sb s]) (kQr G (fun (uu : Unit) => True) (fun (uu : Unit) => pe) (fun (uu : Unit) => [oTo h cl se rc rs ar co cz tx nw, oSe se pe ta sn sb s])) := by
  refine kStart (cc := cX8_peerOf) (maxL := 2) (ret := (some (.object "ToyGreeting$Peer"))) (by decide) rfl (Nat.le_of_ble_eq_true rfl) (fun pg ev st mi bl mt cd A ls0 F hr hlocks hin hK hP0 hD0 hA hS0 hl0 => ?_)
  obtain ⟨hx, hb, hml, hown, hts⟩ := id F
  have hl0 : lv_has ls0 2 [(0, .ref h), (1, .int 1)] := hl0
  have iX5 : ∀ w ∈ u_ws RX5 TX5 9, w ∈ wsX8_peerOf := fun w h => List.mem_cons_of_mem _ (List.mem_append_right _ h)
  have iX8 : ∀ w ∈ u_ws RX8 TX8 9, w ∈ wsX8_peerOf := fun w h => List.mem_cons_of_mem _ (List.mem_append_left _ (List.mem_append_left _ (List.mem_append_right _ h)))
  refine lv_iload_n hx hb dX8_peerOf_0 rfl (lv_at hl0 1 rfl) ?_
  refine lv_if_ne (tgt := 14) hx hb dX8_peerOf_1 (by decide) (fun c1 => ?_) (fun c1 => ?_)
  · refine lv_aload_n hx hb dX8_peerOf_14 rfl (lv_at hl0 0 rfl) ?_
    refine kget F hK hP0 8 0 1 iX8 rfl rfl (by decide) (List.mem_of_getElem? (i := 3) rfl) rfl dX8_peerOf_15 ?_
    refine kget F hK hP0 5 1 0 iX5 rfl rfl (by decide) (List.mem_of_getElem? (i := 4) rfl) rfl dX8_peerOf_18 ?_
    have q2 : True := by
      first | rfl | (simp only [c1, ↓reduceIte]; done) | (simp [c1]; done)
    exact kRr F hr hlocks hS0 dX8_peerOf_21 () q2 rfl hP0 hD0
  · exact absurd c1 (by decide)
set_option maxHeartbeats 1000000 in
set_option maxRecDepth 100000 in
theorem c_X8_roadTo0 (l : Launch) (G : kG) (h : Nat) (cl : Nat) (se : Nat) (rc : Nat) (rs : Nat) (ar : Nat) (co : Nat) (cz : Nat) (tx : Nat) (nw : Nat → Int32) : kM G l yX8_roadTo wsX8_roadTo ({ frames := 0, cells := 0, slots := 0, locals := 0 }) [.ref h, .int 0] ([oTo h cl se rc rs ar co cz tx nw]) (kQr G (fun (uu : Unit) => True) (fun (uu : Unit) => rc) (fun (uu : Unit) => [oTo h cl se rc rs ar co cz tx nw])) := by
  refine kStart (cc := cX8_roadTo) (maxL := 2) (ret := (some (.object "ToyGreeting$Road"))) (by decide) rfl (Nat.le_of_ble_eq_true rfl) (fun pg ev st mi bl mt cd A ls0 F hr hlocks hin hK hP0 hD0 hA hS0 hl0 => ?_)
  obtain ⟨hx, hb, hml, hown, hts⟩ := id F
  have hl0 : lv_has ls0 2 [(0, .ref h), (1, .int 0)] := hl0
  have iX8 : ∀ w ∈ u_ws RX8 TX8 9, w ∈ wsX8_roadTo := fun w h => List.mem_cons_of_mem _ (List.mem_append_right _ h)
  refine lv_iload_n hx hb dX8_roadTo_0 rfl (lv_at hl0 1 rfl) ?_
  refine lv_if_ne (tgt := 11) hx hb dX8_roadTo_1 (by decide) (fun c1 => ?_) (fun c1 => ?_)
  · exact absurd (by decide) c1
  · refine lv_aload_n hx hb dX8_roadTo_4 rfl (lv_at hl0 0 rfl) ?_
    refine kget F hK hP0 8 0 2 iX8 rfl rfl (by decide) (List.mem_of_getElem? (i := 1) rfl) rfl dX8_roadTo_5 ?_
    refine lv_goto (tgt := 15) hx hb dX8_roadTo_8 (by decide) ?_
    have q2 : True := by
      first | rfl | (simp only [c1, ↓reduceIte]; done) | (simp [c1]; done)
    exact kRr F hr hlocks hS0 dX8_roadTo_15 () q2 rfl hP0 hD0
set_option maxHeartbeats 1000000 in
set_option maxRecDepth 100000 in
theorem c_X8_roadTo1 (l : Launch) (G : kG) (h : Nat) (cl : Nat) (se : Nat) (rc : Nat) (rs : Nat) (ar : Nat) (co : Nat) (cz : Nat) (tx : Nat) (nw : Nat → Int32) : kM G l yX8_roadTo wsX8_roadTo ({ frames := 0, cells := 0, slots := 0, locals := 0 }) [.ref h, .int 1] ([oTo h cl se rc rs ar co cz tx nw]) (kQr G (fun (uu : Unit) => True) (fun (uu : Unit) => rs) (fun (uu : Unit) => [oTo h cl se rc rs ar co cz tx nw])) := by
  refine kStart (cc := cX8_roadTo) (maxL := 2) (ret := (some (.object "ToyGreeting$Road"))) (by decide) rfl (Nat.le_of_ble_eq_true rfl) (fun pg ev st mi bl mt cd A ls0 F hr hlocks hin hK hP0 hD0 hA hS0 hl0 => ?_)
  obtain ⟨hx, hb, hml, hown, hts⟩ := id F
  have hl0 : lv_has ls0 2 [(0, .ref h), (1, .int 1)] := hl0
  have iX8 : ∀ w ∈ u_ws RX8 TX8 9, w ∈ wsX8_roadTo := fun w h => List.mem_cons_of_mem _ (List.mem_append_right _ h)
  refine lv_iload_n hx hb dX8_roadTo_0 rfl (lv_at hl0 1 rfl) ?_
  refine lv_if_ne (tgt := 11) hx hb dX8_roadTo_1 (by decide) (fun c1 => ?_) (fun c1 => ?_)
  · refine lv_aload_n hx hb dX8_roadTo_11 rfl (lv_at hl0 0 rfl) ?_
    refine kget F hK hP0 8 0 3 iX8 rfl rfl (by decide) (List.mem_of_getElem? (i := 2) rfl) rfl dX8_roadTo_12 ?_
    have q2 : True := by
      first | rfl | (simp only [c1, ↓reduceIte]; done) | (simp [c1]; done)
    exact kRr F hr hlocks hS0 dX8_roadTo_15 () q2 rfl hP0 hD0
  · exact absurd c1 (by decide)
set_option maxHeartbeats 1000000 in
set_option maxRecDepth 100000 in
theorem c_X8_offerN (l : Launch) (G : kG) (h : Nat) (cl : Nat) (se : Nat) (rc : Nat) (rs : Nat) (ar : Nat) (co : Nat) (cz : Nat) (tx : Nat) (nw : Nat → Int32) (i : Int32) (v : Int32) (g : Int32) (hs0 : ¬ i = 0) (hs1 : ¬ i = 1) : kM G l yX8_offer wsX8_offer ({ frames := 1, cells := 0, slots := 0, locals := 20 }) [.ref h, .int i, .int v, .int g] ([oTo h cl se rc rs ar co cz tx nw]) (kQi G (fun (rr : Int32) (uu : Unit) => rr = (-2 : Int32)) (fun (uu : Unit) => [oTo h cl se rc rs ar co cz tx nw])) := by
  refine kStart (cc := cX8_offer) (maxL := 6) (ret := (some .int)) (by decide) rfl (Nat.le_of_ble_eq_true rfl) (fun pg ev st mi bl mt cd A ls0 F hr hlocks hin hK hP0 hD0 hA hS0 hl0 => ?_)
  obtain ⟨hx, hb, hml, hown, hts⟩ := id F
  have hl0 : lv_has ls0 6 [(0, .ref h), (1, .int i), (2, .int v), (3, .int g)] := hl0
  refine lv_iload_n hx hb dX8_offer_0 rfl (lv_at hl0 1 rfl) ?_
  refine kPSi F hK hP0 hD0 hS0 hA hl0.1 (c_X8_isSide l G i) (fun _ => rfl) gX8_offer_X8_isSide rfl 1 rfl (by decide +kernel) ⟨Nat.le_of_ble_eq_true rfl, Nat.le_of_ble_eq_true rfl⟩ ⟨Nat.zero_le _, Nat.zero_le _⟩ (Nat.le_of_ble_eq_true rfl) rfl dX8_offer_1 (fun r1 u1 H2 locs2 hw1 (hP2 : va_P G.1 vwCl ([oTo h cl se rc rs ar co cz tx nw]) H2) (hD2 : va_D A ([oTo h cl se rc rs ar co cz tx nw])) hS2 => ?_)
  clear hP0 hD0 hS0
  have w1_0 : r1 = kside i := hw1
  have g1 : r1 = 0 := w1_0.trans (ks_no hs0 hs1)
  clear w1_0
  subst g1
  refine lv_if_ne (tgt := 10) hx hb dX8_offer_4 (by decide) (fun c3 => ?_) (fun c3 => ?_)
  · exact absurd (by decide) c3
  · refine lv_bipush (v := (-2)) hx hb dX8_offer_7 (by decide) ?_
    have q4 : (-2) = (-2 : Int32) := by
      first | rfl | (simp only [c3, ↓reduceIte]; done) | (simp [c3]; done)
    exact kRi F hr hlocks hS2 dX8_offer_9 () q4 hP2 hD2
set_option maxHeartbeats 1000000 in
set_option maxRecDepth 100000 in
theorem c_X8_secretN (l : Launch) (G : kG) (h : Nat) (cl : Nat) (se : Nat) (rc : Nat) (rs : Nat) (ar : Nat) (co : Nat) (cz : Nat) (tx : Nat) (nw : Nat → Int32) (i : Int32) (v : Int32) (hs0 : ¬ i = 0) (hs1 : ¬ i = 1) : kM G l yX8_secret wsX8_secret ({ frames := 1, cells := 0, slots := 0, locals := 20 }) [.ref h, .int i, .int v] ([oTo h cl se rc rs ar co cz tx nw]) (kQi G (fun (rr : Int32) (uu : Unit) => rr = (-2 : Int32)) (fun (uu : Unit) => [oTo h cl se rc rs ar co cz tx nw])) := by
  refine kStart (cc := cX8_secret) (maxL := 5) (ret := (some .int)) (by decide) rfl (Nat.le_of_ble_eq_true rfl) (fun pg ev st mi bl mt cd A ls0 F hr hlocks hin hK hP0 hD0 hA hS0 hl0 => ?_)
  obtain ⟨hx, hb, hml, hown, hts⟩ := id F
  have hl0 : lv_has ls0 5 [(0, .ref h), (1, .int i), (2, .int v)] := hl0
  refine lv_iload_n hx hb dX8_secret_0 rfl (lv_at hl0 1 rfl) ?_
  refine kPSi F hK hP0 hD0 hS0 hA hl0.1 (c_X8_isSide l G i) (fun _ => rfl) gX8_secret_X8_isSide rfl 1 rfl (by decide +kernel) ⟨Nat.le_of_ble_eq_true rfl, Nat.le_of_ble_eq_true rfl⟩ ⟨Nat.zero_le _, Nat.zero_le _⟩ (Nat.le_of_ble_eq_true rfl) rfl dX8_secret_1 (fun r1 u1 H2 locs2 hw1 (hP2 : va_P G.1 vwCl ([oTo h cl se rc rs ar co cz tx nw]) H2) (hD2 : va_D A ([oTo h cl se rc rs ar co cz tx nw])) hS2 => ?_)
  clear hP0 hD0 hS0
  have w1_0 : r1 = kside i := hw1
  have g1 : r1 = 0 := w1_0.trans (ks_no hs0 hs1)
  clear w1_0
  subst g1
  refine lv_if_ne (tgt := 10) hx hb dX8_secret_4 (by decide) (fun c3 => ?_) (fun c3 => ?_)
  · exact absurd (by decide) c3
  · refine lv_bipush (v := (-2)) hx hb dX8_secret_7 (by decide) ?_
    have q4 : (-2) = (-2 : Int32) := by
      first | rfl | (simp only [c3, ↓reduceIte]; done) | (simp [c3]; done)
    exact kRi F hr hlocks hS2 dX8_secret_9 () q4 hP2 hD2
set_option maxHeartbeats 1000000 in
set_option maxRecDepth 100000 in
theorem c_X8_stepN (l : Launch) (G : kG) (h : Nat) (cl : Nat) (se : Nat) (rc : Nat) (rs : Nat) (ar : Nat) (co : Nat) (cz : Nat) (tx : Nat) (nw : Nat → Int32) (i : Int32) (hs0 : ¬ i = 0) (hs1 : ¬ i = 1) : kM G l yX8_step wsX8_step ({ frames := 1, cells := 0, slots := 0, locals := 20 }) [.ref h, .int i] ([oTo h cl se rc rs ar co cz tx nw]) (kQi G (fun (rr : Int32) (uu : Unit) => rr = (-2 : Int32)) (fun (uu : Unit) => [oTo h cl se rc rs ar co cz tx nw])) := by
  refine kStart (cc := cX8_step) (maxL := 3) (ret := (some .int)) (by decide) rfl (Nat.le_of_ble_eq_true rfl) (fun pg ev st mi bl mt cd A ls0 F hr hlocks hin hK hP0 hD0 hA hS0 hl0 => ?_)
  obtain ⟨hx, hb, hml, hown, hts⟩ := id F
  have hl0 : lv_has ls0 3 [(0, .ref h), (1, .int i)] := hl0
  refine lv_iload_n hx hb dX8_step_0 rfl (lv_at hl0 1 rfl) ?_
  refine kPSi F hK hP0 hD0 hS0 hA hl0.1 (c_X8_isSide l G i) (fun _ => rfl) gX8_step_X8_isSide rfl 1 rfl (by decide +kernel) ⟨Nat.le_of_ble_eq_true rfl, Nat.le_of_ble_eq_true rfl⟩ ⟨Nat.zero_le _, Nat.zero_le _⟩ (Nat.le_of_ble_eq_true rfl) rfl dX8_step_1 (fun r1 u1 H2 locs2 hw1 (hP2 : va_P G.1 vwCl ([oTo h cl se rc rs ar co cz tx nw]) H2) (hD2 : va_D A ([oTo h cl se rc rs ar co cz tx nw])) hS2 => ?_)
  clear hP0 hD0 hS0
  have w1_0 : r1 = kside i := hw1
  have g1 : r1 = 0 := w1_0.trans (ks_no hs0 hs1)
  clear w1_0
  subst g1
  refine lv_if_ne (tgt := 10) hx hb dX8_step_4 (by decide) (fun c3 => ?_) (fun c3 => ?_)
  · exact absurd (by decide) c3
  · refine lv_bipush (v := (-2)) hx hb dX8_step_7 (by decide) ?_
    have q4 : (-2) = (-2 : Int32) := by
      first | rfl | (simp only [c3, ↓reduceIte]; done) | (simp [c3]; done)
    exact kRi F hr hlocks hS2 dX8_step_9 () q4 hP2 hD2
set_option maxHeartbeats 1000000 in
set_option maxRecDepth 100000 in
theorem c_X8_sayN (l : Launch) (G : kG) (h : Nat) (cl : Nat) (se : Nat) (rc : Nat) (rs : Nat) (ar : Nat) (co : Nat) (cz : Nat) (tx : Nat) (nw : Nat → Int32) (i : Int32) (v : Int32) (hs0 : ¬ i = 0) (hs1 : ¬ i = 1) : kM G l yX8_say wsX8_say ({ frames := 1, cells := 0, slots := 0, locals := 20 }) [.ref h, .int i, .int v] ([oTo h cl se rc rs ar co cz tx nw]) (kQi G (fun (rr : Int32) (uu : Unit) => rr = (-2 : Int32)) (fun (uu : Unit) => [oTo h cl se rc rs ar co cz tx nw])) := by
  refine kStart (cc := cX8_say) (maxL := 3) (ret := (some .int)) (by decide) rfl (Nat.le_of_ble_eq_true rfl) (fun pg ev st mi bl mt cd A ls0 F hr hlocks hin hK hP0 hD0 hA hS0 hl0 => ?_)
  obtain ⟨hx, hb, hml, hown, hts⟩ := id F
  have hl0 : lv_has ls0 3 [(0, .ref h), (1, .int i), (2, .int v)] := hl0
  refine lv_iload_n hx hb dX8_say_0 rfl (lv_at hl0 1 rfl) ?_
  refine kPSi F hK hP0 hD0 hS0 hA hl0.1 (c_X8_isSide l G i) (fun _ => rfl) gX8_say_X8_isSide rfl 1 rfl (by decide +kernel) ⟨Nat.le_of_ble_eq_true rfl, Nat.le_of_ble_eq_true rfl⟩ ⟨Nat.zero_le _, Nat.zero_le _⟩ (Nat.le_of_ble_eq_true rfl) rfl dX8_say_1 (fun r1 u1 H2 locs2 hw1 (hP2 : va_P G.1 vwCl ([oTo h cl se rc rs ar co cz tx nw]) H2) (hD2 : va_D A ([oTo h cl se rc rs ar co cz tx nw])) hS2 => ?_)
  clear hP0 hD0 hS0
  have w1_0 : r1 = kside i := hw1
  have g1 : r1 = 0 := w1_0.trans (ks_no hs0 hs1)
  clear w1_0
  subst g1
  refine lv_if_ne (tgt := 10) hx hb dX8_say_4 (by decide) (fun c3 => ?_) (fun c3 => ?_)
  · exact absurd (by decide) c3
  · refine lv_bipush (v := (-2)) hx hb dX8_say_7 (by decide) ?_
    have q4 : (-2) = (-2 : Int32) := by
      first | rfl | (simp only [c3, ↓reduceIte]; done) | (simp [c3]; done)
    exact kRi F hr hlocks hS2 dX8_say_9 () q4 hP2 hD2
set_option maxHeartbeats 1000000 in
set_option maxRecDepth 100000 in
theorem c_X8_updateN (l : Launch) (G : kG) (h : Nat) (cl : Nat) (se : Nat) (rc : Nat) (rs : Nat) (ar : Nat) (co : Nat) (cz : Nat) (tx : Nat) (nw : Nat → Int32) (i : Int32) (hs0 : ¬ i = 0) (hs1 : ¬ i = 1) : kM G l yX8_update wsX8_update ({ frames := 1, cells := 0, slots := 0, locals := 20 }) [.ref h, .int i] ([oTo h cl se rc rs ar co cz tx nw]) (kQi G (fun (rr : Int32) (uu : Unit) => rr = (-2 : Int32)) (fun (uu : Unit) => [oTo h cl se rc rs ar co cz tx nw])) := by
  refine kStart (cc := cX8_update) (maxL := 2) (ret := (some .int)) (by decide) rfl (Nat.le_of_ble_eq_true rfl) (fun pg ev st mi bl mt cd A ls0 F hr hlocks hin hK hP0 hD0 hA hS0 hl0 => ?_)
  obtain ⟨hx, hb, hml, hown, hts⟩ := id F
  have hl0 : lv_has ls0 2 [(0, .ref h), (1, .int i)] := hl0
  refine lv_iload_n hx hb dX8_update_0 rfl (lv_at hl0 1 rfl) ?_
  refine kPSi F hK hP0 hD0 hS0 hA hl0.1 (c_X8_isSide l G i) (fun _ => rfl) gX8_update_X8_isSide rfl 1 rfl (by decide +kernel) ⟨Nat.le_of_ble_eq_true rfl, Nat.le_of_ble_eq_true rfl⟩ ⟨Nat.zero_le _, Nat.zero_le _⟩ (Nat.le_of_ble_eq_true rfl) rfl dX8_update_1 (fun r1 u1 H2 locs2 hw1 (hP2 : va_P G.1 vwCl ([oTo h cl se rc rs ar co cz tx nw]) H2) (hD2 : va_D A ([oTo h cl se rc rs ar co cz tx nw])) hS2 => ?_)
  clear hP0 hD0 hS0
  have w1_0 : r1 = kside i := hw1
  have g1 : r1 = 0 := w1_0.trans (ks_no hs0 hs1)
  clear w1_0
  subst g1
  refine lv_if_ne (tgt := 10) hx hb dX8_update_4 (by decide) (fun c3 => ?_) (fun c3 => ?_)
  · exact absurd (by decide) c3
  · refine lv_bipush (v := (-2)) hx hb dX8_update_7 (by decide) ?_
    have q4 : (-2) = (-2 : Int32) := by
      first | rfl | (simp only [c3, ↓reduceIte]; done) | (simp [c3]; done)
    exact kRi F hr hlocks hS2 dX8_update_9 () q4 hP2 hD2
set_option maxHeartbeats 1000000 in
set_option maxRecDepth 100000 in
theorem c_X8_freshN (l : Launch) (G : kG) (h : Nat) (cl : Nat) (se : Nat) (rc : Nat) (rs : Nat) (ar : Nat) (co : Nat) (cz : Nat) (tx : Nat) (nw : Nat → Int32) (i : Int32) (hs0 : ¬ i = 0) (hs1 : ¬ i = 1) : kM G l yX8_fresh wsX8_fresh ({ frames := 1, cells := 0, slots := 0, locals := 20 }) [.ref h, .int i] ([oTo h cl se rc rs ar co cz tx nw]) (kQi G (fun (rr : Int32) (uu : Unit) => rr = (-2 : Int32)) (fun (uu : Unit) => [oTo h cl se rc rs ar co cz tx nw])) := by
  refine kStart (cc := cX8_fresh) (maxL := 4) (ret := (some .int)) (by decide) rfl (Nat.le_of_ble_eq_true rfl) (fun pg ev st mi bl mt cd A ls0 F hr hlocks hin hK hP0 hD0 hA hS0 hl0 => ?_)
  obtain ⟨hx, hb, hml, hown, hts⟩ := id F
  have hl0 : lv_has ls0 4 [(0, .ref h), (1, .int i)] := hl0
  refine lv_iload_n hx hb dX8_fresh_0 rfl (lv_at hl0 1 rfl) ?_
  refine kPSi F hK hP0 hD0 hS0 hA hl0.1 (c_X8_isSide l G i) (fun _ => rfl) gX8_fresh_X8_isSide rfl 1 rfl (by decide +kernel) ⟨Nat.le_of_ble_eq_true rfl, Nat.le_of_ble_eq_true rfl⟩ ⟨Nat.zero_le _, Nat.zero_le _⟩ (Nat.le_of_ble_eq_true rfl) rfl dX8_fresh_1 (fun r1 u1 H2 locs2 hw1 (hP2 : va_P G.1 vwCl ([oTo h cl se rc rs ar co cz tx nw]) H2) (hD2 : va_D A ([oTo h cl se rc rs ar co cz tx nw])) hS2 => ?_)
  clear hP0 hD0 hS0
  have w1_0 : r1 = kside i := hw1
  have g1 : r1 = 0 := w1_0.trans (ks_no hs0 hs1)
  clear w1_0
  subst g1
  refine lv_if_ne (tgt := 10) hx hb dX8_fresh_4 (by decide) (fun c3 => ?_) (fun c3 => ?_)
  · exact absurd (by decide) c3
  · refine lv_bipush (v := (-2)) hx hb dX8_fresh_7 (by decide) ?_
    have q4 : (-2) = (-2 : Int32) := by
      first | rfl | (simp only [c3, ↓reduceIte]; done) | (simp [c3]; done)
    exact kRi F hr hlocks hS2 dX8_fresh_9 () q4 hP2 hD2
set_option maxHeartbeats 1000000 in
set_option maxRecDepth 100000 in
theorem c_X8_alterN (l : Launch) (G : kG) (h : Nat) (cl : Nat) (se : Nat) (rc : Nat) (rs : Nat) (ar : Nat) (co : Nat) (cz : Nat) (tx : Nat) (nw : Nat → Int32) (i : Int32) (v : Int32) (g : Int32) (hs0 : ¬ i = 0) (hs1 : ¬ i = 1) : kM G l yX8_alter wsX8_alter ({ frames := 1, cells := 0, slots := 0, locals := 20 }) [.ref h, .int i, .int v, .int g] ([oTo h cl se rc rs ar co cz tx nw]) (kQi G (fun (rr : Int32) (uu : Unit) => rr = (-2 : Int32)) (fun (uu : Unit) => [oTo h cl se rc rs ar co cz tx nw])) := by
  refine kStart (cc := cX8_alter) (maxL := 6) (ret := (some .int)) (by decide) rfl (Nat.le_of_ble_eq_true rfl) (fun pg ev st mi bl mt cd A ls0 F hr hlocks hin hK hP0 hD0 hA hS0 hl0 => ?_)
  obtain ⟨hx, hb, hml, hown, hts⟩ := id F
  have hl0 : lv_has ls0 6 [(0, .ref h), (1, .int i), (2, .int v), (3, .int g)] := hl0
  refine lv_iload_n hx hb dX8_alter_0 rfl (lv_at hl0 1 rfl) ?_
  refine kPSi F hK hP0 hD0 hS0 hA hl0.1 (c_X8_isSide l G i) (fun _ => rfl) gX8_alter_X8_isSide rfl 1 rfl (by decide +kernel) ⟨Nat.le_of_ble_eq_true rfl, Nat.le_of_ble_eq_true rfl⟩ ⟨Nat.zero_le _, Nat.zero_le _⟩ (Nat.le_of_ble_eq_true rfl) rfl dX8_alter_1 (fun r1 u1 H2 locs2 hw1 (hP2 : va_P G.1 vwCl ([oTo h cl se rc rs ar co cz tx nw]) H2) (hD2 : va_D A ([oTo h cl se rc rs ar co cz tx nw])) hS2 => ?_)
  clear hP0 hD0 hS0
  have w1_0 : r1 = kside i := hw1
  have g1 : r1 = 0 := w1_0.trans (ks_no hs0 hs1)
  clear w1_0
  subst g1
  refine lv_if_ne (tgt := 10) hx hb dX8_alter_4 (by decide) (fun c3 => ?_) (fun c3 => ?_)
  · exact absurd (by decide) c3
  · refine lv_bipush (v := (-2)) hx hb dX8_alter_7 (by decide) ?_
    have q4 : (-2) = (-2 : Int32) := by
      first | rfl | (simp only [c3, ↓reduceIte]; done) | (simp [c3]; done)
    exact kRi F hr hlocks hS2 dX8_alter_9 () q4 hP2 hD2
set_option maxHeartbeats 1000000 in
set_option maxRecDepth 100000 in
theorem c_X8_dropN (l : Launch) (G : kG) (h : Nat) (cl : Nat) (se : Nat) (rc : Nat) (rs : Nat) (ar : Nat) (co : Nat) (cz : Nat) (tx : Nat) (nw : Nat → Int32) (i : Int32) (hs0 : ¬ i = 0) (hs1 : ¬ i = 1) : kM G l yX8_drop wsX8_drop ({ frames := 1, cells := 0, slots := 0, locals := 20 }) [.ref h, .int i] ([oTo h cl se rc rs ar co cz tx nw]) (kQi G (fun (rr : Int32) (uu : Unit) => rr = (-2 : Int32)) (fun (uu : Unit) => [oTo h cl se rc rs ar co cz tx nw])) := by
  refine kStart (cc := cX8_drop) (maxL := 3) (ret := (some .int)) (by decide) rfl (Nat.le_of_ble_eq_true rfl) (fun pg ev st mi bl mt cd A ls0 F hr hlocks hin hK hP0 hD0 hA hS0 hl0 => ?_)
  obtain ⟨hx, hb, hml, hown, hts⟩ := id F
  have hl0 : lv_has ls0 3 [(0, .ref h), (1, .int i)] := hl0
  refine lv_iload_n hx hb dX8_drop_0 rfl (lv_at hl0 1 rfl) ?_
  refine kPSi F hK hP0 hD0 hS0 hA hl0.1 (c_X8_isSide l G i) (fun _ => rfl) gX8_drop_X8_isSide rfl 1 rfl (by decide +kernel) ⟨Nat.le_of_ble_eq_true rfl, Nat.le_of_ble_eq_true rfl⟩ ⟨Nat.zero_le _, Nat.zero_le _⟩ (Nat.le_of_ble_eq_true rfl) rfl dX8_drop_1 (fun r1 u1 H2 locs2 hw1 (hP2 : va_P G.1 vwCl ([oTo h cl se rc rs ar co cz tx nw]) H2) (hD2 : va_D A ([oTo h cl se rc rs ar co cz tx nw])) hS2 => ?_)
  clear hP0 hD0 hS0
  have w1_0 : r1 = kside i := hw1
  have g1 : r1 = 0 := w1_0.trans (ks_no hs0 hs1)
  clear w1_0
  subst g1
  refine lv_if_ne (tgt := 10) hx hb dX8_drop_4 (by decide) (fun c3 => ?_) (fun c3 => ?_)
  · exact absurd (by decide) c3
  · refine lv_bipush (v := (-2)) hx hb dX8_drop_7 (by decide) ?_
    have q4 : (-2) = (-2 : Int32) := by
      first | rfl | (simp only [c3, ↓reduceIte]; done) | (simp [c3]; done)
    exact kRi F hr hlocks hS2 dX8_drop_9 () q4 hP2 hD2
set_option maxHeartbeats 1000000 in
set_option maxRecDepth 100000 in
theorem c_X8_sideN (l : Launch) (G : kG) (h : Nat) (cl : Nat) (se : Nat) (rc : Nat) (rs : Nat) (ar : Nat) (co : Nat) (cz : Nat) (tx : Nat) (nw : Nat → Int32) (i : Int32) (v : Int32) (hs0 : ¬ i = 0) (hs1 : ¬ i = 1) : kM G l yX8_side wsX8_side ({ frames := 1, cells := 0, slots := 0, locals := 20 }) [.ref h, .int i, .int v] ([oTo h cl se rc rs ar co cz tx nw]) (kQi G (fun (rr : Int32) (uu : Unit) => rr = (-2 : Int32)) (fun (uu : Unit) => [oTo h cl se rc rs ar co cz tx nw])) := by
  refine kStart (cc := cX8_side) (maxL := 3) (ret := (some .int)) (by decide) rfl (Nat.le_of_ble_eq_true rfl) (fun pg ev st mi bl mt cd A ls0 F hr hlocks hin hK hP0 hD0 hA hS0 hl0 => ?_)
  obtain ⟨hx, hb, hml, hown, hts⟩ := id F
  have hl0 : lv_has ls0 3 [(0, .ref h), (1, .int i), (2, .int v)] := hl0
  refine lv_iload_n hx hb dX8_side_0 rfl (lv_at hl0 1 rfl) ?_
  refine kPSi F hK hP0 hD0 hS0 hA hl0.1 (c_X8_isSide l G i) (fun _ => rfl) gX8_side_X8_isSide rfl 1 rfl (by decide +kernel) ⟨Nat.le_of_ble_eq_true rfl, Nat.le_of_ble_eq_true rfl⟩ ⟨Nat.zero_le _, Nat.zero_le _⟩ (Nat.le_of_ble_eq_true rfl) rfl dX8_side_1 (fun r1 u1 H2 locs2 hw1 (hP2 : va_P G.1 vwCl ([oTo h cl se rc rs ar co cz tx nw]) H2) (hD2 : va_D A ([oTo h cl se rc rs ar co cz tx nw])) hS2 => ?_)
  clear hP0 hD0 hS0
  have w1_0 : r1 = kside i := hw1
  have g1 : r1 = 0 := w1_0.trans (ks_no hs0 hs1)
  clear w1_0
  subst g1
  refine lv_if_ne (tgt := 10) hx hb dX8_side_4 (by decide) (fun c3 => ?_) (fun c3 => ?_)
  · exact absurd (by decide) c3
  · refine lv_bipush (v := (-2)) hx hb dX8_side_7 (by decide) ?_
    have q4 : (-2) = (-2 : Int32) := by
      first | rfl | (simp only [c3, ↓reduceIte]; done) | (simp [c3]; done)
    exact kRi F hr hlocks hS2 dX8_side_9 () q4 hP2 hD2
set_option maxHeartbeats 1000000 in
set_option maxRecDepth 100000 in
theorem c_X8_messageN (l : Launch) (G : kG) (h : Nat) (cl : Nat) (se : Nat) (rc : Nat) (rs : Nat) (ar : Nat) (co : Nat) (cz : Nat) (tx : Nat) (nw : Nat → Int32) (i : Int32) (v : Int32) (hs0 : ¬ i = 0) (hs1 : ¬ i = 1) : kM G l yX8_message wsX8_message ({ frames := 1, cells := 0, slots := 0, locals := 20 }) [.ref h, .int i, .int v] ([oTo h cl se rc rs ar co cz tx nw]) (kQi G (fun (rr : Int32) (uu : Unit) => rr = (-2 : Int32)) (fun (uu : Unit) => [oTo h cl se rc rs ar co cz tx nw])) := by
  refine kStart (cc := cX8_message) (maxL := 3) (ret := (some .int)) (by decide) rfl (Nat.le_of_ble_eq_true rfl) (fun pg ev st mi bl mt cd A ls0 F hr hlocks hin hK hP0 hD0 hA hS0 hl0 => ?_)
  obtain ⟨hx, hb, hml, hown, hts⟩ := id F
  have hl0 : lv_has ls0 3 [(0, .ref h), (1, .int i), (2, .int v)] := hl0
  refine lv_iload_n hx hb dX8_message_0 rfl (lv_at hl0 1 rfl) ?_
  refine kPSi F hK hP0 hD0 hS0 hA hl0.1 (c_X8_isSide l G i) (fun _ => rfl) gX8_message_X8_isSide rfl 1 rfl (by decide +kernel) ⟨Nat.le_of_ble_eq_true rfl, Nat.le_of_ble_eq_true rfl⟩ ⟨Nat.zero_le _, Nat.zero_le _⟩ (Nat.le_of_ble_eq_true rfl) rfl dX8_message_1 (fun r1 u1 H2 locs2 hw1 (hP2 : va_P G.1 vwCl ([oTo h cl se rc rs ar co cz tx nw]) H2) (hD2 : va_D A ([oTo h cl se rc rs ar co cz tx nw])) hS2 => ?_)
  clear hP0 hD0 hS0
  have w1_0 : r1 = kside i := hw1
  have g1 : r1 = 0 := w1_0.trans (ks_no hs0 hs1)
  clear w1_0
  subst g1
  refine lv_if_ne (tgt := 10) hx hb dX8_message_4 (by decide) (fun c3 => ?_) (fun c3 => ?_)
  · exact absurd (by decide) c3
  · refine lv_bipush (v := (-2)) hx hb dX8_message_7 (by decide) ?_
    have q4 : (-2) = (-2 : Int32) := by
      first | rfl | (simp only [c3, ↓reduceIte]; done) | (simp [c3]; done)
    exact kRi F hr hlocks hS2 dX8_message_9 () q4 hP2 hD2
set_option maxHeartbeats 1000000 in
set_option maxRecDepth 100000 in
theorem c_X8_copyN (l : Launch) (G : kG) (h : Nat) (cl : Nat) (se : Nat) (rc : Nat) (rs : Nat) (ar : Nat) (co : Nat) (cz : Nat) (tx : Nat) (nw : Nat → Int32) (i : Int32) (v : Int32) (hs0 : ¬ i = 0) (hs1 : ¬ i = 1) : kM G l yX8_copy wsX8_copy ({ frames := 1, cells := 0, slots := 0, locals := 20 }) [.ref h, .int i, .int v] ([oTo h cl se rc rs ar co cz tx nw]) (kQi G (fun (rr : Int32) (uu : Unit) => rr = (-2 : Int32)) (fun (uu : Unit) => [oTo h cl se rc rs ar co cz tx nw])) := by
  refine kStart (cc := cX8_copy) (maxL := 4) (ret := (some .int)) (by decide) rfl (Nat.le_of_ble_eq_true rfl) (fun pg ev st mi bl mt cd A ls0 F hr hlocks hin hK hP0 hD0 hA hS0 hl0 => ?_)
  obtain ⟨hx, hb, hml, hown, hts⟩ := id F
  have hl0 : lv_has ls0 4 [(0, .ref h), (1, .int i), (2, .int v)] := hl0
  refine lv_iload_n hx hb dX8_copy_0 rfl (lv_at hl0 1 rfl) ?_
  refine kPSi F hK hP0 hD0 hS0 hA hl0.1 (c_X8_isSide l G i) (fun _ => rfl) gX8_copy_X8_isSide rfl 1 rfl (by decide +kernel) ⟨Nat.le_of_ble_eq_true rfl, Nat.le_of_ble_eq_true rfl⟩ ⟨Nat.zero_le _, Nat.zero_le _⟩ (Nat.le_of_ble_eq_true rfl) rfl dX8_copy_1 (fun r1 u1 H2 locs2 hw1 (hP2 : va_P G.1 vwCl ([oTo h cl se rc rs ar co cz tx nw]) H2) (hD2 : va_D A ([oTo h cl se rc rs ar co cz tx nw])) hS2 => ?_)
  clear hP0 hD0 hS0
  have w1_0 : r1 = kside i := hw1
  have g1 : r1 = 0 := w1_0.trans (ks_no hs0 hs1)
  clear w1_0
  subst g1
  refine lv_if_eq (tgt := 14) hx hb dX8_copy_4 (by decide) (fun c3 => ?_) (fun c3 => ?_)
  · refine lv_bipush (v := (-2)) hx hb dX8_copy_14 (by decide) ?_
    have q4 : (-2) = (-2 : Int32) := by
      first | rfl | (simp only [c3, ↓reduceIte]; done) | (simp [c3]; done)
    exact kRi F hr hlocks hS2 dX8_copy_16 () q4 hP2 hD2
  · exact absurd (by decide) c3
set_option maxHeartbeats 1000000 in
set_option maxRecDepth 100000 in
theorem c_X8_injectN (l : Launch) (G : kG) (h : Nat) (cl : Nat) (se : Nat) (rc : Nat) (rs : Nat) (ar : Nat) (co : Nat) (cz : Nat) (tx : Nat) (nw : Nat → Int32) (i : Int32) (v : Int32) (hs0 : ¬ i = 0) (hs1 : ¬ i = 1) : kM G l yX8_inject wsX8_inject ({ frames := 1, cells := 0, slots := 0, locals := 20 }) [.ref h, .int i, .int v] ([oTo h cl se rc rs ar co cz tx nw]) (kQi G (fun (rr : Int32) (uu : Unit) => rr = (-2 : Int32)) (fun (uu : Unit) => [oTo h cl se rc rs ar co cz tx nw])) := by
  refine kStart (cc := cX8_inject) (maxL := 4) (ret := (some .int)) (by decide) rfl (Nat.le_of_ble_eq_true rfl) (fun pg ev st mi bl mt cd A ls0 F hr hlocks hin hK hP0 hD0 hA hS0 hl0 => ?_)
  obtain ⟨hx, hb, hml, hown, hts⟩ := id F
  have hl0 : lv_has ls0 4 [(0, .ref h), (1, .int i), (2, .int v)] := hl0
  refine lv_iload_n hx hb dX8_inject_0 rfl (lv_at hl0 1 rfl) ?_
  refine kPSi F hK hP0 hD0 hS0 hA hl0.1 (c_X8_isSide l G i) (fun _ => rfl) gX8_inject_X8_isSide rfl 1 rfl (by decide +kernel) ⟨Nat.le_of_ble_eq_true rfl, Nat.le_of_ble_eq_true rfl⟩ ⟨Nat.zero_le _, Nat.zero_le _⟩ (Nat.le_of_ble_eq_true rfl) rfl dX8_inject_1 (fun r1 u1 H2 locs2 hw1 (hP2 : va_P G.1 vwCl ([oTo h cl se rc rs ar co cz tx nw]) H2) (hD2 : va_D A ([oTo h cl se rc rs ar co cz tx nw])) hS2 => ?_)
  clear hP0 hD0 hS0
  have w1_0 : r1 = kside i := hw1
  have g1 : r1 = 0 := w1_0.trans (ks_no hs0 hs1)
  clear w1_0
  subst g1
  refine lv_if_eq (tgt := 14) hx hb dX8_inject_4 (by decide) (fun c3 => ?_) (fun c3 => ?_)
  · refine lv_bipush (v := (-2)) hx hb dX8_inject_14 (by decide) ?_
    have q4 : (-2) = (-2 : Int32) := by
      first | rfl | (simp only [c3, ↓reduceIte]; done) | (simp [c3]; done)
    exact kRi F hr hlocks hS2 dX8_inject_16 () q4 hP2 hD2
  · exact absurd (by decide) c3
set_option maxHeartbeats 1000000 in
set_option maxRecDepth 100000 in
theorem c_X8_guess (l : Launch) (G : kG) (h : Nat) (cl : Nat) (se : Nat) (rc : Nat) (rs : Nat) (ar : Nat) (co : Nat) (cz : Nat) (tx : Nat) (nw : Nat → Int32) (pe : Nat) (ti : Nat) (c : Nat → Int32) (g : Int32) : kM G l yX8_guess wsX8_guess ({ frames := 1, cells := 0, slots := 0, locals := 20 }) [.ref h, .int g] ([oTo h cl se rc rs ar co cz tx nw, oCl cl pe ti c]) (kQi G (fun (rr : Int32) (uu : (Nat → Int32)) => (rr = (kguess c g).1) ∧ (uu = (kguess c g).2)) (fun (uu : (Nat → Int32)) => [oTo h cl se rc rs ar co cz tx nw, oCl cl pe ti uu])) := by
  refine kStart (cc := cX8_guess) (maxL := 3) (ret := (some .int)) (by decide) rfl (Nat.le_of_ble_eq_true rfl) (fun pg ev st mi bl mt cd A ls0 F hr hlocks hin hK hP0 hD0 hA hS0 hl0 => ?_)
  obtain ⟨hx, hb, hml, hown, hts⟩ := id F
  have hl0 : lv_has ls0 3 [(0, .ref h), (1, .int g)] := hl0
  have iX0 : ∀ w ∈ u_ws RX0 TX0 9, w ∈ wsX8_guess := fun w h => List.mem_cons_of_mem _ (List.mem_append_right _ h)
  have iX8 : ∀ w ∈ u_ws RX8 TX8 9, w ∈ wsX8_guess := fun w h => List.mem_cons_of_mem _ (List.mem_append_left _ (List.mem_append_right _ h))
  refine lv_iload_n hx hb dX8_guess_0 rfl (lv_at hl0 1 rfl) ?_
  refine kPSi F hK hP0 hD0 hS0 hA hl0.1 (c_X8_isGroup l G g) (fun _ => rfl) gX8_guess_X8_isGroup rfl 1 rfl (by decide +kernel) ⟨Nat.le_of_ble_eq_true rfl, Nat.le_of_ble_eq_true rfl⟩ ⟨Nat.zero_le _, Nat.zero_le _⟩ (Nat.le_of_ble_eq_true rfl) rfl dX8_guess_1 (fun r1 u1 H2 locs2 hw1 (hP2 : va_P G.1 vwCl ([oTo h cl se rc rs ar co cz tx nw, oCl cl pe ti c]) H2) (hD2 : va_D A ([oTo h cl se rc rs ar co cz tx nw, oCl cl pe ti c])) hS2 => ?_)
  clear hP0 hD0 hS0
  have w1_0 : r1 = kgrp g := hw1
  refine lv_if_ne (tgt := 10) hx hb dX8_guess_4 (by decide) (fun c3 => ?_) (fun c3 => ?_)
  · refine lv_aload_n hx hb dX8_guess_10 rfl (lv_at hl0 0 rfl) ?_
    refine kget F hK hP2 8 0 0 iX8 rfl rfl (by decide) (List.mem_of_getElem? (i := 1) rfl) rfl dX8_guess_11 ?_
    refine kget F hK hP2 0 1 3 iX0 rfl rfl (by decide) (List.mem_of_getElem? (i := 2) rfl) rfl dX8_guess_14 ?_
    refine lv_istore_n (lv' := [(2, .int (c 3)), (0, .ref h), (1, .int g)]) hx hb dX8_guess_17 rfl hl0 (by decide) rfl (fun ls4 hl4 => ?_)
    clear hl0
    refine lv_aload_n hx hb dX8_guess_18 rfl (lv_at hl4 1 rfl) ?_
    refine kget F hK hP2 8 0 0 iX8 rfl rfl (by decide) (List.mem_of_getElem? (i := 1) rfl) rfl dX8_guess_19 ?_
    refine lv_iload_n hx hb dX8_guess_22 rfl (lv_at hl4 2 rfl) ?_
    refine kput F hK hP2 hD2 hS2 (ty0 := tyX0) 0 1 3 iX0 rfl tyX0_ok nmX0 (fun zz => [oTo h cl se rc rs ar co cz tx nw, oCl cl pe ti zz]) c rfl (by decide) (List.mem_of_getElem? (i := 2) rfl) rfl rfl rfl (Nat.le_of_ble_eq_true rfl) rfl dX8_guess_23 (fun H5 locs5 c5 ec5 (hP5 : va_P G.1 vwCl ([oTo h cl se rc rs ar co cz tx nw, oCl cl pe ti c5]) H5) (hD5 : va_D A ([oTo h cl se rc rs ar co cz tx nw, oCl cl pe ti c5])) hS5 => ?_)
    clear hP2 hD2 hS2
    refine lv_iload_n hx hb dX8_guess_26 rfl (lv_at hl4 0 rfl) ?_
    have q6 : ((c 3) = (kguess c g).1) ∧ (c5 = (kguess c g).2) := by
      subst ec5
      subst w1_0
      first | (simp only [kguess, c3, eq_self, ↓reduceIte, and_self, and_true, true_and]; done) | (simp only [kguess, c3, eq_self, ↓reduceIte, and_self, and_true, true_and]; (try and_intros) <;> rfl)
    exact kRi F hr hlocks hS5 dX8_guess_27 c5 q6 hP5 hD5
  · refine lv_bipush (v := (-3)) hx hb dX8_guess_7 (by decide) ?_
    have q7 : ((-3) = (kguess c g).1) ∧ (c = (kguess c g).2) := by
      subst w1_0
      first | (simp only [kguess, eq_true c3, eq_self, ↓reduceIte, and_self, and_true, true_and]; done) | (simp only [kguess, eq_true c3, eq_self, ↓reduceIte, and_self, and_true, true_and]; (try and_intros) <;> rfl)
    exact kRi F hr hlocks hS2 dX8_guess_9 c q7 hP2 hD2
set_option maxHeartbeats 1000000 in
set_option maxRecDepth 100000 in
theorem c_X8_early (l : Launch) (G : kG) (h : Nat) (cl : Nat) (se : Nat) (rc : Nat) (rs : Nat) (ar : Nat) (co : Nat) (cz : Nat) (tx : Nat) (nw : Nat → Int32) (pe : Nat) (ti : Nat) (c : Nat → Int32) (v : Int32) : kM G l yX8_early wsX8_early ({ frames := 0, cells := 0, slots := 0, locals := 0 }) [.ref h, .int v] ([oTo h cl se rc rs ar co cz tx nw, oCl cl pe ti c]) (kQi G (fun (rr : Int32) (uu : (Nat → Int32)) => (rr = (kearly c v).1) ∧ (uu = (kearly c v).2)) (fun (uu : (Nat → Int32)) => [oTo h cl se rc rs ar co cz tx nw, oCl cl pe ti uu])) := by
  refine kStart (cc := cX8_early) (maxL := 3) (ret := (some .int)) (by decide) rfl (Nat.le_of_ble_eq_true rfl) (fun pg ev st mi bl mt cd A ls0 F hr hlocks hin hK hP0 hD0 hA hS0 hl0 => ?_)
  obtain ⟨hx, hb, hml, hown, hts⟩ := id F
  have hl0 : lv_has ls0 3 [(0, .ref h), (1, .int v)] := hl0
  have iX0 : ∀ w ∈ u_ws RX0 TX0 9, w ∈ wsX8_early := fun w h => List.mem_cons_of_mem _ (List.mem_append_right _ h)
  have iX8 : ∀ w ∈ u_ws RX8 TX8 9, w ∈ wsX8_early := fun w h => List.mem_cons_of_mem _ (List.mem_append_left _ (List.mem_append_right _ h))
  refine lv_iload_n hx hb dX8_early_0 rfl (lv_at hl0 1 rfl) ?_
  refine lv_iconst (v := (-1)) hx hb dX8_early_1 (by decide) ?_
  refine lv_icmp_eq (tgt := 19) hx hb dX8_early_2 (by decide) (fun c1 => ?_) (fun c1 => ?_)
  · refine lv_aload_n hx hb dX8_early_19 rfl (lv_at hl0 0 rfl) ?_
    refine kget F hK hP0 8 0 0 iX8 rfl rfl (by decide) (List.mem_of_getElem? (i := 1) rfl) rfl dX8_early_20 ?_
    refine kget F hK hP0 0 1 4 iX0 rfl rfl (by decide) (List.mem_of_getElem? (i := 2) rfl) rfl dX8_early_23 ?_
    refine lv_istore_n (lv' := [(2, .int (c 4)), (0, .ref h), (1, .int v)]) hx hb dX8_early_26 rfl hl0 (by decide) rfl (fun ls2 hl2 => ?_)
    clear hl0
    refine lv_aload_n hx hb dX8_early_27 rfl (lv_at hl2 1 rfl) ?_
    refine kget F hK hP0 8 0 0 iX8 rfl rfl (by decide) (List.mem_of_getElem? (i := 1) rfl) rfl dX8_early_28 ?_
    refine lv_iload_n hx hb dX8_early_31 rfl (lv_at hl2 2 rfl) ?_
    refine kput F hK hP0 hD0 hS0 (ty0 := tyX0) 0 1 4 iX0 rfl tyX0_ok nmX0 (fun zz => [oTo h cl se rc rs ar co cz tx nw, oCl cl pe ti zz]) c rfl (by decide) (List.mem_of_getElem? (i := 2) rfl) rfl rfl rfl (Nat.le_of_ble_eq_true rfl) rfl dX8_early_32 (fun H3 locs3 c3 ec3 (hP3 : va_P G.1 vwCl ([oTo h cl se rc rs ar co cz tx nw, oCl cl pe ti c3]) H3) (hD3 : va_D A ([oTo h cl se rc rs ar co cz tx nw, oCl cl pe ti c3])) hS3 => ?_)
    clear hP0 hD0 hS0
    refine lv_iload_n hx hb dX8_early_35 rfl (lv_at hl2 0 rfl) ?_
    have q4 : ((c 4) = (kearly c v).1) ∧ (c3 = (kearly c v).2) := by
      subst ec3
      first | (simp only [kearly, eq_true c1, eq_self, ↓reduceIte, and_self, and_true, true_and]; done) | (simp only [kearly, eq_true c1, eq_self, ↓reduceIte, and_self, and_true, true_and]; (try and_intros) <;> rfl)
    exact kRi F hr hlocks hS3 dX8_early_36 c3 q4 hP3 hD3
  · refine lv_iload_n hx hb dX8_early_5 rfl (lv_at hl0 1 rfl) ?_
    refine lv_if_lt (tgt := 16) hx hb dX8_early_6 (by decide) (fun c5 => ?_) (fun c5 => ?_)
    · refine lv_bipush (v := (-3)) hx hb dX8_early_16 (by decide) ?_
      have q6 : ((-3) = (kearly c v).1) ∧ (c = (kearly c v).2) := by
        first | (simp only [kearly, c1, eq_true c5, eq_self, ↓reduceIte, and_self, and_true, true_and]; done) | (simp only [kearly, c1, eq_true c5, eq_self, ↓reduceIte, and_self, and_true, true_and]; (try and_intros) <;> rfl)
      exact kRi F hr hlocks hS0 dX8_early_18 c q6 hP0 hD0
    · refine lv_iload_n hx hb dX8_early_9 rfl (lv_at hl0 1 rfl) ?_
      refine lv_sipush (v := 999) hx hb dX8_early_10 (by decide) ?_
      refine lv_icmp_le (tgt := 19) hx hb dX8_early_13 (by decide) (fun c7 => ?_) (fun c7 => ?_)
      · refine lv_aload_n hx hb dX8_early_19 rfl (lv_at hl0 0 rfl) ?_
        refine kget F hK hP0 8 0 0 iX8 rfl rfl (by decide) (List.mem_of_getElem? (i := 1) rfl) rfl dX8_early_20 ?_
        refine kget F hK hP0 0 1 4 iX0 rfl rfl (by decide) (List.mem_of_getElem? (i := 2) rfl) rfl dX8_early_23 ?_
        refine lv_istore_n (lv' := [(2, .int (c 4)), (0, .ref h), (1, .int v)]) hx hb dX8_early_26 rfl hl0 (by decide) rfl (fun ls8 hl8 => ?_)
        clear hl0
        refine lv_aload_n hx hb dX8_early_27 rfl (lv_at hl8 1 rfl) ?_
        refine kget F hK hP0 8 0 0 iX8 rfl rfl (by decide) (List.mem_of_getElem? (i := 1) rfl) rfl dX8_early_28 ?_
        refine lv_iload_n hx hb dX8_early_31 rfl (lv_at hl8 2 rfl) ?_
        refine kput F hK hP0 hD0 hS0 (ty0 := tyX0) 0 1 4 iX0 rfl tyX0_ok nmX0 (fun zz => [oTo h cl se rc rs ar co cz tx nw, oCl cl pe ti zz]) c rfl (by decide) (List.mem_of_getElem? (i := 2) rfl) rfl rfl rfl (Nat.le_of_ble_eq_true rfl) rfl dX8_early_32 (fun H9 locs9 c9 ec9 (hP9 : va_P G.1 vwCl ([oTo h cl se rc rs ar co cz tx nw, oCl cl pe ti c9]) H9) (hD9 : va_D A ([oTo h cl se rc rs ar co cz tx nw, oCl cl pe ti c9])) hS9 => ?_)
        clear hP0 hD0 hS0
        refine lv_iload_n hx hb dX8_early_35 rfl (lv_at hl8 0 rfl) ?_
        have q10 : ((c 4) = (kearly c v).1) ∧ (c9 = (kearly c v).2) := by
          subst ec9
          first | (simp only [kearly, c1, c5, eq_true c7, eq_self, ↓reduceIte, and_self, and_true, true_and]; done) | (simp only [kearly, c1, c5, eq_true c7, eq_self, ↓reduceIte, and_self, and_true, true_and]; (try and_intros) <;> rfl)
        exact kRi F hr hlocks hS9 dX8_early_36 c9 q10 hP9 hD9
      · refine lv_bipush (v := (-3)) hx hb dX8_early_16 (by decide) ?_
        have q11 : ((-3) = (kearly c v).1) ∧ (c = (kearly c v).2) := by
          first | (simp only [kearly, c1, c5, c7, eq_self, ↓reduceIte, and_self, and_true, true_and]; done) | (simp only [kearly, c1, c5, c7, eq_self, ↓reduceIte, and_self, and_true, true_and]; (try and_intros) <;> rfl)
        exact kRi F hr hlocks hS0 dX8_early_18 c q11 hP0 hD0
set_option maxHeartbeats 1000000 in
set_option maxRecDepth 100000 in
theorem c_X8_pass (l : Launch) (G : kG) (h : Nat) (cl : Nat) (se : Nat) (rc : Nat) (rs : Nat) (ar : Nat) (co : Nat) (cz : Nat) (tx : Nat) (nw : Nat → Int32) (n : Int32) : kM G l yX8_pass wsX8_pass ({ frames := 0, cells := 0, slots := 0, locals := 0 }) [.ref h, .int n] ([oTo h cl se rc rs ar co cz tx nw]) (kQi G (fun (rr : Int32) (uu : (Nat → Int32)) => (rr = (kpass nw n).1) ∧ (uu = (kpass nw n).2)) (fun (uu : (Nat → Int32)) => [oTo h cl se rc rs ar co cz tx uu])) := by
  refine kStart (cc := cX8_pass) (maxL := 2) (ret := (some .int)) (by decide) rfl (Nat.le_of_ble_eq_true rfl) (fun pg ev st mi bl mt cd A ls0 F hr hlocks hin hK hP0 hD0 hA hS0 hl0 => ?_)
  obtain ⟨hx, hb, hml, hown, hts⟩ := id F
  have hl0 : lv_has ls0 2 [(0, .ref h), (1, .int n)] := hl0
  have iX8 : ∀ w ∈ u_ws RX8 TX8 9, w ∈ wsX8_pass := fun w h => List.mem_cons_of_mem _ (List.mem_append_right _ h)
  refine lv_iload_n hx hb dX8_pass_0 rfl (lv_at hl0 1 rfl) ?_
  refine lv_iconst (v := 1) hx hb dX8_pass_1 (by decide) ?_
  refine lv_icmp_lt (tgt := 11) hx hb dX8_pass_2 (by decide) (fun c1 => ?_) (fun c1 => ?_)
  · refine lv_bipush (v := (-3)) hx hb dX8_pass_11 (by decide) ?_
    have q2 : ((-3) = (kpass nw n).1) ∧ (nw = (kpass nw n).2) := by
      first | (simp only [kpass, eq_true c1, eq_self, ↓reduceIte, and_self, and_true, true_and]; done) | (simp only [kpass, eq_true c1, eq_self, ↓reduceIte, and_self, and_true, true_and]; (try and_intros) <;> rfl)
    exact kRi F hr hlocks hS0 dX8_pass_13 nw q2 hP0 hD0
  · refine lv_iload_n hx hb dX8_pass_5 rfl (lv_at hl0 1 rfl) ?_
    refine lv_bipush (v := 99) hx hb dX8_pass_6 (by decide) ?_
    refine lv_icmp_le (tgt := 14) hx hb dX8_pass_8 (by decide) (fun c3 => ?_) (fun c3 => ?_)
    · refine lv_aload_n hx hb dX8_pass_14 rfl (lv_at hl0 0 rfl) ?_
      refine lv_dup hx hb dX8_pass_15 rfl ?_
      refine kget F hK hP0 8 0 8 iX8 rfl rfl (by decide) (List.mem_of_getElem? (i := 1) rfl) rfl dX8_pass_16 ?_
      refine lv_iload_n hx hb dX8_pass_19 rfl (lv_at hl0 1 rfl) ?_
      refine lv_iadd hx hb dX8_pass_20 ?_
      refine kput F hK hP0 hD0 hS0 (ty0 := tyX8) 8 0 8 iX8 rfl tyX8_ok nmX8 (fun zz => [oTo h cl se rc rs ar co cz tx zz]) nw rfl (by decide) (List.mem_of_getElem? (i := 1) rfl) rfl rfl rfl (Nat.le_of_ble_eq_true rfl) rfl dX8_pass_21 (fun H4 locs4 nw4 enw4 (hP4 : va_P G.1 vwCl ([oTo h cl se rc rs ar co cz tx nw4]) H4) (hD4 : va_D A ([oTo h cl se rc rs ar co cz tx nw4])) hS4 => ?_)
      clear hP0 hD0 hS0
      refine lv_aload_n hx hb dX8_pass_24 rfl (lv_at hl0 0 rfl) ?_
      refine kget F hK hP4 8 0 8 iX8 rfl rfl (by decide) (List.mem_of_getElem? (i := 1) rfl) rfl dX8_pass_25 ?_
      have q5 : ((nw4 8) = (kpass nw n).1) ∧ (nw4 = (kpass nw n).2) := by
        subst enw4
        first | (simp only [kpass, c1, eq_true c3, eq_self, ↓reduceIte, and_self, and_true, true_and]; done) | (simp only [kpass, c1, eq_true c3, eq_self, ↓reduceIte, and_self, and_true, true_and]; (try and_intros) <;> rfl)
      exact kRi F hr hlocks hS4 dX8_pass_28 nw4 q5 hP4 hD4
    · refine lv_bipush (v := (-3)) hx hb dX8_pass_11 (by decide) ?_
      have q6 : ((-3) = (kpass nw n).1) ∧ (nw = (kpass nw n).2) := by
        first | (simp only [kpass, c1, c3, eq_self, ↓reduceIte, and_self, and_true, true_and]; done) | (simp only [kpass, c1, c3, eq_self, ↓reduceIte, and_self, and_true, true_and]; (try and_intros) <;> rfl)
      exact kRi F hr hlocks hS0 dX8_pass_13 nw q6 hP0 hD0
set_option maxHeartbeats 1000000 in
set_option maxRecDepth 100000 in
theorem c_X8_forget (l : Launch) (G : kG) (h : Nat) (cl : Nat) (se : Nat) (rc : Nat) (rs : Nat) (ar : Nat) (co : Nat) (cz : Nat) (tx : Nat) (nw : Nat → Int32) (pe : Nat) (ti : Nat) (c : Nat → Int32) (t : Nat → Int32) : kM G l yX8_forget wsX8_forget ({ frames := 0, cells := 0, slots := 0, locals := 0 }) [.ref h] ([oTo h cl se rc rs ar co cz tx nw, oCl cl pe ti c, oTi ti t]) (kQi G (fun (rr : Int32) (uu : (Nat → Int32)) => (rr = (kforget c t).1) ∧ (uu = (kforget c t).2)) (fun (uu : (Nat → Int32)) => [oTo h cl se rc rs ar co cz tx nw, oCl cl pe ti uu, oTi ti t])) := by
  refine kStart (cc := cX8_forget) (maxL := 1) (ret := (some .int)) (by decide) rfl (Nat.le_of_ble_eq_true rfl) (fun pg ev st mi bl mt cd A ls0 F hr hlocks hin hK hP0 hD0 hA hS0 hl0 => ?_)
  obtain ⟨hx, hb, hml, hown, hts⟩ := id F
  have hl0 : lv_has ls0 1 [(0, .ref h)] := hl0
  have iX0 : ∀ w ∈ u_ws RX0 TX0 9, w ∈ wsX8_forget := fun w h => List.mem_cons_of_mem _ (List.mem_append_left _ (List.mem_append_right _ h))
  have iX7 : ∀ w ∈ u_ws RX7 TX7 5, w ∈ wsX8_forget := fun w h => List.mem_cons_of_mem _ (List.mem_append_right _ h)
  have iX8 : ∀ w ∈ u_ws RX8 TX8 9, w ∈ wsX8_forget := fun w h => List.mem_cons_of_mem _ (List.mem_append_left _ (List.mem_append_left _ (List.mem_append_right _ h)))
  refine lv_aload_n hx hb dX8_forget_0 rfl (lv_at hl0 0 rfl) ?_
  refine kget F hK hP0 8 0 0 iX8 rfl rfl (by decide) (List.mem_of_getElem? (i := 1) rfl) rfl dX8_forget_1 ?_
  refine kget F hK hP0 0 1 2 iX0 rfl rfl (by decide) (List.mem_of_getElem? (i := 2) rfl) rfl dX8_forget_4 ?_
  refine lv_if_ne (tgt := 13) hx hb dX8_forget_7 (by decide) (fun c1 => ?_) (fun c1 => ?_)
  · refine lv_aload_n hx hb dX8_forget_13 rfl (lv_at hl0 0 rfl) ?_
    refine kget F hK hP0 8 0 0 iX8 rfl rfl (by decide) (List.mem_of_getElem? (i := 1) rfl) rfl dX8_forget_14 ?_
    refine lv_iconst (v := 0) hx hb dX8_forget_17 (by decide) ?_
    refine kput F hK hP0 hD0 hS0 (ty0 := tyX0) 0 1 2 iX0 rfl tyX0_ok nmX0 (fun zz => [oTo h cl se rc rs ar co cz tx nw, oCl cl pe ti zz, oTi ti t]) c rfl (by decide) (List.mem_of_getElem? (i := 2) rfl) rfl rfl rfl (Nat.le_of_ble_eq_true rfl) rfl dX8_forget_18 (fun H2 locs2 c2 ec2 (hP2 : va_P G.1 vwCl ([oTo h cl se rc rs ar co cz tx nw, oCl cl pe ti c2, oTi ti t]) H2) (hD2 : va_D A ([oTo h cl se rc rs ar co cz tx nw, oCl cl pe ti c2, oTi ti t])) hS2 => ?_)
    clear hP0 hD0 hS0
    refine lv_aload_n hx hb dX8_forget_21 rfl (lv_at hl0 0 rfl) ?_
    refine kget F hK hP2 8 0 0 iX8 rfl rfl (by decide) (List.mem_of_getElem? (i := 1) rfl) rfl dX8_forget_22 ?_
    refine kget F hK hP2 0 1 1 iX0 rfl rfl (by decide) (List.mem_of_getElem? (i := 3) rfl) rfl dX8_forget_25 ?_
    refine kget F hK hP2 7 2 0 iX7 rfl rfl (by decide) (List.mem_of_getElem? (i := 4) rfl) rfl dX8_forget_28 ?_
    have q3 : ((t 0) = (kforget c t).1) ∧ (c2 = (kforget c t).2) := by
      subst ec2
      first | (simp only [kforget, c1, eq_self, ↓reduceIte, and_self, and_true, true_and]; done) | (simp only [kforget, c1, eq_self, ↓reduceIte, and_self, and_true, true_and]; (try and_intros) <;> rfl)
    exact kRi F hr hlocks hS2 dX8_forget_31 c2 q3 hP2 hD2
  · refine lv_bipush (v := (-4)) hx hb dX8_forget_10 (by decide) ?_
    have q4 : ((-4) = (kforget c t).1) ∧ (c = (kforget c t).2) := by
      first | (simp only [kforget, eq_true c1, eq_self, ↓reduceIte, and_self, and_true, true_and]; done) | (simp only [kforget, eq_true c1, eq_self, ↓reduceIte, and_self, and_true, true_and]; (try and_intros) <;> rfl)
    exact kRi F hr hlocks hS0 dX8_forget_12 c q4 hP0 hD0
set_option maxHeartbeats 1000000 in
set_option maxRecDepth 100000 in
theorem c_X8_offer0 (l : Launch) (G : kG) (h : Nat) (cl : Nat) (se : Nat) (rc : Nat) (rs : Nat) (ar : Nat) (co : Nat) (cz : Nat) (tx : Nat) (nw : Nat → Int32) (pe : Nat) (ti : Nat) (c : Nat → Int32) (lc : Nat) (ls : Nat) (dr : Nat) (p : Nat → Int32) (v : Int32) (g : Int32) : kM G l yX8_offer wsX8_offer ({ frames := 1, cells := 0, slots := 0, locals := 21 }) [.ref h, .int 0, .int v, .int g] ([oTo h cl se rc rs ar co cz tx nw, oCl cl pe ti c, oPe pe lc ls lc ls dr p]) (kQi G (fun (rr : Int32) (uu : (Nat → Int32)) => (rr = (koffer p v g).1) ∧ (uu = (koffer p v g).2)) (fun (uu : (Nat → Int32)) => [oTo h cl se rc rs ar co cz tx nw, oCl cl pe ti c, oPe pe lc ls lc ls dr uu])) := by
  refine kStart (cc := cX8_offer) (maxL := 6) (ret := (some .int)) (by decide) rfl (Nat.le_of_ble_eq_true rfl) (fun pg ev st mi bl mt cd A ls0 F hr hlocks hin hK hP0 hD0 hA hS0 hl0 => ?_)
  obtain ⟨hx, hb, hml, hown, hts⟩ := id F
  have hl0 : lv_has ls0 6 [(0, .ref h), (1, .int 0), (2, .int v), (3, .int g)] := hl0
  have iX3 : ∀ w ∈ u_ws RX3 TX3 18, w ∈ wsX8_offer := fun w h => List.mem_cons_of_mem _ (List.mem_append_left _ (List.mem_append_left _ (List.mem_append_left _ (List.mem_append_right _ h))))
  refine lv_iload_n hx hb dX8_offer_0 rfl (lv_at hl0 1 rfl) ?_
  refine kPSi F hK hP0 hD0 hS0 hA hl0.1 (c_X8_isSide l G 0) (fun _ => rfl) gX8_offer_X8_isSide rfl 1 rfl (by decide +kernel) ⟨Nat.le_of_ble_eq_true rfl, Nat.le_of_ble_eq_true rfl⟩ ⟨Nat.zero_le _, Nat.zero_le _⟩ (Nat.le_of_ble_eq_true rfl) rfl dX8_offer_1 (fun r1 u1 H2 locs2 hw1 (hP2 : va_P G.1 vwCl ([oTo h cl se rc rs ar co cz tx nw, oCl cl pe ti c, oPe pe lc ls lc ls dr p]) H2) (hD2 : va_D A ([oTo h cl se rc rs ar co cz tx nw, oCl cl pe ti c, oPe pe lc ls lc ls dr p])) hS2 => ?_)
  clear hP0 hD0 hS0
  have w1_0 : r1 = kside 0 := hw1
  have g1 : r1 = 1 := w1_0.trans (by decide)
  clear w1_0
  subst g1
  refine lv_if_ne (tgt := 10) hx hb dX8_offer_4 (by decide) (fun c3 => ?_) (fun c3 => ?_)
  · refine lv_iload_n hx hb dX8_offer_10 rfl (lv_at hl0 2 rfl) ?_
    refine lv_iconst (v := 1) hx hb dX8_offer_11 (by decide) ?_
    refine lv_icmp_lt (tgt := 32) hx hb dX8_offer_12 (by decide) (fun c4 => ?_) (fun c4 => ?_)
    · refine lv_bipush (v := (-3)) hx hb dX8_offer_32 (by decide) ?_
      have q5 : ((-3) = (koffer p v g).1) ∧ (p = (koffer p v g).2) := by
        first | (simp only [koffer, c3, eq_true c4, eq_self, ↓reduceIte, and_self, and_true, true_and]; done) | (simp only [koffer, c3, eq_true c4, eq_self, ↓reduceIte, and_self, and_true, true_and]; (try and_intros) <;> rfl)
      exact kRi F hr hlocks hS2 dX8_offer_34 p q5 hP2 hD2
    · refine lv_iload_n hx hb dX8_offer_15 rfl (lv_at hl0 2 rfl) ?_
      refine lv_bipush (v := 7) hx hb dX8_offer_16 (by decide) ?_
      refine lv_icmp_gt (tgt := 32) hx hb dX8_offer_18 (by decide) (fun c6 => ?_) (fun c6 => ?_)
      · refine lv_bipush (v := (-3)) hx hb dX8_offer_32 (by decide) ?_
        have q7 : ((-3) = (koffer p v g).1) ∧ (p = (koffer p v g).2) := by
          first | (simp only [koffer, c3, c4, eq_true c6, eq_self, ↓reduceIte, and_self, and_true, true_and]; done) | (simp only [koffer, c3, c4, eq_true c6, eq_self, ↓reduceIte, and_self, and_true, true_and]; (try and_intros) <;> rfl)
        exact kRi F hr hlocks hS2 dX8_offer_34 p q7 hP2 hD2
      · refine lv_iload_n hx hb dX8_offer_21 rfl (lv_at hl0 3 rfl) ?_
        refine lv_iconst (v := 1) hx hb dX8_offer_22 (by decide) ?_
        refine lv_icmp_lt (tgt := 32) hx hb dX8_offer_23 (by decide) (fun c8 => ?_) (fun c8 => ?_)
        · refine lv_bipush (v := (-3)) hx hb dX8_offer_32 (by decide) ?_
          have q9 : ((-3) = (koffer p v g).1) ∧ (p = (koffer p v g).2) := by
            first | (simp only [koffer, c3, c4, c6, eq_true c8, eq_self, ↓reduceIte, and_self, and_true, true_and]; done) | (simp only [koffer, c3, c4, c6, eq_true c8, eq_self, ↓reduceIte, and_self, and_true, true_and]; (try and_intros) <;> rfl)
          exact kRi F hr hlocks hS2 dX8_offer_34 p q9 hP2 hD2
        · refine lv_iload_n hx hb dX8_offer_26 rfl (lv_at hl0 3 rfl) ?_
          refine lv_bipush (v := 15) hx hb dX8_offer_27 (by decide) ?_
          refine lv_icmp_le (tgt := 35) hx hb dX8_offer_29 (by decide) (fun c10 => ?_) (fun c10 => ?_)
          · refine lv_aload_n hx hb dX8_offer_35 rfl (lv_at hl0 0 rfl) ?_
            refine lv_iload_n hx hb dX8_offer_36 rfl (lv_at hl0 1 rfl) ?_
            refine kVr (wr := [oPe pe lc ls lc ls dr p]) F hK hP2 hD2 hS2 hA hl0.1 (c_X8_peerOf0 l G h cl se rc rs ar co cz tx nw pe ti c) [0, 1] [2] 8 0 gX8_offer_X8_peerOf rfl 1 rfl (by decide +kernel) ⟨Nat.le_of_ble_eq_true rfl, Nat.le_of_ble_eq_true rfl⟩ ⟨Nat.zero_le _, Nat.zero_le _⟩ rfl rfl rfl rfl (by decide) (by decide) (by decide) (Nat.le_of_ble_eq_true rfl) rfl dX8_offer_37 (fun u11 H12 locs12 hw11 (hP12 : va_P G.1 vwCl ([oPe pe lc ls lc ls dr p, oTo h cl se rc rs ar co cz tx nw, oCl cl pe ti c]) H12) (hD12 : va_D A ([oPe pe lc ls lc ls dr p, oTo h cl se rc rs ar co cz tx nw, oCl cl pe ti c])) hS12 => ?_)
            clear hP2 hD2 hS2
            refine lv_astore (lv' := [(4, .ref pe), (0, .ref h), (1, .int 0), (2, .int v), (3, .int g)]) hx hb dX8_offer_40 hl0 (by decide) rfl (fun ls13 hl13 => ?_)
            clear hl0
            refine lv_aload hx hb dX8_offer_42 (lv_at hl13 0 rfl) ?_
            refine kget F hK hP12 3 0 0 iX3 rfl rfl (by decide) (List.mem_of_getElem? (i := 1) rfl) rfl dX8_offer_44 ?_
            refine lv_istore (lv' := [(5, .int (p 0)), (4, .ref pe), (0, .ref h), (1, .int 0), (2, .int v), (3, .int g)]) hx hb dX8_offer_47 hl13 (by decide) rfl (fun ls14 hl14 => ?_)
            clear hl13
            refine lv_aload hx hb dX8_offer_49 (lv_at hl14 1 rfl) ?_
            refine lv_iload_n hx hb dX8_offer_51 rfl (lv_at hl14 4 rfl) ?_
            refine kput F hK hP12 hD12 hS12 (ty0 := tyX3) 3 0 0 iX3 rfl tyX3_ok nmX3 (fun zz => [oPe pe lc ls lc ls dr zz, oTo h cl se rc rs ar co cz tx nw, oCl cl pe ti c]) p rfl (by decide) (List.mem_of_getElem? (i := 1) rfl) rfl rfl rfl (Nat.le_of_ble_eq_true rfl) rfl dX8_offer_52 (fun H15 locs15 p15 ep15 (hP15 : va_P G.1 vwCl ([oPe pe lc ls lc ls dr p15, oTo h cl se rc rs ar co cz tx nw, oCl cl pe ti c]) H15) (hD15 : va_D A ([oPe pe lc ls lc ls dr p15, oTo h cl se rc rs ar co cz tx nw, oCl cl pe ti c])) hS15 => ?_)
            clear hP12 hD12 hS12
            refine lv_aload hx hb dX8_offer_55 (lv_at hl14 1 rfl) ?_
            refine lv_iload_n hx hb dX8_offer_57 rfl (lv_at hl14 5 rfl) ?_
            refine kput F hK hP15 hD15 hS15 (ty0 := tyX3) 3 0 1 iX3 rfl tyX3_ok nmX3 (fun zz => [oPe pe lc ls lc ls dr zz, oTo h cl se rc rs ar co cz tx nw, oCl cl pe ti c]) p15 rfl (by decide) (List.mem_of_getElem? (i := 2) rfl) rfl rfl rfl (Nat.le_of_ble_eq_true rfl) rfl dX8_offer_58 (fun H16 locs16 p16 ep16 (hP16 : va_P G.1 vwCl ([oPe pe lc ls lc ls dr p16, oTo h cl se rc rs ar co cz tx nw, oCl cl pe ti c]) H16) (hD16 : va_D A ([oPe pe lc ls lc ls dr p16, oTo h cl se rc rs ar co cz tx nw, oCl cl pe ti c])) hS16 => ?_)
            clear hP15 hD15 hS15
            refine lv_iload hx hb dX8_offer_61 (lv_at hl14 0 rfl) ?_
            have q17 : ((p 0) = (koffer p v g).1) ∧ (p16 = (koffer p v g).2) := by
              subst ep16
              subst ep15
              first | (simp only [koffer, c3, c4, c6, c8, eq_true c10, eq_self, ↓reduceIte, and_self, and_true, true_and]; done) | (simp only [koffer, c3, c4, c6, c8, eq_true c10, eq_self, ↓reduceIte, and_self, and_true, true_and]; (try and_intros) <;> rfl)
            exact kRi F hr hlocks hS16 dX8_offer_63 p16 q17 (hP16.sub [1, 2, 0] rfl) (hD16.sub [1, 2, 0] (by decide) rfl)
          · refine lv_bipush (v := (-3)) hx hb dX8_offer_32 (by decide) ?_
            have q18 : ((-3) = (koffer p v g).1) ∧ (p = (koffer p v g).2) := by
              first | (simp only [koffer, c3, c4, c6, c8, c10, eq_self, ↓reduceIte, and_self, and_true, true_and]; done) | (simp only [koffer, c3, c4, c6, c8, c10, eq_self, ↓reduceIte, and_self, and_true, true_and]; (try and_intros) <;> rfl)
            exact kRi F hr hlocks hS2 dX8_offer_34 p q18 hP2 hD2
  · exact absurd c3 (by decide)
set_option maxHeartbeats 1000000 in
set_option maxRecDepth 100000 in
theorem c_X8_secret0 (l : Launch) (G : kG) (h : Nat) (cl : Nat) (se : Nat) (rc : Nat) (rs : Nat) (ar : Nat) (co : Nat) (cz : Nat) (tx : Nat) (nw : Nat → Int32) (pe : Nat) (ti : Nat) (c : Nat → Int32) (lc : Nat) (ls : Nat) (dr : Nat) (p : Nat → Int32) (v : Int32) : kM G l yX8_secret wsX8_secret ({ frames := 1, cells := 0, slots := 0, locals := 21 }) [.ref h, .int 0, .int v] ([oTo h cl se rc rs ar co cz tx nw, oCl cl pe ti c, oPe pe lc ls lc ls dr p]) (kQi G (fun (rr : Int32) (uu : (Nat → Int32)) => (rr = (ksecret p v).1) ∧ (uu = (ksecret p v).2)) (fun (uu : (Nat → Int32)) => [oTo h cl se rc rs ar co cz tx nw, oCl cl pe ti c, oPe pe lc ls lc ls dr uu])) := by
  refine kStart (cc := cX8_secret) (maxL := 5) (ret := (some .int)) (by decide) rfl (Nat.le_of_ble_eq_true rfl) (fun pg ev st mi bl mt cd A ls0 F hr hlocks hin hK hP0 hD0 hA hS0 hl0 => ?_)
  obtain ⟨hx, hb, hml, hown, hts⟩ := id F
  have hl0 : lv_has ls0 5 [(0, .ref h), (1, .int 0), (2, .int v)] := hl0
  have iX3 : ∀ w ∈ u_ws RX3 TX3 18, w ∈ wsX8_secret := fun w h => List.mem_cons_of_mem _ (List.mem_append_left _ (List.mem_append_left _ (List.mem_append_left _ (List.mem_append_right _ h))))
  refine lv_iload_n hx hb dX8_secret_0 rfl (lv_at hl0 1 rfl) ?_
  refine kPSi F hK hP0 hD0 hS0 hA hl0.1 (c_X8_isSide l G 0) (fun _ => rfl) gX8_secret_X8_isSide rfl 1 rfl (by decide +kernel) ⟨Nat.le_of_ble_eq_true rfl, Nat.le_of_ble_eq_true rfl⟩ ⟨Nat.zero_le _, Nat.zero_le _⟩ (Nat.le_of_ble_eq_true rfl) rfl dX8_secret_1 (fun r1 u1 H2 locs2 hw1 (hP2 : va_P G.1 vwCl ([oTo h cl se rc rs ar co cz tx nw, oCl cl pe ti c, oPe pe lc ls lc ls dr p]) H2) (hD2 : va_D A ([oTo h cl se rc rs ar co cz tx nw, oCl cl pe ti c, oPe pe lc ls lc ls dr p])) hS2 => ?_)
  clear hP0 hD0 hS0
  have w1_0 : r1 = kside 0 := hw1
  have g1 : r1 = 1 := w1_0.trans (by decide)
  clear w1_0
  subst g1
  refine lv_if_ne (tgt := 10) hx hb dX8_secret_4 (by decide) (fun c3 => ?_) (fun c3 => ?_)
  · refine lv_iload_n hx hb dX8_secret_10 rfl (lv_at hl0 2 rfl) ?_
    refine lv_iconst (v := 1) hx hb dX8_secret_11 (by decide) ?_
    refine lv_icmp_lt (tgt := 22) hx hb dX8_secret_12 (by decide) (fun c4 => ?_) (fun c4 => ?_)
    · refine lv_bipush (v := (-3)) hx hb dX8_secret_22 (by decide) ?_
      have q5 : ((-3) = (ksecret p v).1) ∧ (p = (ksecret p v).2) := by
        first | (simp only [ksecret, c3, eq_true c4, eq_self, ↓reduceIte, and_self, and_true, true_and]; done) | (simp only [ksecret, c3, eq_true c4, eq_self, ↓reduceIte, and_self, and_true, true_and]; (try and_intros) <;> rfl)
      exact kRi F hr hlocks hS2 dX8_secret_24 p q5 hP2 hD2
    · refine lv_iload_n hx hb dX8_secret_15 rfl (lv_at hl0 2 rfl) ?_
      refine lv_sipush (v := 999) hx hb dX8_secret_16 (by decide) ?_
      refine lv_icmp_le (tgt := 25) hx hb dX8_secret_19 (by decide) (fun c6 => ?_) (fun c6 => ?_)
      · refine lv_aload_n hx hb dX8_secret_25 rfl (lv_at hl0 0 rfl) ?_
        refine lv_iload_n hx hb dX8_secret_26 rfl (lv_at hl0 1 rfl) ?_
        refine kVr (wr := [oPe pe lc ls lc ls dr p]) F hK hP2 hD2 hS2 hA hl0.1 (c_X8_peerOf0 l G h cl se rc rs ar co cz tx nw pe ti c) [0, 1] [2] 8 0 gX8_secret_X8_peerOf rfl 1 rfl (by decide +kernel) ⟨Nat.le_of_ble_eq_true rfl, Nat.le_of_ble_eq_true rfl⟩ ⟨Nat.zero_le _, Nat.zero_le _⟩ rfl rfl rfl rfl (by decide) (by decide) (by decide) (Nat.le_of_ble_eq_true rfl) rfl dX8_secret_27 (fun u7 H8 locs8 hw7 (hP8 : va_P G.1 vwCl ([oPe pe lc ls lc ls dr p, oTo h cl se rc rs ar co cz tx nw, oCl cl pe ti c]) H8) (hD8 : va_D A ([oPe pe lc ls lc ls dr p, oTo h cl se rc rs ar co cz tx nw, oCl cl pe ti c])) hS8 => ?_)
        clear hP2 hD2 hS2
        refine lv_astore_n (lv' := [(3, .ref pe), (0, .ref h), (1, .int 0), (2, .int v)]) hx hb dX8_secret_30 rfl hl0 (by decide) rfl (fun ls9 hl9 => ?_)
        clear hl0
        refine lv_aload_n hx hb dX8_secret_31 rfl (lv_at hl9 0 rfl) ?_
        refine kget F hK hP8 3 0 2 iX3 rfl rfl (by decide) (List.mem_of_getElem? (i := 1) rfl) rfl dX8_secret_32 ?_
        refine lv_istore (lv' := [(4, .int (p 2)), (3, .ref pe), (0, .ref h), (1, .int 0), (2, .int v)]) hx hb dX8_secret_35 hl9 (by decide) rfl (fun ls10 hl10 => ?_)
        clear hl9
        refine lv_aload_n hx hb dX8_secret_37 rfl (lv_at hl10 1 rfl) ?_
        refine lv_iload_n hx hb dX8_secret_38 rfl (lv_at hl10 4 rfl) ?_
        refine kput F hK hP8 hD8 hS8 (ty0 := tyX3) 3 0 2 iX3 rfl tyX3_ok nmX3 (fun zz => [oPe pe lc ls lc ls dr zz, oTo h cl se rc rs ar co cz tx nw, oCl cl pe ti c]) p rfl (by decide) (List.mem_of_getElem? (i := 1) rfl) rfl rfl rfl (Nat.le_of_ble_eq_true rfl) rfl dX8_secret_39 (fun H11 locs11 p11 ep11 (hP11 : va_P G.1 vwCl ([oPe pe lc ls lc ls dr p11, oTo h cl se rc rs ar co cz tx nw, oCl cl pe ti c]) H11) (hD11 : va_D A ([oPe pe lc ls lc ls dr p11, oTo h cl se rc rs ar co cz tx nw, oCl cl pe ti c])) hS11 => ?_)
        clear hP8 hD8 hS8
        refine lv_iload hx hb dX8_secret_42 (lv_at hl10 0 rfl) ?_
        have q12 : ((p 2) = (ksecret p v).1) ∧ (p11 = (ksecret p v).2) := by
          subst ep11
          first | (simp only [ksecret, c3, c4, eq_true c6, eq_self, ↓reduceIte, and_self, and_true, true_and]; done) | (simp only [ksecret, c3, c4, eq_true c6, eq_self, ↓reduceIte, and_self, and_true, true_and]; (try and_intros) <;> rfl)
        exact kRi F hr hlocks hS11 dX8_secret_44 p11 q12 (hP11.sub [1, 2, 0] rfl) (hD11.sub [1, 2, 0] (by decide) rfl)
      · refine lv_bipush (v := (-3)) hx hb dX8_secret_22 (by decide) ?_
        have q13 : ((-3) = (ksecret p v).1) ∧ (p = (ksecret p v).2) := by
          first | (simp only [ksecret, c3, c4, c6, eq_self, ↓reduceIte, and_self, and_true, true_and]; done) | (simp only [ksecret, c3, c4, c6, eq_self, ↓reduceIte, and_self, and_true, true_and]; (try and_intros) <;> rfl)
        exact kRi F hr hlocks hS2 dX8_secret_24 p q13 hP2 hD2
  · exact absurd c3 (by decide)
set_option maxHeartbeats 1000000 in
set_option maxRecDepth 100000 in
theorem c_X8_fresh0 (l : Launch) (G : kG) (h : Nat) (cl : Nat) (se : Nat) (rc : Nat) (rs : Nat) (ar : Nat) (co : Nat) (cz : Nat) (tx : Nat) (nw : Nat → Int32) (pe : Nat) (ti : Nat) (c : Nat → Int32) (lc : Nat) (ls : Nat) (dr : Nat) (p : Nat → Int32) : kM G l yX8_fresh wsX8_fresh ({ frames := 1, cells := 0, slots := 0, locals := 21 }) [.ref h, .int 0] ([oTo h cl se rc rs ar co cz tx nw, oCl cl pe ti c, oPe pe lc ls lc ls dr p]) (kQi G (fun (rr : Int32) (uu : (Nat → Int32)) => (rr = p 3) ∧ (uu = krest p)) (fun (uu : (Nat → Int32)) => [oTo h cl se rc rs ar co cz tx nw, oCl cl pe ti c, oPe pe lc ls lc ls dr uu])) := by
  refine kStart (cc := cX8_fresh) (maxL := 4) (ret := (some .int)) (by decide) rfl (Nat.le_of_ble_eq_true rfl) (fun pg ev st mi bl mt cd A ls0 F hr hlocks hin hK hP0 hD0 hA hS0 hl0 => ?_)
  obtain ⟨hx, hb, hml, hown, hts⟩ := id F
  have hl0 : lv_has ls0 4 [(0, .ref h), (1, .int 0)] := hl0
  have iX3 : ∀ w ∈ u_ws RX3 TX3 18, w ∈ wsX8_fresh := fun w h => List.mem_cons_of_mem _ (List.mem_append_left _ (List.mem_append_left _ (List.mem_append_left _ (List.mem_append_right _ h))))
  refine lv_iload_n hx hb dX8_fresh_0 rfl (lv_at hl0 1 rfl) ?_
  refine kPSi F hK hP0 hD0 hS0 hA hl0.1 (c_X8_isSide l G 0) (fun _ => rfl) gX8_fresh_X8_isSide rfl 1 rfl (by decide +kernel) ⟨Nat.le_of_ble_eq_true rfl, Nat.le_of_ble_eq_true rfl⟩ ⟨Nat.zero_le _, Nat.zero_le _⟩ (Nat.le_of_ble_eq_true rfl) rfl dX8_fresh_1 (fun r1 u1 H2 locs2 hw1 (hP2 : va_P G.1 vwCl ([oTo h cl se rc rs ar co cz tx nw, oCl cl pe ti c, oPe pe lc ls lc ls dr p]) H2) (hD2 : va_D A ([oTo h cl se rc rs ar co cz tx nw, oCl cl pe ti c, oPe pe lc ls lc ls dr p])) hS2 => ?_)
  clear hP0 hD0 hS0
  have w1_0 : r1 = kside 0 := hw1
  have g1 : r1 = 1 := w1_0.trans (by decide)
  clear w1_0
  subst g1
  refine lv_if_ne (tgt := 10) hx hb dX8_fresh_4 (by decide) (fun c3 => ?_) (fun c3 => ?_)
  · refine lv_aload_n hx hb dX8_fresh_10 rfl (lv_at hl0 0 rfl) ?_
    refine lv_iload_n hx hb dX8_fresh_11 rfl (lv_at hl0 1 rfl) ?_
    refine kVr (wr := [oPe pe lc ls lc ls dr p]) F hK hP2 hD2 hS2 hA hl0.1 (c_X8_peerOf0 l G h cl se rc rs ar co cz tx nw pe ti c) [0, 1] [2] 8 0 gX8_fresh_X8_peerOf rfl 1 rfl (by decide +kernel) ⟨Nat.le_of_ble_eq_true rfl, Nat.le_of_ble_eq_true rfl⟩ ⟨Nat.zero_le _, Nat.zero_le _⟩ rfl rfl rfl rfl (by decide) (by decide) (by decide) (Nat.le_of_ble_eq_true rfl) rfl dX8_fresh_12 (fun u4 H5 locs5 hw4 (hP5 : va_P G.1 vwCl ([oPe pe lc ls lc ls dr p, oTo h cl se rc rs ar co cz tx nw, oCl cl pe ti c]) H5) (hD5 : va_D A ([oPe pe lc ls lc ls dr p, oTo h cl se rc rs ar co cz tx nw, oCl cl pe ti c])) hS5 => ?_)
    clear hP2 hD2 hS2
    refine lv_astore_n (lv' := [(2, .ref pe), (0, .ref h), (1, .int 0)]) hx hb dX8_fresh_15 rfl hl0 (by decide) rfl (fun ls6 hl6 => ?_)
    clear hl0
    refine lv_aload_n hx hb dX8_fresh_16 rfl (lv_at hl6 0 rfl) ?_
    refine kget F hK hP5 3 0 3 iX3 rfl rfl (by decide) (List.mem_of_getElem? (i := 1) rfl) rfl dX8_fresh_17 ?_
    refine lv_istore_n (lv' := [(3, .int (p 3)), (2, .ref pe), (0, .ref h), (1, .int 0)]) hx hb dX8_fresh_20 rfl hl6 (by decide) rfl (fun ls7 hl7 => ?_)
    clear hl6
    refine lv_aload_n hx hb dX8_fresh_21 rfl (lv_at hl7 1 rfl) ?_
    refine kVv (wr := [oTo h cl se rc rs ar co cz tx nw, oCl cl pe ti c]) F hK hP5 hD5 hS5 hA hl7.1 (c_X3_rest l G pe lc ls lc ls dr p) [0] [1, 2] 3 0 gX8_fresh_X3_rest rfl 0 rfl (by decide +kernel) ⟨Nat.le_of_ble_eq_true rfl, Nat.le_of_ble_eq_true rfl⟩ ⟨Nat.zero_le _, Nat.zero_le _⟩ rfl rfl rfl rfl (by decide) (by decide) (by decide) (Nat.le_of_ble_eq_true rfl) rfl dX8_fresh_22 (fun p_8 H9 locs9 hw8 (hP9 : va_P G.1 vwCl ([oTo h cl se rc rs ar co cz tx nw, oCl cl pe ti c, oPe pe lc ls lc ls dr p_8]) H9) (hD9 : va_D A ([oTo h cl se rc rs ar co cz tx nw, oCl cl pe ti c, oPe pe lc ls lc ls dr p_8])) hS9 => ?_)
    clear hP5 hD5 hS5
    have w8_0 : p_8 = krest p := hw8
    refine lv_iload_n hx hb dX8_fresh_25 rfl (lv_at hl7 0 rfl) ?_
    have q10 : ((p 3) = p 3) ∧ (p_8 = krest p) := by
      subst w8_0
      first | (simp only [c3, eq_self, ↓reduceIte, and_self, and_true, true_and]; done) | (simp only [c3, eq_self, ↓reduceIte, and_self, and_true, true_and]; (try and_intros) <;> rfl) | exact ⟨rfl, rfl⟩
    exact kRi F hr hlocks hS9 dX8_fresh_26 p_8 q10 hP9 hD9
  · exact absurd c3 (by decide)
set_option maxHeartbeats 1000000 in
set_option maxRecDepth 100000 in
theorem c_X8_side0 (l : Launch) (G : kG) (h : Nat) (cl : Nat) (se : Nat) (rc : Nat) (rs : Nat) (ar : Nat) (co : Nat) (cz : Nat) (tx : Nat) (nw : Nat → Int32) (pe : Nat) (ti : Nat) (c : Nat → Int32) (lc : Nat) (ls : Nat) (dr : Nat) (p : Nat → Int32) (a : Nat → Int32) (b : Nat → Int32) (i : Int32) : kM G l yX8_side wsX8_side ({ frames := 2, cells := 0, slots := 0, locals := 42 }) [.ref h, .int 0, .int i] ([oTo h cl se rc rs ar co cz tx nw, oCl cl pe ti c, oPe pe lc ls lc ls dr p, oLa lc a, oLa ls b]) (kQi G (fun (rr : Int32) (uu : Unit) => rr = ksideR p a b i) (fun (uu : Unit) => [oTo h cl se rc rs ar co cz tx nw, oCl cl pe ti c, oPe pe lc ls lc ls dr p, oLa lc a, oLa ls b])) := by
  refine kStart (cc := cX8_side) (maxL := 3) (ret := (some .int)) (by decide) rfl (Nat.le_of_ble_eq_true rfl) (fun pg ev st mi bl mt cd A ls0 F hr hlocks hin hK hP0 hD0 hA hS0 hl0 => ?_)
  obtain ⟨hx, hb, hml, hown, hts⟩ := id F
  have hl0 : lv_has ls0 3 [(0, .ref h), (1, .int 0), (2, .int i)] := hl0
  refine lv_iload_n hx hb dX8_side_0 rfl (lv_at hl0 1 rfl) ?_
  refine kPSi F hK hP0 hD0 hS0 hA hl0.1 (c_X8_isSide l G 0) (fun _ => rfl) gX8_side_X8_isSide rfl 1 rfl (by decide +kernel) ⟨Nat.le_of_ble_eq_true rfl, Nat.le_of_ble_eq_true rfl⟩ ⟨Nat.zero_le _, Nat.zero_le _⟩ (Nat.le_of_ble_eq_true rfl) rfl dX8_side_1 (fun r1 u1 H2 locs2 hw1 (hP2 : va_P G.1 vwCl ([oTo h cl se rc rs ar co cz tx nw, oCl cl pe ti c, oPe pe lc ls lc ls dr p, oLa lc a, oLa ls b]) H2) (hD2 : va_D A ([oTo h cl se rc rs ar co cz tx nw, oCl cl pe ti c, oPe pe lc ls lc ls dr p, oLa lc a, oLa ls b])) hS2 => ?_)
  clear hP0 hD0 hS0
  have w1_0 : r1 = kside 0 := hw1
  have g1 : r1 = 1 := w1_0.trans (by decide)
  clear w1_0
  subst g1
  refine lv_if_ne (tgt := 10) hx hb dX8_side_4 (by decide) (fun c3 => ?_) (fun c3 => ?_)
  · refine lv_iload_n hx hb dX8_side_10 rfl (lv_at hl0 2 rfl) ?_
    refine lv_if_lt (tgt := 20) hx hb dX8_side_11 (by decide) (fun c4 => ?_) (fun c4 => ?_)
    · refine lv_bipush (v := (-3)) hx hb dX8_side_20 (by decide) ?_
      have q5 : (-3) = ksideR p a b i := by
        first | (simp only [ksideR, c3, eq_true c4, eq_self, ↓reduceIte, and_self, and_true, true_and]; done) | (simp only [ksideR, c3, eq_true c4, eq_self, ↓reduceIte, and_self, and_true, true_and]; (try and_intros) <;> rfl)
      exact kRi F hr hlocks hS2 dX8_side_22 () q5 hP2 hD2
    · refine lv_iload_n hx hb dX8_side_14 rfl (lv_at hl0 2 rfl) ?_
      refine lv_bipush (v := 11) hx hb dX8_side_15 (by decide) ?_
      refine lv_icmp_le (tgt := 23) hx hb dX8_side_17 (by decide) (fun c6 => ?_) (fun c6 => ?_)
      · refine lv_aload_n hx hb dX8_side_23 rfl (lv_at hl0 0 rfl) ?_
        refine lv_iload_n hx hb dX8_side_24 rfl (lv_at hl0 1 rfl) ?_
        refine kVr (wr := [oPe pe lc ls lc ls dr p, oLa lc a, oLa ls b]) F hK hP2 hD2 hS2 hA hl0.1 (c_X8_peerOf0 l G h cl se rc rs ar co cz tx nw pe ti c) [0, 1] [2, 3, 4] 8 0 gX8_side_X8_peerOf rfl 1 rfl (by decide +kernel) ⟨Nat.le_of_ble_eq_true rfl, Nat.le_of_ble_eq_true rfl⟩ ⟨Nat.zero_le _, Nat.zero_le _⟩ rfl rfl rfl rfl (by decide) (by decide) (by decide) (Nat.le_of_ble_eq_true rfl) rfl dX8_side_25 (fun u7 H8 locs8 hw7 (hP8 : va_P G.1 vwCl ([oPe pe lc ls lc ls dr p, oLa lc a, oLa ls b, oTo h cl se rc rs ar co cz tx nw, oCl cl pe ti c]) H8) (hD8 : va_D A ([oPe pe lc ls lc ls dr p, oLa lc a, oLa ls b, oTo h cl se rc rs ar co cz tx nw, oCl cl pe ti c])) hS8 => ?_)
        clear hP2 hD2 hS2
        refine lv_iload_n hx hb dX8_side_28 rfl (lv_at hl0 2 rfl) ?_
        refine kVi (wr := [oTo h cl se rc rs ar co cz tx nw, oCl cl pe ti c]) F hK hP8 hD8 hS8 hA hl0.1 (c_X3_tell l G pe lc ls lc ls dr p a b i (ge0 c4) (le11 c6)) [0, 1, 2] [3, 4] 3 0 gX8_side_X3_tell rfl 1 rfl (by decide +kernel) ⟨Nat.le_of_ble_eq_true rfl, Nat.le_of_ble_eq_true rfl⟩ ⟨Nat.zero_le _, Nat.zero_le _⟩ rfl rfl rfl rfl (by decide) (by decide) (by decide) (Nat.le_of_ble_eq_true rfl) rfl dX8_side_29 (fun r9 u9 H10 locs10 hw9 (hP10 : va_P G.1 vwCl ([oTo h cl se rc rs ar co cz tx nw, oCl cl pe ti c, oPe pe lc ls lc ls dr p, oLa lc a, oLa ls b]) H10) (hD10 : va_D A ([oTo h cl se rc rs ar co cz tx nw, oCl cl pe ti c, oPe pe lc ls lc ls dr p, oLa lc a, oLa ls b])) hS10 => ?_)
        clear hP8 hD8 hS8
        have w9_0 : r9 = ktellP p a b i := hw9
        have q11 : r9 = ksideR p a b i := by
          subst w9_0
          first | (simp only [ksideR, c3, c4, eq_true c6, eq_self, ↓reduceIte, and_self, and_true, true_and]; done) | (simp only [ksideR, c3, c4, eq_true c6, eq_self, ↓reduceIte, and_self, and_true, true_and]; (try and_intros) <;> rfl)
        exact kRi F hr hlocks hS10 dX8_side_32 () q11 hP10 hD10
      · refine lv_bipush (v := (-3)) hx hb dX8_side_20 (by decide) ?_
        have q12 : (-3) = ksideR p a b i := by
          first | (simp only [ksideR, c3, c4, c6, eq_self, ↓reduceIte, and_self, and_true, true_and]; done) | (simp only [ksideR, c3, c4, c6, eq_self, ↓reduceIte, and_self, and_true, true_and]; (try and_intros) <;> rfl)
        exact kRi F hr hlocks hS2 dX8_side_22 () q12 hP2 hD2
  · exact absurd c3 (by decide)
set_option maxHeartbeats 1000000 in
set_option maxRecDepth 100000 in
theorem c_X8_say0 (l : Launch) (G : kG) (h : Nat) (cl : Nat) (se : Nat) (rc : Nat) (ar : Nat) (co : Nat) (cz : Nat) (tx : Nat) (nw : Nat → Int32) (pe : Nat) (ti : Nat) (c : Nat → Int32) (lc : Nat) (ls : Nat) (dr : Nat) (p : Nat → Int32) (b : Nat → Int32) (da : Nat) (f : Nat → Int32) (rh : Nat) (w : Nat) (q : Nat → Nat) (d : Nat → Nat) (rp : Nat → Int32) (M : Nat → Nat → Int32) (L : Nat) (v : Int32) (hL : rp 1 = nI L) (hL8 : L ≤ 8) : kM G l yX8_say wsX8_say ({ frames := 4, cells := 0, slots := 0, locals := 88 }) [.ref h, .int 0, .int v] ([oTo h cl se rc rh ar co cz tx nw, oCl cl pe ti c, oPe pe lc ls lc ls dr p, oLa ls b, oMs dr da, aI G da 9 f, oRo rh w rp, aM G w 8 (krow q), oMs (q 0) (d 0), aI G (d 0) 9 (M 0), oMs (q 1) (d 1), aI G (d 1) 9 (M 1), oMs (q 2) (d 2), aI G (d 2) 9 (M 2), oMs (q 3) (d 3), aI G (d 3) 9 (M 3), oMs (q 4) (d 4), aI G (d 4) 9 (M 4), oMs (q 5) (d 5), aI G (d 5) 9 (M 5), oMs (q 6) (d 6), aI G (d 6) 9 (M 6), oMs (q 7) (d 7), aI G (d 7) 9 (M 7)]) (kQi G (fun (rr : Int32) (uu : (Nat → Int32) × (Nat → Int32) × (Nat → Int32) × (Nat → Nat → Int32)) => (rr = (ksay L p b f rp M v).1) ∧ (uu.1 = (ksay L p b f rp M v).2.1) ∧ (uu.2.1 = (ksay L p b f rp M v).2.2.1) ∧ (uu.2.2.1 = (ksay L p b f rp M v).2.2.2.1) ∧ (uu.2.2.2 = (ksay L p b f rp M v).2.2.2.2)) (fun (uu : (Nat → Int32) × (Nat → Int32) × (Nat → Int32) × (Nat → Nat → Int32)) => [oTo h cl se rc rh ar co cz tx nw, oCl cl pe ti c, oPe pe lc ls lc ls dr p, oLa ls uu.1, oMs dr da, aI G da 9 uu.2.1, oRo rh w uu.2.2.1, aM G w 8 (krow q), oMs (q 0) (d 0), aI G (d 0) 9 (uu.2.2.2 0), oMs (q 1) (d 1), aI G (d 1) 9 (uu.2.2.2 1), oMs (q 2) (d 2), aI G (d 2) 9 (uu.2.2.2 2), oMs (q 3) (d 3), aI G (d 3) 9 (uu.2.2.2 3), oMs (q 4) (d 4), aI G (d 4) 9 (uu.2.2.2 4), oMs (q 5) (d 5), aI G (d 5) 9 (uu.2.2.2 5), oMs (q 6) (d 6), aI G (d 6) 9 (uu.2.2.2 6), oMs (q 7) (d 7), aI G (d 7) 9 (uu.2.2.2 7)])) := by
  refine kStart (cc := cX8_say) (maxL := 3) (ret := (some .int)) (by decide) rfl (Nat.le_of_ble_eq_true rfl) (fun pg ev st mi bl mt cd A ls0 F hr hlocks hin hK hP0 hD0 hA hS0 hl0 => ?_)
  obtain ⟨hx, hb, hml, hown, hts⟩ := id F
  have hl0 : lv_has ls0 3 [(0, .ref h), (1, .int 0), (2, .int v)] := hl0
  have iX3 : ∀ w ∈ u_ws RX3 TX3 18, w ∈ wsX8_say := fun w h => List.mem_cons_of_mem _ (List.mem_append_left _ (List.mem_append_left _ (List.mem_append_left _ (List.mem_append_left _ (List.mem_append_left _ (List.mem_append_left _ (List.mem_append_right _ h)))))))
  refine lv_iload_n hx hb dX8_say_0 rfl (lv_at hl0 1 rfl) ?_
  refine kPSi F hK hP0 hD0 hS0 hA hl0.1 (c_X8_isSide l G 0) (fun _ => rfl) gX8_say_X8_isSide rfl 1 rfl (by decide +kernel) ⟨Nat.le_of_ble_eq_true rfl, Nat.le_of_ble_eq_true rfl⟩ ⟨Nat.zero_le _, Nat.zero_le _⟩ (Nat.le_of_ble_eq_true rfl) rfl dX8_say_1 (fun r1 u1 H2 locs2 hw1 (hP2 : va_P G.1 vwCl ([oTo h cl se rc rh ar co cz tx nw, oCl cl pe ti c, oPe pe lc ls lc ls dr p, oLa ls b, oMs dr da, aI G da 9 f, oRo rh w rp, aM G w 8 (krow q), oMs (q 0) (d 0), aI G (d 0) 9 (M 0), oMs (q 1) (d 1), aI G (d 1) 9 (M 1), oMs (q 2) (d 2), aI G (d 2) 9 (M 2), oMs (q 3) (d 3), aI G (d 3) 9 (M 3), oMs (q 4) (d 4), aI G (d 4) 9 (M 4), oMs (q 5) (d 5), aI G (d 5) 9 (M 5), oMs (q 6) (d 6), aI G (d 6) 9 (M 6), oMs (q 7) (d 7), aI G (d 7) 9 (M 7)]) H2) (hD2 : va_D A ([oTo h cl se rc rh ar co cz tx nw, oCl cl pe ti c, oPe pe lc ls lc ls dr p, oLa ls b, oMs dr da, aI G da 9 f, oRo rh w rp, aM G w 8 (krow q), oMs (q 0) (d 0), aI G (d 0) 9 (M 0), oMs (q 1) (d 1), aI G (d 1) 9 (M 1), oMs (q 2) (d 2), aI G (d 2) 9 (M 2), oMs (q 3) (d 3), aI G (d 3) 9 (M 3), oMs (q 4) (d 4), aI G (d 4) 9 (M 4), oMs (q 5) (d 5), aI G (d 5) 9 (M 5), oMs (q 6) (d 6), aI G (d 6) 9 (M 6), oMs (q 7) (d 7), aI G (d 7) 9 (M 7)])) hS2 => ?_)
  clear hP0 hD0 hS0
  have w1_0 : r1 = kside 0 := hw1
  have g1 : r1 = 1 := w1_0.trans (by decide)
  clear w1_0
  subst g1
  refine lv_if_ne (tgt := 10) hx hb dX8_say_4 (by decide) (fun c3 => ?_) (fun c3 => ?_)
  · refine lv_iload_n hx hb dX8_say_10 rfl (lv_at hl0 2 rfl) ?_
    refine lv_if_lt (tgt := 21) hx hb dX8_say_11 (by decide) (fun c4 => ?_) (fun c4 => ?_)
    · refine lv_bipush (v := (-3)) hx hb dX8_say_21 (by decide) ?_
      have q5 : ((-3) = (ksay L p b f rp M v).1) ∧ (b = (ksay L p b f rp M v).2.1) ∧ (f = (ksay L p b f rp M v).2.2.1) ∧ (rp = (ksay L p b f rp M v).2.2.2.1) ∧ (M = (ksay L p b f rp M v).2.2.2.2) := by
        first | (simp only [ksay, c3, eq_true c4, eq_self, ↓reduceIte, and_self, and_true, true_and]; done) | (simp only [ksay, c3, eq_true c4, eq_self, ↓reduceIte, and_self, and_true, true_and]; (try and_intros) <;> rfl)
      exact kRi F hr hlocks hS2 dX8_say_23 ⟨b, f, rp, M⟩ q5 hP2 hD2
    · refine lv_iload_n hx hb dX8_say_14 rfl (lv_at hl0 2 rfl) ?_
      refine lv_sipush (v := 999) hx hb dX8_say_15 (by decide) ?_
      refine lv_icmp_le (tgt := 24) hx hb dX8_say_18 (by decide) (fun c6 => ?_) (fun c6 => ?_)
      · refine lv_aload_n hx hb dX8_say_24 rfl (lv_at hl0 0 rfl) ?_
        refine lv_iload_n hx hb dX8_say_25 rfl (lv_at hl0 1 rfl) ?_
        refine kVr (wr := [oPe pe lc ls lc ls dr p, oLa ls b, oMs dr da, aI G da 9 f, oRo rh w rp, aM G w 8 (krow q), oMs (q 0) (d 0), aI G (d 0) 9 (M 0), oMs (q 1) (d 1), aI G (d 1) 9 (M 1), oMs (q 2) (d 2), aI G (d 2) 9 (M 2), oMs (q 3) (d 3), aI G (d 3) 9 (M 3), oMs (q 4) (d 4), aI G (d 4) 9 (M 4), oMs (q 5) (d 5), aI G (d 5) 9 (M 5), oMs (q 6) (d 6), aI G (d 6) 9 (M 6), oMs (q 7) (d 7), aI G (d 7) 9 (M 7)]) F hK hP2 hD2 hS2 hA hl0.1 (c_X8_peerOf0 l G h cl se rc rh ar co cz tx nw pe ti c) [0, 1] [2, 3, 4, 5, 6, 7, 8, 9, 10, 11, 12, 13, 14, 15, 16, 17, 18, 19, 20, 21, 22, 23] 8 0 gX8_say_X8_peerOf rfl 1 rfl (by decide +kernel) ⟨Nat.le_of_ble_eq_true rfl, Nat.le_of_ble_eq_true rfl⟩ ⟨Nat.zero_le _, Nat.zero_le _⟩ rfl rfl rfl rfl (by decide) (by decide) (by decide) (Nat.le_of_ble_eq_true rfl) rfl dX8_say_26 (fun u7 H8 locs8 hw7 (hP8 : va_P G.1 vwCl ([oPe pe lc ls lc ls dr p, oLa ls b, oMs dr da, aI G da 9 f, oRo rh w rp, aM G w 8 (krow q), oMs (q 0) (d 0), aI G (d 0) 9 (M 0), oMs (q 1) (d 1), aI G (d 1) 9 (M 1), oMs (q 2) (d 2), aI G (d 2) 9 (M 2), oMs (q 3) (d 3), aI G (d 3) 9 (M 3), oMs (q 4) (d 4), aI G (d 4) 9 (M 4), oMs (q 5) (d 5), aI G (d 5) 9 (M 5), oMs (q 6) (d 6), aI G (d 6) 9 (M 6), oMs (q 7) (d 7), aI G (d 7) 9 (M 7), oTo h cl se rc rh ar co cz tx nw, oCl cl pe ti c]) H8) (hD8 : va_D A ([oPe pe lc ls lc ls dr p, oLa ls b, oMs dr da, aI G da 9 f, oRo rh w rp, aM G w 8 (krow q), oMs (q 0) (d 0), aI G (d 0) 9 (M 0), oMs (q 1) (d 1), aI G (d 1) 9 (M 1), oMs (q 2) (d 2), aI G (d 2) 9 (M 2), oMs (q 3) (d 3), aI G (d 3) 9 (M 3), oMs (q 4) (d 4), aI G (d 4) 9 (M 4), oMs (q 5) (d 5), aI G (d 5) 9 (M 5), oMs (q 6) (d 6), aI G (d 6) 9 (M 6), oMs (q 7) (d 7), aI G (d 7) 9 (M 7), oTo h cl se rc rh ar co cz tx nw, oCl cl pe ti c])) hS8 => ?_)
        clear hP2 hD2 hS2
        refine kget F hK hP8 3 0 3 iX3 rfl rfl (by decide) (List.mem_of_getElem? (i := 1) rfl) rfl dX8_say_29 ?_
        refine lv_iconst (v := 4) hx hb dX8_say_32 (by decide) ?_
        refine lv_icmp_eq (tgt := 39) hx hb dX8_say_33 (by decide) (fun c9 => ?_) (fun c9 => ?_)
        · refine lv_aload_n hx hb dX8_say_39 rfl (lv_at hl0 0 rfl) ?_
          refine lv_iload_n hx hb dX8_say_40 rfl (lv_at hl0 1 rfl) ?_
          refine kVr (wr := [oPe pe lc ls lc ls dr p, oLa ls b, oMs dr da, aI G da 9 f, oRo rh w rp, aM G w 8 (krow q), oMs (q 0) (d 0), aI G (d 0) 9 (M 0), oMs (q 1) (d 1), aI G (d 1) 9 (M 1), oMs (q 2) (d 2), aI G (d 2) 9 (M 2), oMs (q 3) (d 3), aI G (d 3) 9 (M 3), oMs (q 4) (d 4), aI G (d 4) 9 (M 4), oMs (q 5) (d 5), aI G (d 5) 9 (M 5), oMs (q 6) (d 6), aI G (d 6) 9 (M 6), oMs (q 7) (d 7), aI G (d 7) 9 (M 7)]) F hK hP8 hD8 hS8 hA hl0.1 (c_X8_peerOf0 l G h cl se rc rh ar co cz tx nw pe ti c) [22, 23] [0, 1, 2, 3, 4, 5, 6, 7, 8, 9, 10, 11, 12, 13, 14, 15, 16, 17, 18, 19, 20, 21] 8 0 gX8_say_X8_peerOf rfl 1 rfl (by decide +kernel) ⟨Nat.le_of_ble_eq_true rfl, Nat.le_of_ble_eq_true rfl⟩ ⟨Nat.zero_le _, Nat.zero_le _⟩ rfl rfl rfl rfl (by decide) (by decide) (by decide) (Nat.le_of_ble_eq_true rfl) rfl dX8_say_41 (fun u10 H11 locs11 hw10 (hP11 : va_P G.1 vwCl ([oPe pe lc ls lc ls dr p, oLa ls b, oMs dr da, aI G da 9 f, oRo rh w rp, aM G w 8 (krow q), oMs (q 0) (d 0), aI G (d 0) 9 (M 0), oMs (q 1) (d 1), aI G (d 1) 9 (M 1), oMs (q 2) (d 2), aI G (d 2) 9 (M 2), oMs (q 3) (d 3), aI G (d 3) 9 (M 3), oMs (q 4) (d 4), aI G (d 4) 9 (M 4), oMs (q 5) (d 5), aI G (d 5) 9 (M 5), oMs (q 6) (d 6), aI G (d 6) 9 (M 6), oMs (q 7) (d 7), aI G (d 7) 9 (M 7), oTo h cl se rc rh ar co cz tx nw, oCl cl pe ti c]) H11) (hD11 : va_D A ([oPe pe lc ls lc ls dr p, oLa ls b, oMs dr da, aI G da 9 f, oRo rh w rp, aM G w 8 (krow q), oMs (q 0) (d 0), aI G (d 0) 9 (M 0), oMs (q 1) (d 1), aI G (d 1) 9 (M 1), oMs (q 2) (d 2), aI G (d 2) 9 (M 2), oMs (q 3) (d 3), aI G (d 3) 9 (M 3), oMs (q 4) (d 4), aI G (d 4) 9 (M 4), oMs (q 5) (d 5), aI G (d 5) 9 (M 5), oMs (q 6) (d 6), aI G (d 6) 9 (M 6), oMs (q 7) (d 7), aI G (d 7) 9 (M 7), oTo h cl se rc rh ar co cz tx nw, oCl cl pe ti c])) hS11 => ?_)
          clear hP8 hD8 hS8
          refine lv_iload_n hx hb dX8_say_44 rfl (lv_at hl0 2 rfl) ?_
          refine lv_aload_n hx hb dX8_say_45 rfl (lv_at hl0 0 rfl) ?_
          refine lv_iload_n hx hb dX8_say_46 rfl (lv_at hl0 1 rfl) ?_
          refine kPSi F hK hP11 hD11 hS11 hA hl0.1 (c_X8_otherThan l G 0) (fun _ => rfl) gX8_say_X8_otherThan rfl 1 rfl (by decide +kernel) ⟨Nat.le_of_ble_eq_true rfl, Nat.le_of_ble_eq_true rfl⟩ ⟨Nat.zero_le _, Nat.zero_le _⟩ (Nat.le_of_ble_eq_true rfl) rfl dX8_say_47 (fun r12 u12 H13 locs13 hw12 (hP13 : va_P G.1 vwCl ([oPe pe lc ls lc ls dr p, oLa ls b, oMs dr da, aI G da 9 f, oRo rh w rp, aM G w 8 (krow q), oMs (q 0) (d 0), aI G (d 0) 9 (M 0), oMs (q 1) (d 1), aI G (d 1) 9 (M 1), oMs (q 2) (d 2), aI G (d 2) 9 (M 2), oMs (q 3) (d 3), aI G (d 3) 9 (M 3), oMs (q 4) (d 4), aI G (d 4) 9 (M 4), oMs (q 5) (d 5), aI G (d 5) 9 (M 5), oMs (q 6) (d 6), aI G (d 6) 9 (M 6), oMs (q 7) (d 7), aI G (d 7) 9 (M 7), oTo h cl se rc rh ar co cz tx nw, oCl cl pe ti c]) H13) (hD13 : va_D A ([oPe pe lc ls lc ls dr p, oLa ls b, oMs dr da, aI G da 9 f, oRo rh w rp, aM G w 8 (krow q), oMs (q 0) (d 0), aI G (d 0) 9 (M 0), oMs (q 1) (d 1), aI G (d 1) 9 (M 1), oMs (q 2) (d 2), aI G (d 2) 9 (M 2), oMs (q 3) (d 3), aI G (d 3) 9 (M 3), oMs (q 4) (d 4), aI G (d 4) 9 (M 4), oMs (q 5) (d 5), aI G (d 5) 9 (M 5), oMs (q 6) (d 6), aI G (d 6) 9 (M 6), oMs (q 7) (d 7), aI G (d 7) 9 (M 7), oTo h cl se rc rh ar co cz tx nw, oCl cl pe ti c])) hS13 => ?_)
          clear hP11 hD11 hS11
          have w12_0 : r12 = kother 0 := hw12
          have g12 : r12 = 1 := w12_0.trans (by decide)
          clear w12_0
          subst g12
          refine kVr (wr := [oPe pe lc ls lc ls dr p, oLa ls b, oMs dr da, aI G da 9 f, oRo rh w rp, aM G w 8 (krow q), oMs (q 0) (d 0), aI G (d 0) 9 (M 0), oMs (q 1) (d 1), aI G (d 1) 9 (M 1), oMs (q 2) (d 2), aI G (d 2) 9 (M 2), oMs (q 3) (d 3), aI G (d 3) 9 (M 3), oMs (q 4) (d 4), aI G (d 4) 9 (M 4), oMs (q 5) (d 5), aI G (d 5) 9 (M 5), oMs (q 6) (d 6), aI G (d 6) 9 (M 6), oMs (q 7) (d 7), aI G (d 7) 9 (M 7), oCl cl pe ti c]) F hK hP13 hD13 hS13 hA hl0.1 (c_X8_roadTo1 l G h cl se rc rh ar co cz tx nw) [22] [0, 1, 2, 3, 4, 5, 6, 7, 8, 9, 10, 11, 12, 13, 14, 15, 16, 17, 18, 19, 20, 21, 23] 8 0 gX8_say_X8_roadTo rfl 1 rfl (by decide +kernel) ⟨Nat.le_of_ble_eq_true rfl, Nat.le_of_ble_eq_true rfl⟩ ⟨Nat.zero_le _, Nat.zero_le _⟩ rfl rfl rfl rfl (by decide) (by decide) (by decide) (Nat.le_of_ble_eq_true rfl) rfl dX8_say_50 (fun u14 H15 locs15 hw14 (hP15 : va_P G.1 vwCl ([oPe pe lc ls lc ls dr p, oLa ls b, oMs dr da, aI G da 9 f, oRo rh w rp, aM G w 8 (krow q), oMs (q 0) (d 0), aI G (d 0) 9 (M 0), oMs (q 1) (d 1), aI G (d 1) 9 (M 1), oMs (q 2) (d 2), aI G (d 2) 9 (M 2), oMs (q 3) (d 3), aI G (d 3) 9 (M 3), oMs (q 4) (d 4), aI G (d 4) 9 (M 4), oMs (q 5) (d 5), aI G (d 5) 9 (M 5), oMs (q 6) (d 6), aI G (d 6) 9 (M 6), oMs (q 7) (d 7), aI G (d 7) 9 (M 7), oCl cl pe ti c, oTo h cl se rc rh ar co cz tx nw]) H15) (hD15 : va_D A ([oPe pe lc ls lc ls dr p, oLa ls b, oMs dr da, aI G da 9 f, oRo rh w rp, aM G w 8 (krow q), oMs (q 0) (d 0), aI G (d 0) 9 (M 0), oMs (q 1) (d 1), aI G (d 1) 9 (M 1), oMs (q 2) (d 2), aI G (d 2) 9 (M 2), oMs (q 3) (d 3), aI G (d 3) 9 (M 3), oMs (q 4) (d 4), aI G (d 4) 9 (M 4), oMs (q 5) (d 5), aI G (d 5) 9 (M 5), oMs (q 6) (d 6), aI G (d 6) 9 (M 6), oMs (q 7) (d 7), aI G (d 7) 9 (M 7), oCl cl pe ti c, oTo h cl se rc rh ar co cz tx nw])) hS15 => ?_)
          clear hP13 hD13 hS13
          refine kVi (wr := [oCl cl pe ti c, oTo h cl se rc rh ar co cz tx nw]) F hK hP15 hD15 hS15 hA hl0.1 (c_X3_sendLetter l G pe lc ls lc ls dr p b da f rh w q d rp M L v hL hL8) [0, 1, 2, 3, 4, 5, 6, 7, 8, 9, 10, 11, 12, 13, 14, 15, 16, 17, 18, 19, 20, 21] [22, 23] 3 0 gX8_say_X3_sendLetter rfl 2 rfl (by decide +kernel) ⟨Nat.le_of_ble_eq_true rfl, Nat.le_of_ble_eq_true rfl⟩ ⟨Nat.zero_le _, Nat.zero_le _⟩ rfl rfl rfl rfl (by decide) (by decide) (by decide) (Nat.le_of_ble_eq_true rfl) rfl dX8_say_53 (fun r16 u16 H17 locs17 hw16 hP17 hD17 hS17 => ?_)
          obtain ⟨b_16, f_16, rp_16, M_16⟩ := u16
          have hP17 : va_P G.1 vwCl ([oCl cl pe ti c, oTo h cl se rc rh ar co cz tx nw, oPe pe lc ls lc ls dr p, oLa ls b_16, oMs dr da, aI G da 9 f_16, oRo rh w rp_16, aM G w 8 (krow q), oMs (q 0) (d 0), aI G (d 0) 9 (M_16 0), oMs (q 1) (d 1), aI G (d 1) 9 (M_16 1), oMs (q 2) (d 2), aI G (d 2) 9 (M_16 2), oMs (q 3) (d 3), aI G (d 3) 9 (M_16 3), oMs (q 4) (d 4), aI G (d 4) 9 (M_16 4), oMs (q 5) (d 5), aI G (d 5) 9 (M_16 5), oMs (q 6) (d 6), aI G (d 6) 9 (M_16 6), oMs (q 7) (d 7), aI G (d 7) 9 (M_16 7)]) H17 := hP17
          have hD17 : va_D A ([oCl cl pe ti c, oTo h cl se rc rh ar co cz tx nw, oPe pe lc ls lc ls dr p, oLa ls b_16, oMs dr da, aI G da 9 f_16, oRo rh w rp_16, aM G w 8 (krow q), oMs (q 0) (d 0), aI G (d 0) 9 (M_16 0), oMs (q 1) (d 1), aI G (d 1) 9 (M_16 1), oMs (q 2) (d 2), aI G (d 2) 9 (M_16 2), oMs (q 3) (d 3), aI G (d 3) 9 (M_16 3), oMs (q 4) (d 4), aI G (d 4) 9 (M_16 4), oMs (q 5) (d 5), aI G (d 5) 9 (M_16 5), oMs (q 6) (d 6), aI G (d 6) 9 (M_16 6), oMs (q 7) (d 7), aI G (d 7) 9 (M_16 7)]) := hD17
          clear hP15 hD15 hS15
          have w16_0 : r16 = kveil b (p 10) v := hw16.1
          have w16_1 : b_16 = upd b 2 (b 2 + 1) := hw16.2.1
          have w16_2 : f_16 = klet p b f v := hw16.2.2.1
          have w16_3 : rp_16 = ksendP L rp := hw16.2.2.2.1
          have w16_4 : M_16 = ksendM L M (klet p b f v) := hw16.2.2.2.2
          have q18 : (r16 = (ksay L p b f rp M v).1) ∧ (b_16 = (ksay L p b f rp M v).2.1) ∧ (f_16 = (ksay L p b f rp M v).2.2.1) ∧ (rp_16 = (ksay L p b f rp M v).2.2.2.1) ∧ (M_16 = (ksay L p b f rp M v).2.2.2.2) := by
            subst w16_4
            subst w16_3
            subst w16_2
            subst w16_1
            subst w16_0
            first | (simp only [ksay, c3, c4, eq_true c6, eq_true c9, eq_self, ↓reduceIte, and_self, and_true, true_and]; done) | (simp only [ksay, c3, c4, eq_true c6, eq_true c9, eq_self, ↓reduceIte, and_self, and_true, true_and]; (try and_intros) <;> rfl)
          exact kRi F hr hlocks hS17 dX8_say_56 ⟨b_16, f_16, rp_16, M_16⟩ q18 (hP17.sub [1, 0, 2, 3, 4, 5, 6, 7, 8, 9, 10, 11, 12, 13, 14, 15, 16, 17, 18, 19, 20, 21, 22, 23] rfl) (hD17.sub [1, 0, 2, 3, 4, 5, 6, 7, 8, 9, 10, 11, 12, 13, 14, 15, 16, 17, 18, 19, 20, 21, 22, 23] (by decide) rfl)
        · refine lv_bipush (v := (-4)) hx hb dX8_say_36 (by decide) ?_
          have q19 : ((-4) = (ksay L p b f rp M v).1) ∧ (b = (ksay L p b f rp M v).2.1) ∧ (f = (ksay L p b f rp M v).2.2.1) ∧ (rp = (ksay L p b f rp M v).2.2.2.1) ∧ (M = (ksay L p b f rp M v).2.2.2.2) := by
            first | (simp only [ksay, c3, c4, eq_true c6, c9, eq_self, ↓reduceIte, and_self, and_true, true_and]; done) | (simp only [ksay, c3, c4, eq_true c6, c9, eq_self, ↓reduceIte, and_self, and_true, true_and]; (try and_intros) <;> rfl)
          exact kRi F hr hlocks hS8 dX8_say_38 ⟨b, f, rp, M⟩ q19 (hP8.sub [22, 23, 0, 1, 2, 3, 4, 5, 6, 7, 8, 9, 10, 11, 12, 13, 14, 15, 16, 17, 18, 19, 20, 21] rfl) (hD8.sub [22, 23, 0, 1, 2, 3, 4, 5, 6, 7, 8, 9, 10, 11, 12, 13, 14, 15, 16, 17, 18, 19, 20, 21] (by decide) rfl)
      · refine lv_bipush (v := (-3)) hx hb dX8_say_21 (by decide) ?_
        have q20 : ((-3) = (ksay L p b f rp M v).1) ∧ (b = (ksay L p b f rp M v).2.1) ∧ (f = (ksay L p b f rp M v).2.2.1) ∧ (rp = (ksay L p b f rp M v).2.2.2.1) ∧ (M = (ksay L p b f rp M v).2.2.2.2) := by
          first | (simp only [ksay, c3, c4, c6, eq_self, ↓reduceIte, and_self, and_true, true_and]; done) | (simp only [ksay, c3, c4, c6, eq_self, ↓reduceIte, and_self, and_true, true_and]; (try and_intros) <;> rfl)
        exact kRi F hr hlocks hS2 dX8_say_23 ⟨b, f, rp, M⟩ q20 hP2 hD2
  · exact absurd c3 (by decide)
set_option maxHeartbeats 1000000 in
set_option maxRecDepth 100000 in
theorem c_X8_update0 (l : Launch) (G : kG) (h : Nat) (cl : Nat) (se : Nat) (rc : Nat) (ar : Nat) (co : Nat) (cz : Nat) (tx : Nat) (nw : Nat → Int32) (pe : Nat) (ti : Nat) (c : Nat → Int32) (lc : Nat) (ls : Nat) (dr : Nat) (p : Nat → Int32) (b : Nat → Int32) (da : Nat) (f : Nat → Int32) (rh : Nat) (w : Nat) (q : Nat → Nat) (d : Nat → Nat) (rp : Nat → Int32) (M : Nat → Nat → Int32) (L : Nat) (hL : rp 1 = nI L) (hL8 : L ≤ 8) : kM G l yX8_update wsX8_update ({ frames := 4, cells := 0, slots := 0, locals := 86 }) [.ref h, .int 0] ([oTo h cl se rc rh ar co cz tx nw, oCl cl pe ti c, oPe pe lc ls lc ls dr p, oLa ls b, oMs dr da, aI G da 9 f, oRo rh w rp, aM G w 8 (krow q), oMs (q 0) (d 0), aI G (d 0) 9 (M 0), oMs (q 1) (d 1), aI G (d 1) 9 (M 1), oMs (q 2) (d 2), aI G (d 2) 9 (M 2), oMs (q 3) (d 3), aI G (d 3) 9 (M 3), oMs (q 4) (d 4), aI G (d 4) 9 (M 4), oMs (q 5) (d 5), aI G (d 5) 9 (M 5), oMs (q 6) (d 6), aI G (d 6) 9 (M 6), oMs (q 7) (d 7), aI G (d 7) 9 (M 7)]) (kQi G (fun (rr : Int32) (uu : (Nat → Int32) × (Nat → Int32) × (Nat → Int32) × (Nat → Nat → Int32)) => (rr = (kupdate L p b f rp M).1) ∧ (uu.1 = (kupdate L p b f rp M).2.1) ∧ (uu.2.1 = (kupdate L p b f rp M).2.2.1) ∧ (uu.2.2.1 = (kupdate L p b f rp M).2.2.2.1) ∧ (uu.2.2.2 = (kupdate L p b f rp M).2.2.2.2)) (fun (uu : (Nat → Int32) × (Nat → Int32) × (Nat → Int32) × (Nat → Nat → Int32)) => [oTo h cl se rc rh ar co cz tx nw, oCl cl pe ti c, oPe pe lc ls lc ls dr p, oLa ls uu.1, oMs dr da, aI G da 9 uu.2.1, oRo rh w uu.2.2.1, aM G w 8 (krow q), oMs (q 0) (d 0), aI G (d 0) 9 (uu.2.2.2 0), oMs (q 1) (d 1), aI G (d 1) 9 (uu.2.2.2 1), oMs (q 2) (d 2), aI G (d 2) 9 (uu.2.2.2 2), oMs (q 3) (d 3), aI G (d 3) 9 (uu.2.2.2 3), oMs (q 4) (d 4), aI G (d 4) 9 (uu.2.2.2 4), oMs (q 5) (d 5), aI G (d 5) 9 (uu.2.2.2 5), oMs (q 6) (d 6), aI G (d 6) 9 (uu.2.2.2 6), oMs (q 7) (d 7), aI G (d 7) 9 (uu.2.2.2 7)])) := by
  refine kStart (cc := cX8_update) (maxL := 2) (ret := (some .int)) (by decide) rfl (Nat.le_of_ble_eq_true rfl) (fun pg ev st mi bl mt cd A ls0 F hr hlocks hin hK hP0 hD0 hA hS0 hl0 => ?_)
  obtain ⟨hx, hb, hml, hown, hts⟩ := id F
  have hl0 : lv_has ls0 2 [(0, .ref h), (1, .int 0)] := hl0
  have iX3 : ∀ w ∈ u_ws RX3 TX3 18, w ∈ wsX8_update := fun w h => List.mem_cons_of_mem _ (List.mem_append_left _ (List.mem_append_left _ (List.mem_append_left _ (List.mem_append_left _ (List.mem_append_left _ (List.mem_append_left _ (List.mem_append_right _ h)))))))
  refine lv_iload_n hx hb dX8_update_0 rfl (lv_at hl0 1 rfl) ?_
  refine kPSi F hK hP0 hD0 hS0 hA hl0.1 (c_X8_isSide l G 0) (fun _ => rfl) gX8_update_X8_isSide rfl 1 rfl (by decide +kernel) ⟨Nat.le_of_ble_eq_true rfl, Nat.le_of_ble_eq_true rfl⟩ ⟨Nat.zero_le _, Nat.zero_le _⟩ (Nat.le_of_ble_eq_true rfl) rfl dX8_update_1 (fun r1 u1 H2 locs2 hw1 (hP2 : va_P G.1 vwCl ([oTo h cl se rc rh ar co cz tx nw, oCl cl pe ti c, oPe pe lc ls lc ls dr p, oLa ls b, oMs dr da, aI G da 9 f, oRo rh w rp, aM G w 8 (krow q), oMs (q 0) (d 0), aI G (d 0) 9 (M 0), oMs (q 1) (d 1), aI G (d 1) 9 (M 1), oMs (q 2) (d 2), aI G (d 2) 9 (M 2), oMs (q 3) (d 3), aI G (d 3) 9 (M 3), oMs (q 4) (d 4), aI G (d 4) 9 (M 4), oMs (q 5) (d 5), aI G (d 5) 9 (M 5), oMs (q 6) (d 6), aI G (d 6) 9 (M 6), oMs (q 7) (d 7), aI G (d 7) 9 (M 7)]) H2) (hD2 : va_D A ([oTo h cl se rc rh ar co cz tx nw, oCl cl pe ti c, oPe pe lc ls lc ls dr p, oLa ls b, oMs dr da, aI G da 9 f, oRo rh w rp, aM G w 8 (krow q), oMs (q 0) (d 0), aI G (d 0) 9 (M 0), oMs (q 1) (d 1), aI G (d 1) 9 (M 1), oMs (q 2) (d 2), aI G (d 2) 9 (M 2), oMs (q 3) (d 3), aI G (d 3) 9 (M 3), oMs (q 4) (d 4), aI G (d 4) 9 (M 4), oMs (q 5) (d 5), aI G (d 5) 9 (M 5), oMs (q 6) (d 6), aI G (d 6) 9 (M 6), oMs (q 7) (d 7), aI G (d 7) 9 (M 7)])) hS2 => ?_)
  clear hP0 hD0 hS0
  have w1_0 : r1 = kside 0 := hw1
  have g1 : r1 = 1 := w1_0.trans (by decide)
  clear w1_0
  subst g1
  refine lv_if_ne (tgt := 10) hx hb dX8_update_4 (by decide) (fun c3 => ?_) (fun c3 => ?_)
  · refine lv_aload_n hx hb dX8_update_10 rfl (lv_at hl0 0 rfl) ?_
    refine lv_iload_n hx hb dX8_update_11 rfl (lv_at hl0 1 rfl) ?_
    refine kVr (wr := [oPe pe lc ls lc ls dr p, oLa ls b, oMs dr da, aI G da 9 f, oRo rh w rp, aM G w 8 (krow q), oMs (q 0) (d 0), aI G (d 0) 9 (M 0), oMs (q 1) (d 1), aI G (d 1) 9 (M 1), oMs (q 2) (d 2), aI G (d 2) 9 (M 2), oMs (q 3) (d 3), aI G (d 3) 9 (M 3), oMs (q 4) (d 4), aI G (d 4) 9 (M 4), oMs (q 5) (d 5), aI G (d 5) 9 (M 5), oMs (q 6) (d 6), aI G (d 6) 9 (M 6), oMs (q 7) (d 7), aI G (d 7) 9 (M 7)]) F hK hP2 hD2 hS2 hA hl0.1 (c_X8_peerOf0 l G h cl se rc rh ar co cz tx nw pe ti c) [0, 1] [2, 3, 4, 5, 6, 7, 8, 9, 10, 11, 12, 13, 14, 15, 16, 17, 18, 19, 20, 21, 22, 23] 8 0 gX8_update_X8_peerOf rfl 1 rfl (by decide +kernel) ⟨Nat.le_of_ble_eq_true rfl, Nat.le_of_ble_eq_true rfl⟩ ⟨Nat.zero_le _, Nat.zero_le _⟩ rfl rfl rfl rfl (by decide) (by decide) (by decide) (Nat.le_of_ble_eq_true rfl) rfl dX8_update_12 (fun u4 H5 locs5 hw4 (hP5 : va_P G.1 vwCl ([oPe pe lc ls lc ls dr p, oLa ls b, oMs dr da, aI G da 9 f, oRo rh w rp, aM G w 8 (krow q), oMs (q 0) (d 0), aI G (d 0) 9 (M 0), oMs (q 1) (d 1), aI G (d 1) 9 (M 1), oMs (q 2) (d 2), aI G (d 2) 9 (M 2), oMs (q 3) (d 3), aI G (d 3) 9 (M 3), oMs (q 4) (d 4), aI G (d 4) 9 (M 4), oMs (q 5) (d 5), aI G (d 5) 9 (M 5), oMs (q 6) (d 6), aI G (d 6) 9 (M 6), oMs (q 7) (d 7), aI G (d 7) 9 (M 7), oTo h cl se rc rh ar co cz tx nw, oCl cl pe ti c]) H5) (hD5 : va_D A ([oPe pe lc ls lc ls dr p, oLa ls b, oMs dr da, aI G da 9 f, oRo rh w rp, aM G w 8 (krow q), oMs (q 0) (d 0), aI G (d 0) 9 (M 0), oMs (q 1) (d 1), aI G (d 1) 9 (M 1), oMs (q 2) (d 2), aI G (d 2) 9 (M 2), oMs (q 3) (d 3), aI G (d 3) 9 (M 3), oMs (q 4) (d 4), aI G (d 4) 9 (M 4), oMs (q 5) (d 5), aI G (d 5) 9 (M 5), oMs (q 6) (d 6), aI G (d 6) 9 (M 6), oMs (q 7) (d 7), aI G (d 7) 9 (M 7), oTo h cl se rc rh ar co cz tx nw, oCl cl pe ti c])) hS5 => ?_)
    clear hP2 hD2 hS2
    refine kget F hK hP5 3 0 3 iX3 rfl rfl (by decide) (List.mem_of_getElem? (i := 1) rfl) rfl dX8_update_15 ?_
    refine lv_iconst (v := 4) hx hb dX8_update_18 (by decide) ?_
    refine lv_icmp_eq (tgt := 25) hx hb dX8_update_19 (by decide) (fun c6 => ?_) (fun c6 => ?_)
    · refine lv_aload_n hx hb dX8_update_25 rfl (lv_at hl0 0 rfl) ?_
      refine lv_iload_n hx hb dX8_update_26 rfl (lv_at hl0 1 rfl) ?_
      refine kVr (wr := [oPe pe lc ls lc ls dr p, oLa ls b, oMs dr da, aI G da 9 f, oRo rh w rp, aM G w 8 (krow q), oMs (q 0) (d 0), aI G (d 0) 9 (M 0), oMs (q 1) (d 1), aI G (d 1) 9 (M 1), oMs (q 2) (d 2), aI G (d 2) 9 (M 2), oMs (q 3) (d 3), aI G (d 3) 9 (M 3), oMs (q 4) (d 4), aI G (d 4) 9 (M 4), oMs (q 5) (d 5), aI G (d 5) 9 (M 5), oMs (q 6) (d 6), aI G (d 6) 9 (M 6), oMs (q 7) (d 7), aI G (d 7) 9 (M 7)]) F hK hP5 hD5 hS5 hA hl0.1 (c_X8_peerOf0 l G h cl se rc rh ar co cz tx nw pe ti c) [22, 23] [0, 1, 2, 3, 4, 5, 6, 7, 8, 9, 10, 11, 12, 13, 14, 15, 16, 17, 18, 19, 20, 21] 8 0 gX8_update_X8_peerOf rfl 1 rfl (by decide +kernel) ⟨Nat.le_of_ble_eq_true rfl, Nat.le_of_ble_eq_true rfl⟩ ⟨Nat.zero_le _, Nat.zero_le _⟩ rfl rfl rfl rfl (by decide) (by decide) (by decide) (Nat.le_of_ble_eq_true rfl) rfl dX8_update_27 (fun u7 H8 locs8 hw7 (hP8 : va_P G.1 vwCl ([oPe pe lc ls lc ls dr p, oLa ls b, oMs dr da, aI G da 9 f, oRo rh w rp, aM G w 8 (krow q), oMs (q 0) (d 0), aI G (d 0) 9 (M 0), oMs (q 1) (d 1), aI G (d 1) 9 (M 1), oMs (q 2) (d 2), aI G (d 2) 9 (M 2), oMs (q 3) (d 3), aI G (d 3) 9 (M 3), oMs (q 4) (d 4), aI G (d 4) 9 (M 4), oMs (q 5) (d 5), aI G (d 5) 9 (M 5), oMs (q 6) (d 6), aI G (d 6) 9 (M 6), oMs (q 7) (d 7), aI G (d 7) 9 (M 7), oTo h cl se rc rh ar co cz tx nw, oCl cl pe ti c]) H8) (hD8 : va_D A ([oPe pe lc ls lc ls dr p, oLa ls b, oMs dr da, aI G da 9 f, oRo rh w rp, aM G w 8 (krow q), oMs (q 0) (d 0), aI G (d 0) 9 (M 0), oMs (q 1) (d 1), aI G (d 1) 9 (M 1), oMs (q 2) (d 2), aI G (d 2) 9 (M 2), oMs (q 3) (d 3), aI G (d 3) 9 (M 3), oMs (q 4) (d 4), aI G (d 4) 9 (M 4), oMs (q 5) (d 5), aI G (d 5) 9 (M 5), oMs (q 6) (d 6), aI G (d 6) 9 (M 6), oMs (q 7) (d 7), aI G (d 7) 9 (M 7), oTo h cl se rc rh ar co cz tx nw, oCl cl pe ti c])) hS8 => ?_)
      clear hP5 hD5 hS5
      refine lv_aload_n hx hb dX8_update_30 rfl (lv_at hl0 0 rfl) ?_
      refine lv_iload_n hx hb dX8_update_31 rfl (lv_at hl0 1 rfl) ?_
      refine kPSi F hK hP8 hD8 hS8 hA hl0.1 (c_X8_otherThan l G 0) (fun _ => rfl) gX8_update_X8_otherThan rfl 1 rfl (by decide +kernel) ⟨Nat.le_of_ble_eq_true rfl, Nat.le_of_ble_eq_true rfl⟩ ⟨Nat.zero_le _, Nat.zero_le _⟩ (Nat.le_of_ble_eq_true rfl) rfl dX8_update_32 (fun r9 u9 H10 locs10 hw9 (hP10 : va_P G.1 vwCl ([oPe pe lc ls lc ls dr p, oLa ls b, oMs dr da, aI G da 9 f, oRo rh w rp, aM G w 8 (krow q), oMs (q 0) (d 0), aI G (d 0) 9 (M 0), oMs (q 1) (d 1), aI G (d 1) 9 (M 1), oMs (q 2) (d 2), aI G (d 2) 9 (M 2), oMs (q 3) (d 3), aI G (d 3) 9 (M 3), oMs (q 4) (d 4), aI G (d 4) 9 (M 4), oMs (q 5) (d 5), aI G (d 5) 9 (M 5), oMs (q 6) (d 6), aI G (d 6) 9 (M 6), oMs (q 7) (d 7), aI G (d 7) 9 (M 7), oTo h cl se rc rh ar co cz tx nw, oCl cl pe ti c]) H10) (hD10 : va_D A ([oPe pe lc ls lc ls dr p, oLa ls b, oMs dr da, aI G da 9 f, oRo rh w rp, aM G w 8 (krow q), oMs (q 0) (d 0), aI G (d 0) 9 (M 0), oMs (q 1) (d 1), aI G (d 1) 9 (M 1), oMs (q 2) (d 2), aI G (d 2) 9 (M 2), oMs (q 3) (d 3), aI G (d 3) 9 (M 3), oMs (q 4) (d 4), aI G (d 4) 9 (M 4), oMs (q 5) (d 5), aI G (d 5) 9 (M 5), oMs (q 6) (d 6), aI G (d 6) 9 (M 6), oMs (q 7) (d 7), aI G (d 7) 9 (M 7), oTo h cl se rc rh ar co cz tx nw, oCl cl pe ti c])) hS10 => ?_)
      clear hP8 hD8 hS8
      have w9_0 : r9 = kother 0 := hw9
      have g9 : r9 = 1 := w9_0.trans (by decide)
      clear w9_0
      subst g9
      refine kVr (wr := [oPe pe lc ls lc ls dr p, oLa ls b, oMs dr da, aI G da 9 f, oRo rh w rp, aM G w 8 (krow q), oMs (q 0) (d 0), aI G (d 0) 9 (M 0), oMs (q 1) (d 1), aI G (d 1) 9 (M 1), oMs (q 2) (d 2), aI G (d 2) 9 (M 2), oMs (q 3) (d 3), aI G (d 3) 9 (M 3), oMs (q 4) (d 4), aI G (d 4) 9 (M 4), oMs (q 5) (d 5), aI G (d 5) 9 (M 5), oMs (q 6) (d 6), aI G (d 6) 9 (M 6), oMs (q 7) (d 7), aI G (d 7) 9 (M 7), oCl cl pe ti c]) F hK hP10 hD10 hS10 hA hl0.1 (c_X8_roadTo1 l G h cl se rc rh ar co cz tx nw) [22] [0, 1, 2, 3, 4, 5, 6, 7, 8, 9, 10, 11, 12, 13, 14, 15, 16, 17, 18, 19, 20, 21, 23] 8 0 gX8_update_X8_roadTo rfl 1 rfl (by decide +kernel) ⟨Nat.le_of_ble_eq_true rfl, Nat.le_of_ble_eq_true rfl⟩ ⟨Nat.zero_le _, Nat.zero_le _⟩ rfl rfl rfl rfl (by decide) (by decide) (by decide) (Nat.le_of_ble_eq_true rfl) rfl dX8_update_35 (fun u11 H12 locs12 hw11 (hP12 : va_P G.1 vwCl ([oPe pe lc ls lc ls dr p, oLa ls b, oMs dr da, aI G da 9 f, oRo rh w rp, aM G w 8 (krow q), oMs (q 0) (d 0), aI G (d 0) 9 (M 0), oMs (q 1) (d 1), aI G (d 1) 9 (M 1), oMs (q 2) (d 2), aI G (d 2) 9 (M 2), oMs (q 3) (d 3), aI G (d 3) 9 (M 3), oMs (q 4) (d 4), aI G (d 4) 9 (M 4), oMs (q 5) (d 5), aI G (d 5) 9 (M 5), oMs (q 6) (d 6), aI G (d 6) 9 (M 6), oMs (q 7) (d 7), aI G (d 7) 9 (M 7), oCl cl pe ti c, oTo h cl se rc rh ar co cz tx nw]) H12) (hD12 : va_D A ([oPe pe lc ls lc ls dr p, oLa ls b, oMs dr da, aI G da 9 f, oRo rh w rp, aM G w 8 (krow q), oMs (q 0) (d 0), aI G (d 0) 9 (M 0), oMs (q 1) (d 1), aI G (d 1) 9 (M 1), oMs (q 2) (d 2), aI G (d 2) 9 (M 2), oMs (q 3) (d 3), aI G (d 3) 9 (M 3), oMs (q 4) (d 4), aI G (d 4) 9 (M 4), oMs (q 5) (d 5), aI G (d 5) 9 (M 5), oMs (q 6) (d 6), aI G (d 6) 9 (M 6), oMs (q 7) (d 7), aI G (d 7) 9 (M 7), oCl cl pe ti c, oTo h cl se rc rh ar co cz tx nw])) hS12 => ?_)
      clear hP10 hD10 hS10
      refine kVi (wr := [oCl cl pe ti c, oTo h cl se rc rh ar co cz tx nw]) F hK hP12 hD12 hS12 hA hl0.1 (c_X3_sendUpdate l G pe lc ls lc ls dr p b da f rh w q d rp M L hL hL8) [0, 1, 2, 3, 4, 5, 6, 7, 8, 9, 10, 11, 12, 13, 14, 15, 16, 17, 18, 19, 20, 21] [22, 23] 3 0 gX8_update_X3_sendUpdate rfl 1 rfl (by decide +kernel) ⟨Nat.le_of_ble_eq_true rfl, Nat.le_of_ble_eq_true rfl⟩ ⟨Nat.zero_le _, Nat.zero_le _⟩ rfl rfl rfl rfl (by decide) (by decide) (by decide) (Nat.le_of_ble_eq_true rfl) rfl dX8_update_38 (fun r13 u13 H14 locs14 hw13 hP14 hD14 hS14 => ?_)
      obtain ⟨b_13, f_13, rp_13, M_13⟩ := u13
      have hP14 : va_P G.1 vwCl ([oCl cl pe ti c, oTo h cl se rc rh ar co cz tx nw, oPe pe lc ls lc ls dr p, oLa ls b_13, oMs dr da, aI G da 9 f_13, oRo rh w rp_13, aM G w 8 (krow q), oMs (q 0) (d 0), aI G (d 0) 9 (M_13 0), oMs (q 1) (d 1), aI G (d 1) 9 (M_13 1), oMs (q 2) (d 2), aI G (d 2) 9 (M_13 2), oMs (q 3) (d 3), aI G (d 3) 9 (M_13 3), oMs (q 4) (d 4), aI G (d 4) 9 (M_13 4), oMs (q 5) (d 5), aI G (d 5) 9 (M_13 5), oMs (q 6) (d 6), aI G (d 6) 9 (M_13 6), oMs (q 7) (d 7), aI G (d 7) 9 (M_13 7)]) H14 := hP14
      have hD14 : va_D A ([oCl cl pe ti c, oTo h cl se rc rh ar co cz tx nw, oPe pe lc ls lc ls dr p, oLa ls b_13, oMs dr da, aI G da 9 f_13, oRo rh w rp_13, aM G w 8 (krow q), oMs (q 0) (d 0), aI G (d 0) 9 (M_13 0), oMs (q 1) (d 1), aI G (d 1) 9 (M_13 1), oMs (q 2) (d 2), aI G (d 2) 9 (M_13 2), oMs (q 3) (d 3), aI G (d 3) 9 (M_13 3), oMs (q 4) (d 4), aI G (d 4) 9 (M_13 4), oMs (q 5) (d 5), aI G (d 5) 9 (M_13 5), oMs (q 6) (d 6), aI G (d 6) 9 (M_13 6), oMs (q 7) (d 7), aI G (d 7) 9 (M_13 7)]) := hD14
      clear hP12 hD12 hS12
      have w13_0 : r13 = b 1 + 1 := hw13.1
      have w13_1 : b_13 = upd (upd b 1 (b 1 + 1)) 2 (b 2 + 1) := hw13.2.1
      have w13_2 : f_13 = kupm p b f := hw13.2.2.1
      have w13_3 : rp_13 = ksendP L rp := hw13.2.2.2.1
      have w13_4 : M_13 = ksendM L M (kupm p b f) := hw13.2.2.2.2
      have q15 : (r13 = (kupdate L p b f rp M).1) ∧ (b_13 = (kupdate L p b f rp M).2.1) ∧ (f_13 = (kupdate L p b f rp M).2.2.1) ∧ (rp_13 = (kupdate L p b f rp M).2.2.2.1) ∧ (M_13 = (kupdate L p b f rp M).2.2.2.2) := by
        subst w13_4
        subst w13_3
        subst w13_2
        subst w13_1
        subst w13_0
        first | (simp only [kupdate, c3, eq_true c6, eq_self, ↓reduceIte, and_self, and_true, true_and]; done) | (simp only [kupdate, c3, eq_true c6, eq_self, ↓reduceIte, and_self, and_true, true_and]; (try and_intros) <;> rfl)
      exact kRi F hr hlocks hS14 dX8_update_41 ⟨b_13, f_13, rp_13, M_13⟩ q15 (hP14.sub [1, 0, 2, 3, 4, 5, 6, 7, 8, 9, 10, 11, 12, 13, 14, 15, 16, 17, 18, 19, 20, 21, 22, 23] rfl) (hD14.sub [1, 0, 2, 3, 4, 5, 6, 7, 8, 9, 10, 11, 12, 13, 14, 15, 16, 17, 18, 19, 20, 21, 22, 23] (by decide) rfl)
    · refine lv_bipush (v := (-4)) hx hb dX8_update_22 (by decide) ?_
      have q16 : ((-4) = (kupdate L p b f rp M).1) ∧ (b = (kupdate L p b f rp M).2.1) ∧ (f = (kupdate L p b f rp M).2.2.1) ∧ (rp = (kupdate L p b f rp M).2.2.2.1) ∧ (M = (kupdate L p b f rp M).2.2.2.2) := by
        first | (simp only [kupdate, c3, c6, eq_self, ↓reduceIte, and_self, and_true, true_and]; done) | (simp only [kupdate, c3, c6, eq_self, ↓reduceIte, and_self, and_true, true_and]; (try and_intros) <;> rfl)
      exact kRi F hr hlocks hS5 dX8_update_24 ⟨b, f, rp, M⟩ q16 (hP5.sub [22, 23, 0, 1, 2, 3, 4, 5, 6, 7, 8, 9, 10, 11, 12, 13, 14, 15, 16, 17, 18, 19, 20, 21] rfl) (hD5.sub [22, 23, 0, 1, 2, 3, 4, 5, 6, 7, 8, 9, 10, 11, 12, 13, 14, 15, 16, 17, 18, 19, 20, 21] (by decide) rfl)
  · exact absurd c3 (by decide)
set_option maxHeartbeats 1000000 in
set_option maxRecDepth 100000 in
theorem c_X8_offer1 (l : Launch) (G : kG) (h : Nat) (cl : Nat) (se : Nat) (rc : Nat) (rs : Nat) (ar : Nat) (co : Nat) (cz : Nat) (tx : Nat) (nw : Nat → Int32) (pe : Nat) (ta : Nat) (sn : Nat) (sb : Nat) (s : Nat → Int32) (lc : Nat) (ls : Nat) (dr : Nat) (p : Nat → Int32) (v : Int32) (g : Int32) : kM G l yX8_offer wsX8_offer ({ frames := 1, cells := 0, slots := 0, locals := 21 }) [.ref h, .int 1, .int v, .int g] ([oTo h cl se rc rs ar co cz tx nw, oSe se pe ta sn sb s, oPe pe lc ls ls lc dr p]) (kQi G (fun (rr : Int32) (uu : (Nat → Int32)) => (rr = (koffer p v g).1) ∧ (uu = (koffer p v g).2)) (fun (uu : (Nat → Int32)) => [oTo h cl se rc rs ar co cz tx nw, oSe se pe ta sn sb s, oPe pe lc ls ls lc dr uu])) := by
  refine kStart (cc := cX8_offer) (maxL := 6) (ret := (some .int)) (by decide) rfl (Nat.le_of_ble_eq_true rfl) (fun pg ev st mi bl mt cd A ls0 F hr hlocks hin hK hP0 hD0 hA hS0 hl0 => ?_)
  obtain ⟨hx, hb, hml, hown, hts⟩ := id F
  have hl0 : lv_has ls0 6 [(0, .ref h), (1, .int 1), (2, .int v), (3, .int g)] := hl0
  have iX3 : ∀ w ∈ u_ws RX3 TX3 18, w ∈ wsX8_offer := fun w h => List.mem_cons_of_mem _ (List.mem_append_left _ (List.mem_append_left _ (List.mem_append_left _ (List.mem_append_right _ h))))
  refine lv_iload_n hx hb dX8_offer_0 rfl (lv_at hl0 1 rfl) ?_
  refine kPSi F hK hP0 hD0 hS0 hA hl0.1 (c_X8_isSide l G 1) (fun _ => rfl) gX8_offer_X8_isSide rfl 1 rfl (by decide +kernel) ⟨Nat.le_of_ble_eq_true rfl, Nat.le_of_ble_eq_true rfl⟩ ⟨Nat.zero_le _, Nat.zero_le _⟩ (Nat.le_of_ble_eq_true rfl) rfl dX8_offer_1 (fun r1 u1 H2 locs2 hw1 (hP2 : va_P G.1 vwCl ([oTo h cl se rc rs ar co cz tx nw, oSe se pe ta sn sb s, oPe pe lc ls ls lc dr p]) H2) (hD2 : va_D A ([oTo h cl se rc rs ar co cz tx nw, oSe se pe ta sn sb s, oPe pe lc ls ls lc dr p])) hS2 => ?_)
  clear hP0 hD0 hS0
  have w1_0 : r1 = kside 1 := hw1
  have g1 : r1 = 1 := w1_0.trans (by decide)
  clear w1_0
  subst g1
  refine lv_if_ne (tgt := 10) hx hb dX8_offer_4 (by decide) (fun c3 => ?_) (fun c3 => ?_)
  · refine lv_iload_n hx hb dX8_offer_10 rfl (lv_at hl0 2 rfl) ?_
    refine lv_iconst (v := 1) hx hb dX8_offer_11 (by decide) ?_
    refine lv_icmp_lt (tgt := 32) hx hb dX8_offer_12 (by decide) (fun c4 => ?_) (fun c4 => ?_)
    · refine lv_bipush (v := (-3)) hx hb dX8_offer_32 (by decide) ?_
      have q5 : ((-3) = (koffer p v g).1) ∧ (p = (koffer p v g).2) := by
        first | (simp only [koffer, c3, eq_true c4, eq_self, ↓reduceIte, and_self, and_true, true_and]; done) | (simp only [koffer, c3, eq_true c4, eq_self, ↓reduceIte, and_self, and_true, true_and]; (try and_intros) <;> rfl)
      exact kRi F hr hlocks hS2 dX8_offer_34 p q5 hP2 hD2
    · refine lv_iload_n hx hb dX8_offer_15 rfl (lv_at hl0 2 rfl) ?_
      refine lv_bipush (v := 7) hx hb dX8_offer_16 (by decide) ?_
      refine lv_icmp_gt (tgt := 32) hx hb dX8_offer_18 (by decide) (fun c6 => ?_) (fun c6 => ?_)
      · refine lv_bipush (v := (-3)) hx hb dX8_offer_32 (by decide) ?_
        have q7 : ((-3) = (koffer p v g).1) ∧ (p = (koffer p v g).2) := by
          first | (simp only [koffer, c3, c4, eq_true c6, eq_self, ↓reduceIte, and_self, and_true, true_and]; done) | (simp only [koffer, c3, c4, eq_true c6, eq_self, ↓reduceIte, and_self, and_true, true_and]; (try and_intros) <;> rfl)
        exact kRi F hr hlocks hS2 dX8_offer_34 p q7 hP2 hD2
      · refine lv_iload_n hx hb dX8_offer_21 rfl (lv_at hl0 3 rfl) ?_
        refine lv_iconst (v := 1) hx hb dX8_offer_22 (by decide) ?_
        refine lv_icmp_lt (tgt := 32) hx hb dX8_offer_23 (by decide) (fun c8 => ?_) (fun c8 => ?_)
        · refine lv_bipush (v := (-3)) hx hb dX8_offer_32 (by decide) ?_
          have q9 : ((-3) = (koffer p v g).1) ∧ (p = (koffer p v g).2) := by
            first | (simp only [koffer, c3, c4, c6, eq_true c8, eq_self, ↓reduceIte, and_self, and_true, true_and]; done) | (simp only [koffer, c3, c4, c6, eq_true c8, eq_self, ↓reduceIte, and_self, and_true, true_and]; (try and_intros) <;> rfl)
          exact kRi F hr hlocks hS2 dX8_offer_34 p q9 hP2 hD2
        · refine lv_iload_n hx hb dX8_offer_26 rfl (lv_at hl0 3 rfl) ?_
          refine lv_bipush (v := 15) hx hb dX8_offer_27 (by decide) ?_
          refine lv_icmp_le (tgt := 35) hx hb dX8_offer_29 (by decide) (fun c10 => ?_) (fun c10 => ?_)
          · refine lv_aload_n hx hb dX8_offer_35 rfl (lv_at hl0 0 rfl) ?_
            refine lv_iload_n hx hb dX8_offer_36 rfl (lv_at hl0 1 rfl) ?_
            refine kVr (wr := [oPe pe lc ls ls lc dr p]) F hK hP2 hD2 hS2 hA hl0.1 (c_X8_peerOf1 l G h cl se rc rs ar co cz tx nw pe ta sn sb s) [0, 1] [2] 8 0 gX8_offer_X8_peerOf rfl 1 rfl (by decide +kernel) ⟨Nat.le_of_ble_eq_true rfl, Nat.le_of_ble_eq_true rfl⟩ ⟨Nat.zero_le _, Nat.zero_le _⟩ rfl rfl rfl rfl (by decide) (by decide) (by decide) (Nat.le_of_ble_eq_true rfl) rfl dX8_offer_37 (fun u11 H12 locs12 hw11 (hP12 : va_P G.1 vwCl ([oPe pe lc ls ls lc dr p, oTo h cl se rc rs ar co cz tx nw, oSe se pe ta sn sb s]) H12) (hD12 : va_D A ([oPe pe lc ls ls lc dr p, oTo h cl se rc rs ar co cz tx nw, oSe se pe ta sn sb s])) hS12 => ?_)
            clear hP2 hD2 hS2
            refine lv_astore (lv' := [(4, .ref pe), (0, .ref h), (1, .int 1), (2, .int v), (3, .int g)]) hx hb dX8_offer_40 hl0 (by decide) rfl (fun ls13 hl13 => ?_)
            clear hl0
            refine lv_aload hx hb dX8_offer_42 (lv_at hl13 0 rfl) ?_
            refine kget F hK hP12 3 0 0 iX3 rfl rfl (by decide) (List.mem_of_getElem? (i := 1) rfl) rfl dX8_offer_44 ?_
            refine lv_istore (lv' := [(5, .int (p 0)), (4, .ref pe), (0, .ref h), (1, .int 1), (2, .int v), (3, .int g)]) hx hb dX8_offer_47 hl13 (by decide) rfl (fun ls14 hl14 => ?_)
            clear hl13
            refine lv_aload hx hb dX8_offer_49 (lv_at hl14 1 rfl) ?_
            refine lv_iload_n hx hb dX8_offer_51 rfl (lv_at hl14 4 rfl) ?_
            refine kput F hK hP12 hD12 hS12 (ty0 := tyX3) 3 0 0 iX3 rfl tyX3_ok nmX3 (fun zz => [oPe pe lc ls ls lc dr zz, oTo h cl se rc rs ar co cz tx nw, oSe se pe ta sn sb s]) p rfl (by decide) (List.mem_of_getElem? (i := 1) rfl) rfl rfl rfl (Nat.le_of_ble_eq_true rfl) rfl dX8_offer_52 (fun H15 locs15 p15 ep15 (hP15 : va_P G.1 vwCl ([oPe pe lc ls ls lc dr p15, oTo h cl se rc rs ar co cz tx nw, oSe se pe ta sn sb s]) H15) (hD15 : va_D A ([oPe pe lc ls ls lc dr p15, oTo h cl se rc rs ar co cz tx nw, oSe se pe ta sn sb s])) hS15 => ?_)
            clear hP12 hD12 hS12
            refine lv_aload hx hb dX8_offer_55 (lv_at hl14 1 rfl) ?_
            refine lv_iload_n hx hb dX8_offer_57 rfl (lv_at hl14 5 rfl) ?_
            refine kput F hK hP15 hD15 hS15 (ty0 := tyX3) 3 0 1 iX3 rfl tyX3_ok nmX3 (fun zz => [oPe pe lc ls ls lc dr zz, oTo h cl se rc rs ar co cz tx nw, oSe se pe ta sn sb s]) p15 rfl (by decide) (List.mem_of_getElem? (i := 2) rfl) rfl rfl rfl (Nat.le_of_ble_eq_true rfl) rfl dX8_offer_58 (fun H16 locs16 p16 ep16 (hP16 : va_P G.1 vwCl ([oPe pe lc ls ls lc dr p16, oTo h cl se rc rs ar co cz tx nw, oSe se pe ta sn sb s]) H16) (hD16 : va_D A ([oPe pe lc ls ls lc dr p16, oTo h cl se rc rs ar co cz tx nw, oSe se pe ta sn sb s])) hS16 => ?_)
            clear hP15 hD15 hS15
            refine lv_iload hx hb dX8_offer_61 (lv_at hl14 0 rfl) ?_
            have q17 : ((p 0) = (koffer p v g).1) ∧ (p16 = (koffer p v g).2) := by
              subst ep16
              subst ep15
              first | (simp only [koffer, c3, c4, c6, c8, eq_true c10, eq_self, ↓reduceIte, and_self, and_true, true_and]; done) | (simp only [koffer, c3, c4, c6, c8, eq_true c10, eq_self, ↓reduceIte, and_self, and_true, true_and]; (try and_intros) <;> rfl)
            exact kRi F hr hlocks hS16 dX8_offer_63 p16 q17 (hP16.sub [1, 2, 0] rfl) (hD16.sub [1, 2, 0] (by decide) rfl)
          · refine lv_bipush (v := (-3)) hx hb dX8_offer_32 (by decide) ?_
            have q18 : ((-3) = (koffer p v g).1) ∧ (p = (koffer p v g).2) := by
              first | (simp only [koffer, c3, c4, c6, c8, c10, eq_self, ↓reduceIte, and_self, and_true, true_and]; done) | (simp only [koffer, c3, c4, c6, c8, c10, eq_self, ↓reduceIte, and_self, and_true, true_and]; (try and_intros) <;> rfl)
            exact kRi F hr hlocks hS2 dX8_offer_34 p q18 hP2 hD2
  · exact absurd c3 (by decide)
set_option maxHeartbeats 1000000 in
set_option maxRecDepth 100000 in
theorem c_X8_secret1 (l : Launch) (G : kG) (h : Nat) (cl : Nat) (se : Nat) (rc : Nat) (rs : Nat) (ar : Nat) (co : Nat) (cz : Nat) (tx : Nat) (nw : Nat → Int32) (pe : Nat) (ta : Nat) (sn : Nat) (sb : Nat) (s : Nat → Int32) (lc : Nat) (ls : Nat) (dr : Nat) (p : Nat → Int32) (v : Int32) : kM G l yX8_secret wsX8_secret ({ frames := 1, cells := 0, slots := 0, locals := 21 }) [.ref h, .int 1, .int v] ([oTo h cl se rc rs ar co cz tx nw, oSe se pe ta sn sb s, oPe pe lc ls ls lc dr p]) (kQi G (fun (rr : Int32) (uu : (Nat → Int32)) => (rr = (ksecret p v).1) ∧ (uu = (ksecret p v).2)) (fun (uu : (Nat → Int32)) => [oTo h cl se rc rs ar co cz tx nw, oSe se pe ta sn sb s, oPe pe lc ls ls lc dr uu])) := by
  refine kStart (cc := cX8_secret) (maxL := 5) (ret := (some .int)) (by decide) rfl (Nat.le_of_ble_eq_true rfl) (fun pg ev st mi bl mt cd A ls0 F hr hlocks hin hK hP0 hD0 hA hS0 hl0 => ?_)
  obtain ⟨hx, hb, hml, hown, hts⟩ := id F
  have hl0 : lv_has ls0 5 [(0, .ref h), (1, .int 1), (2, .int v)] := hl0
  have iX3 : ∀ w ∈ u_ws RX3 TX3 18, w ∈ wsX8_secret := fun w h => List.mem_cons_of_mem _ (List.mem_append_left _ (List.mem_append_left _ (List.mem_append_left _ (List.mem_append_right _ h))))
  refine lv_iload_n hx hb dX8_secret_0 rfl (lv_at hl0 1 rfl) ?_
  refine kPSi F hK hP0 hD0 hS0 hA hl0.1 (c_X8_isSide l G 1) (fun _ => rfl) gX8_secret_X8_isSide rfl 1 rfl (by decide +kernel) ⟨Nat.le_of_ble_eq_true rfl, Nat.le_of_ble_eq_true rfl⟩ ⟨Nat.zero_le _, Nat.zero_le _⟩ (Nat.le_of_ble_eq_true rfl) rfl dX8_secret_1 (fun r1 u1 H2 locs2 hw1 (hP2 : va_P G.1 vwCl ([oTo h cl se rc rs ar co cz tx nw, oSe se pe ta sn sb s, oPe pe lc ls ls lc dr p]) H2) (hD2 : va_D A ([oTo h cl se rc rs ar co cz tx nw, oSe se pe ta sn sb s, oPe pe lc ls ls lc dr p])) hS2 => ?_)
  clear hP0 hD0 hS0
  have w1_0 : r1 = kside 1 := hw1
  have g1 : r1 = 1 := w1_0.trans (by decide)
  clear w1_0
  subst g1
  refine lv_if_ne (tgt := 10) hx hb dX8_secret_4 (by decide) (fun c3 => ?_) (fun c3 => ?_)
  · refine lv_iload_n hx hb dX8_secret_10 rfl (lv_at hl0 2 rfl) ?_
    refine lv_iconst (v := 1) hx hb dX8_secret_11 (by decide) ?_
    refine lv_icmp_lt (tgt := 22) hx hb dX8_secret_12 (by decide) (fun c4 => ?_) (fun c4 => ?_)
    · refine lv_bipush (v := (-3)) hx hb dX8_secret_22 (by decide) ?_
      have q5 : ((-3) = (ksecret p v).1) ∧ (p = (ksecret p v).2) := by
        first | (simp only [ksecret, c3, eq_true c4, eq_self, ↓reduceIte, and_self, and_true, true_and]; done) | (simp only [ksecret, c3, eq_true c4, eq_self, ↓reduceIte, and_self, and_true, true_and]; (try and_intros) <;> rfl)
      exact kRi F hr hlocks hS2 dX8_secret_24 p q5 hP2 hD2
    · refine lv_iload_n hx hb dX8_secret_15 rfl (lv_at hl0 2 rfl) ?_
      refine lv_sipush (v := 999) hx hb dX8_secret_16 (by decide) ?_
      refine lv_icmp_le (tgt := 25) hx hb dX8_secret_19 (by decide) (fun c6 => ?_) (fun c6 => ?_)
      · refine lv_aload_n hx hb dX8_secret_25 rfl (lv_at hl0 0 rfl) ?_
        refine lv_iload_n hx hb dX8_secret_26 rfl (lv_at hl0 1 rfl) ?_
        refine kVr (wr := [oPe pe lc ls ls lc dr p]) F hK hP2 hD2 hS2 hA hl0.1 (c_X8_peerOf1 l G h cl se rc rs ar co cz tx nw pe ta sn sb s) [0, 1] [2] 8 0 gX8_secret_X8_peerOf rfl 1 rfl (by decide +kernel) ⟨Nat.le_of_ble_eq_true rfl, Nat.le_of_ble_eq_true rfl⟩ ⟨Nat.zero_le _, Nat.zero_le _⟩ rfl rfl rfl rfl (by decide) (by decide) (by decide) (Nat.le_of_ble_eq_true rfl) rfl dX8_secret_27 (fun u7 H8 locs8 hw7 (hP8 : va_P G.1 vwCl ([oPe pe lc ls ls lc dr p, oTo h cl se rc rs ar co cz tx nw, oSe se pe ta sn sb s]) H8) (hD8 : va_D A ([oPe pe lc ls ls lc dr p, oTo h cl se rc rs ar co cz tx nw, oSe se pe ta sn sb s])) hS8 => ?_)
        clear hP2 hD2 hS2
        refine lv_astore_n (lv' := [(3, .ref pe), (0, .ref h), (1, .int 1), (2, .int v)]) hx hb dX8_secret_30 rfl hl0 (by decide) rfl (fun ls9 hl9 => ?_)
        clear hl0
        refine lv_aload_n hx hb dX8_secret_31 rfl (lv_at hl9 0 rfl) ?_
        refine kget F hK hP8 3 0 2 iX3 rfl rfl (by decide) (List.mem_of_getElem? (i := 1) rfl) rfl dX8_secret_32 ?_
        refine lv_istore (lv' := [(4, .int (p 2)), (3, .ref pe), (0, .ref h), (1, .int 1), (2, .int v)]) hx hb dX8_secret_35 hl9 (by decide) rfl (fun ls10 hl10 => ?_)
        clear hl9
        refine lv_aload_n hx hb dX8_secret_37 rfl (lv_at hl10 1 rfl) ?_
        refine lv_iload_n hx hb dX8_secret_38 rfl (lv_at hl10 4 rfl) ?_
        refine kput F hK hP8 hD8 hS8 (ty0 := tyX3) 3 0 2 iX3 rfl tyX3_ok nmX3 (fun zz => [oPe pe lc ls ls lc dr zz, oTo h cl se rc rs ar co cz tx nw, oSe se pe ta sn sb s]) p rfl (by decide) (List.mem_of_getElem? (i := 1) rfl) rfl rfl rfl (Nat.le_of_ble_eq_true rfl) rfl dX8_secret_39 (fun H11 locs11 p11 ep11 (hP11 : va_P G.1 vwCl ([oPe pe lc ls ls lc dr p11, oTo h cl se rc rs ar co cz tx nw, oSe se pe ta sn sb s]) H11) (hD11 : va_D A ([oPe pe lc ls ls lc dr p11, oTo h cl se rc rs ar co cz tx nw, oSe se pe ta sn sb s])) hS11 => ?_)
        clear hP8 hD8 hS8
        refine lv_iload hx hb dX8_secret_42 (lv_at hl10 0 rfl) ?_
        have q12 : ((p 2) = (ksecret p v).1) ∧ (p11 = (ksecret p v).2) := by
          subst ep11
          first | (simp only [ksecret, c3, c4, eq_true c6, eq_self, ↓reduceIte, and_self, and_true, true_and]; done) | (simp only [ksecret, c3, c4, eq_true c6, eq_self, ↓reduceIte, and_self, and_true, true_and]; (try and_intros) <;> rfl)
        exact kRi F hr hlocks hS11 dX8_secret_44 p11 q12 (hP11.sub [1, 2, 0] rfl) (hD11.sub [1, 2, 0] (by decide) rfl)
      · refine lv_bipush (v := (-3)) hx hb dX8_secret_22 (by decide) ?_
        have q13 : ((-3) = (ksecret p v).1) ∧ (p = (ksecret p v).2) := by
          first | (simp only [ksecret, c3, c4, c6, eq_self, ↓reduceIte, and_self, and_true, true_and]; done) | (simp only [ksecret, c3, c4, c6, eq_self, ↓reduceIte, and_self, and_true, true_and]; (try and_intros) <;> rfl)
        exact kRi F hr hlocks hS2 dX8_secret_24 p q13 hP2 hD2
  · exact absurd c3 (by decide)
set_option maxHeartbeats 1000000 in
set_option maxRecDepth 100000 in
theorem c_X8_fresh1 (l : Launch) (G : kG) (h : Nat) (cl : Nat) (se : Nat) (rc : Nat) (rs : Nat) (ar : Nat) (co : Nat) (cz : Nat) (tx : Nat) (nw : Nat → Int32) (pe : Nat) (ta : Nat) (sn : Nat) (sb : Nat) (s : Nat → Int32) (lc : Nat) (ls : Nat) (dr : Nat) (p : Nat → Int32) : kM G l yX8_fresh wsX8_fresh ({ frames := 1, cells := 0, slots := 0, locals := 21 }) [.ref h, .int 1] ([oTo h cl se rc rs ar co cz tx nw, oSe se pe ta sn sb s, oPe pe lc ls ls lc dr p]) (kQi G (fun (rr : Int32) (uu : (Nat → Int32)) => (rr = p 3) ∧ (uu = krest p)) (fun (uu : (Nat → Int32)) => [oTo h cl se rc rs ar co cz tx nw, oSe se pe ta sn sb s, oPe pe lc ls ls lc dr uu])) := by
  refine kStart (cc := cX8_fresh) (maxL := 4) (ret := (some .int)) (by decide) rfl (Nat.le_of_ble_eq_true rfl) (fun pg ev st mi bl mt cd A ls0 F hr hlocks hin hK hP0 hD0 hA hS0 hl0 => ?_)
  obtain ⟨hx, hb, hml, hown, hts⟩ := id F
  have hl0 : lv_has ls0 4 [(0, .ref h), (1, .int 1)] := hl0
  have iX3 : ∀ w ∈ u_ws RX3 TX3 18, w ∈ wsX8_fresh := fun w h => List.mem_cons_of_mem _ (List.mem_append_left _ (List.mem_append_left _ (List.mem_append_left _ (List.mem_append_right _ h))))
  refine lv_iload_n hx hb dX8_fresh_0 rfl (lv_at hl0 1 rfl) ?_
  refine kPSi F hK hP0 hD0 hS0 hA hl0.1 (c_X8_isSide l G 1) (fun _ => rfl) gX8_fresh_X8_isSide rfl 1 rfl (by decide +kernel) ⟨Nat.le_of_ble_eq_true rfl, Nat.le_of_ble_eq_true rfl⟩ ⟨Nat.zero_le _, Nat.zero_le _⟩ (Nat.le_of_ble_eq_true rfl) rfl dX8_fresh_1 (fun r1 u1 H2 locs2 hw1 (hP2 : va_P G.1 vwCl ([oTo h cl se rc rs ar co cz tx nw, oSe se pe ta sn sb s, oPe pe lc ls ls lc dr p]) H2) (hD2 : va_D A ([oTo h cl se rc rs ar co cz tx nw, oSe se pe ta sn sb s, oPe pe lc ls ls lc dr p])) hS2 => ?_)
  clear hP0 hD0 hS0
  have w1_0 : r1 = kside 1 := hw1
  have g1 : r1 = 1 := w1_0.trans (by decide)
  clear w1_0
  subst g1
  refine lv_if_ne (tgt := 10) hx hb dX8_fresh_4 (by decide) (fun c3 => ?_) (fun c3 => ?_)
  · refine lv_aload_n hx hb dX8_fresh_10 rfl (lv_at hl0 0 rfl) ?_
    refine lv_iload_n hx hb dX8_fresh_11 rfl (lv_at hl0 1 rfl) ?_
    refine kVr (wr := [oPe pe lc ls ls lc dr p]) F hK hP2 hD2 hS2 hA hl0.1 (c_X8_peerOf1 l G h cl se rc rs ar co cz tx nw pe ta sn sb s) [0, 1] [2] 8 0 gX8_fresh_X8_peerOf rfl 1 rfl (by decide +kernel) ⟨Nat.le_of_ble_eq_true rfl, Nat.le_of_ble_eq_true rfl⟩ ⟨Nat.zero_le _, Nat.zero_le _⟩ rfl rfl rfl rfl (by decide) (by decide) (by decide) (Nat.le_of_ble_eq_true rfl) rfl dX8_fresh_12 (fun u4 H5 locs5 hw4 (hP5 : va_P G.1 vwCl ([oPe pe lc ls ls lc dr p, oTo h cl se rc rs ar co cz tx nw, oSe se pe ta sn sb s]) H5) (hD5 : va_D A ([oPe pe lc ls ls lc dr p, oTo h cl se rc rs ar co cz tx nw, oSe se pe ta sn sb s])) hS5 => ?_)
    clear hP2 hD2 hS2
    refine lv_astore_n (lv' := [(2, .ref pe), (0, .ref h), (1, .int 1)]) hx hb dX8_fresh_15 rfl hl0 (by decide) rfl (fun ls6 hl6 => ?_)
    clear hl0
    refine lv_aload_n hx hb dX8_fresh_16 rfl (lv_at hl6 0 rfl) ?_
    refine kget F hK hP5 3 0 3 iX3 rfl rfl (by decide) (List.mem_of_getElem? (i := 1) rfl) rfl dX8_fresh_17 ?_
    refine lv_istore_n (lv' := [(3, .int (p 3)), (2, .ref pe), (0, .ref h), (1, .int 1)]) hx hb dX8_fresh_20 rfl hl6 (by decide) rfl (fun ls7 hl7 => ?_)
    clear hl6
    refine lv_aload_n hx hb dX8_fresh_21 rfl (lv_at hl7 1 rfl) ?_
    refine kVv (wr := [oTo h cl se rc rs ar co cz tx nw, oSe se pe ta sn sb s]) F hK hP5 hD5 hS5 hA hl7.1 (c_X3_rest l G pe lc ls ls lc dr p) [0] [1, 2] 3 0 gX8_fresh_X3_rest rfl 0 rfl (by decide +kernel) ⟨Nat.le_of_ble_eq_true rfl, Nat.le_of_ble_eq_true rfl⟩ ⟨Nat.zero_le _, Nat.zero_le _⟩ rfl rfl rfl rfl (by decide) (by decide) (by decide) (Nat.le_of_ble_eq_true rfl) rfl dX8_fresh_22 (fun p_8 H9 locs9 hw8 (hP9 : va_P G.1 vwCl ([oTo h cl se rc rs ar co cz tx nw, oSe se pe ta sn sb s, oPe pe lc ls ls lc dr p_8]) H9) (hD9 : va_D A ([oTo h cl se rc rs ar co cz tx nw, oSe se pe ta sn sb s, oPe pe lc ls ls lc dr p_8])) hS9 => ?_)
    clear hP5 hD5 hS5
    have w8_0 : p_8 = krest p := hw8
    refine lv_iload_n hx hb dX8_fresh_25 rfl (lv_at hl7 0 rfl) ?_
    have q10 : ((p 3) = p 3) ∧ (p_8 = krest p) := by
      subst w8_0
      first | (simp only [c3, eq_self, ↓reduceIte, and_self, and_true, true_and]; done) | (simp only [c3, eq_self, ↓reduceIte, and_self, and_true, true_and]; (try and_intros) <;> rfl) | exact ⟨rfl, rfl⟩
    exact kRi F hr hlocks hS9 dX8_fresh_26 p_8 q10 hP9 hD9
  · exact absurd c3 (by decide)
set_option maxHeartbeats 1000000 in
set_option maxRecDepth 100000 in
theorem c_X8_side1 (l : Launch) (G : kG) (h : Nat) (cl : Nat) (se : Nat) (rc : Nat) (rs : Nat) (ar : Nat) (co : Nat) (cz : Nat) (tx : Nat) (nw : Nat → Int32) (pe : Nat) (ta : Nat) (sn : Nat) (sb : Nat) (s : Nat → Int32) (lc : Nat) (ls : Nat) (dr : Nat) (p : Nat → Int32) (a : Nat → Int32) (b : Nat → Int32) (i : Int32) : kM G l yX8_side wsX8_side ({ frames := 2, cells := 0, slots := 0, locals := 42 }) [.ref h, .int 1, .int i] ([oTo h cl se rc rs ar co cz tx nw, oSe se pe ta sn sb s, oPe pe lc ls ls lc dr p, oLa lc a, oLa ls b]) (kQi G (fun (rr : Int32) (uu : Unit) => rr = ksideR p a b i) (fun (uu : Unit) => [oTo h cl se rc rs ar co cz tx nw, oSe se pe ta sn sb s, oPe pe lc ls ls lc dr p, oLa lc a, oLa ls b])) := by
  refine kStart (cc := cX8_side) (maxL := 3) (ret := (some .int)) (by decide) rfl (Nat.le_of_ble_eq_true rfl) (fun pg ev st mi bl mt cd A ls0 F hr hlocks hin hK hP0 hD0 hA hS0 hl0 => ?_)
  obtain ⟨hx, hb, hml, hown, hts⟩ := id F
  have hl0 : lv_has ls0 3 [(0, .ref h), (1, .int 1), (2, .int i)] := hl0
  refine lv_iload_n hx hb dX8_side_0 rfl (lv_at hl0 1 rfl) ?_
  refine kPSi F hK hP0 hD0 hS0 hA hl0.1 (c_X8_isSide l G 1) (fun _ => rfl) gX8_side_X8_isSide rfl 1 rfl (by decide +kernel) ⟨Nat.le_of_ble_eq_true rfl, Nat.le_of_ble_eq_true rfl⟩ ⟨Nat.zero_le _, Nat.zero_le _⟩ (Nat.le_of_ble_eq_true rfl) rfl dX8_side_1 (fun r1 u1 H2 locs2 hw1 (hP2 : va_P G.1 vwCl ([oTo h cl se rc rs ar co cz tx nw, oSe se pe ta sn sb s, oPe pe lc ls ls lc dr p, oLa lc a, oLa ls b]) H2) (hD2 : va_D A ([oTo h cl se rc rs ar co cz tx nw, oSe se pe ta sn sb s, oPe pe lc ls ls lc dr p, oLa lc a, oLa ls b])) hS2 => ?_)
  clear hP0 hD0 hS0
  have w1_0 : r1 = kside 1 := hw1
  have g1 : r1 = 1 := w1_0.trans (by decide)
  clear w1_0
  subst g1
  refine lv_if_ne (tgt := 10) hx hb dX8_side_4 (by decide) (fun c3 => ?_) (fun c3 => ?_)
  · refine lv_iload_n hx hb dX8_side_10 rfl (lv_at hl0 2 rfl) ?_
    refine lv_if_lt (tgt := 20) hx hb dX8_side_11 (by decide) (fun c4 => ?_) (fun c4 => ?_)
    · refine lv_bipush (v := (-3)) hx hb dX8_side_20 (by decide) ?_
      have q5 : (-3) = ksideR p a b i := by
        first | (simp only [ksideR, c3, eq_true c4, eq_self, ↓reduceIte, and_self, and_true, true_and]; done) | (simp only [ksideR, c3, eq_true c4, eq_self, ↓reduceIte, and_self, and_true, true_and]; (try and_intros) <;> rfl)
      exact kRi F hr hlocks hS2 dX8_side_22 () q5 hP2 hD2
    · refine lv_iload_n hx hb dX8_side_14 rfl (lv_at hl0 2 rfl) ?_
      refine lv_bipush (v := 11) hx hb dX8_side_15 (by decide) ?_
      refine lv_icmp_le (tgt := 23) hx hb dX8_side_17 (by decide) (fun c6 => ?_) (fun c6 => ?_)
      · refine lv_aload_n hx hb dX8_side_23 rfl (lv_at hl0 0 rfl) ?_
        refine lv_iload_n hx hb dX8_side_24 rfl (lv_at hl0 1 rfl) ?_
        refine kVr (wr := [oPe pe lc ls ls lc dr p, oLa lc a, oLa ls b]) F hK hP2 hD2 hS2 hA hl0.1 (c_X8_peerOf1 l G h cl se rc rs ar co cz tx nw pe ta sn sb s) [0, 1] [2, 3, 4] 8 0 gX8_side_X8_peerOf rfl 1 rfl (by decide +kernel) ⟨Nat.le_of_ble_eq_true rfl, Nat.le_of_ble_eq_true rfl⟩ ⟨Nat.zero_le _, Nat.zero_le _⟩ rfl rfl rfl rfl (by decide) (by decide) (by decide) (Nat.le_of_ble_eq_true rfl) rfl dX8_side_25 (fun u7 H8 locs8 hw7 (hP8 : va_P G.1 vwCl ([oPe pe lc ls ls lc dr p, oLa lc a, oLa ls b, oTo h cl se rc rs ar co cz tx nw, oSe se pe ta sn sb s]) H8) (hD8 : va_D A ([oPe pe lc ls ls lc dr p, oLa lc a, oLa ls b, oTo h cl se rc rs ar co cz tx nw, oSe se pe ta sn sb s])) hS8 => ?_)
        clear hP2 hD2 hS2
        refine lv_iload_n hx hb dX8_side_28 rfl (lv_at hl0 2 rfl) ?_
        refine kVi (wr := [oTo h cl se rc rs ar co cz tx nw, oSe se pe ta sn sb s]) F hK hP8 hD8 hS8 hA hl0.1 (c_X3_tell l G pe lc ls ls lc dr p a b i (ge0 c4) (le11 c6)) [0, 1, 2] [3, 4] 3 0 gX8_side_X3_tell rfl 1 rfl (by decide +kernel) ⟨Nat.le_of_ble_eq_true rfl, Nat.le_of_ble_eq_true rfl⟩ ⟨Nat.zero_le _, Nat.zero_le _⟩ rfl rfl rfl rfl (by decide) (by decide) (by decide) (Nat.le_of_ble_eq_true rfl) rfl dX8_side_29 (fun r9 u9 H10 locs10 hw9 (hP10 : va_P G.1 vwCl ([oTo h cl se rc rs ar co cz tx nw, oSe se pe ta sn sb s, oPe pe lc ls ls lc dr p, oLa lc a, oLa ls b]) H10) (hD10 : va_D A ([oTo h cl se rc rs ar co cz tx nw, oSe se pe ta sn sb s, oPe pe lc ls ls lc dr p, oLa lc a, oLa ls b])) hS10 => ?_)
        clear hP8 hD8 hS8
        have w9_0 : r9 = ktellP p a b i := hw9
        have q11 : r9 = ksideR p a b i := by
          subst w9_0
          first | (simp only [ksideR, c3, c4, eq_true c6, eq_self, ↓reduceIte, and_self, and_true, true_and]; done) | (simp only [ksideR, c3, c4, eq_true c6, eq_self, ↓reduceIte, and_self, and_true, true_and]; (try and_intros) <;> rfl)
        exact kRi F hr hlocks hS10 dX8_side_32 () q11 hP10 hD10
      · refine lv_bipush (v := (-3)) hx hb dX8_side_20 (by decide) ?_
        have q12 : (-3) = ksideR p a b i := by
          first | (simp only [ksideR, c3, c4, c6, eq_self, ↓reduceIte, and_self, and_true, true_and]; done) | (simp only [ksideR, c3, c4, c6, eq_self, ↓reduceIte, and_self, and_true, true_and]; (try and_intros) <;> rfl)
        exact kRi F hr hlocks hS2 dX8_side_22 () q12 hP2 hD2
  · exact absurd c3 (by decide)
set_option maxHeartbeats 1000000 in
set_option maxRecDepth 100000 in
theorem c_X8_say1 (l : Launch) (G : kG) (h : Nat) (cl : Nat) (se : Nat) (rs : Nat) (ar : Nat) (co : Nat) (cz : Nat) (tx : Nat) (nw : Nat → Int32) (pe : Nat) (ta : Nat) (sn : Nat) (sb : Nat) (s : Nat → Int32) (lc : Nat) (ls : Nat) (dr : Nat) (p : Nat → Int32) (b : Nat → Int32) (da : Nat) (f : Nat → Int32) (rh : Nat) (w : Nat) (q : Nat → Nat) (d : Nat → Nat) (rp : Nat → Int32) (M : Nat → Nat → Int32) (L : Nat) (v : Int32) (hL : rp 1 = nI L) (hL8 : L ≤ 8) : kM G l yX8_say wsX8_say ({ frames := 4, cells := 0, slots := 0, locals := 88 }) [.ref h, .int 1, .int v] ([oTo h cl se rh rs ar co cz tx nw, oSe se pe ta sn sb s, oPe pe lc ls ls lc dr p, oLa lc b, oMs dr da, aI G da 9 f, oRo rh w rp, aM G w 8 (krow q), oMs (q 0) (d 0), aI G (d 0) 9 (M 0), oMs (q 1) (d 1), aI G (d 1) 9 (M 1), oMs (q 2) (d 2), aI G (d 2) 9 (M 2), oMs (q 3) (d 3), aI G (d 3) 9 (M 3), oMs (q 4) (d 4), aI G (d 4) 9 (M 4), oMs (q 5) (d 5), aI G (d 5) 9 (M 5), oMs (q 6) (d 6), aI G (d 6) 9 (M 6), oMs (q 7) (d 7), aI G (d 7) 9 (M 7)]) (kQi G (fun (rr : Int32) (uu : (Nat → Int32) × (Nat → Int32) × (Nat → Int32) × (Nat → Nat → Int32)) => (rr = (ksay L p b f rp M v).1) ∧ (uu.1 = (ksay L p b f rp M v).2.1) ∧ (uu.2.1 = (ksay L p b f rp M v).2.2.1) ∧ (uu.2.2.1 = (ksay L p b f rp M v).2.2.2.1) ∧ (uu.2.2.2 = (ksay L p b f rp M v).2.2.2.2)) (fun (uu : (Nat → Int32) × (Nat → Int32) × (Nat → Int32) × (Nat → Nat → Int32)) => [oTo h cl se rh rs ar co cz tx nw, oSe se pe ta sn sb s, oPe pe lc ls ls lc dr p, oLa lc uu.1, oMs dr da, aI G da 9 uu.2.1, oRo rh w uu.2.2.1, aM G w 8 (krow q), oMs (q 0) (d 0), aI G (d 0) 9 (uu.2.2.2 0), oMs (q 1) (d 1), aI G (d 1) 9 (uu.2.2.2 1), oMs (q 2) (d 2), aI G (d 2) 9 (uu.2.2.2 2), oMs (q 3) (d 3), aI G (d 3) 9 (uu.2.2.2 3), oMs (q 4) (d 4), aI G (d 4) 9 (uu.2.2.2 4), oMs (q 5) (d 5), aI G (d 5) 9 (uu.2.2.2 5), oMs (q 6) (d 6), aI G (d 6) 9 (uu.2.2.2 6), oMs (q 7) (d 7), aI G (d 7) 9 (uu.2.2.2 7)])) := by
  refine kStart (cc := cX8_say) (maxL := 3) (ret := (some .int)) (by decide) rfl (Nat.le_of_ble_eq_true rfl) (fun pg ev st mi bl mt cd A ls0 F hr hlocks hin hK hP0 hD0 hA hS0 hl0 => ?_)
  obtain ⟨hx, hb, hml, hown, hts⟩ := id F
  have hl0 : lv_has ls0 3 [(0, .ref h), (1, .int 1), (2, .int v)] := hl0
  have iX3 : ∀ w ∈ u_ws RX3 TX3 18, w ∈ wsX8_say := fun w h => List.mem_cons_of_mem _ (List.mem_append_left _ (List.mem_append_left _ (List.mem_append_left _ (List.mem_append_left _ (List.mem_append_left _ (List.mem_append_left _ (List.mem_append_right _ h)))))))
  refine lv_iload_n hx hb dX8_say_0 rfl (lv_at hl0 1 rfl) ?_
  refine kPSi F hK hP0 hD0 hS0 hA hl0.1 (c_X8_isSide l G 1) (fun _ => rfl) gX8_say_X8_isSide rfl 1 rfl (by decide +kernel) ⟨Nat.le_of_ble_eq_true rfl, Nat.le_of_ble_eq_true rfl⟩ ⟨Nat.zero_le _, Nat.zero_le _⟩ (Nat.le_of_ble_eq_true rfl) rfl dX8_say_1 (fun r1 u1 H2 locs2 hw1 (hP2 : va_P G.1 vwCl ([oTo h cl se rh rs ar co cz tx nw, oSe se pe ta sn sb s, oPe pe lc ls ls lc dr p, oLa lc b, oMs dr da, aI G da 9 f, oRo rh w rp, aM G w 8 (krow q), oMs (q 0) (d 0), aI G (d 0) 9 (M 0), oMs (q 1) (d 1), aI G (d 1) 9 (M 1), oMs (q 2) (d 2), aI G (d 2) 9 (M 2), oMs (q 3) (d 3), aI G (d 3) 9 (M 3), oMs (q 4) (d 4), aI G (d 4) 9 (M 4), oMs (q 5) (d 5), aI G (d 5) 9 (M 5), oMs (q 6) (d 6), aI G (d 6) 9 (M 6), oMs (q 7) (d 7), aI G (d 7) 9 (M 7)]) H2) (hD2 : va_D A ([oTo h cl se rh rs ar co cz tx nw, oSe se pe ta sn sb s, oPe pe lc ls ls lc dr p, oLa lc b, oMs dr da, aI G da 9 f, oRo rh w rp, aM G w 8 (krow q), oMs (q 0) (d 0), aI G (d 0) 9 (M 0), oMs (q 1) (d 1), aI G (d 1) 9 (M 1), oMs (q 2) (d 2), aI G (d 2) 9 (M 2), oMs (q 3) (d 3), aI G (d 3) 9 (M 3), oMs (q 4) (d 4), aI G (d 4) 9 (M 4), oMs (q 5) (d 5), aI G (d 5) 9 (M 5), oMs (q 6) (d 6), aI G (d 6) 9 (M 6), oMs (q 7) (d 7), aI G (d 7) 9 (M 7)])) hS2 => ?_)
  clear hP0 hD0 hS0
  have w1_0 : r1 = kside 1 := hw1
  have g1 : r1 = 1 := w1_0.trans (by decide)
  clear w1_0
  subst g1
  refine lv_if_ne (tgt := 10) hx hb dX8_say_4 (by decide) (fun c3 => ?_) (fun c3 => ?_)
  · refine lv_iload_n hx hb dX8_say_10 rfl (lv_at hl0 2 rfl) ?_
    refine lv_if_lt (tgt := 21) hx hb dX8_say_11 (by decide) (fun c4 => ?_) (fun c4 => ?_)
    · refine lv_bipush (v := (-3)) hx hb dX8_say_21 (by decide) ?_
      have q5 : ((-3) = (ksay L p b f rp M v).1) ∧ (b = (ksay L p b f rp M v).2.1) ∧ (f = (ksay L p b f rp M v).2.2.1) ∧ (rp = (ksay L p b f rp M v).2.2.2.1) ∧ (M = (ksay L p b f rp M v).2.2.2.2) := by
        first | (simp only [ksay, c3, eq_true c4, eq_self, ↓reduceIte, and_self, and_true, true_and]; done) | (simp only [ksay, c3, eq_true c4, eq_self, ↓reduceIte, and_self, and_true, true_and]; (try and_intros) <;> rfl)
      exact kRi F hr hlocks hS2 dX8_say_23 ⟨b, f, rp, M⟩ q5 hP2 hD2
    · refine lv_iload_n hx hb dX8_say_14 rfl (lv_at hl0 2 rfl) ?_
      refine lv_sipush (v := 999) hx hb dX8_say_15 (by decide) ?_
      refine lv_icmp_le (tgt := 24) hx hb dX8_say_18 (by decide) (fun c6 => ?_) (fun c6 => ?_)
      · refine lv_aload_n hx hb dX8_say_24 rfl (lv_at hl0 0 rfl) ?_
        refine lv_iload_n hx hb dX8_say_25 rfl (lv_at hl0 1 rfl) ?_
        refine kVr (wr := [oPe pe lc ls ls lc dr p, oLa lc b, oMs dr da, aI G da 9 f, oRo rh w rp, aM G w 8 (krow q), oMs (q 0) (d 0), aI G (d 0) 9 (M 0), oMs (q 1) (d 1), aI G (d 1) 9 (M 1), oMs (q 2) (d 2), aI G (d 2) 9 (M 2), oMs (q 3) (d 3), aI G (d 3) 9 (M 3), oMs (q 4) (d 4), aI G (d 4) 9 (M 4), oMs (q 5) (d 5), aI G (d 5) 9 (M 5), oMs (q 6) (d 6), aI G (d 6) 9 (M 6), oMs (q 7) (d 7), aI G (d 7) 9 (M 7)]) F hK hP2 hD2 hS2 hA hl0.1 (c_X8_peerOf1 l G h cl se rh rs ar co cz tx nw pe ta sn sb s) [0, 1] [2, 3, 4, 5, 6, 7, 8, 9, 10, 11, 12, 13, 14, 15, 16, 17, 18, 19, 20, 21, 22, 23] 8 0 gX8_say_X8_peerOf rfl 1 rfl (by decide +kernel) ⟨Nat.le_of_ble_eq_true rfl, Nat.le_of_ble_eq_true rfl⟩ ⟨Nat.zero_le _, Nat.zero_le _⟩ rfl rfl rfl rfl (by decide) (by decide) (by decide) (Nat.le_of_ble_eq_true rfl) rfl dX8_say_26 (fun u7 H8 locs8 hw7 (hP8 : va_P G.1 vwCl ([oPe pe lc ls ls lc dr p, oLa lc b, oMs dr da, aI G da 9 f, oRo rh w rp, aM G w 8 (krow q), oMs (q 0) (d 0), aI G (d 0) 9 (M 0), oMs (q 1) (d 1), aI G (d 1) 9 (M 1), oMs (q 2) (d 2), aI G (d 2) 9 (M 2), oMs (q 3) (d 3), aI G (d 3) 9 (M 3), oMs (q 4) (d 4), aI G (d 4) 9 (M 4), oMs (q 5) (d 5), aI G (d 5) 9 (M 5), oMs (q 6) (d 6), aI G (d 6) 9 (M 6), oMs (q 7) (d 7), aI G (d 7) 9 (M 7), oTo h cl se rh rs ar co cz tx nw, oSe se pe ta sn sb s]) H8) (hD8 : va_D A ([oPe pe lc ls ls lc dr p, oLa lc b, oMs dr da, aI G da 9 f, oRo rh w rp, aM G w 8 (krow q), oMs (q 0) (d 0), aI G (d 0) 9 (M 0), oMs (q 1) (d 1), aI G (d 1) 9 (M 1), oMs (q 2) (d 2), aI G (d 2) 9 (M 2), oMs (q 3) (d 3), aI G (d 3) 9 (M 3), oMs (q 4) (d 4), aI G (d 4) 9 (M 4), oMs (q 5) (d 5), aI G (d 5) 9 (M 5), oMs (q 6) (d 6), aI G (d 6) 9 (M 6), oMs (q 7) (d 7), aI G (d 7) 9 (M 7), oTo h cl se rh rs ar co cz tx nw, oSe se pe ta sn sb s])) hS8 => ?_)
        clear hP2 hD2 hS2
        refine kget F hK hP8 3 0 3 iX3 rfl rfl (by decide) (List.mem_of_getElem? (i := 1) rfl) rfl dX8_say_29 ?_
        refine lv_iconst (v := 4) hx hb dX8_say_32 (by decide) ?_
        refine lv_icmp_eq (tgt := 39) hx hb dX8_say_33 (by decide) (fun c9 => ?_) (fun c9 => ?_)
        · refine lv_aload_n hx hb dX8_say_39 rfl (lv_at hl0 0 rfl) ?_
          refine lv_iload_n hx hb dX8_say_40 rfl (lv_at hl0 1 rfl) ?_
          refine kVr (wr := [oPe pe lc ls ls lc dr p, oLa lc b, oMs dr da, aI G da 9 f, oRo rh w rp, aM G w 8 (krow q), oMs (q 0) (d 0), aI G (d 0) 9 (M 0), oMs (q 1) (d 1), aI G (d 1) 9 (M 1), oMs (q 2) (d 2), aI G (d 2) 9 (M 2), oMs (q 3) (d 3), aI G (d 3) 9 (M 3), oMs (q 4) (d 4), aI G (d 4) 9 (M 4), oMs (q 5) (d 5), aI G (d 5) 9 (M 5), oMs (q 6) (d 6), aI G (d 6) 9 (M 6), oMs (q 7) (d 7), aI G (d 7) 9 (M 7)]) F hK hP8 hD8 hS8 hA hl0.1 (c_X8_peerOf1 l G h cl se rh rs ar co cz tx nw pe ta sn sb s) [22, 23] [0, 1, 2, 3, 4, 5, 6, 7, 8, 9, 10, 11, 12, 13, 14, 15, 16, 17, 18, 19, 20, 21] 8 0 gX8_say_X8_peerOf rfl 1 rfl (by decide +kernel) ⟨Nat.le_of_ble_eq_true rfl, Nat.le_of_ble_eq_true rfl⟩ ⟨Nat.zero_le _, Nat.zero_le _⟩ rfl rfl rfl rfl (by decide) (by decide) (by decide) (Nat.le_of_ble_eq_true rfl) rfl dX8_say_41 (fun u10 H11 locs11 hw10 (hP11 : va_P G.1 vwCl ([oPe pe lc ls ls lc dr p, oLa lc b, oMs dr da, aI G da 9 f, oRo rh w rp, aM G w 8 (krow q), oMs (q 0) (d 0), aI G (d 0) 9 (M 0), oMs (q 1) (d 1), aI G (d 1) 9 (M 1), oMs (q 2) (d 2), aI G (d 2) 9 (M 2), oMs (q 3) (d 3), aI G (d 3) 9 (M 3), oMs (q 4) (d 4), aI G (d 4) 9 (M 4), oMs (q 5) (d 5), aI G (d 5) 9 (M 5), oMs (q 6) (d 6), aI G (d 6) 9 (M 6), oMs (q 7) (d 7), aI G (d 7) 9 (M 7), oTo h cl se rh rs ar co cz tx nw, oSe se pe ta sn sb s]) H11) (hD11 : va_D A ([oPe pe lc ls ls lc dr p, oLa lc b, oMs dr da, aI G da 9 f, oRo rh w rp, aM G w 8 (krow q), oMs (q 0) (d 0), aI G (d 0) 9 (M 0), oMs (q 1) (d 1), aI G (d 1) 9 (M 1), oMs (q 2) (d 2), aI G (d 2) 9 (M 2), oMs (q 3) (d 3), aI G (d 3) 9 (M 3), oMs (q 4) (d 4), aI G (d 4) 9 (M 4), oMs (q 5) (d 5), aI G (d 5) 9 (M 5), oMs (q 6) (d 6), aI G (d 6) 9 (M 6), oMs (q 7) (d 7), aI G (d 7) 9 (M 7), oTo h cl se rh rs ar co cz tx nw, oSe se pe ta sn sb s])) hS11 => ?_)
          clear hP8 hD8 hS8
          refine lv_iload_n hx hb dX8_say_44 rfl (lv_at hl0 2 rfl) ?_
          refine lv_aload_n hx hb dX8_say_45 rfl (lv_at hl0 0 rfl) ?_
          refine lv_iload_n hx hb dX8_say_46 rfl (lv_at hl0 1 rfl) ?_
          refine kPSi F hK hP11 hD11 hS11 hA hl0.1 (c_X8_otherThan l G 1) (fun _ => rfl) gX8_say_X8_otherThan rfl 1 rfl (by decide +kernel) ⟨Nat.le_of_ble_eq_true rfl, Nat.le_of_ble_eq_true rfl⟩ ⟨Nat.zero_le _, Nat.zero_le _⟩ (Nat.le_of_ble_eq_true rfl) rfl dX8_say_47 (fun r12 u12 H13 locs13 hw12 (hP13 : va_P G.1 vwCl ([oPe pe lc ls ls lc dr p, oLa lc b, oMs dr da, aI G da 9 f, oRo rh w rp, aM G w 8 (krow q), oMs (q 0) (d 0), aI G (d 0) 9 (M 0), oMs (q 1) (d 1), aI G (d 1) 9 (M 1), oMs (q 2) (d 2), aI G (d 2) 9 (M 2), oMs (q 3) (d 3), aI G (d 3) 9 (M 3), oMs (q 4) (d 4), aI G (d 4) 9 (M 4), oMs (q 5) (d 5), aI G (d 5) 9 (M 5), oMs (q 6) (d 6), aI G (d 6) 9 (M 6), oMs (q 7) (d 7), aI G (d 7) 9 (M 7), oTo h cl se rh rs ar co cz tx nw, oSe se pe ta sn sb s]) H13) (hD13 : va_D A ([oPe pe lc ls ls lc dr p, oLa lc b, oMs dr da, aI G da 9 f, oRo rh w rp, aM G w 8 (krow q), oMs (q 0) (d 0), aI G (d 0) 9 (M 0), oMs (q 1) (d 1), aI G (d 1) 9 (M 1), oMs (q 2) (d 2), aI G (d 2) 9 (M 2), oMs (q 3) (d 3), aI G (d 3) 9 (M 3), oMs (q 4) (d 4), aI G (d 4) 9 (M 4), oMs (q 5) (d 5), aI G (d 5) 9 (M 5), oMs (q 6) (d 6), aI G (d 6) 9 (M 6), oMs (q 7) (d 7), aI G (d 7) 9 (M 7), oTo h cl se rh rs ar co cz tx nw, oSe se pe ta sn sb s])) hS13 => ?_)
          clear hP11 hD11 hS11
          have w12_0 : r12 = kother 1 := hw12
          have g12 : r12 = 0 := w12_0.trans (by decide)
          clear w12_0
          subst g12
          refine kVr (wr := [oPe pe lc ls ls lc dr p, oLa lc b, oMs dr da, aI G da 9 f, oRo rh w rp, aM G w 8 (krow q), oMs (q 0) (d 0), aI G (d 0) 9 (M 0), oMs (q 1) (d 1), aI G (d 1) 9 (M 1), oMs (q 2) (d 2), aI G (d 2) 9 (M 2), oMs (q 3) (d 3), aI G (d 3) 9 (M 3), oMs (q 4) (d 4), aI G (d 4) 9 (M 4), oMs (q 5) (d 5), aI G (d 5) 9 (M 5), oMs (q 6) (d 6), aI G (d 6) 9 (M 6), oMs (q 7) (d 7), aI G (d 7) 9 (M 7), oSe se pe ta sn sb s]) F hK hP13 hD13 hS13 hA hl0.1 (c_X8_roadTo0 l G h cl se rh rs ar co cz tx nw) [22] [0, 1, 2, 3, 4, 5, 6, 7, 8, 9, 10, 11, 12, 13, 14, 15, 16, 17, 18, 19, 20, 21, 23] 8 0 gX8_say_X8_roadTo rfl 1 rfl (by decide +kernel) ⟨Nat.le_of_ble_eq_true rfl, Nat.le_of_ble_eq_true rfl⟩ ⟨Nat.zero_le _, Nat.zero_le _⟩ rfl rfl rfl rfl (by decide) (by decide) (by decide) (Nat.le_of_ble_eq_true rfl) rfl dX8_say_50 (fun u14 H15 locs15 hw14 (hP15 : va_P G.1 vwCl ([oPe pe lc ls ls lc dr p, oLa lc b, oMs dr da, aI G da 9 f, oRo rh w rp, aM G w 8 (krow q), oMs (q 0) (d 0), aI G (d 0) 9 (M 0), oMs (q 1) (d 1), aI G (d 1) 9 (M 1), oMs (q 2) (d 2), aI G (d 2) 9 (M 2), oMs (q 3) (d 3), aI G (d 3) 9 (M 3), oMs (q 4) (d 4), aI G (d 4) 9 (M 4), oMs (q 5) (d 5), aI G (d 5) 9 (M 5), oMs (q 6) (d 6), aI G (d 6) 9 (M 6), oMs (q 7) (d 7), aI G (d 7) 9 (M 7), oSe se pe ta sn sb s, oTo h cl se rh rs ar co cz tx nw]) H15) (hD15 : va_D A ([oPe pe lc ls ls lc dr p, oLa lc b, oMs dr da, aI G da 9 f, oRo rh w rp, aM G w 8 (krow q), oMs (q 0) (d 0), aI G (d 0) 9 (M 0), oMs (q 1) (d 1), aI G (d 1) 9 (M 1), oMs (q 2) (d 2), aI G (d 2) 9 (M 2), oMs (q 3) (d 3), aI G (d 3) 9 (M 3), oMs (q 4) (d 4), aI G (d 4) 9 (M 4), oMs (q 5) (d 5), aI G (d 5) 9 (M 5), oMs (q 6) (d 6), aI G (d 6) 9 (M 6), oMs (q 7) (d 7), aI G (d 7) 9 (M 7), oSe se pe ta sn sb s, oTo h cl se rh rs ar co cz tx nw])) hS15 => ?_)
          clear hP13 hD13 hS13
          refine kVi (wr := [oSe se pe ta sn sb s, oTo h cl se rh rs ar co cz tx nw]) F hK hP15 hD15 hS15 hA hl0.1 (c_X3_sendLetter l G pe lc ls ls lc dr p b da f rh w q d rp M L v hL hL8) [0, 1, 2, 3, 4, 5, 6, 7, 8, 9, 10, 11, 12, 13, 14, 15, 16, 17, 18, 19, 20, 21] [22, 23] 3 0 gX8_say_X3_sendLetter rfl 2 rfl (by decide +kernel) ⟨Nat.le_of_ble_eq_true rfl, Nat.le_of_ble_eq_true rfl⟩ ⟨Nat.zero_le _, Nat.zero_le _⟩ rfl rfl rfl rfl (by decide) (by decide) (by decide) (Nat.le_of_ble_eq_true rfl) rfl dX8_say_53 (fun r16 u16 H17 locs17 hw16 hP17 hD17 hS17 => ?_)
          obtain ⟨b_16, f_16, rp_16, M_16⟩ := u16
          have hP17 : va_P G.1 vwCl ([oSe se pe ta sn sb s, oTo h cl se rh rs ar co cz tx nw, oPe pe lc ls ls lc dr p, oLa lc b_16, oMs dr da, aI G da 9 f_16, oRo rh w rp_16, aM G w 8 (krow q), oMs (q 0) (d 0), aI G (d 0) 9 (M_16 0), oMs (q 1) (d 1), aI G (d 1) 9 (M_16 1), oMs (q 2) (d 2), aI G (d 2) 9 (M_16 2), oMs (q 3) (d 3), aI G (d 3) 9 (M_16 3), oMs (q 4) (d 4), aI G (d 4) 9 (M_16 4), oMs (q 5) (d 5), aI G (d 5) 9 (M_16 5), oMs (q 6) (d 6), aI G (d 6) 9 (M_16 6), oMs (q 7) (d 7), aI G (d 7) 9 (M_16 7)]) H17 := hP17
          have hD17 : va_D A ([oSe se pe ta sn sb s, oTo h cl se rh rs ar co cz tx nw, oPe pe lc ls ls lc dr p, oLa lc b_16, oMs dr da, aI G da 9 f_16, oRo rh w rp_16, aM G w 8 (krow q), oMs (q 0) (d 0), aI G (d 0) 9 (M_16 0), oMs (q 1) (d 1), aI G (d 1) 9 (M_16 1), oMs (q 2) (d 2), aI G (d 2) 9 (M_16 2), oMs (q 3) (d 3), aI G (d 3) 9 (M_16 3), oMs (q 4) (d 4), aI G (d 4) 9 (M_16 4), oMs (q 5) (d 5), aI G (d 5) 9 (M_16 5), oMs (q 6) (d 6), aI G (d 6) 9 (M_16 6), oMs (q 7) (d 7), aI G (d 7) 9 (M_16 7)]) := hD17
          clear hP15 hD15 hS15
          have w16_0 : r16 = kveil b (p 10) v := hw16.1
          have w16_1 : b_16 = upd b 2 (b 2 + 1) := hw16.2.1
          have w16_2 : f_16 = klet p b f v := hw16.2.2.1
          have w16_3 : rp_16 = ksendP L rp := hw16.2.2.2.1
          have w16_4 : M_16 = ksendM L M (klet p b f v) := hw16.2.2.2.2
          have q18 : (r16 = (ksay L p b f rp M v).1) ∧ (b_16 = (ksay L p b f rp M v).2.1) ∧ (f_16 = (ksay L p b f rp M v).2.2.1) ∧ (rp_16 = (ksay L p b f rp M v).2.2.2.1) ∧ (M_16 = (ksay L p b f rp M v).2.2.2.2) := by
            subst w16_4
            subst w16_3
            subst w16_2
            subst w16_1
            subst w16_0
            first | (simp only [ksay, c3, c4, eq_true c6, eq_true c9, eq_self, ↓reduceIte, and_self, and_true, true_and]; done) | (simp only [ksay, c3, c4, eq_true c6, eq_true c9, eq_self, ↓reduceIte, and_self, and_true, true_and]; (try and_intros) <;> rfl)
          exact kRi F hr hlocks hS17 dX8_say_56 ⟨b_16, f_16, rp_16, M_16⟩ q18 (hP17.sub [1, 0, 2, 3, 4, 5, 6, 7, 8, 9, 10, 11, 12, 13, 14, 15, 16, 17, 18, 19, 20, 21, 22, 23] rfl) (hD17.sub [1, 0, 2, 3, 4, 5, 6, 7, 8, 9, 10, 11, 12, 13, 14, 15, 16, 17, 18, 19, 20, 21, 22, 23] (by decide) rfl)
        · refine lv_bipush (v := (-4)) hx hb dX8_say_36 (by decide) ?_
          have q19 : ((-4) = (ksay L p b f rp M v).1) ∧ (b = (ksay L p b f rp M v).2.1) ∧ (f = (ksay L p b f rp M v).2.2.1) ∧ (rp = (ksay L p b f rp M v).2.2.2.1) ∧ (M = (ksay L p b f rp M v).2.2.2.2) := by
            first | (simp only [ksay, c3, c4, eq_true c6, c9, eq_self, ↓reduceIte, and_self, and_true, true_and]; done) | (simp only [ksay, c3, c4, eq_true c6, c9, eq_self, ↓reduceIte, and_self, and_true, true_and]; (try and_intros) <;> rfl)
          exact kRi F hr hlocks hS8 dX8_say_38 ⟨b, f, rp, M⟩ q19 (hP8.sub [22, 23, 0, 1, 2, 3, 4, 5, 6, 7, 8, 9, 10, 11, 12, 13, 14, 15, 16, 17, 18, 19, 20, 21] rfl) (hD8.sub [22, 23, 0, 1, 2, 3, 4, 5, 6, 7, 8, 9, 10, 11, 12, 13, 14, 15, 16, 17, 18, 19, 20, 21] (by decide) rfl)
      · refine lv_bipush (v := (-3)) hx hb dX8_say_21 (by decide) ?_
        have q20 : ((-3) = (ksay L p b f rp M v).1) ∧ (b = (ksay L p b f rp M v).2.1) ∧ (f = (ksay L p b f rp M v).2.2.1) ∧ (rp = (ksay L p b f rp M v).2.2.2.1) ∧ (M = (ksay L p b f rp M v).2.2.2.2) := by
          first | (simp only [ksay, c3, c4, c6, eq_self, ↓reduceIte, and_self, and_true, true_and]; done) | (simp only [ksay, c3, c4, c6, eq_self, ↓reduceIte, and_self, and_true, true_and]; (try and_intros) <;> rfl)
        exact kRi F hr hlocks hS2 dX8_say_23 ⟨b, f, rp, M⟩ q20 hP2 hD2
  · exact absurd c3 (by decide)
set_option maxHeartbeats 1000000 in
set_option maxRecDepth 100000 in
theorem c_X8_update1 (l : Launch) (G : kG) (h : Nat) (cl : Nat) (se : Nat) (rs : Nat) (ar : Nat) (co : Nat) (cz : Nat) (tx : Nat) (nw : Nat → Int32) (pe : Nat) (ta : Nat) (sn : Nat) (sb : Nat) (s : Nat → Int32) (lc : Nat) (ls : Nat) (dr : Nat) (p : Nat → Int32) (b : Nat → Int32) (da : Nat) (f : Nat → Int32) (rh : Nat) (w : Nat) (q : Nat → Nat) (d : Nat → Nat) (rp : Nat → Int32) (M : Nat → Nat → Int32) (L : Nat) (hL : rp 1 = nI L) (hL8 : L ≤ 8) : kM G l yX8_update wsX8_update ({ frames := 4, cells := 0, slots := 0, locals := 86 }) [.ref h, .int 1] ([oTo h cl se rh rs ar co cz tx nw, oSe se pe ta sn sb s, oPe pe lc ls ls lc dr p, oLa lc b, oMs dr da, aI G da 9 f, oRo rh w rp, aM G w 8 (krow q), oMs (q 0) (d 0), aI G (d 0) 9 (M 0), oMs (q 1) (d 1), aI G (d 1) 9 (M 1), oMs (q 2) (d 2), aI G (d 2) 9 (M 2), oMs (q 3) (d 3), aI G (d 3) 9 (M 3), oMs (q 4) (d 4), aI G (d 4) 9 (M 4), oMs (q 5) (d 5), aI G (d 5) 9 (M 5), oMs (q 6) (d 6), aI G (d 6) 9 (M 6), oMs (q 7) (d 7), aI G (d 7) 9 (M 7)]) (kQi G (fun (rr : Int32) (uu : (Nat → Int32) × (Nat → Int32) × (Nat → Int32) × (Nat → Nat → Int32)) => (rr = (kupdate L p b f rp M).1) ∧ (uu.1 = (kupdate L p b f rp M).2.1) ∧ (uu.2.1 = (kupdate L p b f rp M).2.2.1) ∧ (uu.2.2.1 = (kupdate L p b f rp M).2.2.2.1) ∧ (uu.2.2.2 = (kupdate L p b f rp M).2.2.2.2)) (fun (uu : (Nat → Int32) × (Nat → Int32) × (Nat → Int32) × (Nat → Nat → Int32)) => [oTo h cl se rh rs ar co cz tx nw, oSe se pe ta sn sb s, oPe pe lc ls ls lc dr p, oLa lc uu.1, oMs dr da, aI G da 9 uu.2.1, oRo rh w uu.2.2.1, aM G w 8 (krow q), oMs (q 0) (d 0), aI G (d 0) 9 (uu.2.2.2 0), oMs (q 1) (d 1), aI G (d 1) 9 (uu.2.2.2 1), oMs (q 2) (d 2), aI G (d 2) 9 (uu.2.2.2 2), oMs (q 3) (d 3), aI G (d 3) 9 (uu.2.2.2 3), oMs (q 4) (d 4), aI G (d 4) 9 (uu.2.2.2 4), oMs (q 5) (d 5), aI G (d 5) 9 (uu.2.2.2 5), oMs (q 6) (d 6), aI G (d 6) 9 (uu.2.2.2 6), oMs (q 7) (d 7), aI G (d 7) 9 (uu.2.2.2 7)])) := by
  refine kStart (cc := cX8_update) (maxL := 2) (ret := (some .int)) (by decide) rfl (Nat.le_of_ble_eq_true rfl) (fun pg ev st mi bl mt cd A ls0 F hr hlocks hin hK hP0 hD0 hA hS0 hl0 => ?_)
  obtain ⟨hx, hb, hml, hown, hts⟩ := id F
  have hl0 : lv_has ls0 2 [(0, .ref h), (1, .int 1)] := hl0
  have iX3 : ∀ w ∈ u_ws RX3 TX3 18, w ∈ wsX8_update := fun w h => List.mem_cons_of_mem _ (List.mem_append_left _ (List.mem_append_left _ (List.mem_append_left _ (List.mem_append_left _ (List.mem_append_left _ (List.mem_append_left _ (List.mem_append_right _ h)))))))
  refine lv_iload_n hx hb dX8_update_0 rfl (lv_at hl0 1 rfl) ?_
  refine kPSi F hK hP0 hD0 hS0 hA hl0.1 (c_X8_isSide l G 1) (fun _ => rfl) gX8_update_X8_isSide rfl 1 rfl (by decide +kernel) ⟨Nat.le_of_ble_eq_true rfl, Nat.le_of_ble_eq_true rfl⟩ ⟨Nat.zero_le _, Nat.zero_le _⟩ (Nat.le_of_ble_eq_true rfl) rfl dX8_update_1 (fun r1 u1 H2 locs2 hw1 (hP2 : va_P G.1 vwCl ([oTo h cl se rh rs ar co cz tx nw, oSe se pe ta sn sb s, oPe pe lc ls ls lc dr p, oLa lc b, oMs dr da, aI G da 9 f, oRo rh w rp, aM G w 8 (krow q), oMs (q 0) (d 0), aI G (d 0) 9 (M 0), oMs (q 1) (d 1), aI G (d 1) 9 (M 1), oMs (q 2) (d 2), aI G (d 2) 9 (M 2), oMs (q 3) (d 3), aI G (d 3) 9 (M 3), oMs (q 4) (d 4), aI G (d 4) 9 (M 4), oMs (q 5) (d 5), aI G (d 5) 9 (M 5), oMs (q 6) (d 6), aI G (d 6) 9 (M 6), oMs (q 7) (d 7), aI G (d 7) 9 (M 7)]) H2) (hD2 : va_D A ([oTo h cl se rh rs ar co cz tx nw, oSe se pe ta sn sb s, oPe pe lc ls ls lc dr p, oLa lc b, oMs dr da, aI G da 9 f, oRo rh w rp, aM G w 8 (krow q), oMs (q 0) (d 0), aI G (d 0) 9 (M 0), oMs (q 1) (d 1), aI G (d 1) 9 (M 1), oMs (q 2) (d 2), aI G (d 2) 9 (M 2), oMs (q 3) (d 3), aI G (d 3) 9 (M 3), oMs (q 4) (d 4), aI G (d 4) 9 (M 4), oMs (q 5) (d 5), aI G (d 5) 9 (M 5), oMs (q 6) (d 6), aI G (d 6) 9 (M 6), oMs (q 7) (d 7), aI G (d 7) 9 (M 7)])) hS2 => ?_)
  clear hP0 hD0 hS0
  have w1_0 : r1 = kside 1 := hw1
  have g1 : r1 = 1 := w1_0.trans (by decide)
  clear w1_0
  subst g1
  refine lv_if_ne (tgt := 10) hx hb dX8_update_4 (by decide) (fun c3 => ?_) (fun c3 => ?_)
  · refine lv_aload_n hx hb dX8_update_10 rfl (lv_at hl0 0 rfl) ?_
    refine lv_iload_n hx hb dX8_update_11 rfl (lv_at hl0 1 rfl) ?_
    refine kVr (wr := [oPe pe lc ls ls lc dr p, oLa lc b, oMs dr da, aI G da 9 f, oRo rh w rp, aM G w 8 (krow q), oMs (q 0) (d 0), aI G (d 0) 9 (M 0), oMs (q 1) (d 1), aI G (d 1) 9 (M 1), oMs (q 2) (d 2), aI G (d 2) 9 (M 2), oMs (q 3) (d 3), aI G (d 3) 9 (M 3), oMs (q 4) (d 4), aI G (d 4) 9 (M 4), oMs (q 5) (d 5), aI G (d 5) 9 (M 5), oMs (q 6) (d 6), aI G (d 6) 9 (M 6), oMs (q 7) (d 7), aI G (d 7) 9 (M 7)]) F hK hP2 hD2 hS2 hA hl0.1 (c_X8_peerOf1 l G h cl se rh rs ar co cz tx nw pe ta sn sb s) [0, 1] [2, 3, 4, 5, 6, 7, 8, 9, 10, 11, 12, 13, 14, 15, 16, 17, 18, 19, 20, 21, 22, 23] 8 0 gX8_update_X8_peerOf rfl 1 rfl (by decide +kernel) ⟨Nat.le_of_ble_eq_true rfl, Nat.le_of_ble_eq_true rfl⟩ ⟨Nat.zero_le _, Nat.zero_le _⟩ rfl rfl rfl rfl (by decide) (by decide) (by decide) (Nat.le_of_ble_eq_true rfl) rfl dX8_update_12 (fun u4 H5 locs5 hw4 (hP5 : va_P G.1 vwCl ([oPe pe lc ls ls lc dr p, oLa lc b, oMs dr da, aI G da 9 f, oRo rh w rp, aM G w 8 (krow q), oMs (q 0) (d 0), aI G (d 0) 9 (M 0), oMs (q 1) (d 1), aI G (d 1) 9 (M 1), oMs (q 2) (d 2), aI G (d 2) 9 (M 2), oMs (q 3) (d 3), aI G (d 3) 9 (M 3), oMs (q 4) (d 4), aI G (d 4) 9 (M 4), oMs (q 5) (d 5), aI G (d 5) 9 (M 5), oMs (q 6) (d 6), aI G (d 6) 9 (M 6), oMs (q 7) (d 7), aI G (d 7) 9 (M 7), oTo h cl se rh rs ar co cz tx nw, oSe se pe ta sn sb s]) H5) (hD5 : va_D A ([oPe pe lc ls ls lc dr p, oLa lc b, oMs dr da, aI G da 9 f, oRo rh w rp, aM G w 8 (krow q), oMs (q 0) (d 0), aI G (d 0) 9 (M 0), oMs (q 1) (d 1), aI G (d 1) 9 (M 1), oMs (q 2) (d 2), aI G (d 2) 9 (M 2), oMs (q 3) (d 3), aI G (d 3) 9 (M 3), oMs (q 4) (d 4), aI G (d 4) 9 (M 4), oMs (q 5) (d 5), aI G (d 5) 9 (M 5), oMs (q 6) (d 6), aI G (d 6) 9 (M 6), oMs (q 7) (d 7), aI G (d 7) 9 (M 7), oTo h cl se rh rs ar co cz tx nw, oSe se pe ta sn sb s])) hS5 => ?_)
    clear hP2 hD2 hS2
    refine kget F hK hP5 3 0 3 iX3 rfl rfl (by decide) (List.mem_of_getElem? (i := 1) rfl) rfl dX8_update_15 ?_
    refine lv_iconst (v := 4) hx hb dX8_update_18 (by decide) ?_
    refine lv_icmp_eq (tgt := 25) hx hb dX8_update_19 (by decide) (fun c6 => ?_) (fun c6 => ?_)
    · refine lv_aload_n hx hb dX8_update_25 rfl (lv_at hl0 0 rfl) ?_
      refine lv_iload_n hx hb dX8_update_26 rfl (lv_at hl0 1 rfl) ?_
      refine kVr (wr := [oPe pe lc ls ls lc dr p, oLa lc b, oMs dr da, aI G da 9 f, oRo rh w rp, aM G w 8 (krow q), oMs (q 0) (d 0), aI G (d 0) 9 (M 0), oMs (q 1) (d 1), aI G (d 1) 9 (M 1), oMs (q 2) (d 2), aI G (d 2) 9 (M 2), oMs (q 3) (d 3), aI G (d 3) 9 (M 3), oMs (q 4) (d 4), aI G (d 4) 9 (M 4), oMs (q 5) (d 5), aI G (d 5) 9 (M 5), oMs (q 6) (d 6), aI G (d 6) 9 (M 6), oMs (q 7) (d 7), aI G (d 7) 9 (M 7)]) F hK hP5 hD5 hS5 hA hl0.1 (c_X8_peerOf1 l G h cl se rh rs ar co cz tx nw pe ta sn sb s) [22, 23] [0, 1, 2, 3, 4, 5, 6, 7, 8, 9, 10, 11, 12, 13, 14, 15, 16, 17, 18, 19, 20, 21] 8 0 gX8_update_X8_peerOf rfl 1 rfl (by decide +kernel) ⟨Nat.le_of_ble_eq_true rfl, Nat.le_of_ble_eq_true rfl⟩ ⟨Nat.zero_le _, Nat.zero_le _⟩ rfl rfl rfl rfl (by decide) (by decide) (by decide) (Nat.le_of_ble_eq_true rfl) rfl dX8_update_27 (fun u7 H8 locs8 hw7 (hP8 : va_P G.1 vwCl ([oPe pe lc ls ls lc dr p, oLa lc b, oMs dr da, aI G da 9 f, oRo rh w rp, aM G w 8 (krow q), oMs (q 0) (d 0), aI G (d 0) 9 (M 0), oMs (q 1) (d 1), aI G (d 1) 9 (M 1), oMs (q 2) (d 2), aI G (d 2) 9 (M 2), oMs (q 3) (d 3), aI G (d 3) 9 (M 3), oMs (q 4) (d 4), aI G (d 4) 9 (M 4), oMs (q 5) (d 5), aI G (d 5) 9 (M 5), oMs (q 6) (d 6), aI G (d 6) 9 (M 6), oMs (q 7) (d 7), aI G (d 7) 9 (M 7), oTo h cl se rh rs ar co cz tx nw, oSe se pe ta sn sb s]) H8) (hD8 : va_D A ([oPe pe lc ls ls lc dr p, oLa lc b, oMs dr da, aI G da 9 f, oRo rh w rp, aM G w 8 (krow q), oMs (q 0) (d 0), aI G (d 0) 9 (M 0), oMs (q 1) (d 1), aI G (d 1) 9 (M 1), oMs (q 2) (d 2), aI G (d 2) 9 (M 2), oMs (q 3) (d 3), aI G (d 3) 9 (M 3), oMs (q 4) (d 4), aI G (d 4) 9 (M 4), oMs (q 5) (d 5), aI G (d 5) 9 (M 5), oMs (q 6) (d 6), aI G (d 6) 9 (M 6), oMs (q 7) (d 7), aI G (d 7) 9 (M 7), oTo h cl se rh rs ar co cz tx nw, oSe se pe ta sn sb s])) hS8 => ?_)
      clear hP5 hD5 hS5
      refine lv_aload_n hx hb dX8_update_30 rfl (lv_at hl0 0 rfl) ?_
      refine lv_iload_n hx hb dX8_update_31 rfl (lv_at hl0 1 rfl) ?_
      refine kPSi F hK hP8 hD8 hS8 hA hl0.1 (c_X8_otherThan l G 1) (fun _ => rfl) gX8_update_X8_otherThan rfl 1 rfl (by decide +kernel) ⟨Nat.le_of_ble_eq_true rfl, Nat.le_of_ble_eq_true rfl⟩ ⟨Nat.zero_le _, Nat.zero_le _⟩ (Nat.le_of_ble_eq_true rfl) rfl dX8_update_32 (fun r9 u9 H10 locs10 hw9 (hP10 : va_P G.1 vwCl ([oPe pe lc ls ls lc dr p, oLa lc b, oMs dr da, aI G da 9 f, oRo rh w rp, aM G w 8 (krow q), oMs (q 0) (d 0), aI G (d 0) 9 (M 0), oMs (q 1) (d 1), aI G (d 1) 9 (M 1), oMs (q 2) (d 2), aI G (d 2) 9 (M 2), oMs (q 3) (d 3), aI G (d 3) 9 (M 3), oMs (q 4) (d 4), aI G (d 4) 9 (M 4), oMs (q 5) (d 5), aI G (d 5) 9 (M 5), oMs (q 6) (d 6), aI G (d 6) 9 (M 6), oMs (q 7) (d 7), aI G (d 7) 9 (M 7), oTo h cl se rh rs ar co cz tx nw, oSe se pe ta sn sb s]) H10) (hD10 : va_D A ([oPe pe lc ls ls lc dr p, oLa lc b, oMs dr da, aI G da 9 f, oRo rh w rp, aM G w 8 (krow q), oMs (q 0) (d 0), aI G (d 0) 9 (M 0), oMs (q 1) (d 1), aI G (d 1) 9 (M 1), oMs (q 2) (d 2), aI G (d 2) 9 (M 2), oMs (q 3) (d 3), aI G (d 3) 9 (M 3), oMs (q 4) (d 4), aI G (d 4) 9 (M 4), oMs (q 5) (d 5), aI G (d 5) 9 (M 5), oMs (q 6) (d 6), aI G (d 6) 9 (M 6), oMs (q 7) (d 7), aI G (d 7) 9 (M 7), oTo h cl se rh rs ar co cz tx nw, oSe se pe ta sn sb s])) hS10 => ?_)
      clear hP8 hD8 hS8
      have w9_0 : r9 = kother 1 := hw9
      have g9 : r9 = 0 := w9_0.trans (by decide)
      clear w9_0
      subst g9
      refine kVr (wr := [oPe pe lc ls ls lc dr p, oLa lc b, oMs dr da, aI G da 9 f, oRo rh w rp, aM G w 8 (krow q), oMs (q 0) (d 0), aI G (d 0) 9 (M 0), oMs (q 1) (d 1), aI G (d 1) 9 (M 1), oMs (q 2) (d 2), aI G (d 2) 9 (M 2), oMs (q 3) (d 3), aI G (d 3) 9 (M 3), oMs (q 4) (d 4), aI G (d 4) 9 (M 4), oMs (q 5) (d 5), aI G (d 5) 9 (M 5), oMs (q 6) (d 6), aI G (d 6) 9 (M 6), oMs (q 7) (d 7), aI G (d 7) 9 (M 7), oSe se pe ta sn sb s]) F hK hP10 hD10 hS10 hA hl0.1 (c_X8_roadTo0 l G h cl se rh rs ar co cz tx nw) [22] [0, 1, 2, 3, 4, 5, 6, 7, 8, 9, 10, 11, 12, 13, 14, 15, 16, 17, 18, 19, 20, 21, 23] 8 0 gX8_update_X8_roadTo rfl 1 rfl (by decide +kernel) ⟨Nat.le_of_ble_eq_true rfl, Nat.le_of_ble_eq_true rfl⟩ ⟨Nat.zero_le _, Nat.zero_le _⟩ rfl rfl rfl rfl (by decide) (by decide) (by decide) (Nat.le_of_ble_eq_true rfl) rfl dX8_update_35 (fun u11 H12 locs12 hw11 (hP12 : va_P G.1 vwCl ([oPe pe lc ls ls lc dr p, oLa lc b, oMs dr da, aI G da 9 f, oRo rh w rp, aM G w 8 (krow q), oMs (q 0) (d 0), aI G (d 0) 9 (M 0), oMs (q 1) (d 1), aI G (d 1) 9 (M 1), oMs (q 2) (d 2), aI G (d 2) 9 (M 2), oMs (q 3) (d 3), aI G (d 3) 9 (M 3), oMs (q 4) (d 4), aI G (d 4) 9 (M 4), oMs (q 5) (d 5), aI G (d 5) 9 (M 5), oMs (q 6) (d 6), aI G (d 6) 9 (M 6), oMs (q 7) (d 7), aI G (d 7) 9 (M 7), oSe se pe ta sn sb s, oTo h cl se rh rs ar co cz tx nw]) H12) (hD12 : va_D A ([oPe pe lc ls ls lc dr p, oLa lc b, oMs dr da, aI G da 9 f, oRo rh w rp, aM G w 8 (krow q), oMs (q 0) (d 0), aI G (d 0) 9 (M 0), oMs (q 1) (d 1), aI G (d 1) 9 (M 1), oMs (q 2) (d 2), aI G (d 2) 9 (M 2), oMs (q 3) (d 3), aI G (d 3) 9 (M 3), oMs (q 4) (d 4), aI G (d 4) 9 (M 4), oMs (q 5) (d 5), aI G (d 5) 9 (M 5), oMs (q 6) (d 6), aI G (d 6) 9 (M 6), oMs (q 7) (d 7), aI G (d 7) 9 (M 7), oSe se pe ta sn sb s, oTo h cl se rh rs ar co cz tx nw])) hS12 => ?_)
      clear hP10 hD10 hS10
      refine kVi (wr := [oSe se pe ta sn sb s, oTo h cl se rh rs ar co cz tx nw]) F hK hP12 hD12 hS12 hA hl0.1 (c_X3_sendUpdate l G pe lc ls ls lc dr p b da f rh w q d rp M L hL hL8) [0, 1, 2, 3, 4, 5, 6, 7, 8, 9, 10, 11, 12, 13, 14, 15, 16, 17, 18, 19, 20, 21] [22, 23] 3 0 gX8_update_X3_sendUpdate rfl 1 rfl (by decide +kernel) ⟨Nat.le_of_ble_eq_true rfl, Nat.le_of_ble_eq_true rfl⟩ ⟨Nat.zero_le _, Nat.zero_le _⟩ rfl rfl rfl rfl (by decide) (by decide) (by decide) (Nat.le_of_ble_eq_true rfl) rfl dX8_update_38 (fun r13 u13 H14 locs14 hw13 hP14 hD14 hS14 => ?_)
      obtain ⟨b_13, f_13, rp_13, M_13⟩ := u13
      have hP14 : va_P G.1 vwCl ([oSe se pe ta sn sb s, oTo h cl se rh rs ar co cz tx nw, oPe pe lc ls ls lc dr p, oLa lc b_13, oMs dr da, aI G da 9 f_13, oRo rh w rp_13, aM G w 8 (krow q), oMs (q 0) (d 0), aI G (d 0) 9 (M_13 0), oMs (q 1) (d 1), aI G (d 1) 9 (M_13 1), oMs (q 2) (d 2), aI G (d 2) 9 (M_13 2), oMs (q 3) (d 3), aI G (d 3) 9 (M_13 3), oMs (q 4) (d 4), aI G (d 4) 9 (M_13 4), oMs (q 5) (d 5), aI G (d 5) 9 (M_13 5), oMs (q 6) (d 6), aI G (d 6) 9 (M_13 6), oMs (q 7) (d 7), aI G (d 7) 9 (M_13 7)]) H14 := hP14
      have hD14 : va_D A ([oSe se pe ta sn sb s, oTo h cl se rh rs ar co cz tx nw, oPe pe lc ls ls lc dr p, oLa lc b_13, oMs dr da, aI G da 9 f_13, oRo rh w rp_13, aM G w 8 (krow q), oMs (q 0) (d 0), aI G (d 0) 9 (M_13 0), oMs (q 1) (d 1), aI G (d 1) 9 (M_13 1), oMs (q 2) (d 2), aI G (d 2) 9 (M_13 2), oMs (q 3) (d 3), aI G (d 3) 9 (M_13 3), oMs (q 4) (d 4), aI G (d 4) 9 (M_13 4), oMs (q 5) (d 5), aI G (d 5) 9 (M_13 5), oMs (q 6) (d 6), aI G (d 6) 9 (M_13 6), oMs (q 7) (d 7), aI G (d 7) 9 (M_13 7)]) := hD14
      clear hP12 hD12 hS12
      have w13_0 : r13 = b 1 + 1 := hw13.1
      have w13_1 : b_13 = upd (upd b 1 (b 1 + 1)) 2 (b 2 + 1) := hw13.2.1
      have w13_2 : f_13 = kupm p b f := hw13.2.2.1
      have w13_3 : rp_13 = ksendP L rp := hw13.2.2.2.1
      have w13_4 : M_13 = ksendM L M (kupm p b f) := hw13.2.2.2.2
      have q15 : (r13 = (kupdate L p b f rp M).1) ∧ (b_13 = (kupdate L p b f rp M).2.1) ∧ (f_13 = (kupdate L p b f rp M).2.2.1) ∧ (rp_13 = (kupdate L p b f rp M).2.2.2.1) ∧ (M_13 = (kupdate L p b f rp M).2.2.2.2) := by
        subst w13_4
        subst w13_3
        subst w13_2
        subst w13_1
        subst w13_0
        first | (simp only [kupdate, c3, eq_true c6, eq_self, ↓reduceIte, and_self, and_true, true_and]; done) | (simp only [kupdate, c3, eq_true c6, eq_self, ↓reduceIte, and_self, and_true, true_and]; (try and_intros) <;> rfl)
      exact kRi F hr hlocks hS14 dX8_update_41 ⟨b_13, f_13, rp_13, M_13⟩ q15 (hP14.sub [1, 0, 2, 3, 4, 5, 6, 7, 8, 9, 10, 11, 12, 13, 14, 15, 16, 17, 18, 19, 20, 21, 22, 23] rfl) (hD14.sub [1, 0, 2, 3, 4, 5, 6, 7, 8, 9, 10, 11, 12, 13, 14, 15, 16, 17, 18, 19, 20, 21, 22, 23] (by decide) rfl)
    · refine lv_bipush (v := (-4)) hx hb dX8_update_22 (by decide) ?_
      have q16 : ((-4) = (kupdate L p b f rp M).1) ∧ (b = (kupdate L p b f rp M).2.1) ∧ (f = (kupdate L p b f rp M).2.2.1) ∧ (rp = (kupdate L p b f rp M).2.2.2.1) ∧ (M = (kupdate L p b f rp M).2.2.2.2) := by
        first | (simp only [kupdate, c3, c6, eq_self, ↓reduceIte, and_self, and_true, true_and]; done) | (simp only [kupdate, c3, c6, eq_self, ↓reduceIte, and_self, and_true, true_and]; (try and_intros) <;> rfl)
      exact kRi F hr hlocks hS5 dX8_update_24 ⟨b, f, rp, M⟩ q16 (hP5.sub [22, 23, 0, 1, 2, 3, 4, 5, 6, 7, 8, 9, 10, 11, 12, 13, 14, 15, 16, 17, 18, 19, 20, 21] rfl) (hD5.sub [22, 23, 0, 1, 2, 3, 4, 5, 6, 7, 8, 9, 10, 11, 12, 13, 14, 15, 16, 17, 18, 19, 20, 21] (by decide) rfl)
  · exact absurd c3 (by decide)
set_option maxHeartbeats 1000000 in
set_option maxRecDepth 100000 in
theorem c_X8_hello (l : Launch) (G : kG) (h : Nat) (cl : Nat) (se : Nat) (rc : Nat) (ar : Nat) (co : Nat) (cz : Nat) (tx : Nat) (nw : Nat → Int32) (pe : Nat) (ti : Nat) (c : Nat → Int32) (lc : Nat) (ls : Nat) (dr : Nat) (da : Nat) (p : Nat → Int32) (t : Nat → Int32) (f : Nat → Int32) (rh : Nat) (w : Nat) (q : Nat → Nat) (d : Nat → Nat) (rp : Nat → Int32) (M : Nat → Nat → Int32) (L : Nat) (hL : rp 1 = nI L) (hL8 : L ≤ 8) (hbo : c 2 = 0 ∨ c 2 = 1) : kM G l yX8_hello wsX8_hello ({ frames := 5, cells := 0, slots := 0, locals := 114 }) [.ref h] ([oTo h cl se rc rh ar co cz tx nw, oCl cl pe ti c, oPe pe lc ls lc ls dr p, oTi ti t, oMs dr da, aI G da 9 f, oRo rh w rp, aM G w 8 (krow q), oMs (q 0) (d 0), aI G (d 0) 9 (M 0), oMs (q 1) (d 1), aI G (d 1) 9 (M 1), oMs (q 2) (d 2), aI G (d 2) 9 (M 2), oMs (q 3) (d 3), aI G (d 3) 9 (M 3), oMs (q 4) (d 4), aI G (d 4) 9 (M 4), oMs (q 5) (d 5), aI G (d 5) 9 (M 5), oMs (q 6) (d 6), aI G (d 6) 9 (M 6), oMs (q 7) (d 7), aI G (d 7) 9 (M 7)]) (kQi G (fun (rr : Int32) (uu : (Nat → Int32) × (Nat → Int32) × (Nat → Int32) × (Nat → Int32) × (Nat → Nat → Int32)) => (rr = (khello L c p t f rp M (nw 8)).1) ∧ (uu.1 = (khello L c p t f rp M (nw 8)).2.1) ∧ (uu.2.1 = (khello L c p t f rp M (nw 8)).2.2.1) ∧ (uu.2.2.1 = (khello L c p t f rp M (nw 8)).2.2.2.1) ∧ (uu.2.2.2.1 = (khello L c p t f rp M (nw 8)).2.2.2.2.1) ∧ (uu.2.2.2.2 = (khello L c p t f rp M (nw 8)).2.2.2.2.2)) (fun (uu : (Nat → Int32) × (Nat → Int32) × (Nat → Int32) × (Nat → Int32) × (Nat → Nat → Int32)) => [oTo h cl se rc rh ar co cz tx nw, oCl cl pe ti uu.1, oPe pe lc ls lc ls dr uu.2.1, oTi ti t, oMs dr da, aI G da 9 uu.2.2.1, oRo rh w uu.2.2.2.1, aM G w 8 (krow q), oMs (q 0) (d 0), aI G (d 0) 9 (uu.2.2.2.2 0), oMs (q 1) (d 1), aI G (d 1) 9 (uu.2.2.2.2 1), oMs (q 2) (d 2), aI G (d 2) 9 (uu.2.2.2.2 2), oMs (q 3) (d 3), aI G (d 3) 9 (uu.2.2.2.2 3), oMs (q 4) (d 4), aI G (d 4) 9 (uu.2.2.2.2 4), oMs (q 5) (d 5), aI G (d 5) 9 (uu.2.2.2.2 5), oMs (q 6) (d 6), aI G (d 6) 9 (uu.2.2.2.2 6), oMs (q 7) (d 7), aI G (d 7) 9 (uu.2.2.2.2 7)])) := by
  refine kStart (cc := cX8_hello) (maxL := 1) (ret := (some .int)) (by decide) rfl (Nat.le_of_ble_eq_true rfl) (fun pg ev st mi bl mt cd A ls0 F hr hlocks hin hK hP0 hD0 hA hS0 hl0 => ?_)
  obtain ⟨hx, hb, hml, hown, hts⟩ := id F
  have hl0 : lv_has ls0 1 [(0, .ref h)] := hl0
  have iX0 : ∀ w ∈ u_ws RX0 TX0 9, w ∈ wsX8_hello := fun w h => List.mem_cons_of_mem _ (List.mem_append_left _ (List.mem_append_left _ (List.mem_append_left _ (List.mem_append_left _ (List.mem_append_right _ h)))))
  have iX3 : ∀ w ∈ u_ws RX3 TX3 18, w ∈ wsX8_hello := fun w h => List.mem_cons_of_mem _ (List.mem_append_left _ (List.mem_append_left _ (List.mem_append_left _ (List.mem_append_right _ h))))
  have iX4 : ∀ w ∈ u_ws RX4 TX4 3, w ∈ wsX8_hello := fun w h => List.mem_cons_of_mem _ (List.mem_append_left _ (List.mem_append_left _ (List.mem_append_right _ h)))
  have iX8 : ∀ w ∈ u_ws RX8 TX8 9, w ∈ wsX8_hello := fun w h => List.mem_cons_of_mem _ (List.mem_append_left _ (List.mem_append_left _ (List.mem_append_left _ (List.mem_append_left _ (List.mem_append_left _ (List.mem_append_right _ h))))))
  refine lv_aload_n hx hb dX8_hello_0 rfl (lv_at hl0 0 rfl) ?_
  refine kget F hK hP0 8 0 0 iX8 rfl rfl (by decide) (List.mem_of_getElem? (i := 1) rfl) rfl dX8_hello_1 ?_
  refine kget F hK hP0 0 1 0 iX0 rfl rfl (by decide) (List.mem_of_getElem? (i := 2) rfl) rfl dX8_hello_4 ?_
  refine kget F hK hP0 3 2 3 iX3 rfl rfl (by decide) (List.mem_of_getElem? (i := 3) rfl) rfl dX8_hello_7 ?_
  refine lv_if_eq (tgt := 16) hx hb dX8_hello_10 (by decide) (fun c1 => ?_) (fun c1 => ?_)
  · refine lv_aload_n hx hb dX8_hello_16 rfl (lv_at hl0 0 rfl) ?_
    refine kget F hK hP0 8 0 0 iX8 rfl rfl (by decide) (List.mem_of_getElem? (i := 1) rfl) rfl dX8_hello_17 ?_
    refine lv_aload_n hx hb dX8_hello_20 rfl (lv_at hl0 0 rfl) ?_
    refine kget F hK hP0 8 0 8 iX8 rfl rfl (by decide) (List.mem_of_getElem? (i := 4) rfl) rfl dX8_hello_21 ?_
    refine lv_aload_n hx hb dX8_hello_24 rfl (lv_at hl0 0 rfl) ?_
    refine kget F hK hP0 8 0 3 iX8 rfl rfl (by decide) (List.mem_of_getElem? (i := 5) rfl) rfl dX8_hello_25 ?_
    refine kVv (wr := [oTo h cl se rc rh ar co cz tx nw]) F hK hP0 hD0 hS0 hA hl0.1 (c_X0_begin l G cl pe ti lc ls lc ls dr da c p t f rh w q d rp M L (nw 8) hL hL8 hbo) [1, 2, 3, 4, 5, 6, 7, 8, 9, 10, 11, 12, 13, 14, 15, 16, 17, 18, 19, 20, 21, 22, 23] [0] 0 0 gX8_hello_X0_begin rfl 2 rfl (by decide +kernel) ⟨Nat.le_of_ble_eq_true rfl, Nat.le_of_ble_eq_true rfl⟩ ⟨Nat.zero_le _, Nat.zero_le _⟩ rfl rfl rfl rfl (by decide) (by decide) (by decide) (Nat.le_of_ble_eq_true rfl) rfl dX8_hello_28 (fun u2 H3 locs3 hw2 hP3 hD3 hS3 => ?_)
    obtain ⟨c_2, p_2, f_2, rp_2, M_2⟩ := u2
    have hP3 : va_P G.1 vwCl ([oTo h cl se rc rh ar co cz tx nw, oCl cl pe ti c_2, oPe pe lc ls lc ls dr p_2, oTi ti t, oMs dr da, aI G da 9 f_2, oRo rh w rp_2, aM G w 8 (krow q), oMs (q 0) (d 0), aI G (d 0) 9 (M_2 0), oMs (q 1) (d 1), aI G (d 1) 9 (M_2 1), oMs (q 2) (d 2), aI G (d 2) 9 (M_2 2), oMs (q 3) (d 3), aI G (d 3) 9 (M_2 3), oMs (q 4) (d 4), aI G (d 4) 9 (M_2 4), oMs (q 5) (d 5), aI G (d 5) 9 (M_2 5), oMs (q 6) (d 6), aI G (d 6) 9 (M_2 6), oMs (q 7) (d 7), aI G (d 7) 9 (M_2 7)]) H3 := hP3
    have hD3 : va_D A ([oTo h cl se rc rh ar co cz tx nw, oCl cl pe ti c_2, oPe pe lc ls lc ls dr p_2, oTi ti t, oMs dr da, aI G da 9 f_2, oRo rh w rp_2, aM G w 8 (krow q), oMs (q 0) (d 0), aI G (d 0) 9 (M_2 0), oMs (q 1) (d 1), aI G (d 1) 9 (M_2 1), oMs (q 2) (d 2), aI G (d 2) 9 (M_2 2), oMs (q 3) (d 3), aI G (d 3) 9 (M_2 3), oMs (q 4) (d 4), aI G (d 4) 9 (M_2 4), oMs (q 5) (d 5), aI G (d 5) 9 (M_2 5), oMs (q 6) (d 6), aI G (d 6) 9 (M_2 6), oMs (q 7) (d 7), aI G (d 7) 9 (M_2 7)]) := hD3
    clear hP0 hD0 hS0
    have w2_0 : c_2 = (kbeginR L c p t f rp M (nw 8)).1 := hw2.1
    have w2_1 : p_2 = (kbeginR L c p t f rp M (nw 8)).2.1 := hw2.2.1
    have w2_2 : f_2 = (kbeginR L c p t f rp M (nw 8)).2.2.1 := hw2.2.2.1
    have w2_3 : rp_2 = (kbeginR L c p t f rp M (nw 8)).2.2.2.1 := hw2.2.2.2.1
    have w2_4 : M_2 = (kbeginR L c p t f rp M (nw 8)).2.2.2.2 := hw2.2.2.2.2
    refine lv_aload_n hx hb dX8_hello_31 rfl (lv_at hl0 0 rfl) ?_
    refine kget F hK hP3 8 0 3 iX8 rfl rfl (by decide) (List.mem_of_getElem? (i := 5) rfl) rfl dX8_hello_32 ?_
    refine kget F hK hP3 4 6 1 iX4 rfl rfl (by decide) (List.mem_of_getElem? (i := 6) rfl) rfl dX8_hello_35 ?_
    have q4 : ((rp_2 1) = (khello L c p t f rp M (nw 8)).1) ∧ (c_2 = (khello L c p t f rp M (nw 8)).2.1) ∧ (p_2 = (khello L c p t f rp M (nw 8)).2.2.1) ∧ (f_2 = (khello L c p t f rp M (nw 8)).2.2.2.1) ∧ (rp_2 = (khello L c p t f rp M (nw 8)).2.2.2.2.1) ∧ (M_2 = (khello L c p t f rp M (nw 8)).2.2.2.2.2) := by
      subst w2_4
      subst w2_3
      subst w2_2
      subst w2_1
      subst w2_0
      first | (simp only [khello, eq_true c1, eq_self, ↓reduceIte, and_self, and_true, true_and]; done) | (simp only [khello, eq_true c1, eq_self, ↓reduceIte, and_self, and_true, true_and]; (try and_intros) <;> rfl)
    exact kRi F hr hlocks hS3 dX8_hello_38 ⟨c_2, p_2, f_2, rp_2, M_2⟩ q4 hP3 hD3
  · refine lv_bipush (v := (-4)) hx hb dX8_hello_13 (by decide) ?_
    have q5 : ((-4) = (khello L c p t f rp M (nw 8)).1) ∧ (c = (khello L c p t f rp M (nw 8)).2.1) ∧ (p = (khello L c p t f rp M (nw 8)).2.2.1) ∧ (f = (khello L c p t f rp M (nw 8)).2.2.2.1) ∧ (rp = (khello L c p t f rp M (nw 8)).2.2.2.2.1) ∧ (M = (khello L c p t f rp M (nw 8)).2.2.2.2.2) := by
      first | (simp only [khello, c1, eq_self, ↓reduceIte, and_self, and_true, true_and]; done) | (simp only [khello, c1, eq_self, ↓reduceIte, and_self, and_true, true_and]; (try and_intros) <;> rfl)
    exact kRi F hr hlocks hS0 dX8_hello_15 ⟨c, p, f, rp, M⟩ q5 hP0 hD0
