set_option maxHeartbeats 1000000 in
set_option maxRecDepth 100000 in
theorem c_X3_rest (l : Launch) (G : kG) (h : Nat) (lc : Nat) (ls : Nat) (li : Nat) (lo : Nat) (dr : Nat) (p : Nat → Int32) : kM G l yX3_rest wsX3_rest ({ frames := 0, cells := 0, slots := 0, locals := 0 }) [.ref h] ([oPe h lc ls li lo dr p]) (kQv G (fun (uu : (Nat → Int32)) => uu = krest p) (fun (uu : (Nat → Int32)) => [oPe h lc ls li lo dr uu])) := by
  refine kStart (cc := cX3_rest) (maxL := 1) (ret := none) (by decide) rfl (Nat.le_of_ble_eq_true rfl) (fun pg ev st mi bl mt cd A ls0 F hr hlocks hin hK hP0 hD0 hA hS0 hl0 => ?_)
  obtain ⟨hx, hb, hml, hown, hts⟩ := id F
  have hl0 : lv_has ls0 1 [(0, .ref h)] := hl0
  have iX3 : ∀ w ∈ u_ws RX3 TX3 18, w ∈ wsX3_rest := fun w h => List.mem_cons_of_mem _ (List.mem_append_right _ h)
  refine lv_aload_n hx hb dX3_rest_0 rfl (lv_at hl0 0 rfl) ?_
  refine lv_iconst (v := 0) hx hb dX3_rest_1 (by decide) ?_
  refine kput F hK hP0 hD0 hS0 (ty0 := tyX3) 3 0 3 iX3 rfl tyX3_ok nmX3 (fun zz => [oPe h lc ls li lo dr zz]) p rfl (by decide) (List.mem_of_getElem? (i := 1) rfl) rfl rfl rfl (Nat.le_of_ble_eq_true rfl) rfl dX3_rest_2 (fun H1 locs1 p1 ep1 (hP1 : va_P G.1 vwCl ([oPe h lc ls li lo dr p1]) H1) (hD1 : va_D A ([oPe h lc ls li lo dr p1])) hS1 => ?_)
  clear hP0 hD0 hS0
  refine lv_aload_n hx hb dX3_rest_5 rfl (lv_at hl0 0 rfl) ?_
  refine lv_iconst (v := 0) hx hb dX3_rest_6 (by decide) ?_
  refine kput F hK hP1 hD1 hS1 (ty0 := tyX3) 3 0 4 iX3 rfl tyX3_ok nmX3 (fun zz => [oPe h lc ls li lo dr zz]) p1 rfl (by decide) (List.mem_of_getElem? (i := 2) rfl) rfl rfl rfl (Nat.le_of_ble_eq_true rfl) rfl dX3_rest_7 (fun H2 locs2 p2 ep2 (hP2 : va_P G.1 vwCl ([oPe h lc ls li lo dr p2]) H2) (hD2 : va_D A ([oPe h lc ls li lo dr p2])) hS2 => ?_)
  clear hP1 hD1 hS1
  refine lv_aload_n hx hb dX3_rest_10 rfl (lv_at hl0 0 rfl) ?_
  refine lv_iconst (v := 1) hx hb dX3_rest_11 (by decide) ?_
  refine kput F hK hP2 hD2 hS2 (ty0 := tyX3) 3 0 5 iX3 rfl tyX3_ok nmX3 (fun zz => [oPe h lc ls li lo dr zz]) p2 rfl (by decide) (List.mem_of_getElem? (i := 3) rfl) rfl rfl rfl (Nat.le_of_ble_eq_true rfl) rfl dX3_rest_12 (fun H3 locs3 p3 ep3 (hP3 : va_P G.1 vwCl ([oPe h lc ls li lo dr p3]) H3) (hD3 : va_D A ([oPe h lc ls li lo dr p3])) hS3 => ?_)
  clear hP2 hD2 hS2
  have q4 : p3 = krest p := by
    subst ep3
    subst ep2
    subst ep1
    first | rfl | (simp only [↓reduceIte]; done) | (simp []; done)
  exact kRv F hr hlocks hS3 dX3_rest_15 p3 q4 hP3 hD3
set_option maxHeartbeats 1000000 in
set_option maxRecDepth 100000 in
theorem c_X3_fail (l : Launch) (G : kG) (h : Nat) (lc : Nat) (ls : Nat) (li : Nat) (lo : Nat) (dr : Nat) (p : Nat → Int32) (v : Int32) : kM G l yX3_fail wsX3_fail ({ frames := 0, cells := 0, slots := 0, locals := 0 }) [.ref h, .int v] ([oPe h lc ls li lo dr p]) (kQv G (fun (uu : (Nat → Int32)) => uu = kfail p v) (fun (uu : (Nat → Int32)) => [oPe h lc ls li lo dr uu])) := by
  refine kStart (cc := cX3_fail) (maxL := 2) (ret := none) (by decide) rfl (Nat.le_of_ble_eq_true rfl) (fun pg ev st mi bl mt cd A ls0 F hr hlocks hin hK hP0 hD0 hA hS0 hl0 => ?_)
  obtain ⟨hx, hb, hml, hown, hts⟩ := id F
  have hl0 : lv_has ls0 2 [(0, .ref h), (1, .int v)] := hl0
  have iX3 : ∀ w ∈ u_ws RX3 TX3 18, w ∈ wsX3_fail := fun w h => List.mem_cons_of_mem _ (List.mem_append_right _ h)
  refine lv_aload_n hx hb dX3_fail_0 rfl (lv_at hl0 0 rfl) ?_
  refine lv_iconst (v := 5) hx hb dX3_fail_1 (by decide) ?_
  refine kput F hK hP0 hD0 hS0 (ty0 := tyX3) 3 0 3 iX3 rfl tyX3_ok nmX3 (fun zz => [oPe h lc ls li lo dr zz]) p rfl (by decide) (List.mem_of_getElem? (i := 1) rfl) rfl rfl rfl (Nat.le_of_ble_eq_true rfl) rfl dX3_fail_2 (fun H1 locs1 p1 ep1 (hP1 : va_P G.1 vwCl ([oPe h lc ls li lo dr p1]) H1) (hD1 : va_D A ([oPe h lc ls li lo dr p1])) hS1 => ?_)
  clear hP0 hD0 hS0
  refine lv_aload_n hx hb dX3_fail_5 rfl (lv_at hl0 0 rfl) ?_
  refine lv_iload_n hx hb dX3_fail_6 rfl (lv_at hl0 1 rfl) ?_
  refine kput F hK hP1 hD1 hS1 (ty0 := tyX3) 3 0 4 iX3 rfl tyX3_ok nmX3 (fun zz => [oPe h lc ls li lo dr zz]) p1 rfl (by decide) (List.mem_of_getElem? (i := 2) rfl) rfl rfl rfl (Nat.le_of_ble_eq_true rfl) rfl dX3_fail_7 (fun H2 locs2 p2 ep2 (hP2 : va_P G.1 vwCl ([oPe h lc ls li lo dr p2]) H2) (hD2 : va_D A ([oPe h lc ls li lo dr p2])) hS2 => ?_)
  clear hP1 hD1 hS1
  have q3 : p2 = kfail p v := by
    subst ep2
    subst ep1
    first | rfl | (simp only [↓reduceIte]; done) | (simp []; done)
  exact kRv F hr hlocks hS2 dX3_fail_10 p2 q3 hP2 hD2
set_option maxHeartbeats 1000000 in
set_option maxRecDepth 100000 in
theorem c_X3_join (l : Launch) (G : kG) (h : Nat) (lc : Nat) (ls : Nat) (li : Nat) (lo : Nat) (dr : Nat) (p : Nat → Int32) (a : Nat → Int32) (b : Nat → Int32) : kM G l yX3_join wsX3_join ({ frames := 1, cells := 0, slots := 0, locals := 22 }) [.ref h] ([oPe h lc ls li lo dr p, oLa lc a, oLa ls b]) (kQv G (fun (uu : (Nat → Int32) × (Nat → Int32) × (Nat → Int32)) => (uu.1 = kjoinP p) ∧ (uu.2.1 = kopen a) ∧ (uu.2.2 = kopen b)) (fun (uu : (Nat → Int32) × (Nat → Int32) × (Nat → Int32)) => [oPe h lc ls li lo dr uu.1, oLa lc uu.2.1, oLa ls uu.2.2])) := by
  refine kStart (cc := cX3_join) (maxL := 1) (ret := none) (by decide) rfl (Nat.le_of_ble_eq_true rfl) (fun pg ev st mi bl mt cd A ls0 F hr hlocks hin hK hP0 hD0 hA hS0 hl0 => ?_)
  obtain ⟨hx, hb, hml, hown, hts⟩ := id F
  have hl0 : lv_has ls0 1 [(0, .ref h)] := hl0
  have iX3 : ∀ w ∈ u_ws RX3 TX3 18, w ∈ wsX3_join := fun w h => List.mem_cons_of_mem _ (List.mem_append_left _ (List.mem_append_right _ h))
  refine lv_aload_n hx hb dX3_join_0 rfl (lv_at hl0 0 rfl) ?_
  refine lv_iconst (v := 4) hx hb dX3_join_1 (by decide) ?_
  refine kput F hK hP0 hD0 hS0 (ty0 := tyX3) 3 0 3 iX3 rfl tyX3_ok nmX3 (fun zz => [oPe h lc ls li lo dr zz, oLa lc a, oLa ls b]) p rfl (by decide) (List.mem_of_getElem? (i := 1) rfl) rfl rfl rfl (Nat.le_of_ble_eq_true rfl) rfl dX3_join_2 (fun H1 locs1 p1 ep1 (hP1 : va_P G.1 vwCl ([oPe h lc ls li lo dr p1, oLa lc a, oLa ls b]) H1) (hD1 : va_D A ([oPe h lc ls li lo dr p1, oLa lc a, oLa ls b])) hS1 => ?_)
  clear hP0 hD0 hS0
  refine lv_aload_n hx hb dX3_join_5 rfl (lv_at hl0 0 rfl) ?_
  refine lv_aload_n hx hb dX3_join_6 rfl (lv_at hl0 0 rfl) ?_
  refine kget F hK hP1 3 0 9 iX3 rfl rfl (by decide) (List.mem_of_getElem? (i := 2) rfl) rfl dX3_join_7 ?_
  refine lv_aload_n hx hb dX3_join_10 rfl (lv_at hl0 0 rfl) ?_
  refine kget F hK hP1 3 0 5 iX3 rfl rfl (by decide) (List.mem_of_getElem? (i := 3) rfl) rfl dX3_join_11 ?_
  refine kPNi F hK hP1 hD1 hS1 hA hl0.1 (c_X8_mix l G (p1 9) (p1 5)) (fun _ => rfl) 2 rfl gX3_join_X8_mix_n58 (List.mem_of_getElem? (i := 7) rfl) (List.mem_of_getElem? (i := 8) rfl) rfl 2 rfl (by decide +kernel) ⟨Nat.le_of_ble_eq_true rfl, Nat.le_of_ble_eq_true rfl⟩ ⟨Nat.zero_le _, Nat.zero_le _⟩ (Nat.le_of_ble_eq_true rfl) rfl dX3_join_14 (fun r2 u2 H3 locs3 hw2 (hP3 : va_P G.1 vwCl ([oPe h lc ls li lo dr p1, oLa lc a, oLa ls b]) H3) (hD3 : va_D A ([oPe h lc ls li lo dr p1, oLa lc a, oLa ls b])) hS3 => ?_)
  clear hP1 hD1 hS1
  have w2_0 : r2 = kmix (p1 9) (p1 5) := hw2
  refine kput F hK hP3 hD3 hS3 (ty0 := tyX3) 3 0 10 iX3 rfl tyX3_ok nmX3 (fun zz => [oPe h lc ls li lo dr zz, oLa lc a, oLa ls b]) p1 rfl (by decide) (List.mem_of_getElem? (i := 4) rfl) rfl rfl rfl (Nat.le_of_ble_eq_true rfl) rfl dX3_join_17 (fun H4 locs4 p4 ep4 (hP4 : va_P G.1 vwCl ([oPe h lc ls li lo dr p4, oLa lc a, oLa ls b]) H4) (hD4 : va_D A ([oPe h lc ls li lo dr p4, oLa lc a, oLa ls b])) hS4 => ?_)
  clear hP3 hD3 hS3
  refine lv_aload_n hx hb dX3_join_20 rfl (lv_at hl0 0 rfl) ?_
  refine kget F hK hP4 3 0 13 iX3 rfl rfl (by decide) (List.mem_of_getElem? (i := 5) rfl) rfl dX3_join_21 ?_
  refine kVv (wr := [oPe h lc ls li lo dr p4, oLa ls b]) F hK hP4 hD4 hS4 hA hl0.1 (c_X1_open l G lc a) [1] [0, 2] 1 0 gX3_join_X1_open rfl 0 rfl (by decide +kernel) ⟨Nat.le_of_ble_eq_true rfl, Nat.le_of_ble_eq_true rfl⟩ ⟨Nat.zero_le _, Nat.zero_le _⟩ rfl rfl rfl rfl (by decide) (by decide) (by decide) (Nat.le_of_ble_eq_true rfl) rfl dX3_join_24 (fun p_5 H6 locs6 hw5 (hP6 : va_P G.1 vwCl ([oPe h lc ls li lo dr p4, oLa ls b, oLa lc p_5]) H6) (hD6 : va_D A ([oPe h lc ls li lo dr p4, oLa ls b, oLa lc p_5])) hS6 => ?_)
  clear hP4 hD4 hS4
  have w5_0 : p_5 = upd (upd a 1 0) 2 0 := hw5
  refine lv_aload_n hx hb dX3_join_27 rfl (lv_at hl0 0 rfl) ?_
  refine kget F hK hP6 3 0 14 iX3 rfl rfl (by decide) (List.mem_of_getElem? (i := 6) rfl) rfl dX3_join_28 ?_
  refine kVv (wr := [oPe h lc ls li lo dr p4, oLa lc p_5]) F hK hP6 hD6 hS6 hA hl0.1 (c_X1_open l G ls b) [1] [0, 2] 1 0 gX3_join_X1_open rfl 0 rfl (by decide +kernel) ⟨Nat.le_of_ble_eq_true rfl, Nat.le_of_ble_eq_true rfl⟩ ⟨Nat.zero_le _, Nat.zero_le _⟩ rfl rfl rfl rfl (by decide) (by decide) (by decide) (Nat.le_of_ble_eq_true rfl) rfl dX3_join_31 (fun p_7 H8 locs8 hw7 (hP8 : va_P G.1 vwCl ([oPe h lc ls li lo dr p4, oLa lc p_5, oLa ls p_7]) H8) (hD8 : va_D A ([oPe h lc ls li lo dr p4, oLa lc p_5, oLa ls p_7])) hS8 => ?_)
  clear hP6 hD6 hS6
  have w7_0 : p_7 = upd (upd b 1 0) 2 0 := hw7
  have q9 : (p4 = kjoinP p) ∧ (p_5 = kopen a) ∧ (p_7 = kopen b) := by
    subst w7_0
    subst w5_0
    subst ep4
    subst w2_0
    subst ep1
    first | (simp only [eq_self, ↓reduceIte, and_self, and_true, true_and]; done) | (simp only [eq_self, ↓reduceIte, and_self, and_true, true_and]; (try and_intros) <;> rfl) | exact ⟨rfl, rfl, rfl⟩
  exact kRv F hr hlocks hS8 dX3_join_34 ⟨p4, p_5, p_7⟩ q9 hP8 hD8
set_option maxHeartbeats 1000000 in
set_option maxRecDepth 100000 in
theorem c_X3_takeIn (l : Launch) (G : kG) (h : Nat) (lc : Nat) (ls : Nat) (li : Nat) (lo : Nat) (dr : Nat) (p : Nat → Int32) (h2 : Nat) (a2 : Nat) (g : Nat → Int32) : kM G l yX3_takeIn wsX3_takeIn ({ frames := 2, cells := 0, slots := 0, locals := 46 }) [.ref h, .ref h2] ([oPe h lc ls li lo dr p, oMs h2 a2, aI G a2 9 g]) (kQv G (fun (uu : (Nat → Int32)) => uu = ktake p g) (fun (uu : (Nat → Int32)) => [oPe h lc ls li lo dr uu, oMs h2 a2, aI G a2 9 g])) := by
  refine kStart (cc := cX3_takeIn) (maxL := 3) (ret := none) (by decide) rfl (Nat.le_of_ble_eq_true rfl) (fun pg ev st mi bl mt cd A ls0 F hr hlocks hin hK hP0 hD0 hA hS0 hl0 => ?_)
  obtain ⟨hx, hb, hml, hown, hts⟩ := id F
  have hl0 : lv_has ls0 3 [(0, .ref h), (1, .ref h2)] := hl0
  have iX3 : ∀ w ∈ u_ws RX3 TX3 18, w ∈ wsX3_takeIn := fun w h => List.mem_cons_of_mem _ (List.mem_append_left _ (List.mem_append_right _ h))
  refine lv_aload_n hx hb dX3_takeIn_0 rfl (lv_at hl0 1 rfl) ?_
  refine lv_iconst (v := 0) hx hb dX3_takeIn_1 (by decide) ?_
  refine kVi (wr := [oPe h lc ls li lo dr p]) F hK hP0 hD0 hS0 hA hl0.1 (c_X2_at l G h2 a2 g 0 (by decide)) [1, 2] [0] 2 0 gX3_takeIn_X2_at rfl 1 rfl (by decide +kernel) ⟨Nat.le_of_ble_eq_true rfl, Nat.le_of_ble_eq_true rfl⟩ ⟨Nat.zero_le _, Nat.zero_le _⟩ rfl rfl rfl rfl (by decide) (by decide) (by decide) (Nat.le_of_ble_eq_true rfl) rfl dX3_takeIn_2 (fun r1 u1 H2 locs2 hw1 (hP2 : va_P G.1 vwCl ([oPe h lc ls li lo dr p, oMs h2 a2, aI G a2 9 g]) H2) (hD2 : va_D A ([oPe h lc ls li lo dr p, oMs h2 a2, aI G a2 9 g])) hS2 => ?_)
  clear hP0 hD0 hS0
  have w1_0 : r1 = g 0 := hw1
  refine lv_iconst (v := 3) hx hb dX3_takeIn_5 (by decide) ?_
  refine lv_icmp_ne (tgt := 13) hx hb dX3_takeIn_6 (by decide) (fun c3 => ?_) (fun c3 => ?_)
  · refine lv_iconst (v := 0) hx hb dX3_takeIn_13 (by decide) ?_
    refine lv_istore_n (lv' := [(2, .int 0), (0, .ref h), (1, .ref h2)]) hx hb dX3_takeIn_14 rfl hl0 (by decide) rfl (fun ls4 hl4 => ?_)
    clear hl0
    refine lv_aload_n hx hb dX3_takeIn_15 rfl (lv_at hl4 1 rfl) ?_
    refine lv_aload_n hx hb dX3_takeIn_16 rfl (lv_at hl4 2 rfl) ?_
    refine lv_aload_n hx hb dX3_takeIn_17 rfl (lv_at hl4 1 rfl) ?_
    refine kget F hK hP2 3 0 5 iX3 rfl rfl (by decide) (List.mem_of_getElem? (i := 1) rfl) rfl dX3_takeIn_18 ?_
    refine lv_iload_n hx hb dX3_takeIn_21 rfl (lv_at hl4 0 rfl) ?_
    refine lv_if_eq (tgt := 30) hx hb dX3_takeIn_22 (by decide) (fun c5 => ?_) (fun c5 => ?_)
    · refine lv_bipush (v := 8) hx hb dX3_takeIn_30 (by decide) ?_
      refine kVi (wr := [oPe h lc ls li lo dr p]) F hK hP2 hD2 hS2 hA hl4.1 (c_X2_mixInto l G h2 a2 g (p 5) 8 (by decide)) [1, 2] [0] 2 0 gX3_takeIn_X2_mixInto rfl 2 rfl (by decide +kernel) ⟨Nat.le_of_ble_eq_true rfl, Nat.le_of_ble_eq_true rfl⟩ ⟨Nat.zero_le _, Nat.zero_le _⟩ rfl rfl rfl rfl (by decide) (by decide) (by decide) (Nat.le_of_ble_eq_true rfl) rfl dX3_takeIn_32 (fun r6 u6 H7 locs7 hw6 (hP7 : va_P G.1 vwCl ([oPe h lc ls li lo dr p, oMs h2 a2, aI G a2 9 g]) H7) (hD7 : va_D A ([oPe h lc ls li lo dr p, oMs h2 a2, aI G a2 9 g])) hS7 => ?_)
      clear hP2 hD2 hS2
      have w6_0 : r6 = kmixN g (p 5) (8 + 1) := hw6
      refine kput F hK hP7 hD7 hS7 (ty0 := tyX3) 3 0 5 iX3 rfl tyX3_ok nmX3 (fun zz => [oPe h lc ls li lo dr zz, oMs h2 a2, aI G a2 9 g]) p rfl (by decide) (List.mem_of_getElem? (i := 1) rfl) rfl rfl rfl (Nat.le_of_ble_eq_true rfl) rfl dX3_takeIn_35 (fun H8 locs8 p8 ep8 (hP8 : va_P G.1 vwCl ([oPe h lc ls li lo dr p8, oMs h2 a2, aI G a2 9 g]) H8) (hD8 : va_D A ([oPe h lc ls li lo dr p8, oMs h2 a2, aI G a2 9 g])) hS8 => ?_)
      clear hP7 hD7 hS7
      have q9 : p8 = ktake p g := by
        subst ep8
        subst w6_0
        subst w1_0
        first | (simp only [ktake, c3, eq_true c5, eq_self, ↓reduceIte, and_self, and_true, true_and]; done) | (simp only [ktake, c3, eq_true c5, eq_self, ↓reduceIte, and_self, and_true, true_and]; (try and_intros) <;> rfl) | exact rfl
      exact kRv F hr hlocks hS8 dX3_takeIn_38 p8 q9 hP8 hD8
    · exact absurd (by decide) c5
  · refine lv_iconst (v := 1) hx hb dX3_takeIn_9 (by decide) ?_
    refine lv_goto (tgt := 14) hx hb dX3_takeIn_10 (by decide) ?_
    refine lv_istore_n (lv' := [(2, .int 1), (0, .ref h), (1, .ref h2)]) hx hb dX3_takeIn_14 rfl hl0 (by decide) rfl (fun ls10 hl10 => ?_)
    clear hl0
    refine lv_aload_n hx hb dX3_takeIn_15 rfl (lv_at hl10 1 rfl) ?_
    refine lv_aload_n hx hb dX3_takeIn_16 rfl (lv_at hl10 2 rfl) ?_
    refine lv_aload_n hx hb dX3_takeIn_17 rfl (lv_at hl10 1 rfl) ?_
    refine kget F hK hP2 3 0 5 iX3 rfl rfl (by decide) (List.mem_of_getElem? (i := 1) rfl) rfl dX3_takeIn_18 ?_
    refine lv_iload_n hx hb dX3_takeIn_21 rfl (lv_at hl10 0 rfl) ?_
    refine lv_if_eq (tgt := 30) hx hb dX3_takeIn_22 (by decide) (fun c11 => ?_) (fun c11 => ?_)
    · exact absurd c11 (by decide)
    · refine lv_bipush (v := 6) hx hb dX3_takeIn_25 (by decide) ?_
      refine lv_goto (tgt := 32) hx hb dX3_takeIn_27 (by decide) ?_
      refine kVi (wr := [oPe h lc ls li lo dr p]) F hK hP2 hD2 hS2 hA hl10.1 (c_X2_mixInto l G h2 a2 g (p 5) 6 (by decide)) [1, 2] [0] 2 0 gX3_takeIn_X2_mixInto rfl 2 rfl (by decide +kernel) ⟨Nat.le_of_ble_eq_true rfl, Nat.le_of_ble_eq_true rfl⟩ ⟨Nat.zero_le _, Nat.zero_le _⟩ rfl rfl rfl rfl (by decide) (by decide) (by decide) (Nat.le_of_ble_eq_true rfl) rfl dX3_takeIn_32 (fun r12 u12 H13 locs13 hw12 (hP13 : va_P G.1 vwCl ([oPe h lc ls li lo dr p, oMs h2 a2, aI G a2 9 g]) H13) (hD13 : va_D A ([oPe h lc ls li lo dr p, oMs h2 a2, aI G a2 9 g])) hS13 => ?_)
      clear hP2 hD2 hS2
      have w12_0 : r12 = kmixN g (p 5) (6 + 1) := hw12
      refine kput F hK hP13 hD13 hS13 (ty0 := tyX3) 3 0 5 iX3 rfl tyX3_ok nmX3 (fun zz => [oPe h lc ls li lo dr zz, oMs h2 a2, aI G a2 9 g]) p rfl (by decide) (List.mem_of_getElem? (i := 1) rfl) rfl rfl rfl (Nat.le_of_ble_eq_true rfl) rfl dX3_takeIn_35 (fun H14 locs14 p14 ep14 (hP14 : va_P G.1 vwCl ([oPe h lc ls li lo dr p14, oMs h2 a2, aI G a2 9 g]) H14) (hD14 : va_D A ([oPe h lc ls li lo dr p14, oMs h2 a2, aI G a2 9 g])) hS14 => ?_)
      clear hP13 hD13 hS13
      have q15 : p14 = ktake p g := by
        subst ep14
        subst w12_0
        subst w1_0
        first | (simp only [ktake, eq_true c3, c11, eq_self, ↓reduceIte, and_self, and_true, true_and]; done) | (simp only [ktake, eq_true c3, c11, eq_self, ↓reduceIte, and_self, and_true, true_and]; (try and_intros) <;> rfl) | exact rfl
      exact kRv F hr hlocks hS14 dX3_takeIn_38 p14 q15 hP14 hD14
set_option maxHeartbeats 1000000 in
set_option maxRecDepth 100000 in
theorem c_X3_proof (l : Launch) (G : kG) (h : Nat) (lc : Nat) (ls : Nat) (li : Nat) (lo : Nat) (dr : Nat) (p : Nat → Int32) (v : Int32) : kM G l yX3_proof wsX3_proof ({ frames := 1, cells := 0, slots := 0, locals := 22 }) [.ref h, .int v] ([oPe h lc ls li lo dr p]) (kQi G (fun (rr : Int32) (uu : Unit) => rr = kproof p v) (fun (uu : Unit) => [oPe h lc ls li lo dr p])) := by
  refine kStart (cc := cX3_proof) (maxL := 2) (ret := (some .int)) (by decide) rfl (Nat.le_of_ble_eq_true rfl) (fun pg ev st mi bl mt cd A ls0 F hr hlocks hin hK hP0 hD0 hA hS0 hl0 => ?_)
  obtain ⟨hx, hb, hml, hown, hts⟩ := id F
  have hl0 : lv_has ls0 2 [(0, .ref h), (1, .int v)] := hl0
  have iX3 : ∀ w ∈ u_ws RX3 TX3 18, w ∈ wsX3_proof := fun w h => List.mem_cons_of_mem _ (List.mem_append_right _ h)
  refine lv_aload_n hx hb dX3_proof_0 rfl (lv_at hl0 0 rfl) ?_
  refine kget F hK hP0 3 0 9 iX3 rfl rfl (by decide) (List.mem_of_getElem? (i := 1) rfl) rfl dX3_proof_1 ?_
  refine lv_aload_n hx hb dX3_proof_4 rfl (lv_at hl0 0 rfl) ?_
  refine kget F hK hP0 3 0 5 iX3 rfl rfl (by decide) (List.mem_of_getElem? (i := 2) rfl) rfl dX3_proof_5 ?_
  refine kPNi F hK hP0 hD0 hS0 hA hl0.1 (c_X8_mix l G (p 9) (p 5)) (fun _ => rfl) 2 rfl gX3_proof_X8_mix_n58 (List.mem_of_getElem? (i := 3) rfl) (List.mem_of_getElem? (i := 4) rfl) rfl 2 rfl (by decide +kernel) ⟨Nat.le_of_ble_eq_true rfl, Nat.le_of_ble_eq_true rfl⟩ ⟨Nat.zero_le _, Nat.zero_le _⟩ (Nat.le_of_ble_eq_true rfl) rfl dX3_proof_8 (fun r1 u1 H2 locs2 hw1 (hP2 : va_P G.1 vwCl ([oPe h lc ls li lo dr p]) H2) (hD2 : va_D A ([oPe h lc ls li lo dr p])) hS2 => ?_)
  clear hP0 hD0 hS0
  have w1_0 : r1 = kmix (p 9) (p 5) := hw1
  refine lv_iload_n hx hb dX3_proof_11 rfl (lv_at hl0 1 rfl) ?_
  refine kPNi F hK hP2 hD2 hS2 hA hl0.1 (c_X8_mix l G r1 v) (fun _ => rfl) 2 rfl gX3_proof_X8_mix_n58 (List.mem_of_getElem? (i := 3) rfl) (List.mem_of_getElem? (i := 4) rfl) rfl 2 rfl (by decide +kernel) ⟨Nat.le_of_ble_eq_true rfl, Nat.le_of_ble_eq_true rfl⟩ ⟨Nat.zero_le _, Nat.zero_le _⟩ (Nat.le_of_ble_eq_true rfl) rfl dX3_proof_12 (fun r3 u3 H4 locs4 hw3 (hP4 : va_P G.1 vwCl ([oPe h lc ls li lo dr p]) H4) (hD4 : va_D A ([oPe h lc ls li lo dr p])) hS4 => ?_)
  clear hP2 hD2 hS2
  have w3_0 : r3 = kmix r1 v := hw3
  have q5 : r3 = kproof p v := by
    subst w3_0
    subst w1_0
    first | rfl | (simp only [↓reduceIte]; done) | (simp []; done)
  exact kRi F hr hlocks hS4 dX3_proof_15 () q5 hP4 hD4
set_option maxHeartbeats 1000000 in
set_option maxRecDepth 100000 in
theorem c_X3_sendLetter (l : Launch) (G : kG) (h : Nat) (lc : Nat) (ls : Nat) (li : Nat) (lo : Nat) (dr : Nat) (p : Nat → Int32) (b : Nat → Int32) (da : Nat) (f : Nat → Int32) (rh : Nat) (w : Nat) (q : Nat → Nat) (d : Nat → Nat) (rp : Nat → Int32) (M : Nat → Nat → Int32) (L : Nat) (v : Int32) (hL : rp 1 = nI L) (hL8 : L ≤ 8) : kM G l yX3_sendLetter wsX3_sendLetter ({ frames := 3, cells := 0, slots := 0, locals := 65 }) [.ref h, .int v, .ref rh] ([oPe h lc ls li lo dr p, oLa lo b, oMs dr da, aI G da 9 f, oRo rh w rp, aM G w 8 (krow q), oMs (q 0) (d 0), aI G (d 0) 9 (M 0), oMs (q 1) (d 1), aI G (d 1) 9 (M 1), oMs (q 2) (d 2), aI G (d 2) 9 (M 2), oMs (q 3) (d 3), aI G (d 3) 9 (M 3), oMs (q 4) (d 4), aI G (d 4) 9 (M 4), oMs (q 5) (d 5), aI G (d 5) 9 (M 5), oMs (q 6) (d 6), aI G (d 6) 9 (M 6), oMs (q 7) (d 7), aI G (d 7) 9 (M 7)]) (kQi G (fun (rr : Int32) (uu : (Nat → Int32) × (Nat → Int32) × (Nat → Int32) × (Nat → Nat → Int32)) => (rr = kveil b (p 10) v) ∧ (uu.1 = upd b 2 (b 2 + 1)) ∧ (uu.2.1 = klet p b f v) ∧ (uu.2.2.1 = ksendP L rp) ∧ (uu.2.2.2 = ksendM L M (klet p b f v))) (fun (uu : (Nat → Int32) × (Nat → Int32) × (Nat → Int32) × (Nat → Nat → Int32)) => [oPe h lc ls li lo dr p, oLa lo uu.1, oMs dr da, aI G da 9 uu.2.1, oRo rh w uu.2.2.1, aM G w 8 (krow q), oMs (q 0) (d 0), aI G (d 0) 9 (uu.2.2.2 0), oMs (q 1) (d 1), aI G (d 1) 9 (uu.2.2.2 1), oMs (q 2) (d 2), aI G (d 2) 9 (uu.2.2.2 2), oMs (q 3) (d 3), aI G (d 3) 9 (uu.2.2.2 3), oMs (q 4) (d 4), aI G (d 4) 9 (uu.2.2.2 4), oMs (q 5) (d 5), aI G (d 5) 9 (uu.2.2.2 5), oMs (q 6) (d 6), aI G (d 6) 9 (uu.2.2.2 6), oMs (q 7) (d 7), aI G (d 7) 9 (uu.2.2.2 7)])) := by
  refine kStart (cc := cX3_sendLetter) (maxL := 4) (ret := (some .int)) (by decide) rfl (Nat.le_of_ble_eq_true rfl) (fun pg ev st mi bl mt cd A ls0 F hr hlocks hin hK hP0 hD0 hA hS0 hl0 => ?_)
  obtain ⟨hx, hb, hml, hown, hts⟩ := id F
  have hl0 : lv_has ls0 4 [(0, .ref h), (1, .int v), (2, .ref rh)] := hl0
  have iX1 : ∀ w ∈ u_ws RX1 TX1 3, w ∈ wsX3_sendLetter := fun w h => List.mem_cons_of_mem _ (List.mem_append_left _ (List.mem_append_left _ (List.mem_append_right _ h)))
  have iX3 : ∀ w ∈ u_ws RX3 TX3 18, w ∈ wsX3_sendLetter := fun w h => List.mem_cons_of_mem _ (List.mem_append_left _ (List.mem_append_left _ (List.mem_append_left _ (List.mem_append_right _ h))))
  refine lv_aload_n hx hb dX3_sendLetter_0 rfl (lv_at hl0 0 rfl) ?_
  refine kget F hK hP0 3 0 16 iX3 rfl rfl (by decide) (List.mem_of_getElem? (i := 1) rfl) rfl dX3_sendLetter_1 ?_
  refine lv_aload_n hx hb dX3_sendLetter_4 rfl (lv_at hl0 0 rfl) ?_
  refine kget F hK hP0 3 0 10 iX3 rfl rfl (by decide) (List.mem_of_getElem? (i := 2) rfl) rfl dX3_sendLetter_5 ?_
  refine lv_iload_n hx hb dX3_sendLetter_8 rfl (lv_at hl0 1 rfl) ?_
  refine kVi (wr := [oPe h lc ls li lo dr p, oMs dr da, aI G da 9 f, oRo rh w rp, aM G w 8 (krow q), oMs (q 0) (d 0), aI G (d 0) 9 (M 0), oMs (q 1) (d 1), aI G (d 1) 9 (M 1), oMs (q 2) (d 2), aI G (d 2) 9 (M 2), oMs (q 3) (d 3), aI G (d 3) 9 (M 3), oMs (q 4) (d 4), aI G (d 4) 9 (M 4), oMs (q 5) (d 5), aI G (d 5) 9 (M 5), oMs (q 6) (d 6), aI G (d 6) 9 (M 6), oMs (q 7) (d 7), aI G (d 7) 9 (M 7)]) F hK hP0 hD0 hS0 hA hl0.1 (c_X1_veil l G lo b (p 10) v) [1] [0, 2, 3, 4, 5, 6, 7, 8, 9, 10, 11, 12, 13, 14, 15, 16, 17, 18, 19, 20, 21] 1 0 gX3_sendLetter_X1_veil rfl 2 rfl (by decide +kernel) ⟨Nat.le_of_ble_eq_true rfl, Nat.le_of_ble_eq_true rfl⟩ ⟨Nat.zero_le _, Nat.zero_le _⟩ rfl rfl rfl rfl (by decide) (by decide) (by decide) (Nat.le_of_ble_eq_true rfl) rfl dX3_sendLetter_9 (fun r1 u1 H2 locs2 hw1 (hP2 : va_P G.1 vwCl ([oPe h lc ls li lo dr p, oMs dr da, aI G da 9 f, oRo rh w rp, aM G w 8 (krow q), oMs (q 0) (d 0), aI G (d 0) 9 (M 0), oMs (q 1) (d 1), aI G (d 1) 9 (M 1), oMs (q 2) (d 2), aI G (d 2) 9 (M 2), oMs (q 3) (d 3), aI G (d 3) 9 (M 3), oMs (q 4) (d 4), aI G (d 4) 9 (M 4), oMs (q 5) (d 5), aI G (d 5) 9 (M 5), oMs (q 6) (d 6), aI G (d 6) 9 (M 6), oMs (q 7) (d 7), aI G (d 7) 9 (M 7), oLa lo b]) H2) (hD2 : va_D A ([oPe h lc ls li lo dr p, oMs dr da, aI G da 9 f, oRo rh w rp, aM G w 8 (krow q), oMs (q 0) (d 0), aI G (d 0) 9 (M 0), oMs (q 1) (d 1), aI G (d 1) 9 (M 1), oMs (q 2) (d 2), aI G (d 2) 9 (M 2), oMs (q 3) (d 3), aI G (d 3) 9 (M 3), oMs (q 4) (d 4), aI G (d 4) 9 (M 4), oMs (q 5) (d 5), aI G (d 5) 9 (M 5), oMs (q 6) (d 6), aI G (d 6) 9 (M 6), oMs (q 7) (d 7), aI G (d 7) 9 (M 7), oLa lo b])) hS2 => ?_)
  clear hP0 hD0 hS0
  have w1_0 : r1 = kveil b (p 10) v := hw1
  refine lv_istore_n (lv' := [(3, .int r1), (0, .ref h), (1, .int v), (2, .ref rh)]) hx hb dX3_sendLetter_12 rfl hl0 (by decide) rfl (fun ls3 hl3 => ?_)
  clear hl0
  refine lv_aload_n hx hb dX3_sendLetter_13 rfl (lv_at hl3 1 rfl) ?_
  refine kget F hK hP2 3 0 17 iX3 rfl rfl (by decide) (List.mem_of_getElem? (i := 3) rfl) rfl dX3_sendLetter_14 ?_
  refine lv_bipush (v := 6) hx hb dX3_sendLetter_17 (by decide) ?_
  refine kVv (wr := [oPe h lc ls li lo dr p, oRo rh w rp, aM G w 8 (krow q), oMs (q 0) (d 0), aI G (d 0) 9 (M 0), oMs (q 1) (d 1), aI G (d 1) 9 (M 1), oMs (q 2) (d 2), aI G (d 2) 9 (M 2), oMs (q 3) (d 3), aI G (d 3) 9 (M 3), oMs (q 4) (d 4), aI G (d 4) 9 (M 4), oMs (q 5) (d 5), aI G (d 5) 9 (M 5), oMs (q 6) (d 6), aI G (d 6) 9 (M 6), oMs (q 7) (d 7), aI G (d 7) 9 (M 7), oLa lo b]) F hK hP2 hD2 hS2 hA hl3.1 (c_X2_begin l G dr da f 6) [1, 2] [0, 3, 4, 5, 6, 7, 8, 9, 10, 11, 12, 13, 14, 15, 16, 17, 18, 19, 20, 21] 2 0 gX3_sendLetter_X2_begin rfl 1 rfl (by decide +kernel) ⟨Nat.le_of_ble_eq_true rfl, Nat.le_of_ble_eq_true rfl⟩ ⟨Nat.zero_le _, Nat.zero_le _⟩ rfl rfl rfl rfl (by decide) (by decide) (by decide) (Nat.le_of_ble_eq_true rfl) rfl dX3_sendLetter_19 (fun f_4 H5 locs5 hw4 (hP5 : va_P G.1 vwCl ([oPe h lc ls li lo dr p, oRo rh w rp, aM G w 8 (krow q), oMs (q 0) (d 0), aI G (d 0) 9 (M 0), oMs (q 1) (d 1), aI G (d 1) 9 (M 1), oMs (q 2) (d 2), aI G (d 2) 9 (M 2), oMs (q 3) (d 3), aI G (d 3) 9 (M 3), oMs (q 4) (d 4), aI G (d 4) 9 (M 4), oMs (q 5) (d 5), aI G (d 5) 9 (M 5), oMs (q 6) (d 6), aI G (d 6) 9 (M 6), oMs (q 7) (d 7), aI G (d 7) 9 (M 7), oLa lo b, oMs dr da, aI G da 9 f_4]) H5) (hD5 : va_D A ([oPe h lc ls li lo dr p, oRo rh w rp, aM G w 8 (krow q), oMs (q 0) (d 0), aI G (d 0) 9 (M 0), oMs (q 1) (d 1), aI G (d 1) 9 (M 1), oMs (q 2) (d 2), aI G (d 2) 9 (M 2), oMs (q 3) (d 3), aI G (d 3) 9 (M 3), oMs (q 4) (d 4), aI G (d 4) 9 (M 4), oMs (q 5) (d 5), aI G (d 5) 9 (M 5), oMs (q 6) (d 6), aI G (d 6) 9 (M 6), oMs (q 7) (d 7), aI G (d 7) 9 (M 7), oLa lo b, oMs dr da, aI G da 9 f_4])) hS5 => ?_)
  clear hP2 hD2 hS2
  have w4_0 : f_4 = kbeg f 6 := hw4
  refine lv_aload_n hx hb dX3_sendLetter_22 rfl (lv_at hl3 1 rfl) ?_
  refine kget F hK hP5 3 0 17 iX3 rfl rfl (by decide) (List.mem_of_getElem? (i := 3) rfl) rfl dX3_sendLetter_23 ?_
  refine lv_iconst (v := 1) hx hb dX3_sendLetter_26 (by decide) ?_
  refine lv_iload_n hx hb dX3_sendLetter_27 rfl (lv_at hl3 0 rfl) ?_
  refine kVv (wr := [oPe h lc ls li lo dr p, oRo rh w rp, aM G w 8 (krow q), oMs (q 0) (d 0), aI G (d 0) 9 (M 0), oMs (q 1) (d 1), aI G (d 1) 9 (M 1), oMs (q 2) (d 2), aI G (d 2) 9 (M 2), oMs (q 3) (d 3), aI G (d 3) 9 (M 3), oMs (q 4) (d 4), aI G (d 4) 9 (M 4), oMs (q 5) (d 5), aI G (d 5) 9 (M 5), oMs (q 6) (d 6), aI G (d 6) 9 (M 6), oMs (q 7) (d 7), aI G (d 7) 9 (M 7), oLa lo b]) F hK hP5 hD5 hS5 hA hl3.1 (c_X2_put l G dr da f_4 1 r1 (by decide)) [20, 21] [0, 1, 2, 3, 4, 5, 6, 7, 8, 9, 10, 11, 12, 13, 14, 15, 16, 17, 18, 19] 2 0 gX3_sendLetter_X2_put rfl 2 rfl (by decide +kernel) ⟨Nat.le_of_ble_eq_true rfl, Nat.le_of_ble_eq_true rfl⟩ ⟨Nat.zero_le _, Nat.zero_le _⟩ rfl rfl rfl rfl (by decide) (by decide) (by decide) (Nat.le_of_ble_eq_true rfl) rfl dX3_sendLetter_28 (fun f_6 H7 locs7 hw6 (hP7 : va_P G.1 vwCl ([oPe h lc ls li lo dr p, oRo rh w rp, aM G w 8 (krow q), oMs (q 0) (d 0), aI G (d 0) 9 (M 0), oMs (q 1) (d 1), aI G (d 1) 9 (M 1), oMs (q 2) (d 2), aI G (d 2) 9 (M 2), oMs (q 3) (d 3), aI G (d 3) 9 (M 3), oMs (q 4) (d 4), aI G (d 4) 9 (M 4), oMs (q 5) (d 5), aI G (d 5) 9 (M 5), oMs (q 6) (d 6), aI G (d 6) 9 (M 6), oMs (q 7) (d 7), aI G (d 7) 9 (M 7), oLa lo b, oMs dr da, aI G da 9 f_6]) H7) (hD7 : va_D A ([oPe h lc ls li lo dr p, oRo rh w rp, aM G w 8 (krow q), oMs (q 0) (d 0), aI G (d 0) 9 (M 0), oMs (q 1) (d 1), aI G (d 1) 9 (M 1), oMs (q 2) (d 2), aI G (d 2) 9 (M 2), oMs (q 3) (d 3), aI G (d 3) 9 (M 3), oMs (q 4) (d 4), aI G (d 4) 9 (M 4), oMs (q 5) (d 5), aI G (d 5) 9 (M 5), oMs (q 6) (d 6), aI G (d 6) 9 (M 6), oMs (q 7) (d 7), aI G (d 7) 9 (M 7), oLa lo b, oMs dr da, aI G da 9 f_6])) hS7 => ?_)
  clear hP5 hD5 hS5
  have w6_0 : f_6 = upd f_4 1 r1 := hw6
  refine lv_aload_n hx hb dX3_sendLetter_31 rfl (lv_at hl3 1 rfl) ?_
  refine kget F hK hP7 3 0 17 iX3 rfl rfl (by decide) (List.mem_of_getElem? (i := 3) rfl) rfl dX3_sendLetter_32 ?_
  refine lv_iconst (v := 2) hx hb dX3_sendLetter_35 (by decide) ?_
  refine lv_aload_n hx hb dX3_sendLetter_36 rfl (lv_at hl3 1 rfl) ?_
  refine kget F hK hP7 3 0 16 iX3 rfl rfl (by decide) (List.mem_of_getElem? (i := 1) rfl) rfl dX3_sendLetter_37 ?_
  refine lv_aload_n hx hb dX3_sendLetter_40 rfl (lv_at hl3 1 rfl) ?_
  refine kget F hK hP7 3 0 10 iX3 rfl rfl (by decide) (List.mem_of_getElem? (i := 2) rfl) rfl dX3_sendLetter_41 ?_
  refine lv_iload_n hx hb dX3_sendLetter_44 rfl (lv_at hl3 0 rfl) ?_
  refine kVi (wr := [oPe h lc ls li lo dr p, oRo rh w rp, aM G w 8 (krow q), oMs (q 0) (d 0), aI G (d 0) 9 (M 0), oMs (q 1) (d 1), aI G (d 1) 9 (M 1), oMs (q 2) (d 2), aI G (d 2) 9 (M 2), oMs (q 3) (d 3), aI G (d 3) 9 (M 3), oMs (q 4) (d 4), aI G (d 4) 9 (M 4), oMs (q 5) (d 5), aI G (d 5) 9 (M 5), oMs (q 6) (d 6), aI G (d 6) 9 (M 6), oMs (q 7) (d 7), aI G (d 7) 9 (M 7), oMs dr da, aI G da 9 f_6]) F hK hP7 hD7 hS7 hA hl3.1 (c_X1_tagOf l G lo b (p 10) r1) [19] [0, 1, 2, 3, 4, 5, 6, 7, 8, 9, 10, 11, 12, 13, 14, 15, 16, 17, 18, 20, 21] 1 0 gX3_sendLetter_X1_tagOf rfl 2 rfl (by decide +kernel) ⟨Nat.le_of_ble_eq_true rfl, Nat.le_of_ble_eq_true rfl⟩ ⟨Nat.zero_le _, Nat.zero_le _⟩ rfl rfl rfl rfl (by decide) (by decide) (by decide) (Nat.le_of_ble_eq_true rfl) rfl dX3_sendLetter_45 (fun r8 u8 H9 locs9 hw8 (hP9 : va_P G.1 vwCl ([oPe h lc ls li lo dr p, oRo rh w rp, aM G w 8 (krow q), oMs (q 0) (d 0), aI G (d 0) 9 (M 0), oMs (q 1) (d 1), aI G (d 1) 9 (M 1), oMs (q 2) (d 2), aI G (d 2) 9 (M 2), oMs (q 3) (d 3), aI G (d 3) 9 (M 3), oMs (q 4) (d 4), aI G (d 4) 9 (M 4), oMs (q 5) (d 5), aI G (d 5) 9 (M 5), oMs (q 6) (d 6), aI G (d 6) 9 (M 6), oMs (q 7) (d 7), aI G (d 7) 9 (M 7), oMs dr da, aI G da 9 f_6, oLa lo b]) H9) (hD9 : va_D A ([oPe h lc ls li lo dr p, oRo rh w rp, aM G w 8 (krow q), oMs (q 0) (d 0), aI G (d 0) 9 (M 0), oMs (q 1) (d 1), aI G (d 1) 9 (M 1), oMs (q 2) (d 2), aI G (d 2) 9 (M 2), oMs (q 3) (d 3), aI G (d 3) 9 (M 3), oMs (q 4) (d 4), aI G (d 4) 9 (M 4), oMs (q 5) (d 5), aI G (d 5) 9 (M 5), oMs (q 6) (d 6), aI G (d 6) 9 (M 6), oMs (q 7) (d 7), aI G (d 7) 9 (M 7), oMs dr da, aI G da 9 f_6, oLa lo b])) hS9 => ?_)
  clear hP7 hD7 hS7
  have w8_0 : r8 = ktag b (p 10) r1 := hw8
  refine kVv (wr := [oPe h lc ls li lo dr p, oRo rh w rp, aM G w 8 (krow q), oMs (q 0) (d 0), aI G (d 0) 9 (M 0), oMs (q 1) (d 1), aI G (d 1) 9 (M 1), oMs (q 2) (d 2), aI G (d 2) 9 (M 2), oMs (q 3) (d 3), aI G (d 3) 9 (M 3), oMs (q 4) (d 4), aI G (d 4) 9 (M 4), oMs (q 5) (d 5), aI G (d 5) 9 (M 5), oMs (q 6) (d 6), aI G (d 6) 9 (M 6), oMs (q 7) (d 7), aI G (d 7) 9 (M 7), oLa lo b]) F hK hP9 hD9 hS9 hA hl3.1 (c_X2_put l G dr da f_6 2 r8 (by decide)) [19, 20] [0, 1, 2, 3, 4, 5, 6, 7, 8, 9, 10, 11, 12, 13, 14, 15, 16, 17, 18, 21] 2 0 gX3_sendLetter_X2_put rfl 2 rfl (by decide +kernel) ⟨Nat.le_of_ble_eq_true rfl, Nat.le_of_ble_eq_true rfl⟩ ⟨Nat.zero_le _, Nat.zero_le _⟩ rfl rfl rfl rfl (by decide) (by decide) (by decide) (Nat.le_of_ble_eq_true rfl) rfl dX3_sendLetter_48 (fun f_10 H11 locs11 hw10 (hP11 : va_P G.1 vwCl ([oPe h lc ls li lo dr p, oRo rh w rp, aM G w 8 (krow q), oMs (q 0) (d 0), aI G (d 0) 9 (M 0), oMs (q 1) (d 1), aI G (d 1) 9 (M 1), oMs (q 2) (d 2), aI G (d 2) 9 (M 2), oMs (q 3) (d 3), aI G (d 3) 9 (M 3), oMs (q 4) (d 4), aI G (d 4) 9 (M 4), oMs (q 5) (d 5), aI G (d 5) 9 (M 5), oMs (q 6) (d 6), aI G (d 6) 9 (M 6), oMs (q 7) (d 7), aI G (d 7) 9 (M 7), oLa lo b, oMs dr da, aI G da 9 f_10]) H11) (hD11 : va_D A ([oPe h lc ls li lo dr p, oRo rh w rp, aM G w 8 (krow q), oMs (q 0) (d 0), aI G (d 0) 9 (M 0), oMs (q 1) (d 1), aI G (d 1) 9 (M 1), oMs (q 2) (d 2), aI G (d 2) 9 (M 2), oMs (q 3) (d 3), aI G (d 3) 9 (M 3), oMs (q 4) (d 4), aI G (d 4) 9 (M 4), oMs (q 5) (d 5), aI G (d 5) 9 (M 5), oMs (q 6) (d 6), aI G (d 6) 9 (M 6), oMs (q 7) (d 7), aI G (d 7) 9 (M 7), oLa lo b, oMs dr da, aI G da 9 f_10])) hS11 => ?_)
  clear hP9 hD9 hS9
  have w10_0 : f_10 = upd f_6 2 r8 := hw10
  refine lv_aload_n hx hb dX3_sendLetter_51 rfl (lv_at hl3 3 rfl) ?_
  refine lv_aload_n hx hb dX3_sendLetter_52 rfl (lv_at hl3 1 rfl) ?_
  refine kget F hK hP11 3 0 17 iX3 rfl rfl (by decide) (List.mem_of_getElem? (i := 3) rfl) rfl dX3_sendLetter_53 ?_
  refine kVv (wr := [oPe h lc ls li lo dr p, oLa lo b]) F hK hP11 hD11 hS11 hA hl3.1 (c_X4_send l G rh w q d rp M dr da f_10 L hL hL8) [1, 2, 3, 4, 5, 6, 7, 8, 9, 10, 11, 12, 13, 14, 15, 16, 17, 18, 20, 21] [0, 19] 4 0 gX3_sendLetter_X4_send rfl 1 rfl (by decide +kernel) ⟨Nat.le_of_ble_eq_true rfl, Nat.le_of_ble_eq_true rfl⟩ ⟨Nat.zero_le _, Nat.zero_le _⟩ rfl rfl rfl rfl (by decide) (by decide) (by decide) (Nat.le_of_ble_eq_true rfl) rfl dX3_sendLetter_56 (fun u12 H13 locs13 hw12 hP13 hD13 hS13 => ?_)
  obtain ⟨p_12, M_12⟩ := u12
  have hP13 : va_P G.1 vwCl ([oPe h lc ls li lo dr p, oLa lo b, oRo rh w p_12, aM G w 8 (krow q), oMs (q 0) (d 0), aI G (d 0) 9 (M_12 0), oMs (q 1) (d 1), aI G (d 1) 9 (M_12 1), oMs (q 2) (d 2), aI G (d 2) 9 (M_12 2), oMs (q 3) (d 3), aI G (d 3) 9 (M_12 3), oMs (q 4) (d 4), aI G (d 4) 9 (M_12 4), oMs (q 5) (d 5), aI G (d 5) 9 (M_12 5), oMs (q 6) (d 6), aI G (d 6) 9 (M_12 6), oMs (q 7) (d 7), aI G (d 7) 9 (M_12 7), oMs dr da, aI G da 9 f_10]) H13 := hP13
  have hD13 : va_D A ([oPe h lc ls li lo dr p, oLa lo b, oRo rh w p_12, aM G w 8 (krow q), oMs (q 0) (d 0), aI G (d 0) 9 (M_12 0), oMs (q 1) (d 1), aI G (d 1) 9 (M_12 1), oMs (q 2) (d 2), aI G (d 2) 9 (M_12 2), oMs (q 3) (d 3), aI G (d 3) 9 (M_12 3), oMs (q 4) (d 4), aI G (d 4) 9 (M_12 4), oMs (q 5) (d 5), aI G (d 5) 9 (M_12 5), oMs (q 6) (d 6), aI G (d 6) 9 (M_12 6), oMs (q 7) (d 7), aI G (d 7) 9 (M_12 7), oMs dr da, aI G da 9 f_10]) := hD13
  clear hP11 hD11 hS11
  have w12_0 : p_12 = ksendP L rp := hw12.1
  have w12_1 : M_12 = ksendM L M f_10 := hw12.2
  refine lv_aload_n hx hb dX3_sendLetter_59 rfl (lv_at hl3 1 rfl) ?_
  refine kget F hK hP13 3 0 16 iX3 rfl rfl (by decide) (List.mem_of_getElem? (i := 1) rfl) rfl dX3_sendLetter_60 ?_
  refine lv_dup hx hb dX3_sendLetter_63 rfl ?_
  refine kget F hK hP13 1 1 2 iX1 rfl rfl (by decide) (List.mem_of_getElem? (i := 4) rfl) rfl dX3_sendLetter_64 ?_
  refine lv_iconst (v := 1) hx hb dX3_sendLetter_67 (by decide) ?_
  refine lv_iadd hx hb dX3_sendLetter_68 ?_
  refine kput F hK hP13 hD13 hS13 (ty0 := tyX1) 1 1 2 iX1 rfl tyX1_ok nmX1 (fun zz => [oPe h lc ls li lo dr p, oLa lo zz, oRo rh w p_12, aM G w 8 (krow q), oMs (q 0) (d 0), aI G (d 0) 9 (M_12 0), oMs (q 1) (d 1), aI G (d 1) 9 (M_12 1), oMs (q 2) (d 2), aI G (d 2) 9 (M_12 2), oMs (q 3) (d 3), aI G (d 3) 9 (M_12 3), oMs (q 4) (d 4), aI G (d 4) 9 (M_12 4), oMs (q 5) (d 5), aI G (d 5) 9 (M_12 5), oMs (q 6) (d 6), aI G (d 6) 9 (M_12 6), oMs (q 7) (d 7), aI G (d 7) 9 (M_12 7), oMs dr da, aI G da 9 f_10]) b rfl (by decide) (List.mem_of_getElem? (i := 4) rfl) rfl rfl rfl (Nat.le_of_ble_eq_true rfl) rfl dX3_sendLetter_69 (fun H14 locs14 b14 eb14 (hP14 : va_P G.1 vwCl ([oPe h lc ls li lo dr p, oLa lo b14, oRo rh w p_12, aM G w 8 (krow q), oMs (q 0) (d 0), aI G (d 0) 9 (M_12 0), oMs (q 1) (d 1), aI G (d 1) 9 (M_12 1), oMs (q 2) (d 2), aI G (d 2) 9 (M_12 2), oMs (q 3) (d 3), aI G (d 3) 9 (M_12 3), oMs (q 4) (d 4), aI G (d 4) 9 (M_12 4), oMs (q 5) (d 5), aI G (d 5) 9 (M_12 5), oMs (q 6) (d 6), aI G (d 6) 9 (M_12 6), oMs (q 7) (d 7), aI G (d 7) 9 (M_12 7), oMs dr da, aI G da 9 f_10]) H14) (hD14 : va_D A ([oPe h lc ls li lo dr p, oLa lo b14, oRo rh w p_12, aM G w 8 (krow q), oMs (q 0) (d 0), aI G (d 0) 9 (M_12 0), oMs (q 1) (d 1), aI G (d 1) 9 (M_12 1), oMs (q 2) (d 2), aI G (d 2) 9 (M_12 2), oMs (q 3) (d 3), aI G (d 3) 9 (M_12 3), oMs (q 4) (d 4), aI G (d 4) 9 (M_12 4), oMs (q 5) (d 5), aI G (d 5) 9 (M_12 5), oMs (q 6) (d 6), aI G (d 6) 9 (M_12 6), oMs (q 7) (d 7), aI G (d 7) 9 (M_12 7), oMs dr da, aI G da 9 f_10])) hS14 => ?_)
  clear hP13 hD13 hS13
  refine lv_iload_n hx hb dX3_sendLetter_72 rfl (lv_at hl3 0 rfl) ?_
  have q15 : (r1 = kveil b (p 10) v) ∧ (b14 = upd b 2 (b 2 + 1)) ∧ (f_10 = klet p b f v) ∧ (p_12 = ksendP L rp) ∧ (M_12 = ksendM L M (klet p b f v)) := by
    subst eb14
    subst w12_1
    subst w12_0
    subst w10_0
    subst w8_0
    subst w6_0
    subst w4_0
    subst w1_0
    first | (simp only [eq_self, ↓reduceIte, and_self, and_true, true_and]; done) | (simp only [eq_self, ↓reduceIte, and_self, and_true, true_and]; (try and_intros) <;> rfl) | exact ⟨rfl, rfl, rfl, rfl, rfl⟩
  exact kRi F hr hlocks hS14 dX3_sendLetter_73 ⟨b14, f_10, p_12, M_12⟩ q15 (hP14.sub [0, 1, 20, 21, 2, 3, 4, 5, 6, 7, 8, 9, 10, 11, 12, 13, 14, 15, 16, 17, 18, 19] rfl) (hD14.sub [0, 1, 20, 21, 2, 3, 4, 5, 6, 7, 8, 9, 10, 11, 12, 13, 14, 15, 16, 17, 18, 19] (by decide) rfl)
set_option maxHeartbeats 1000000 in
set_option maxRecDepth 100000 in
theorem c_X3_sendUpdate (l : Launch) (G : kG) (h : Nat) (lc : Nat) (ls : Nat) (li : Nat) (lo : Nat) (dr : Nat) (p : Nat → Int32) (b : Nat → Int32) (da : Nat) (f : Nat → Int32) (rh : Nat) (w : Nat) (q : Nat → Nat) (d : Nat → Nat) (rp : Nat → Int32) (M : Nat → Nat → Int32) (L : Nat) (hL : rp 1 = nI L) (hL8 : L ≤ 8) : kM G l yX3_sendUpdate wsX3_sendUpdate ({ frames := 3, cells := 0, slots := 0, locals := 65 }) [.ref h, .ref rh] ([oPe h lc ls li lo dr p, oLa lo b, oMs dr da, aI G da 9 f, oRo rh w rp, aM G w 8 (krow q), oMs (q 0) (d 0), aI G (d 0) 9 (M 0), oMs (q 1) (d 1), aI G (d 1) 9 (M 1), oMs (q 2) (d 2), aI G (d 2) 9 (M 2), oMs (q 3) (d 3), aI G (d 3) 9 (M 3), oMs (q 4) (d 4), aI G (d 4) 9 (M 4), oMs (q 5) (d 5), aI G (d 5) 9 (M 5), oMs (q 6) (d 6), aI G (d 6) 9 (M 6), oMs (q 7) (d 7), aI G (d 7) 9 (M 7)]) (kQi G (fun (rr : Int32) (uu : (Nat → Int32) × (Nat → Int32) × (Nat → Int32) × (Nat → Nat → Int32)) => (rr = b 1 + 1) ∧ (uu.1 = upd (upd b 1 (b 1 + 1)) 2 (b 2 + 1)) ∧ (uu.2.1 = kupm p b f) ∧ (uu.2.2.1 = ksendP L rp) ∧ (uu.2.2.2 = ksendM L M (kupm p b f))) (fun (uu : (Nat → Int32) × (Nat → Int32) × (Nat → Int32) × (Nat → Nat → Int32)) => [oPe h lc ls li lo dr p, oLa lo uu.1, oMs dr da, aI G da 9 uu.2.1, oRo rh w uu.2.2.1, aM G w 8 (krow q), oMs (q 0) (d 0), aI G (d 0) 9 (uu.2.2.2 0), oMs (q 1) (d 1), aI G (d 1) 9 (uu.2.2.2 1), oMs (q 2) (d 2), aI G (d 2) 9 (uu.2.2.2 2), oMs (q 3) (d 3), aI G (d 3) 9 (uu.2.2.2 3), oMs (q 4) (d 4), aI G (d 4) 9 (uu.2.2.2 4), oMs (q 5) (d 5), aI G (d 5) 9 (uu.2.2.2 5), oMs (q 6) (d 6), aI G (d 6) 9 (uu.2.2.2 6), oMs (q 7) (d 7), aI G (d 7) 9 (uu.2.2.2 7)])) := by
  refine kStart (cc := cX3_sendUpdate) (maxL := 2) (ret := (some .int)) (by decide) rfl (Nat.le_of_ble_eq_true rfl) (fun pg ev st mi bl mt cd A ls0 F hr hlocks hin hK hP0 hD0 hA hS0 hl0 => ?_)
  obtain ⟨hx, hb, hml, hown, hts⟩ := id F
  have hl0 : lv_has ls0 2 [(0, .ref h), (1, .ref rh)] := hl0
  have iX1 : ∀ w ∈ u_ws RX1 TX1 3, w ∈ wsX3_sendUpdate := fun w h => List.mem_cons_of_mem _ (List.mem_append_left _ (List.mem_append_left _ (List.mem_append_right _ h)))
  have iX3 : ∀ w ∈ u_ws RX3 TX3 18, w ∈ wsX3_sendUpdate := fun w h => List.mem_cons_of_mem _ (List.mem_append_left _ (List.mem_append_left _ (List.mem_append_left _ (List.mem_append_right _ h))))
  refine lv_aload_n hx hb dX3_sendUpdate_0 rfl (lv_at hl0 0 rfl) ?_
  refine kget F hK hP0 3 0 17 iX3 rfl rfl (by decide) (List.mem_of_getElem? (i := 1) rfl) rfl dX3_sendUpdate_1 ?_
  refine lv_bipush (v := 7) hx hb dX3_sendUpdate_4 (by decide) ?_
  refine kVv (wr := [oPe h lc ls li lo dr p, oLa lo b, oRo rh w rp, aM G w 8 (krow q), oMs (q 0) (d 0), aI G (d 0) 9 (M 0), oMs (q 1) (d 1), aI G (d 1) 9 (M 1), oMs (q 2) (d 2), aI G (d 2) 9 (M 2), oMs (q 3) (d 3), aI G (d 3) 9 (M 3), oMs (q 4) (d 4), aI G (d 4) 9 (M 4), oMs (q 5) (d 5), aI G (d 5) 9 (M 5), oMs (q 6) (d 6), aI G (d 6) 9 (M 6), oMs (q 7) (d 7), aI G (d 7) 9 (M 7)]) F hK hP0 hD0 hS0 hA hl0.1 (c_X2_begin l G dr da f 7) [2, 3] [0, 1, 4, 5, 6, 7, 8, 9, 10, 11, 12, 13, 14, 15, 16, 17, 18, 19, 20, 21] 2 0 gX3_sendUpdate_X2_begin rfl 1 rfl (by decide +kernel) ⟨Nat.le_of_ble_eq_true rfl, Nat.le_of_ble_eq_true rfl⟩ ⟨Nat.zero_le _, Nat.zero_le _⟩ rfl rfl rfl rfl (by decide) (by decide) (by decide) (Nat.le_of_ble_eq_true rfl) rfl dX3_sendUpdate_6 (fun f_1 H2 locs2 hw1 (hP2 : va_P G.1 vwCl ([oPe h lc ls li lo dr p, oLa lo b, oRo rh w rp, aM G w 8 (krow q), oMs (q 0) (d 0), aI G (d 0) 9 (M 0), oMs (q 1) (d 1), aI G (d 1) 9 (M 1), oMs (q 2) (d 2), aI G (d 2) 9 (M 2), oMs (q 3) (d 3), aI G (d 3) 9 (M 3), oMs (q 4) (d 4), aI G (d 4) 9 (M 4), oMs (q 5) (d 5), aI G (d 5) 9 (M 5), oMs (q 6) (d 6), aI G (d 6) 9 (M 6), oMs (q 7) (d 7), aI G (d 7) 9 (M 7), oMs dr da, aI G da 9 f_1]) H2) (hD2 : va_D A ([oPe h lc ls li lo dr p, oLa lo b, oRo rh w rp, aM G w 8 (krow q), oMs (q 0) (d 0), aI G (d 0) 9 (M 0), oMs (q 1) (d 1), aI G (d 1) 9 (M 1), oMs (q 2) (d 2), aI G (d 2) 9 (M 2), oMs (q 3) (d 3), aI G (d 3) 9 (M 3), oMs (q 4) (d 4), aI G (d 4) 9 (M 4), oMs (q 5) (d 5), aI G (d 5) 9 (M 5), oMs (q 6) (d 6), aI G (d 6) 9 (M 6), oMs (q 7) (d 7), aI G (d 7) 9 (M 7), oMs dr da, aI G da 9 f_1])) hS2 => ?_)
  clear hP0 hD0 hS0
  have w1_0 : f_1 = kbeg f 7 := hw1
  refine lv_aload_n hx hb dX3_sendUpdate_9 rfl (lv_at hl0 0 rfl) ?_
  refine kget F hK hP2 3 0 17 iX3 rfl rfl (by decide) (List.mem_of_getElem? (i := 1) rfl) rfl dX3_sendUpdate_10 ?_
  refine lv_iconst (v := 1) hx hb dX3_sendUpdate_13 (by decide) ?_
  refine lv_aload_n hx hb dX3_sendUpdate_14 rfl (lv_at hl0 0 rfl) ?_
  refine kget F hK hP2 3 0 16 iX3 rfl rfl (by decide) (List.mem_of_getElem? (i := 2) rfl) rfl dX3_sendUpdate_15 ?_
  refine lv_aload_n hx hb dX3_sendUpdate_18 rfl (lv_at hl0 0 rfl) ?_
  refine kget F hK hP2 3 0 10 iX3 rfl rfl (by decide) (List.mem_of_getElem? (i := 3) rfl) rfl dX3_sendUpdate_19 ?_
  refine lv_iconst (v := (-1)) hx hb dX3_sendUpdate_22 (by decide) ?_
  refine kVi (wr := [oPe h lc ls li lo dr p, oRo rh w rp, aM G w 8 (krow q), oMs (q 0) (d 0), aI G (d 0) 9 (M 0), oMs (q 1) (d 1), aI G (d 1) 9 (M 1), oMs (q 2) (d 2), aI G (d 2) 9 (M 2), oMs (q 3) (d 3), aI G (d 3) 9 (M 3), oMs (q 4) (d 4), aI G (d 4) 9 (M 4), oMs (q 5) (d 5), aI G (d 5) 9 (M 5), oMs (q 6) (d 6), aI G (d 6) 9 (M 6), oMs (q 7) (d 7), aI G (d 7) 9 (M 7), oMs dr da, aI G da 9 f_1]) F hK hP2 hD2 hS2 hA hl0.1 (c_X1_tagOf l G lo b (p 10) (-1)) [1] [0, 2, 3, 4, 5, 6, 7, 8, 9, 10, 11, 12, 13, 14, 15, 16, 17, 18, 19, 20, 21] 1 0 gX3_sendUpdate_X1_tagOf rfl 2 rfl (by decide +kernel) ⟨Nat.le_of_ble_eq_true rfl, Nat.le_of_ble_eq_true rfl⟩ ⟨Nat.zero_le _, Nat.zero_le _⟩ rfl rfl rfl rfl (by decide) (by decide) (by decide) (Nat.le_of_ble_eq_true rfl) rfl dX3_sendUpdate_23 (fun r3 u3 H4 locs4 hw3 (hP4 : va_P G.1 vwCl ([oPe h lc ls li lo dr p, oRo rh w rp, aM G w 8 (krow q), oMs (q 0) (d 0), aI G (d 0) 9 (M 0), oMs (q 1) (d 1), aI G (d 1) 9 (M 1), oMs (q 2) (d 2), aI G (d 2) 9 (M 2), oMs (q 3) (d 3), aI G (d 3) 9 (M 3), oMs (q 4) (d 4), aI G (d 4) 9 (M 4), oMs (q 5) (d 5), aI G (d 5) 9 (M 5), oMs (q 6) (d 6), aI G (d 6) 9 (M 6), oMs (q 7) (d 7), aI G (d 7) 9 (M 7), oMs dr da, aI G da 9 f_1, oLa lo b]) H4) (hD4 : va_D A ([oPe h lc ls li lo dr p, oRo rh w rp, aM G w 8 (krow q), oMs (q 0) (d 0), aI G (d 0) 9 (M 0), oMs (q 1) (d 1), aI G (d 1) 9 (M 1), oMs (q 2) (d 2), aI G (d 2) 9 (M 2), oMs (q 3) (d 3), aI G (d 3) 9 (M 3), oMs (q 4) (d 4), aI G (d 4) 9 (M 4), oMs (q 5) (d 5), aI G (d 5) 9 (M 5), oMs (q 6) (d 6), aI G (d 6) 9 (M 6), oMs (q 7) (d 7), aI G (d 7) 9 (M 7), oMs dr da, aI G da 9 f_1, oLa lo b])) hS4 => ?_)
  clear hP2 hD2 hS2
  have w3_0 : r3 = ktag b (p 10) (-1) := hw3
  refine kVv (wr := [oPe h lc ls li lo dr p, oRo rh w rp, aM G w 8 (krow q), oMs (q 0) (d 0), aI G (d 0) 9 (M 0), oMs (q 1) (d 1), aI G (d 1) 9 (M 1), oMs (q 2) (d 2), aI G (d 2) 9 (M 2), oMs (q 3) (d 3), aI G (d 3) 9 (M 3), oMs (q 4) (d 4), aI G (d 4) 9 (M 4), oMs (q 5) (d 5), aI G (d 5) 9 (M 5), oMs (q 6) (d 6), aI G (d 6) 9 (M 6), oMs (q 7) (d 7), aI G (d 7) 9 (M 7), oLa lo b]) F hK hP4 hD4 hS4 hA hl0.1 (c_X2_put l G dr da f_1 1 r3 (by decide)) [19, 20] [0, 1, 2, 3, 4, 5, 6, 7, 8, 9, 10, 11, 12, 13, 14, 15, 16, 17, 18, 21] 2 0 gX3_sendUpdate_X2_put rfl 2 rfl (by decide +kernel) ⟨Nat.le_of_ble_eq_true rfl, Nat.le_of_ble_eq_true rfl⟩ ⟨Nat.zero_le _, Nat.zero_le _⟩ rfl rfl rfl rfl (by decide) (by decide) (by decide) (Nat.le_of_ble_eq_true rfl) rfl dX3_sendUpdate_26 (fun f_5 H6 locs6 hw5 (hP6 : va_P G.1 vwCl ([oPe h lc ls li lo dr p, oRo rh w rp, aM G w 8 (krow q), oMs (q 0) (d 0), aI G (d 0) 9 (M 0), oMs (q 1) (d 1), aI G (d 1) 9 (M 1), oMs (q 2) (d 2), aI G (d 2) 9 (M 2), oMs (q 3) (d 3), aI G (d 3) 9 (M 3), oMs (q 4) (d 4), aI G (d 4) 9 (M 4), oMs (q 5) (d 5), aI G (d 5) 9 (M 5), oMs (q 6) (d 6), aI G (d 6) 9 (M 6), oMs (q 7) (d 7), aI G (d 7) 9 (M 7), oLa lo b, oMs dr da, aI G da 9 f_5]) H6) (hD6 : va_D A ([oPe h lc ls li lo dr p, oRo rh w rp, aM G w 8 (krow q), oMs (q 0) (d 0), aI G (d 0) 9 (M 0), oMs (q 1) (d 1), aI G (d 1) 9 (M 1), oMs (q 2) (d 2), aI G (d 2) 9 (M 2), oMs (q 3) (d 3), aI G (d 3) 9 (M 3), oMs (q 4) (d 4), aI G (d 4) 9 (M 4), oMs (q 5) (d 5), aI G (d 5) 9 (M 5), oMs (q 6) (d 6), aI G (d 6) 9 (M 6), oMs (q 7) (d 7), aI G (d 7) 9 (M 7), oLa lo b, oMs dr da, aI G da 9 f_5])) hS6 => ?_)
  clear hP4 hD4 hS4
  have w5_0 : f_5 = upd f_1 1 r3 := hw5
  refine lv_aload_n hx hb dX3_sendUpdate_29 rfl (lv_at hl0 1 rfl) ?_
  refine lv_aload_n hx hb dX3_sendUpdate_30 rfl (lv_at hl0 0 rfl) ?_
  refine kget F hK hP6 3 0 17 iX3 rfl rfl (by decide) (List.mem_of_getElem? (i := 1) rfl) rfl dX3_sendUpdate_31 ?_
  refine kVv (wr := [oPe h lc ls li lo dr p, oLa lo b]) F hK hP6 hD6 hS6 hA hl0.1 (c_X4_send l G rh w q d rp M dr da f_5 L hL hL8) [1, 2, 3, 4, 5, 6, 7, 8, 9, 10, 11, 12, 13, 14, 15, 16, 17, 18, 20, 21] [0, 19] 4 0 gX3_sendUpdate_X4_send rfl 1 rfl (by decide +kernel) ⟨Nat.le_of_ble_eq_true rfl, Nat.le_of_ble_eq_true rfl⟩ ⟨Nat.zero_le _, Nat.zero_le _⟩ rfl rfl rfl rfl (by decide) (by decide) (by decide) (Nat.le_of_ble_eq_true rfl) rfl dX3_sendUpdate_34 (fun u7 H8 locs8 hw7 hP8 hD8 hS8 => ?_)
  obtain ⟨p_7, M_7⟩ := u7
  have hP8 : va_P G.1 vwCl ([oPe h lc ls li lo dr p, oLa lo b, oRo rh w p_7, aM G w 8 (krow q), oMs (q 0) (d 0), aI G (d 0) 9 (M_7 0), oMs (q 1) (d 1), aI G (d 1) 9 (M_7 1), oMs (q 2) (d 2), aI G (d 2) 9 (M_7 2), oMs (q 3) (d 3), aI G (d 3) 9 (M_7 3), oMs (q 4) (d 4), aI G (d 4) 9 (M_7 4), oMs (q 5) (d 5), aI G (d 5) 9 (M_7 5), oMs (q 6) (d 6), aI G (d 6) 9 (M_7 6), oMs (q 7) (d 7), aI G (d 7) 9 (M_7 7), oMs dr da, aI G da 9 f_5]) H8 := hP8
  have hD8 : va_D A ([oPe h lc ls li lo dr p, oLa lo b, oRo rh w p_7, aM G w 8 (krow q), oMs (q 0) (d 0), aI G (d 0) 9 (M_7 0), oMs (q 1) (d 1), aI G (d 1) 9 (M_7 1), oMs (q 2) (d 2), aI G (d 2) 9 (M_7 2), oMs (q 3) (d 3), aI G (d 3) 9 (M_7 3), oMs (q 4) (d 4), aI G (d 4) 9 (M_7 4), oMs (q 5) (d 5), aI G (d 5) 9 (M_7 5), oMs (q 6) (d 6), aI G (d 6) 9 (M_7 6), oMs (q 7) (d 7), aI G (d 7) 9 (M_7 7), oMs dr da, aI G da 9 f_5]) := hD8
  clear hP6 hD6 hS6
  have w7_0 : p_7 = ksendP L rp := hw7.1
  have w7_1 : M_7 = ksendM L M f_5 := hw7.2
  refine lv_aload_n hx hb dX3_sendUpdate_37 rfl (lv_at hl0 0 rfl) ?_
  refine kget F hK hP8 3 0 16 iX3 rfl rfl (by decide) (List.mem_of_getElem? (i := 2) rfl) rfl dX3_sendUpdate_38 ?_
  refine lv_dup hx hb dX3_sendUpdate_41 rfl ?_
  refine kget F hK hP8 1 1 1 iX1 rfl rfl (by decide) (List.mem_of_getElem? (i := 4) rfl) rfl dX3_sendUpdate_42 ?_
  refine lv_iconst (v := 1) hx hb dX3_sendUpdate_45 (by decide) ?_
  refine lv_iadd hx hb dX3_sendUpdate_46 ?_
  refine kput F hK hP8 hD8 hS8 (ty0 := tyX1) 1 1 1 iX1 rfl tyX1_ok nmX1 (fun zz => [oPe h lc ls li lo dr p, oLa lo zz, oRo rh w p_7, aM G w 8 (krow q), oMs (q 0) (d 0), aI G (d 0) 9 (M_7 0), oMs (q 1) (d 1), aI G (d 1) 9 (M_7 1), oMs (q 2) (d 2), aI G (d 2) 9 (M_7 2), oMs (q 3) (d 3), aI G (d 3) 9 (M_7 3), oMs (q 4) (d 4), aI G (d 4) 9 (M_7 4), oMs (q 5) (d 5), aI G (d 5) 9 (M_7 5), oMs (q 6) (d 6), aI G (d 6) 9 (M_7 6), oMs (q 7) (d 7), aI G (d 7) 9 (M_7 7), oMs dr da, aI G da 9 f_5]) b rfl (by decide) (List.mem_of_getElem? (i := 4) rfl) rfl rfl rfl (Nat.le_of_ble_eq_true rfl) rfl dX3_sendUpdate_47 (fun H9 locs9 b9 eb9 (hP9 : va_P G.1 vwCl ([oPe h lc ls li lo dr p, oLa lo b9, oRo rh w p_7, aM G w 8 (krow q), oMs (q 0) (d 0), aI G (d 0) 9 (M_7 0), oMs (q 1) (d 1), aI G (d 1) 9 (M_7 1), oMs (q 2) (d 2), aI G (d 2) 9 (M_7 2), oMs (q 3) (d 3), aI G (d 3) 9 (M_7 3), oMs (q 4) (d 4), aI G (d 4) 9 (M_7 4), oMs (q 5) (d 5), aI G (d 5) 9 (M_7 5), oMs (q 6) (d 6), aI G (d 6) 9 (M_7 6), oMs (q 7) (d 7), aI G (d 7) 9 (M_7 7), oMs dr da, aI G da 9 f_5]) H9) (hD9 : va_D A ([oPe h lc ls li lo dr p, oLa lo b9, oRo rh w p_7, aM G w 8 (krow q), oMs (q 0) (d 0), aI G (d 0) 9 (M_7 0), oMs (q 1) (d 1), aI G (d 1) 9 (M_7 1), oMs (q 2) (d 2), aI G (d 2) 9 (M_7 2), oMs (q 3) (d 3), aI G (d 3) 9 (M_7 3), oMs (q 4) (d 4), aI G (d 4) 9 (M_7 4), oMs (q 5) (d 5), aI G (d 5) 9 (M_7 5), oMs (q 6) (d 6), aI G (d 6) 9 (M_7 6), oMs (q 7) (d 7), aI G (d 7) 9 (M_7 7), oMs dr da, aI G da 9 f_5])) hS9 => ?_)
  clear hP8 hD8 hS8
  refine lv_aload_n hx hb dX3_sendUpdate_50 rfl (lv_at hl0 0 rfl) ?_
  refine kget F hK hP9 3 0 16 iX3 rfl rfl (by decide) (List.mem_of_getElem? (i := 2) rfl) rfl dX3_sendUpdate_51 ?_
  refine lv_dup hx hb dX3_sendUpdate_54 rfl ?_
  refine kget F hK hP9 1 1 2 iX1 rfl rfl (by decide) (List.mem_of_getElem? (i := 5) rfl) rfl dX3_sendUpdate_55 ?_
  refine lv_iconst (v := 1) hx hb dX3_sendUpdate_58 (by decide) ?_
  refine lv_iadd hx hb dX3_sendUpdate_59 ?_
  refine kput F hK hP9 hD9 hS9 (ty0 := tyX1) 1 1 2 iX1 rfl tyX1_ok nmX1 (fun zz => [oPe h lc ls li lo dr p, oLa lo zz, oRo rh w p_7, aM G w 8 (krow q), oMs (q 0) (d 0), aI G (d 0) 9 (M_7 0), oMs (q 1) (d 1), aI G (d 1) 9 (M_7 1), oMs (q 2) (d 2), aI G (d 2) 9 (M_7 2), oMs (q 3) (d 3), aI G (d 3) 9 (M_7 3), oMs (q 4) (d 4), aI G (d 4) 9 (M_7 4), oMs (q 5) (d 5), aI G (d 5) 9 (M_7 5), oMs (q 6) (d 6), aI G (d 6) 9 (M_7 6), oMs (q 7) (d 7), aI G (d 7) 9 (M_7 7), oMs dr da, aI G da 9 f_5]) b9 rfl (by decide) (List.mem_of_getElem? (i := 5) rfl) rfl rfl rfl (Nat.le_of_ble_eq_true rfl) rfl dX3_sendUpdate_60 (fun H10 locs10 b10 eb10 (hP10 : va_P G.1 vwCl ([oPe h lc ls li lo dr p, oLa lo b10, oRo rh w p_7, aM G w 8 (krow q), oMs (q 0) (d 0), aI G (d 0) 9 (M_7 0), oMs (q 1) (d 1), aI G (d 1) 9 (M_7 1), oMs (q 2) (d 2), aI G (d 2) 9 (M_7 2), oMs (q 3) (d 3), aI G (d 3) 9 (M_7 3), oMs (q 4) (d 4), aI G (d 4) 9 (M_7 4), oMs (q 5) (d 5), aI G (d 5) 9 (M_7 5), oMs (q 6) (d 6), aI G (d 6) 9 (M_7 6), oMs (q 7) (d 7), aI G (d 7) 9 (M_7 7), oMs dr da, aI G da 9 f_5]) H10) (hD10 : va_D A ([oPe h lc ls li lo dr p, oLa lo b10, oRo rh w p_7, aM G w 8 (krow q), oMs (q 0) (d 0), aI G (d 0) 9 (M_7 0), oMs (q 1) (d 1), aI G (d 1) 9 (M_7 1), oMs (q 2) (d 2), aI G (d 2) 9 (M_7 2), oMs (q 3) (d 3), aI G (d 3) 9 (M_7 3), oMs (q 4) (d 4), aI G (d 4) 9 (M_7 4), oMs (q 5) (d 5), aI G (d 5) 9 (M_7 5), oMs (q 6) (d 6), aI G (d 6) 9 (M_7 6), oMs (q 7) (d 7), aI G (d 7) 9 (M_7 7), oMs dr da, aI G da 9 f_5])) hS10 => ?_)
  clear hP9 hD9 hS9
  refine lv_aload_n hx hb dX3_sendUpdate_63 rfl (lv_at hl0 0 rfl) ?_
  refine kget F hK hP10 3 0 16 iX3 rfl rfl (by decide) (List.mem_of_getElem? (i := 2) rfl) rfl dX3_sendUpdate_64 ?_
  refine kget F hK hP10 1 1 1 iX1 rfl rfl (by decide) (List.mem_of_getElem? (i := 4) rfl) rfl dX3_sendUpdate_67 ?_
  have q11 : ((b10 1) = b 1 + 1) ∧ (b10 = upd (upd b 1 (b 1 + 1)) 2 (b 2 + 1)) ∧ (f_5 = kupm p b f) ∧ (p_7 = ksendP L rp) ∧ (M_7 = ksendM L M (kupm p b f)) := by
    subst eb10
    subst eb9
    subst w7_1
    subst w7_0
    subst w5_0
    subst w3_0
    subst w1_0
    first | (simp only [eq_self, ↓reduceIte, and_self, and_true, true_and]; done) | (simp only [eq_self, ↓reduceIte, and_self, and_true, true_and]; (try and_intros) <;> rfl) | exact ⟨rfl, rfl, rfl, rfl, rfl⟩
  exact kRi F hr hlocks hS10 dX3_sendUpdate_70 ⟨b10, f_5, p_7, M_7⟩ q11 (hP10.sub [0, 1, 20, 21, 2, 3, 4, 5, 6, 7, 8, 9, 10, 11, 12, 13, 14, 15, 16, 17, 18, 19] rfl) (hD10.sub [0, 1, 20, 21, 2, 3, 4, 5, 6, 7, 8, 9, 10, 11, 12, 13, 14, 15, 16, 17, 18, 19] (by decide) rfl)
set_option maxHeartbeats 1000000 in
set_option maxRecDepth 100000 in
theorem c_X3_receiveLetter (l : Launch) (G : kG) (h : Nat) (lc : Nat) (ls : Nat) (li : Nat) (lo : Nat) (dr : Nat) (p : Nat → Int32) (b : Nat → Int32) (x : Int32) (y : Int32) : kM G l yX3_receiveLetter wsX3_receiveLetter ({ frames := 3, cells := 0, slots := 0, locals := 65 }) [.ref h, .int x, .int y] ([oPe h lc ls li lo dr p, oLa li b]) (kQv G (fun (uu : (Nat → Int32) × (Nat → Int32)) => (uu.1 = (krlet p b x y).1) ∧ (uu.2 = (krlet p b x y).2)) (fun (uu : (Nat → Int32) × (Nat → Int32)) => [oPe h lc ls li lo dr uu.1, oLa li uu.2])) := by
  refine kStart (cc := cX3_receiveLetter) (maxL := 3) (ret := none) (by decide) rfl (Nat.le_of_ble_eq_true rfl) (fun pg ev st mi bl mt cd A ls0 F hr hlocks hin hK hP0 hD0 hA hS0 hl0 => ?_)
  obtain ⟨hx, hb, hml, hown, hts⟩ := id F
  have hl0 : lv_has ls0 3 [(0, .ref h), (1, .int x), (2, .int y)] := hl0
  have iX1 : ∀ w ∈ u_ws RX1 TX1 3, w ∈ wsX3_receiveLetter := fun w h => List.mem_cons_of_mem _ (List.mem_append_right _ h)
  have iX3 : ∀ w ∈ u_ws RX3 TX3 18, w ∈ wsX3_receiveLetter := fun w h => List.mem_cons_of_mem _ (List.mem_append_left _ (List.mem_append_right _ h))
  refine lv_iload_n hx hb dX3_receiveLetter_0 rfl (lv_at hl0 2 rfl) ?_
  refine lv_aload_n hx hb dX3_receiveLetter_1 rfl (lv_at hl0 0 rfl) ?_
  refine kget F hK hP0 3 0 15 iX3 rfl rfl (by decide) (List.mem_of_getElem? (i := 1) rfl) rfl dX3_receiveLetter_2 ?_
  refine lv_aload_n hx hb dX3_receiveLetter_5 rfl (lv_at hl0 0 rfl) ?_
  refine kget F hK hP0 3 0 10 iX3 rfl rfl (by decide) (List.mem_of_getElem? (i := 2) rfl) rfl dX3_receiveLetter_6 ?_
  refine lv_iload_n hx hb dX3_receiveLetter_9 rfl (lv_at hl0 1 rfl) ?_
  refine kVi (wr := [oPe h lc ls li lo dr p]) F hK hP0 hD0 hS0 hA hl0.1 (c_X1_tagOf l G li b (p 10) x) [1] [0] 1 0 gX3_receiveLetter_X1_tagOf rfl 2 rfl (by decide +kernel) ⟨Nat.le_of_ble_eq_true rfl, Nat.le_of_ble_eq_true rfl⟩ ⟨Nat.zero_le _, Nat.zero_le _⟩ rfl rfl rfl rfl (by decide) (by decide) (by decide) (Nat.le_of_ble_eq_true rfl) rfl dX3_receiveLetter_10 (fun r1 u1 H2 locs2 hw1 (hP2 : va_P G.1 vwCl ([oPe h lc ls li lo dr p, oLa li b]) H2) (hD2 : va_D A ([oPe h lc ls li lo dr p, oLa li b])) hS2 => ?_)
  clear hP0 hD0 hS0
  have w1_0 : r1 = ktag b (p 10) x := hw1
  refine lv_icmp_eq (tgt := 23) hx hb dX3_receiveLetter_13 (by decide) (fun c3 => ?_) (fun c3 => ?_)
  · refine lv_aload_n hx hb dX3_receiveLetter_23 rfl (lv_at hl0 0 rfl) ?_
    refine lv_dup hx hb dX3_receiveLetter_24 rfl ?_
    refine kget F hK hP2 3 0 11 iX3 rfl rfl (by decide) (List.mem_of_getElem? (i := 3) rfl) rfl dX3_receiveLetter_25 ?_
    refine lv_iconst (v := 1) hx hb dX3_receiveLetter_28 (by decide) ?_
    refine lv_iadd hx hb dX3_receiveLetter_29 ?_
    refine kput F hK hP2 hD2 hS2 (ty0 := tyX3) 3 0 11 iX3 rfl tyX3_ok nmX3 (fun zz => [oPe h lc ls li lo dr zz, oLa li b]) p rfl (by decide) (List.mem_of_getElem? (i := 3) rfl) rfl rfl rfl (Nat.le_of_ble_eq_true rfl) rfl dX3_receiveLetter_30 (fun H4 locs4 p4 ep4 (hP4 : va_P G.1 vwCl ([oPe h lc ls li lo dr p4, oLa li b]) H4) (hD4 : va_D A ([oPe h lc ls li lo dr p4, oLa li b])) hS4 => ?_)
    clear hP2 hD2 hS2
    refine lv_aload_n hx hb dX3_receiveLetter_33 rfl (lv_at hl0 0 rfl) ?_
    refine lv_dup hx hb dX3_receiveLetter_34 rfl ?_
    refine kget F hK hP4 3 0 12 iX3 rfl rfl (by decide) (List.mem_of_getElem? (i := 4) rfl) rfl dX3_receiveLetter_35 ?_
    refine lv_aload_n hx hb dX3_receiveLetter_38 rfl (lv_at hl0 0 rfl) ?_
    refine kget F hK hP4 3 0 15 iX3 rfl rfl (by decide) (List.mem_of_getElem? (i := 1) rfl) rfl dX3_receiveLetter_39 ?_
    refine lv_aload_n hx hb dX3_receiveLetter_42 rfl (lv_at hl0 0 rfl) ?_
    refine kget F hK hP4 3 0 10 iX3 rfl rfl (by decide) (List.mem_of_getElem? (i := 2) rfl) rfl dX3_receiveLetter_43 ?_
    refine lv_iload_n hx hb dX3_receiveLetter_46 rfl (lv_at hl0 1 rfl) ?_
    refine kVi (wr := [oPe h lc ls li lo dr p4]) F hK hP4 hD4 hS4 hA hl0.1 (c_X1_veil l G li b (p4 10) x) [1] [0] 1 0 gX3_receiveLetter_X1_veil rfl 2 rfl (by decide +kernel) ⟨Nat.le_of_ble_eq_true rfl, Nat.le_of_ble_eq_true rfl⟩ ⟨Nat.zero_le _, Nat.zero_le _⟩ rfl rfl rfl rfl (by decide) (by decide) (by decide) (Nat.le_of_ble_eq_true rfl) rfl dX3_receiveLetter_47 (fun r5 u5 H6 locs6 hw5 (hP6 : va_P G.1 vwCl ([oPe h lc ls li lo dr p4, oLa li b]) H6) (hD6 : va_D A ([oPe h lc ls li lo dr p4, oLa li b])) hS6 => ?_)
    clear hP4 hD4 hS4
    have w5_0 : r5 = kveil b (p4 10) x := hw5
    refine lv_iadd hx hb dX3_receiveLetter_50 ?_
    refine kput F hK hP6 hD6 hS6 (ty0 := tyX3) 3 0 12 iX3 rfl tyX3_ok nmX3 (fun zz => [oPe h lc ls li lo dr zz, oLa li b]) p4 rfl (by decide) (List.mem_of_getElem? (i := 4) rfl) rfl rfl rfl (Nat.le_of_ble_eq_true rfl) rfl dX3_receiveLetter_51 (fun H7 locs7 p7 ep7 (hP7 : va_P G.1 vwCl ([oPe h lc ls li lo dr p7, oLa li b]) H7) (hD7 : va_D A ([oPe h lc ls li lo dr p7, oLa li b])) hS7 => ?_)
    clear hP6 hD6 hS6
    refine lv_aload_n hx hb dX3_receiveLetter_54 rfl (lv_at hl0 0 rfl) ?_
    refine kget F hK hP7 3 0 15 iX3 rfl rfl (by decide) (List.mem_of_getElem? (i := 1) rfl) rfl dX3_receiveLetter_55 ?_
    refine lv_dup hx hb dX3_receiveLetter_58 rfl ?_
    refine kget F hK hP7 1 1 2 iX1 rfl rfl (by decide) (List.mem_of_getElem? (i := 5) rfl) rfl dX3_receiveLetter_59 ?_
    refine lv_iconst (v := 1) hx hb dX3_receiveLetter_62 (by decide) ?_
    refine lv_iadd hx hb dX3_receiveLetter_63 ?_
    refine kput F hK hP7 hD7 hS7 (ty0 := tyX1) 1 1 2 iX1 rfl tyX1_ok nmX1 (fun zz => [oPe h lc ls li lo dr p7, oLa li zz]) b rfl (by decide) (List.mem_of_getElem? (i := 5) rfl) rfl rfl rfl (Nat.le_of_ble_eq_true rfl) rfl dX3_receiveLetter_64 (fun H8 locs8 b8 eb8 (hP8 : va_P G.1 vwCl ([oPe h lc ls li lo dr p7, oLa li b8]) H8) (hD8 : va_D A ([oPe h lc ls li lo dr p7, oLa li b8])) hS8 => ?_)
    clear hP7 hD7 hS7
    have q9 : (p7 = (krlet p b x y).1) ∧ (b8 = (krlet p b x y).2) := by
      subst eb8
      subst ep7
      subst w5_0
      subst ep4
      subst w1_0
      first | (simp only [krlet, eq_true c3, eq_self, ↓reduceIte, and_self, and_true, true_and]; done) | (simp only [krlet, eq_true c3, eq_self, ↓reduceIte, and_self, and_true, true_and]; (try and_intros) <;> rfl) | exact ⟨rfl, rfl⟩
    exact kRv F hr hlocks hS8 dX3_receiveLetter_67 ⟨p7, b8⟩ q9 hP8 hD8
  · refine lv_aload_n hx hb dX3_receiveLetter_16 rfl (lv_at hl0 0 rfl) ?_
    refine lv_bipush (v := 9) hx hb dX3_receiveLetter_17 (by decide) ?_
    refine kVv (wr := [oLa li b]) F hK hP2 hD2 hS2 hA hl0.1 (c_X3_fail l G h lc ls li lo dr p 9) [0] [1] 3 0 gX3_receiveLetter_X3_fail rfl 1 rfl (by decide +kernel) ⟨Nat.le_of_ble_eq_true rfl, Nat.le_of_ble_eq_true rfl⟩ ⟨Nat.zero_le _, Nat.zero_le _⟩ rfl rfl rfl rfl (by decide) (by decide) (by decide) (Nat.le_of_ble_eq_true rfl) rfl dX3_receiveLetter_19 (fun p_10 H11 locs11 hw10 (hP11 : va_P G.1 vwCl ([oLa li b, oPe h lc ls li lo dr p_10]) H11) (hD11 : va_D A ([oLa li b, oPe h lc ls li lo dr p_10])) hS11 => ?_)
    clear hP2 hD2 hS2
    have w10_0 : p_10 = kfail p 9 := hw10
    have q12 : (p_10 = (krlet p b x y).1) ∧ (b = (krlet p b x y).2) := by
      subst w10_0
      subst w1_0
      first | (simp only [krlet, c3, eq_self, ↓reduceIte, and_self, and_true, true_and]; done) | (simp only [krlet, c3, eq_self, ↓reduceIte, and_self, and_true, true_and]; (try and_intros) <;> rfl) | exact ⟨rfl, rfl⟩
    exact kRv F hr hlocks hS11 dX3_receiveLetter_22 ⟨p_10, b⟩ q12 (hP11.sub [1, 0] rfl) (hD11.sub [1, 0] (by decide) rfl)
set_option maxHeartbeats 1000000 in
set_option maxRecDepth 100000 in
theorem c_X3_receiveUpdate (l : Launch) (G : kG) (h : Nat) (lc : Nat) (ls : Nat) (li : Nat) (lo : Nat) (dr : Nat) (p : Nat → Int32) (b : Nat → Int32) (y : Int32) : kM G l yX3_receiveUpdate wsX3_receiveUpdate ({ frames := 3, cells := 0, slots := 0, locals := 65 }) [.ref h, .int y] ([oPe h lc ls li lo dr p, oLa li b]) (kQv G (fun (uu : (Nat → Int32) × (Nat → Int32)) => (uu.1 = (krupd p b y).1) ∧ (uu.2 = (krupd p b y).2)) (fun (uu : (Nat → Int32) × (Nat → Int32)) => [oPe h lc ls li lo dr uu.1, oLa li uu.2])) := by
  refine kStart (cc := cX3_receiveUpdate) (maxL := 2) (ret := none) (by decide) rfl (Nat.le_of_ble_eq_true rfl) (fun pg ev st mi bl mt cd A ls0 F hr hlocks hin hK hP0 hD0 hA hS0 hl0 => ?_)
  obtain ⟨hx, hb, hml, hown, hts⟩ := id F
  have hl0 : lv_has ls0 2 [(0, .ref h), (1, .int y)] := hl0
  have iX1 : ∀ w ∈ u_ws RX1 TX1 3, w ∈ wsX3_receiveUpdate := fun w h => List.mem_cons_of_mem _ (List.mem_append_right _ h)
  have iX3 : ∀ w ∈ u_ws RX3 TX3 18, w ∈ wsX3_receiveUpdate := fun w h => List.mem_cons_of_mem _ (List.mem_append_left _ (List.mem_append_right _ h))
  refine lv_iload_n hx hb dX3_receiveUpdate_0 rfl (lv_at hl0 1 rfl) ?_
  refine lv_aload_n hx hb dX3_receiveUpdate_1 rfl (lv_at hl0 0 rfl) ?_
  refine kget F hK hP0 3 0 15 iX3 rfl rfl (by decide) (List.mem_of_getElem? (i := 1) rfl) rfl dX3_receiveUpdate_2 ?_
  refine lv_aload_n hx hb dX3_receiveUpdate_5 rfl (lv_at hl0 0 rfl) ?_
  refine kget F hK hP0 3 0 10 iX3 rfl rfl (by decide) (List.mem_of_getElem? (i := 2) rfl) rfl dX3_receiveUpdate_6 ?_
  refine lv_iconst (v := (-1)) hx hb dX3_receiveUpdate_9 (by decide) ?_
  refine kVi (wr := [oPe h lc ls li lo dr p]) F hK hP0 hD0 hS0 hA hl0.1 (c_X1_tagOf l G li b (p 10) (-1)) [1] [0] 1 0 gX3_receiveUpdate_X1_tagOf rfl 2 rfl (by decide +kernel) ⟨Nat.le_of_ble_eq_true rfl, Nat.le_of_ble_eq_true rfl⟩ ⟨Nat.zero_le _, Nat.zero_le _⟩ rfl rfl rfl rfl (by decide) (by decide) (by decide) (Nat.le_of_ble_eq_true rfl) rfl dX3_receiveUpdate_10 (fun r1 u1 H2 locs2 hw1 (hP2 : va_P G.1 vwCl ([oPe h lc ls li lo dr p, oLa li b]) H2) (hD2 : va_D A ([oPe h lc ls li lo dr p, oLa li b])) hS2 => ?_)
  clear hP0 hD0 hS0
  have w1_0 : r1 = ktag b (p 10) (-1) := hw1
  refine lv_icmp_eq (tgt := 23) hx hb dX3_receiveUpdate_13 (by decide) (fun c3 => ?_) (fun c3 => ?_)
  · refine lv_aload_n hx hb dX3_receiveUpdate_23 rfl (lv_at hl0 0 rfl) ?_
    refine kget F hK hP2 3 0 15 iX3 rfl rfl (by decide) (List.mem_of_getElem? (i := 1) rfl) rfl dX3_receiveUpdate_24 ?_
    refine lv_dup hx hb dX3_receiveUpdate_27 rfl ?_
    refine kget F hK hP2 1 1 1 iX1 rfl rfl (by decide) (List.mem_of_getElem? (i := 3) rfl) rfl dX3_receiveUpdate_28 ?_
    refine lv_iconst (v := 1) hx hb dX3_receiveUpdate_31 (by decide) ?_
    refine lv_iadd hx hb dX3_receiveUpdate_32 ?_
    refine kput F hK hP2 hD2 hS2 (ty0 := tyX1) 1 1 1 iX1 rfl tyX1_ok nmX1 (fun zz => [oPe h lc ls li lo dr p, oLa li zz]) b rfl (by decide) (List.mem_of_getElem? (i := 3) rfl) rfl rfl rfl (Nat.le_of_ble_eq_true rfl) rfl dX3_receiveUpdate_33 (fun H4 locs4 b4 eb4 (hP4 : va_P G.1 vwCl ([oPe h lc ls li lo dr p, oLa li b4]) H4) (hD4 : va_D A ([oPe h lc ls li lo dr p, oLa li b4])) hS4 => ?_)
    clear hP2 hD2 hS2
    refine lv_aload_n hx hb dX3_receiveUpdate_36 rfl (lv_at hl0 0 rfl) ?_
    refine kget F hK hP4 3 0 15 iX3 rfl rfl (by decide) (List.mem_of_getElem? (i := 1) rfl) rfl dX3_receiveUpdate_37 ?_
    refine lv_dup hx hb dX3_receiveUpdate_40 rfl ?_
    refine kget F hK hP4 1 1 2 iX1 rfl rfl (by decide) (List.mem_of_getElem? (i := 4) rfl) rfl dX3_receiveUpdate_41 ?_
    refine lv_iconst (v := 1) hx hb dX3_receiveUpdate_44 (by decide) ?_
    refine lv_iadd hx hb dX3_receiveUpdate_45 ?_
    refine kput F hK hP4 hD4 hS4 (ty0 := tyX1) 1 1 2 iX1 rfl tyX1_ok nmX1 (fun zz => [oPe h lc ls li lo dr p, oLa li zz]) b4 rfl (by decide) (List.mem_of_getElem? (i := 4) rfl) rfl rfl rfl (Nat.le_of_ble_eq_true rfl) rfl dX3_receiveUpdate_46 (fun H5 locs5 b5 eb5 (hP5 : va_P G.1 vwCl ([oPe h lc ls li lo dr p, oLa li b5]) H5) (hD5 : va_D A ([oPe h lc ls li lo dr p, oLa li b5])) hS5 => ?_)
    clear hP4 hD4 hS4
    have q6 : (p = (krupd p b y).1) ∧ (b5 = (krupd p b y).2) := by
      subst eb5
      subst eb4
      subst w1_0
      first | (simp only [krupd, eq_true c3, eq_self, ↓reduceIte, and_self, and_true, true_and]; done) | (simp only [krupd, eq_true c3, eq_self, ↓reduceIte, and_self, and_true, true_and]; (try and_intros) <;> rfl) | exact ⟨rfl, rfl⟩
    exact kRv F hr hlocks hS5 dX3_receiveUpdate_49 ⟨p, b5⟩ q6 hP5 hD5
  · refine lv_aload_n hx hb dX3_receiveUpdate_16 rfl (lv_at hl0 0 rfl) ?_
    refine lv_bipush (v := 9) hx hb dX3_receiveUpdate_17 (by decide) ?_
    refine kVv (wr := [oLa li b]) F hK hP2 hD2 hS2 hA hl0.1 (c_X3_fail l G h lc ls li lo dr p 9) [0] [1] 3 0 gX3_receiveUpdate_X3_fail rfl 1 rfl (by decide +kernel) ⟨Nat.le_of_ble_eq_true rfl, Nat.le_of_ble_eq_true rfl⟩ ⟨Nat.zero_le _, Nat.zero_le _⟩ rfl rfl rfl rfl (by decide) (by decide) (by decide) (Nat.le_of_ble_eq_true rfl) rfl dX3_receiveUpdate_19 (fun p_7 H8 locs8 hw7 (hP8 : va_P G.1 vwCl ([oLa li b, oPe h lc ls li lo dr p_7]) H8) (hD8 : va_D A ([oLa li b, oPe h lc ls li lo dr p_7])) hS8 => ?_)
    clear hP2 hD2 hS2
    have w7_0 : p_7 = kfail p 9 := hw7
    have q9 : (p_7 = (krupd p b y).1) ∧ (b = (krupd p b y).2) := by
      subst w7_0
      subst w1_0
      first | (simp only [krupd, c3, eq_self, ↓reduceIte, and_self, and_true, true_and]; done) | (simp only [krupd, c3, eq_self, ↓reduceIte, and_self, and_true, true_and]; (try and_intros) <;> rfl) | exact ⟨rfl, rfl⟩
    exact kRv F hr hlocks hS8 dX3_receiveUpdate_22 ⟨p_7, b⟩ q9 (hP8.sub [1, 0] rfl) (hD8.sub [1, 0] (by decide) rfl)
set_option maxHeartbeats 1000000 in
set_option maxRecDepth 100000 in
theorem c_X3_receive (l : Launch) (G : kG) (h : Nat) (lc : Nat) (ls : Nat) (li : Nat) (lo : Nat) (dr : Nat) (p : Nat → Int32) (b : Nat → Int32) (h2 : Nat) (a2 : Nat) (g : Nat → Int32) : kM G l yX3_receive wsX3_receive ({ frames := 4, cells := 0, slots := 0, locals := 87 }) [.ref h, .ref h2] ([oPe h lc ls li lo dr p, oLa li b, oMs h2 a2, aI G a2 9 g]) (kQv G (fun (uu : (Nat → Int32) × (Nat → Int32)) => (uu.1 = (kprcv p b g).1) ∧ (uu.2 = (kprcv p b g).2)) (fun (uu : (Nat → Int32) × (Nat → Int32)) => [oPe h lc ls li lo dr uu.1, oLa li uu.2, oMs h2 a2, aI G a2 9 g])) := by
  refine kStart (cc := cX3_receive) (maxL := 3) (ret := none) (by decide) rfl (Nat.le_of_ble_eq_true rfl) (fun pg ev st mi bl mt cd A ls0 F hr hlocks hin hK hP0 hD0 hA hS0 hl0 => ?_)
  obtain ⟨hx, hb, hml, hown, hts⟩ := id F
  have hl0 : lv_has ls0 3 [(0, .ref h), (1, .ref h2)] := hl0
  have iX3 : ∀ w ∈ u_ws RX3 TX3 18, w ∈ wsX3_receive := fun w h => List.mem_cons_of_mem _ (List.mem_append_left _ (List.mem_append_left _ (List.mem_append_right _ h)))
  refine lv_aload_n hx hb dX3_receive_0 rfl (lv_at hl0 1 rfl) ?_
  refine lv_iconst (v := 0) hx hb dX3_receive_1 (by decide) ?_
  refine kVi (wr := [oPe h lc ls li lo dr p, oLa li b]) F hK hP0 hD0 hS0 hA hl0.1 (c_X2_at l G h2 a2 g 0 (by decide)) [2, 3] [0, 1] 2 0 gX3_receive_X2_at rfl 1 rfl (by decide +kernel) ⟨Nat.le_of_ble_eq_true rfl, Nat.le_of_ble_eq_true rfl⟩ ⟨Nat.zero_le _, Nat.zero_le _⟩ rfl rfl rfl rfl (by decide) (by decide) (by decide) (Nat.le_of_ble_eq_true rfl) rfl dX3_receive_2 (fun r1 u1 H2 locs2 hw1 (hP2 : va_P G.1 vwCl ([oPe h lc ls li lo dr p, oLa li b, oMs h2 a2, aI G a2 9 g]) H2) (hD2 : va_D A ([oPe h lc ls li lo dr p, oLa li b, oMs h2 a2, aI G a2 9 g])) hS2 => ?_)
  clear hP0 hD0 hS0
  have w1_0 : r1 = g 0 := hw1
  refine lv_istore_n (lv' := [(2, .int r1), (0, .ref h), (1, .ref h2)]) hx hb dX3_receive_5 rfl hl0 (by decide) rfl (fun ls3 hl3 => ?_)
  clear hl0
  refine lv_aload_n hx hb dX3_receive_6 rfl (lv_at hl3 1 rfl) ?_
  refine kget F hK hP2 3 0 3 iX3 rfl rfl (by decide) (List.mem_of_getElem? (i := 1) rfl) rfl dX3_receive_7 ?_
  refine lv_iconst (v := 4) hx hb dX3_receive_10 (by decide) ?_
  refine lv_icmp_ne (tgt := 37) hx hb dX3_receive_11 (by decide) (fun c4 => ?_) (fun c4 => ?_)
  · refine lv_aload_n hx hb dX3_receive_37 rfl (lv_at hl3 1 rfl) ?_
    refine kget F hK hP2 3 0 3 iX3 rfl rfl (by decide) (List.mem_of_getElem? (i := 1) rfl) rfl dX3_receive_38 ?_
    refine lv_iconst (v := 4) hx hb dX3_receive_41 (by decide) ?_
    refine lv_icmp_ne (tgt := 63) hx hb dX3_receive_42 (by decide) (fun c5 => ?_) (fun c5 => ?_)
    · refine lv_aload_n hx hb dX3_receive_63 rfl (lv_at hl3 1 rfl) ?_
      refine kget F hK hP2 3 0 3 iX3 rfl rfl (by decide) (List.mem_of_getElem? (i := 1) rfl) rfl dX3_receive_64 ?_
      refine lv_iconst (v := 5) hx hb dX3_receive_67 (by decide) ?_
      refine lv_icmp_eq (tgt := 76) hx hb dX3_receive_68 (by decide) (fun c6 => ?_) (fun c6 => ?_)
      · have q7 : (p = (kprcv p b g).1) ∧ (b = (kprcv p b g).2) := by
          subst w1_0
          first | (simp only [kprcv, c4, c5, eq_true c6, eq_self, ↓reduceIte, and_self, and_true, true_and]; done) | (simp only [kprcv, c4, c5, eq_true c6, eq_self, ↓reduceIte, and_self, and_true, true_and]; (try and_intros) <;> rfl) | exact ⟨rfl, rfl⟩
        exact kRv F hr hlocks hS2 dX3_receive_76 ⟨p, b⟩ q7 hP2 hD2
      · refine lv_aload_n hx hb dX3_receive_71 rfl (lv_at hl3 1 rfl) ?_
        refine lv_iconst (v := 1) hx hb dX3_receive_72 (by decide) ?_
        refine kVv (wr := [oLa li b, oMs h2 a2, aI G a2 9 g]) F hK hP2 hD2 hS2 hA hl3.1 (c_X3_fail l G h lc ls li lo dr p 1) [0] [1, 2, 3] 3 0 gX3_receive_X3_fail rfl 1 rfl (by decide +kernel) ⟨Nat.le_of_ble_eq_true rfl, Nat.le_of_ble_eq_true rfl⟩ ⟨Nat.zero_le _, Nat.zero_le _⟩ rfl rfl rfl rfl (by decide) (by decide) (by decide) (Nat.le_of_ble_eq_true rfl) rfl dX3_receive_73 (fun p_8 H9 locs9 hw8 (hP9 : va_P G.1 vwCl ([oLa li b, oMs h2 a2, aI G a2 9 g, oPe h lc ls li lo dr p_8]) H9) (hD9 : va_D A ([oLa li b, oMs h2 a2, aI G a2 9 g, oPe h lc ls li lo dr p_8])) hS9 => ?_)
        clear hP2 hD2 hS2
        have w8_0 : p_8 = kfail p 1 := hw8
        have q10 : (p_8 = (kprcv p b g).1) ∧ (b = (kprcv p b g).2) := by
          subst w8_0
          subst w1_0
          first | (simp only [kprcv, c4, c5, c6, eq_self, ↓reduceIte, and_self, and_true, true_and]; done) | (simp only [kprcv, c4, c5, c6, eq_self, ↓reduceIte, and_self, and_true, true_and]; (try and_intros) <;> rfl) | exact ⟨rfl, rfl⟩
        exact kRv F hr hlocks hS9 dX3_receive_76 ⟨p_8, b⟩ q10 (hP9.sub [3, 0, 1, 2] rfl) (hD9.sub [3, 0, 1, 2] (by decide) rfl)
    · exact absurd c5 c4
  · refine lv_iload_n hx hb dX3_receive_14 rfl (lv_at hl3 0 rfl) ?_
    refine lv_bipush (v := 6) hx hb dX3_receive_15 (by decide) ?_
    refine lv_icmp_ne (tgt := 37) hx hb dX3_receive_17 (by decide) (fun c11 => ?_) (fun c11 => ?_)
    · refine lv_aload_n hx hb dX3_receive_37 rfl (lv_at hl3 1 rfl) ?_
      refine kget F hK hP2 3 0 3 iX3 rfl rfl (by decide) (List.mem_of_getElem? (i := 1) rfl) rfl dX3_receive_38 ?_
      refine lv_iconst (v := 4) hx hb dX3_receive_41 (by decide) ?_
      refine lv_icmp_ne (tgt := 63) hx hb dX3_receive_42 (by decide) (fun c12 => ?_) (fun c12 => ?_)
      · exact absurd c4 c12
      · refine lv_iload_n hx hb dX3_receive_45 rfl (lv_at hl3 0 rfl) ?_
        refine lv_bipush (v := 7) hx hb dX3_receive_46 (by decide) ?_
        refine lv_icmp_ne (tgt := 63) hx hb dX3_receive_48 (by decide) (fun c13 => ?_) (fun c13 => ?_)
        · refine lv_aload_n hx hb dX3_receive_63 rfl (lv_at hl3 1 rfl) ?_
          refine kget F hK hP2 3 0 3 iX3 rfl rfl (by decide) (List.mem_of_getElem? (i := 1) rfl) rfl dX3_receive_64 ?_
          refine lv_iconst (v := 5) hx hb dX3_receive_67 (by decide) ?_
          refine lv_icmp_eq (tgt := 76) hx hb dX3_receive_68 (by decide) (fun c14 => ?_) (fun c14 => ?_)
          · exact absurd (c4.symm.trans c14) (by decide)
          · refine lv_aload_n hx hb dX3_receive_71 rfl (lv_at hl3 1 rfl) ?_
            refine lv_iconst (v := 1) hx hb dX3_receive_72 (by decide) ?_
            refine kVv (wr := [oLa li b, oMs h2 a2, aI G a2 9 g]) F hK hP2 hD2 hS2 hA hl3.1 (c_X3_fail l G h lc ls li lo dr p 1) [0] [1, 2, 3] 3 0 gX3_receive_X3_fail rfl 1 rfl (by decide +kernel) ⟨Nat.le_of_ble_eq_true rfl, Nat.le_of_ble_eq_true rfl⟩ ⟨Nat.zero_le _, Nat.zero_le _⟩ rfl rfl rfl rfl (by decide) (by decide) (by decide) (Nat.le_of_ble_eq_true rfl) rfl dX3_receive_73 (fun p_15 H16 locs16 hw15 (hP16 : va_P G.1 vwCl ([oLa li b, oMs h2 a2, aI G a2 9 g, oPe h lc ls li lo dr p_15]) H16) (hD16 : va_D A ([oLa li b, oMs h2 a2, aI G a2 9 g, oPe h lc ls li lo dr p_15])) hS16 => ?_)
            clear hP2 hD2 hS2
            have w15_0 : p_15 = kfail p 1 := hw15
            have q17 : (p_15 = (kprcv p b g).1) ∧ (b = (kprcv p b g).2) := by
              subst w15_0
              subst w1_0
              first | (simp only [kprcv, eq_true c4, c11, eq_true c12, c13, c14, eq_self, ↓reduceIte, and_self, and_true, true_and]; done) | (simp only [kprcv, eq_true c4, c11, eq_true c12, c13, c14, eq_self, ↓reduceIte, and_self, and_true, true_and]; (try and_intros) <;> rfl) | exact ⟨rfl, rfl⟩
            exact kRv F hr hlocks hS16 dX3_receive_76 ⟨p_15, b⟩ q17 (hP16.sub [3, 0, 1, 2] rfl) (hD16.sub [3, 0, 1, 2] (by decide) rfl)
        · refine lv_aload_n hx hb dX3_receive_51 rfl (lv_at hl3 1 rfl) ?_
          refine lv_aload_n hx hb dX3_receive_52 rfl (lv_at hl3 2 rfl) ?_
          refine lv_iconst (v := 1) hx hb dX3_receive_53 (by decide) ?_
          refine kVi (wr := [oPe h lc ls li lo dr p, oLa li b]) F hK hP2 hD2 hS2 hA hl3.1 (c_X2_at l G h2 a2 g 1 (by decide)) [2, 3] [0, 1] 2 0 gX3_receive_X2_at rfl 1 rfl (by decide +kernel) ⟨Nat.le_of_ble_eq_true rfl, Nat.le_of_ble_eq_true rfl⟩ ⟨Nat.zero_le _, Nat.zero_le _⟩ rfl rfl rfl rfl (by decide) (by decide) (by decide) (Nat.le_of_ble_eq_true rfl) rfl dX3_receive_54 (fun r18 u18 H19 locs19 hw18 (hP19 : va_P G.1 vwCl ([oPe h lc ls li lo dr p, oLa li b, oMs h2 a2, aI G a2 9 g]) H19) (hD19 : va_D A ([oPe h lc ls li lo dr p, oLa li b, oMs h2 a2, aI G a2 9 g])) hS19 => ?_)
          clear hP2 hD2 hS2
          have w18_0 : r18 = g 1 := hw18
          refine kVv (wr := [oMs h2 a2, aI G a2 9 g]) F hK hP19 hD19 hS19 hA hl3.1 (c_X3_receiveUpdate l G h lc ls li lo dr p b r18) [0, 1] [2, 3] 3 0 gX3_receive_X3_receiveUpdate rfl 1 rfl (by decide +kernel) ⟨Nat.le_of_ble_eq_true rfl, Nat.le_of_ble_eq_true rfl⟩ ⟨Nat.zero_le _, Nat.zero_le _⟩ rfl rfl rfl rfl (by decide) (by decide) (by decide) (Nat.le_of_ble_eq_true rfl) rfl dX3_receive_57 (fun u20 H21 locs21 hw20 hP21 hD21 hS21 => ?_)
          obtain ⟨p_20, b_20⟩ := u20
          have hP21 : va_P G.1 vwCl ([oMs h2 a2, aI G a2 9 g, oPe h lc ls li lo dr p_20, oLa li b_20]) H21 := hP21
          have hD21 : va_D A ([oMs h2 a2, aI G a2 9 g, oPe h lc ls li lo dr p_20, oLa li b_20]) := hD21
          clear hP19 hD19 hS19
          have w20_0 : p_20 = (krupd p b r18).1 := hw20.1
          have w20_1 : b_20 = (krupd p b r18).2 := hw20.2
          refine lv_goto (tgt := 76) hx hb dX3_receive_60 (by decide) ?_
          have q22 : (p_20 = (kprcv p b g).1) ∧ (b_20 = (kprcv p b g).2) := by
            subst w20_1
            subst w20_0
            subst w18_0
            subst w1_0
            first | (simp only [kprcv, eq_true c4, c11, eq_true c12, eq_true c13, eq_self, ↓reduceIte, and_self, and_true, true_and]; done) | (simp only [kprcv, eq_true c4, c11, eq_true c12, eq_true c13, eq_self, ↓reduceIte, and_self, and_true, true_and]; (try and_intros) <;> rfl) | exact ⟨rfl, rfl⟩
          exact kRv F hr hlocks hS21 dX3_receive_76 ⟨p_20, b_20⟩ q22 (hP21.sub [2, 3, 0, 1] rfl) (hD21.sub [2, 3, 0, 1] (by decide) rfl)
    · refine lv_aload_n hx hb dX3_receive_20 rfl (lv_at hl3 1 rfl) ?_
      refine lv_aload_n hx hb dX3_receive_21 rfl (lv_at hl3 2 rfl) ?_
      refine lv_iconst (v := 1) hx hb dX3_receive_22 (by decide) ?_
      refine kVi (wr := [oPe h lc ls li lo dr p, oLa li b]) F hK hP2 hD2 hS2 hA hl3.1 (c_X2_at l G h2 a2 g 1 (by decide)) [2, 3] [0, 1] 2 0 gX3_receive_X2_at rfl 1 rfl (by decide +kernel) ⟨Nat.le_of_ble_eq_true rfl, Nat.le_of_ble_eq_true rfl⟩ ⟨Nat.zero_le _, Nat.zero_le _⟩ rfl rfl rfl rfl (by decide) (by decide) (by decide) (Nat.le_of_ble_eq_true rfl) rfl dX3_receive_23 (fun r23 u23 H24 locs24 hw23 (hP24 : va_P G.1 vwCl ([oPe h lc ls li lo dr p, oLa li b, oMs h2 a2, aI G a2 9 g]) H24) (hD24 : va_D A ([oPe h lc ls li lo dr p, oLa li b, oMs h2 a2, aI G a2 9 g])) hS24 => ?_)
      clear hP2 hD2 hS2
      have w23_0 : r23 = g 1 := hw23
      refine lv_aload_n hx hb dX3_receive_26 rfl (lv_at hl3 2 rfl) ?_
      refine lv_iconst (v := 2) hx hb dX3_receive_27 (by decide) ?_
      refine kVi (wr := [oPe h lc ls li lo dr p, oLa li b]) F hK hP24 hD24 hS24 hA hl3.1 (c_X2_at l G h2 a2 g 2 (by decide)) [2, 3] [0, 1] 2 0 gX3_receive_X2_at rfl 1 rfl (by decide +kernel) ⟨Nat.le_of_ble_eq_true rfl, Nat.le_of_ble_eq_true rfl⟩ ⟨Nat.zero_le _, Nat.zero_le _⟩ rfl rfl rfl rfl (by decide) (by decide) (by decide) (Nat.le_of_ble_eq_true rfl) rfl dX3_receive_28 (fun r25 u25 H26 locs26 hw25 (hP26 : va_P G.1 vwCl ([oPe h lc ls li lo dr p, oLa li b, oMs h2 a2, aI G a2 9 g]) H26) (hD26 : va_D A ([oPe h lc ls li lo dr p, oLa li b, oMs h2 a2, aI G a2 9 g])) hS26 => ?_)
      clear hP24 hD24 hS24
      have w25_0 : r25 = g 2 := hw25
      refine kVv (wr := [oMs h2 a2, aI G a2 9 g]) F hK hP26 hD26 hS26 hA hl3.1 (c_X3_receiveLetter l G h lc ls li lo dr p b r23 r25) [0, 1] [2, 3] 3 0 gX3_receive_X3_receiveLetter rfl 2 rfl (by decide +kernel) ⟨Nat.le_of_ble_eq_true rfl, Nat.le_of_ble_eq_true rfl⟩ ⟨Nat.zero_le _, Nat.zero_le _⟩ rfl rfl rfl rfl (by decide) (by decide) (by decide) (Nat.le_of_ble_eq_true rfl) rfl dX3_receive_31 (fun u27 H28 locs28 hw27 hP28 hD28 hS28 => ?_)
      obtain ⟨p_27, b_27⟩ := u27
      have hP28 : va_P G.1 vwCl ([oMs h2 a2, aI G a2 9 g, oPe h lc ls li lo dr p_27, oLa li b_27]) H28 := hP28
      have hD28 : va_D A ([oMs h2 a2, aI G a2 9 g, oPe h lc ls li lo dr p_27, oLa li b_27]) := hD28
      clear hP26 hD26 hS26
      have w27_0 : p_27 = (krlet p b r23 r25).1 := hw27.1
      have w27_1 : b_27 = (krlet p b r23 r25).2 := hw27.2
      refine lv_goto (tgt := 76) hx hb dX3_receive_34 (by decide) ?_
      have q29 : (p_27 = (kprcv p b g).1) ∧ (b_27 = (kprcv p b g).2) := by
        subst w27_1
        subst w27_0
        subst w25_0
        subst w23_0
        subst w1_0
        first | (simp only [kprcv, eq_true c4, eq_true c11, eq_self, ↓reduceIte, and_self, and_true, true_and]; done) | (simp only [kprcv, eq_true c4, eq_true c11, eq_self, ↓reduceIte, and_self, and_true, true_and]; (try and_intros) <;> rfl) | exact ⟨rfl, rfl⟩
      exact kRv F hr hlocks hS28 dX3_receive_76 ⟨p_27, b_27⟩ q29 (hP28.sub [2, 3, 0, 1] rfl) (hD28.sub [2, 3, 0, 1] (by decide) rfl)
set_option maxHeartbeats 1000000 in
set_option maxRecDepth 100000 in
theorem c_X3_tellJoined (l : Launch) (G : kG) (h : Nat) (lc : Nat) (ls : Nat) (li : Nat) (lo : Nat) (dr : Nat) (p : Nat → Int32) (a : Nat → Int32) (b : Nat → Int32) (i : Int32) (h3 : 3 ≤ i.toInt) (h11 : i.toInt ≤ 11) : kM G l yX3_tellJoined wsX3_tellJoined ({ frames := 0, cells := 0, slots := 0, locals := 0 }) [.ref h, .int i] ([oPe h lc ls li lo dr p, oLa lc a, oLa ls b]) (kQi G (fun (rr : Int32) (uu : Unit) => rr = ktellJ p a b i) (fun (uu : Unit) => [oPe h lc ls li lo dr p, oLa lc a, oLa ls b])) := by
  refine kStart (cc := cX3_tellJoined) (maxL := 2) (ret := (some .int)) (by decide) rfl (Nat.le_of_ble_eq_true rfl) (fun pg ev st mi bl mt cd A ls0 F hr hlocks hin hK hP0 hD0 hA hS0 hl0 => ?_)
  obtain ⟨hx, hb, hml, hown, hts⟩ := id F
  have hl0 : lv_has ls0 2 [(0, .ref h), (1, .int i)] := hl0
  have iX1 : ∀ w ∈ u_ws RX1 TX1 3, w ∈ wsX3_tellJoined := fun w h => List.mem_cons_of_mem _ (List.mem_append_right _ h)
  have iX3 : ∀ w ∈ u_ws RX3 TX3 18, w ∈ wsX3_tellJoined := fun w h => List.mem_cons_of_mem _ (List.mem_append_left _ (List.mem_append_right _ h))
  refine lv_iload_n hx hb dX3_tellJoined_0 rfl (lv_at hl0 1 rfl) ?_
  rcases ksw i 3 10 with c1 | c1
  · refine lv_tableOut (tgt := 105) hx hb dX3_tellJoined_1 c1 (by decide) ?_
    refine lv_aload_n hx hb dX3_tellJoined_105 rfl (lv_at hl0 0 rfl) ?_
    refine kget F hK hP0 3 0 14 iX3 rfl rfl (by decide) (List.mem_of_getElem? (i := 8) rfl) rfl dX3_tellJoined_106 ?_
    refine kget F hK hP0 1 2 2 iX1 rfl rfl (by decide) (List.mem_of_getElem? (i := 9) rfl) rfl dX3_tellJoined_109 ?_
    have q2 : (b 2) = ktellJ p a b i := by
      have z3 : ¬ i = 3 := by intro z; rw [z] at c1; revert c1; decide
      have z4 : ¬ i = 4 := by intro z; rw [z] at c1; revert c1; decide
      have z5 : ¬ i = 5 := by intro z; rw [z] at c1; revert c1; decide
      have z6 : ¬ i = 6 := by intro z; rw [z] at c1; revert c1; decide
      have z7 : ¬ i = 7 := by intro z; rw [z] at c1; revert c1; decide
      have z8 : ¬ i = 8 := by intro z; rw [z] at c1; revert c1; decide
      have z9 : ¬ i = 9 := by intro z; rw [z] at c1; revert c1; decide
      have z10 : ¬ i = 10 := by intro z; rw [z] at c1; revert c1; decide
      simp only [ktellJ, z3, z4, z5, z6, z7, z8, z9, z10, ↓reduceIte]
    exact kRi F hr hlocks hS0 dX3_tellJoined_112 () q2 hP0 hD0
  · obtain ⟨c1a, c1b⟩ := c1
    rcases kswE i 3 (v := 3) (by decide) with c1_0 | c1_0
    · refine lv_tableIn (off := 47) (tgt := 48) hx hb dX3_tellJoined_1 c1a c1b (by rw [c1_0]; rfl) (by decide) ?_
      refine lv_aload_n hx hb dX3_tellJoined_48 rfl (lv_at hl0 0 rfl) ?_
      refine kget F hK hP0 3 0 6 iX3 rfl rfl (by decide) (List.mem_of_getElem? (i := 1) rfl) rfl dX3_tellJoined_49 ?_
      have q3 : (p 6) = ktellJ p a b i := by
        first | (subst c1_0; rfl) | (subst c1_0; simp only [ktellJ, show ¬ ((3 : Int32) = 4) from by decide, show ¬ ((3 : Int32) = 5) from by decide, show ¬ ((3 : Int32) = 6) from by decide, show ¬ ((3 : Int32) = 7) from by decide, show ¬ ((3 : Int32) = 8) from by decide, show ¬ ((3 : Int32) = 9) from by decide, show ¬ ((3 : Int32) = 10) from by decide, eq_self, ↓reduceIte]; done) | (simp only [ktellJ, c1_0, ↓reduceIte]) | (simp only [ktellJ, c1_0, ↓reduceIte]; simp; done)
      exact kRi F hr hlocks hS0 dX3_tellJoined_52 () q3 hP0 hD0
    rcases kswE i 4 (v := 4) (by decide) with c1_1 | c1_1
    · refine lv_tableIn (off := 52) (tgt := 53) hx hb dX3_tellJoined_1 c1a c1b (by rw [c1_1]; rfl) (by decide) ?_
      refine lv_aload_n hx hb dX3_tellJoined_53 rfl (lv_at hl0 0 rfl) ?_
      refine kget F hK hP0 3 0 7 iX3 rfl rfl (by decide) (List.mem_of_getElem? (i := 2) rfl) rfl dX3_tellJoined_54 ?_
      have q4 : (p 7) = ktellJ p a b i := by
        first | (subst c1_1; rfl) | (subst c1_1; simp only [ktellJ, show ¬ ((4 : Int32) = 3) from by decide, show ¬ ((4 : Int32) = 5) from by decide, show ¬ ((4 : Int32) = 6) from by decide, show ¬ ((4 : Int32) = 7) from by decide, show ¬ ((4 : Int32) = 8) from by decide, show ¬ ((4 : Int32) = 9) from by decide, show ¬ ((4 : Int32) = 10) from by decide, eq_self, ↓reduceIte]; done) | (simp only [ktellJ, c1_1, ↓reduceIte]) | (simp only [ktellJ, c1_1, ↓reduceIte]; simp; done)
      exact kRi F hr hlocks hS0 dX3_tellJoined_57 () q4 hP0 hD0
    rcases kswE i 5 (v := 5) (by decide) with c1_2 | c1_2
    · refine lv_tableIn (off := 57) (tgt := 58) hx hb dX3_tellJoined_1 c1a c1b (by rw [c1_2]; rfl) (by decide) ?_
      refine lv_aload_n hx hb dX3_tellJoined_58 rfl (lv_at hl0 0 rfl) ?_
      refine kget F hK hP0 3 0 8 iX3 rfl rfl (by decide) (List.mem_of_getElem? (i := 3) rfl) rfl dX3_tellJoined_59 ?_
      refine lv_if_eq (tgt := 69) hx hb dX3_tellJoined_62 (by decide) (fun c5 => ?_) (fun c5 => ?_)
      · refine lv_iconst (v := 0) hx hb dX3_tellJoined_69 (by decide) ?_
        have q6 : 0 = ktellJ p a b i := by
          first | (subst c1_2; rfl) | (subst c1_2; simp only [ktellJ, show ¬ ((5 : Int32) = 3) from by decide, show ¬ ((5 : Int32) = 4) from by decide, show ¬ ((5 : Int32) = 6) from by decide, show ¬ ((5 : Int32) = 7) from by decide, show ¬ ((5 : Int32) = 8) from by decide, show ¬ ((5 : Int32) = 9) from by decide, show ¬ ((5 : Int32) = 10) from by decide, c5, eq_self, ↓reduceIte]; done) | (simp only [ktellJ, c1_2, c5, ↓reduceIte]) | (simp only [ktellJ, c1_2, c5, ↓reduceIte]; simp; done)
        exact kRi F hr hlocks hS0 dX3_tellJoined_70 () q6 hP0 hD0
      · refine lv_iconst (v := 1) hx hb dX3_tellJoined_65 (by decide) ?_
        refine lv_goto (tgt := 70) hx hb dX3_tellJoined_66 (by decide) ?_
        have q7 : 1 = ktellJ p a b i := by
          first | (subst c1_2; rfl) | (subst c1_2; simp only [ktellJ, show ¬ ((5 : Int32) = 3) from by decide, show ¬ ((5 : Int32) = 4) from by decide, show ¬ ((5 : Int32) = 6) from by decide, show ¬ ((5 : Int32) = 7) from by decide, show ¬ ((5 : Int32) = 8) from by decide, show ¬ ((5 : Int32) = 9) from by decide, show ¬ ((5 : Int32) = 10) from by decide, c5, eq_self, ↓reduceIte]; done) | (simp only [ktellJ, c1_2, c5, ↓reduceIte]) | (simp only [ktellJ, c1_2, c5, ↓reduceIte]; simp; done)
        exact kRi F hr hlocks hS0 dX3_tellJoined_70 () q7 hP0 hD0
    rcases kswE i 6 (v := 6) (by decide) with c1_3 | c1_3
    · refine lv_tableIn (off := 70) (tgt := 71) hx hb dX3_tellJoined_1 c1a c1b (by rw [c1_3]; rfl) (by decide) ?_
      refine lv_aload_n hx hb dX3_tellJoined_71 rfl (lv_at hl0 0 rfl) ?_
      refine kget F hK hP0 3 0 9 iX3 rfl rfl (by decide) (List.mem_of_getElem? (i := 4) rfl) rfl dX3_tellJoined_72 ?_
      have q8 : (p 9) = ktellJ p a b i := by
        first | (subst c1_3; rfl) | (subst c1_3; simp only [ktellJ, show ¬ ((6 : Int32) = 3) from by decide, show ¬ ((6 : Int32) = 4) from by decide, show ¬ ((6 : Int32) = 5) from by decide, show ¬ ((6 : Int32) = 7) from by decide, show ¬ ((6 : Int32) = 8) from by decide, show ¬ ((6 : Int32) = 9) from by decide, show ¬ ((6 : Int32) = 10) from by decide, eq_self, ↓reduceIte]; done) | (simp only [ktellJ, c1_3, ↓reduceIte]) | (simp only [ktellJ, c1_3, ↓reduceIte]; simp; done)
      exact kRi F hr hlocks hS0 dX3_tellJoined_75 () q8 hP0 hD0
    rcases kswE i 7 (v := 7) (by decide) with c1_4 | c1_4
    · refine lv_tableIn (off := 75) (tgt := 76) hx hb dX3_tellJoined_1 c1a c1b (by rw [c1_4]; rfl) (by decide) ?_
      refine lv_aload_n hx hb dX3_tellJoined_76 rfl (lv_at hl0 0 rfl) ?_
      refine kget F hK hP0 3 0 10 iX3 rfl rfl (by decide) (List.mem_of_getElem? (i := 5) rfl) rfl dX3_tellJoined_77 ?_
      have q9 : (p 10) = ktellJ p a b i := by
        first | (subst c1_4; rfl) | (subst c1_4; simp only [ktellJ, show ¬ ((7 : Int32) = 3) from by decide, show ¬ ((7 : Int32) = 4) from by decide, show ¬ ((7 : Int32) = 5) from by decide, show ¬ ((7 : Int32) = 6) from by decide, show ¬ ((7 : Int32) = 8) from by decide, show ¬ ((7 : Int32) = 9) from by decide, show ¬ ((7 : Int32) = 10) from by decide, eq_self, ↓reduceIte]; done) | (simp only [ktellJ, c1_4, ↓reduceIte]) | (simp only [ktellJ, c1_4, ↓reduceIte]; simp; done)
      exact kRi F hr hlocks hS0 dX3_tellJoined_80 () q9 hP0 hD0
    rcases kswE i 8 (v := 8) (by decide) with c1_5 | c1_5
    · refine lv_tableIn (off := 80) (tgt := 81) hx hb dX3_tellJoined_1 c1a c1b (by rw [c1_5]; rfl) (by decide) ?_
      refine lv_aload_n hx hb dX3_tellJoined_81 rfl (lv_at hl0 0 rfl) ?_
      refine kget F hK hP0 3 0 13 iX3 rfl rfl (by decide) (List.mem_of_getElem? (i := 6) rfl) rfl dX3_tellJoined_82 ?_
      refine kget F hK hP0 1 1 1 iX1 rfl rfl (by decide) (List.mem_of_getElem? (i := 7) rfl) rfl dX3_tellJoined_85 ?_
      have q10 : (a 1) = ktellJ p a b i := by
        first | (subst c1_5; rfl) | (subst c1_5; simp only [ktellJ, show ¬ ((8 : Int32) = 3) from by decide, show ¬ ((8 : Int32) = 4) from by decide, show ¬ ((8 : Int32) = 5) from by decide, show ¬ ((8 : Int32) = 6) from by decide, show ¬ ((8 : Int32) = 7) from by decide, show ¬ ((8 : Int32) = 9) from by decide, show ¬ ((8 : Int32) = 10) from by decide, eq_self, ↓reduceIte]; done) | (simp only [ktellJ, c1_5, ↓reduceIte]) | (simp only [ktellJ, c1_5, ↓reduceIte]; simp; done)
      exact kRi F hr hlocks hS0 dX3_tellJoined_88 () q10 hP0 hD0
    rcases kswE i 9 (v := 9) (by decide) with c1_6 | c1_6
    · refine lv_tableIn (off := 88) (tgt := 89) hx hb dX3_tellJoined_1 c1a c1b (by rw [c1_6]; rfl) (by decide) ?_
      refine lv_aload_n hx hb dX3_tellJoined_89 rfl (lv_at hl0 0 rfl) ?_
      refine kget F hK hP0 3 0 14 iX3 rfl rfl (by decide) (List.mem_of_getElem? (i := 8) rfl) rfl dX3_tellJoined_90 ?_
      refine kget F hK hP0 1 2 1 iX1 rfl rfl (by decide) (List.mem_of_getElem? (i := 7) rfl) rfl dX3_tellJoined_93 ?_
      have q11 : (b 1) = ktellJ p a b i := by
        first | (subst c1_6; rfl) | (subst c1_6; simp only [ktellJ, show ¬ ((9 : Int32) = 3) from by decide, show ¬ ((9 : Int32) = 4) from by decide, show ¬ ((9 : Int32) = 5) from by decide, show ¬ ((9 : Int32) = 6) from by decide, show ¬ ((9 : Int32) = 7) from by decide, show ¬ ((9 : Int32) = 8) from by decide, show ¬ ((9 : Int32) = 10) from by decide, eq_self, ↓reduceIte]; done) | (simp only [ktellJ, c1_6, ↓reduceIte]) | (simp only [ktellJ, c1_6, ↓reduceIte]; simp; done)
      exact kRi F hr hlocks hS0 dX3_tellJoined_96 () q11 hP0 hD0
    rcases kswE i 10 (v := 10) (by decide) with c1_7 | c1_7
    · refine lv_tableIn (off := 96) (tgt := 97) hx hb dX3_tellJoined_1 c1a c1b (by rw [c1_7]; rfl) (by decide) ?_
      refine lv_aload_n hx hb dX3_tellJoined_97 rfl (lv_at hl0 0 rfl) ?_
      refine kget F hK hP0 3 0 13 iX3 rfl rfl (by decide) (List.mem_of_getElem? (i := 6) rfl) rfl dX3_tellJoined_98 ?_
      refine kget F hK hP0 1 1 2 iX1 rfl rfl (by decide) (List.mem_of_getElem? (i := 9) rfl) rfl dX3_tellJoined_101 ?_
      have q12 : (a 2) = ktellJ p a b i := by
        first | (subst c1_7; rfl) | (subst c1_7; simp only [ktellJ, show ¬ ((10 : Int32) = 3) from by decide, show ¬ ((10 : Int32) = 4) from by decide, show ¬ ((10 : Int32) = 5) from by decide, show ¬ ((10 : Int32) = 6) from by decide, show ¬ ((10 : Int32) = 7) from by decide, show ¬ ((10 : Int32) = 8) from by decide, show ¬ ((10 : Int32) = 9) from by decide, eq_self, ↓reduceIte]; done) | (simp only [ktellJ, c1_7, ↓reduceIte]) | (simp only [ktellJ, c1_7, ↓reduceIte]; simp; done)
      exact kRi F hr hlocks hS0 dX3_tellJoined_104 () q12 hP0 hD0
    omega
set_option maxHeartbeats 1000000 in
set_option maxRecDepth 100000 in
theorem c_X3_tell (l : Launch) (G : kG) (h : Nat) (lc : Nat) (ls : Nat) (li : Nat) (lo : Nat) (dr : Nat) (p : Nat → Int32) (a : Nat → Int32) (b : Nat → Int32) (i : Int32) (h0 : 0 ≤ i.toInt) (h11 : i.toInt ≤ 11) : kM G l yX3_tell wsX3_tell ({ frames := 1, cells := 0, slots := 0, locals := 21 }) [.ref h, .int i] ([oPe h lc ls li lo dr p, oLa lc a, oLa ls b]) (kQi G (fun (rr : Int32) (uu : Unit) => rr = ktellP p a b i) (fun (uu : Unit) => [oPe h lc ls li lo dr p, oLa lc a, oLa ls b])) := by
  refine kStart (cc := cX3_tell) (maxL := 2) (ret := (some .int)) (by decide) rfl (Nat.le_of_ble_eq_true rfl) (fun pg ev st mi bl mt cd A ls0 F hr hlocks hin hK hP0 hD0 hA hS0 hl0 => ?_)
  obtain ⟨hx, hb, hml, hown, hts⟩ := id F
  have hl0 : lv_has ls0 2 [(0, .ref h), (1, .int i)] := hl0
  have iX3 : ∀ w ∈ u_ws RX3 TX3 18, w ∈ wsX3_tell := fun w h => List.mem_cons_of_mem _ (List.mem_append_left _ (List.mem_append_right _ h))
  refine lv_iload_n hx hb dX3_tell_0 rfl (lv_at hl0 1 rfl) ?_
  rcases ksw i 0 2 with c1 | c1
  · refine lv_tableOut (tgt := 43) hx hb dX3_tell_1 c1 (by decide) ?_
    refine lv_aload_n hx hb dX3_tell_43 rfl (lv_at hl0 0 rfl) ?_
    refine kget F hK hP0 3 0 3 iX3 rfl rfl (by decide) (List.mem_of_getElem? (i := 1) rfl) rfl dX3_tell_44 ?_
    refine lv_iconst (v := 4) hx hb dX3_tell_47 (by decide) ?_
    refine lv_icmp_ne (tgt := 59) hx hb dX3_tell_48 (by decide) (fun c2 => ?_) (fun c2 => ?_)
    · refine lv_iconst (v := (-1)) hx hb dX3_tell_59 (by decide) ?_
      have q3 : (-1) = ktellP p a b i := by
        have z0 : ¬ i = 0 := by intro z; rw [z] at c1; revert c1; decide
        have z1 : ¬ i = 1 := by intro z; rw [z] at c1; revert c1; decide
        have z2 : ¬ i = 2 := by intro z; rw [z] at c1; revert c1; decide
        simp only [ktellP, z0, z1, z2, c2, ↓reduceIte]
      exact kRi F hr hlocks hS0 dX3_tell_60 () q3 hP0 hD0
    · refine lv_aload_n hx hb dX3_tell_51 rfl (lv_at hl0 0 rfl) ?_
      refine lv_iload_n hx hb dX3_tell_52 rfl (lv_at hl0 1 rfl) ?_
      refine kVi (wr := []) F hK hP0 hD0 hS0 hA hl0.1 (c_X3_tellJoined l G h lc ls li lo dr p a b i (by omega) (by first | assumption | decide | omega)) [0, 1, 2] [] 3 0 gX3_tell_X3_tellJoined rfl 1 rfl (by decide +kernel) ⟨Nat.le_of_ble_eq_true rfl, Nat.le_of_ble_eq_true rfl⟩ ⟨Nat.zero_le _, Nat.zero_le _⟩ rfl rfl rfl rfl (by decide) (by decide) (by decide) (Nat.le_of_ble_eq_true rfl) rfl dX3_tell_53 (fun r4 u4 H5 locs5 hw4 (hP5 : va_P G.1 vwCl ([oPe h lc ls li lo dr p, oLa lc a, oLa ls b]) H5) (hD5 : va_D A ([oPe h lc ls li lo dr p, oLa lc a, oLa ls b])) hS5 => ?_)
      clear hP0 hD0 hS0
      have w4_0 : r4 = ktellJ p a b i := hw4
      refine lv_goto (tgt := 60) hx hb dX3_tell_56 (by decide) ?_
      have q6 : r4 = ktellP p a b i := by
        subst w4_0
        have z0 : ¬ i = 0 := by intro z; rw [z] at c1; revert c1; decide
        have z1 : ¬ i = 1 := by intro z; rw [z] at c1; revert c1; decide
        have z2 : ¬ i = 2 := by intro z; rw [z] at c1; revert c1; decide
        simp only [ktellP, z0, z1, z2, c2, ↓reduceIte]
      exact kRi F hr hlocks hS5 dX3_tell_60 () q6 hP5 hD5
  · obtain ⟨c1a, c1b⟩ := c1
    rcases kswE i 0 (v := 0) (by decide) with c1_0 | c1_0
    · refine lv_tableIn (off := 27) (tgt := 28) hx hb dX3_tell_1 c1a c1b (by rw [c1_0]; rfl) (by decide) ?_
      refine lv_aload_n hx hb dX3_tell_28 rfl (lv_at hl0 0 rfl) ?_
      refine kget F hK hP0 3 0 3 iX3 rfl rfl (by decide) (List.mem_of_getElem? (i := 1) rfl) rfl dX3_tell_29 ?_
      have q7 : (p 3) = ktellP p a b i := by
        first | (subst c1_0; rfl) | (subst c1_0; simp only [ktellP, show ¬ ((0 : Int32) = 1) from by decide, show ¬ ((0 : Int32) = 2) from by decide, eq_self, ↓reduceIte]; done) | (simp only [ktellP, c1_0, ↓reduceIte]) | (simp only [ktellP, c1_0, ↓reduceIte]; simp; done)
      exact kRi F hr hlocks hS0 dX3_tell_32 () q7 hP0 hD0
    rcases kswE i 1 (v := 1) (by decide) with c1_1 | c1_1
    · refine lv_tableIn (off := 32) (tgt := 33) hx hb dX3_tell_1 c1a c1b (by rw [c1_1]; rfl) (by decide) ?_
      refine lv_aload_n hx hb dX3_tell_33 rfl (lv_at hl0 0 rfl) ?_
      refine kget F hK hP0 3 0 4 iX3 rfl rfl (by decide) (List.mem_of_getElem? (i := 2) rfl) rfl dX3_tell_34 ?_
      have q8 : (p 4) = ktellP p a b i := by
        first | (subst c1_1; rfl) | (subst c1_1; simp only [ktellP, show ¬ ((1 : Int32) = 0) from by decide, show ¬ ((1 : Int32) = 2) from by decide, eq_self, ↓reduceIte]; done) | (simp only [ktellP, c1_1, ↓reduceIte]) | (simp only [ktellP, c1_1, ↓reduceIte]; simp; done)
      exact kRi F hr hlocks hS0 dX3_tell_37 () q8 hP0 hD0
    rcases kswE i 2 (v := 2) (by decide) with c1_2 | c1_2
    · refine lv_tableIn (off := 37) (tgt := 38) hx hb dX3_tell_1 c1a c1b (by rw [c1_2]; rfl) (by decide) ?_
      refine lv_aload_n hx hb dX3_tell_38 rfl (lv_at hl0 0 rfl) ?_
      refine kget F hK hP0 3 0 5 iX3 rfl rfl (by decide) (List.mem_of_getElem? (i := 3) rfl) rfl dX3_tell_39 ?_
      have q9 : (p 5) = ktellP p a b i := by
        first | (subst c1_2; rfl) | (subst c1_2; simp only [ktellP, show ¬ ((2 : Int32) = 0) from by decide, show ¬ ((2 : Int32) = 1) from by decide, eq_self, ↓reduceIte]; done) | (simp only [ktellP, c1_2, ↓reduceIte]) | (simp only [ktellP, c1_2, ↓reduceIte]; simp; done)
      exact kRi F hr hlocks hS0 dX3_tell_42 () q9 hP0 hD0
    omega
