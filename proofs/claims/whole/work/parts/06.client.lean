set_option maxHeartbeats 4000000 in
set_option maxRecDepth 100000 in
theorem c_X0_ask (l : Launch) (G : kG) (h : Nat) (pe : Nat) (ti : Nat) (lc : Nat) (ls : Nat) (li : Nat) (lo : Nat) (dr : Nat) (da : Nat) (c : Nat → Int32) (p : Nat → Int32) (t : Nat → Int32) (f : Nat → Int32) (rh : Nat) (w : Nat) (q : Nat → Nat) (d : Nat → Nat) (rp : Nat → Int32) (M : Nat → Nat → Int32) (L : Nat) (g : Int32) (now : Int32) (hL : rp 1 = nI L) (hL8 : L ≤ 8) (hb : c 2 = 0 ∨ c 2 = 1) : kM G l yX0_ask wsX0_ask ({ frames := 3, cells := 0, slots := 0, locals := 68 }) [.ref h, .int g, .int now, .ref rh] ([oCl h pe ti c, oPe pe lc ls li lo dr p, oTi ti t, oMs dr da, aI G da 9 f, oRo rh w rp, aM G w 8 (krow q), oMs (q 0) (d 0), aI G (d 0) 9 (M 0), oMs (q 1) (d 1), aI G (d 1) 9 (M 1), oMs (q 2) (d 2), aI G (d 2) 9 (M 2), oMs (q 3) (d 3), aI G (d 3) 9 (M 3), oMs (q 4) (d 4), aI G (d 4) 9 (M 4), oMs (q 5) (d 5), aI G (d 5) 9 (M 5), oMs (q 6) (d 6), aI G (d 6) 9 (M 6), oMs (q 7) (d 7), aI G (d 7) 9 (M 7)]) (kQv G (fun (uu : (Nat → Int32) × (Nat → Int32) × (Nat → Int32) × (Nat → Int32) × (Nat → Nat → Int32)) => (uu.1 = (kaskR L c p t f rp M g now).1) ∧ (uu.2.1 = (kaskR L c p t f rp M g now).2.1) ∧ (uu.2.2.1 = (kaskR L c p t f rp M g now).2.2.1) ∧ (uu.2.2.2.1 = (kaskR L c p t f rp M g now).2.2.2.1) ∧ (uu.2.2.2.2 = (kaskR L c p t f rp M g now).2.2.2.2)) (fun (uu : (Nat → Int32) × (Nat → Int32) × (Nat → Int32) × (Nat → Int32) × (Nat → Nat → Int32)) => [oCl h pe ti uu.1, oPe pe lc ls li lo dr uu.2.1, oTi ti t, oMs dr da, aI G da 9 uu.2.2.1, oRo rh w uu.2.2.2.1, aM G w 8 (krow q), oMs (q 0) (d 0), aI G (d 0) 9 (uu.2.2.2.2 0), oMs (q 1) (d 1), aI G (d 1) 9 (uu.2.2.2.2 1), oMs (q 2) (d 2), aI G (d 2) 9 (uu.2.2.2.2 2), oMs (q 3) (d 3), aI G (d 3) 9 (uu.2.2.2.2 3), oMs (q 4) (d 4), aI G (d 4) 9 (uu.2.2.2.2 4), oMs (q 5) (d 5), aI G (d 5) 9 (uu.2.2.2.2 5), oMs (q 6) (d 6), aI G (d 6) 9 (uu.2.2.2.2 6), oMs (q 7) (d 7), aI G (d 7) 9 (uu.2.2.2.2 7)])) := by
  refine kStart (cc := cX0_ask) (maxL := 5) (ret := none) (by decide) rfl (Nat.le_of_ble_eq_true rfl) (fun pg ev st mi bl mt cd A ls0 F hr hlocks hin hK hP0 hD0 hA hS0 hl0 => ?_)
  obtain ⟨hx, hb, hml, hown, hts⟩ := id F
  have hl0 : lv_has ls0 5 [(0, .ref h), (1, .int g), (2, .int now), (3, .ref rh)] := hl0
  have iX0 : ∀ w ∈ u_ws RX0 TX0 9, w ∈ wsX0_ask := fun w h => List.mem_cons_of_mem _ (List.mem_append_left _ (List.mem_append_left _ (List.mem_append_left _ (List.mem_append_left _ (List.mem_append_right _ h)))))
  have iX3 : ∀ w ∈ u_ws RX3 TX3 18, w ∈ wsX0_ask := fun w h => List.mem_cons_of_mem _ (List.mem_append_left _ (List.mem_append_left _ (List.mem_append_left _ (List.mem_append_right _ h))))
  have iX7 : ∀ w ∈ u_ws RX7 TX7 5, w ∈ wsX0_ask := fun w h => List.mem_cons_of_mem _ (List.mem_append_left _ (List.mem_append_left _ (List.mem_append_right _ h)))
  refine lv_aload_n hx hb dX0_ask_0 rfl (lv_at hl0 0 rfl) ?_
  refine kget F hK hP0 0 0 0 iX0 rfl rfl (by decide) (List.mem_of_getElem? (i := 1) rfl) rfl dX0_ask_1 ?_
  refine kget F hK hP0 3 1 17 iX3 rfl rfl (by decide) (List.mem_of_getElem? (i := 2) rfl) rfl dX0_ask_4 ?_
  refine lv_astore (lv' := [(4, .ref dr), (0, .ref h), (1, .int g), (2, .int now), (3, .ref rh)]) hx hb dX0_ask_7 hl0 (by decide) rfl (fun ls1 hl1 => ?_)
  clear hl0
  refine lv_aload hx hb dX0_ask_9 (lv_at hl1 0 rfl) ?_
  refine lv_iconst (v := 1) hx hb dX0_ask_11 (by decide) ?_
  refine kVv (wr := [oCl h pe ti c, oPe pe lc ls li lo dr p, oTi ti t, oRo rh w rp, aM G w 8 (krow q), oMs (q 0) (d 0), aI G (d 0) 9 (M 0), oMs (q 1) (d 1), aI G (d 1) 9 (M 1), oMs (q 2) (d 2), aI G (d 2) 9 (M 2), oMs (q 3) (d 3), aI G (d 3) 9 (M 3), oMs (q 4) (d 4), aI G (d 4) 9 (M 4), oMs (q 5) (d 5), aI G (d 5) 9 (M 5), oMs (q 6) (d 6), aI G (d 6) 9 (M 6), oMs (q 7) (d 7), aI G (d 7) 9 (M 7)]) F hK hP0 hD0 hS0 hA hl1.1 (c_X2_begin l G dr da f 1) [3, 4] [0, 1, 2, 5, 6, 7, 8, 9, 10, 11, 12, 13, 14, 15, 16, 17, 18, 19, 20, 21, 22] 2 0 gX0_ask_X2_begin rfl 1 rfl (by decide +kernel) ⟨Nat.le_of_ble_eq_true rfl, Nat.le_of_ble_eq_true rfl⟩ ⟨Nat.zero_le _, Nat.zero_le _⟩ rfl rfl rfl rfl (by decide) (by decide) (by decide) (Nat.le_of_ble_eq_true rfl) rfl dX0_ask_12 (fun f_2 H3 locs3 hw2 (hP3 : va_P G.1 vwCl ([oCl h pe ti c, oPe pe lc ls li lo dr p, oTi ti t, oRo rh w rp, aM G w 8 (krow q), oMs (q 0) (d 0), aI G (d 0) 9 (M 0), oMs (q 1) (d 1), aI G (d 1) 9 (M 1), oMs (q 2) (d 2), aI G (d 2) 9 (M 2), oMs (q 3) (d 3), aI G (d 3) 9 (M 3), oMs (q 4) (d 4), aI G (d 4) 9 (M 4), oMs (q 5) (d 5), aI G (d 5) 9 (M 5), oMs (q 6) (d 6), aI G (d 6) 9 (M 6), oMs (q 7) (d 7), aI G (d 7) 9 (M 7), oMs dr da, aI G da 9 f_2]) H3) (hD3 : va_D A ([oCl h pe ti c, oPe pe lc ls li lo dr p, oTi ti t, oRo rh w rp, aM G w 8 (krow q), oMs (q 0) (d 0), aI G (d 0) 9 (M 0), oMs (q 1) (d 1), aI G (d 1) 9 (M 1), oMs (q 2) (d 2), aI G (d 2) 9 (M 2), oMs (q 3) (d 3), aI G (d 3) 9 (M 3), oMs (q 4) (d 4), aI G (d 4) 9 (M 4), oMs (q 5) (d 5), aI G (d 5) 9 (M 5), oMs (q 6) (d 6), aI G (d 6) 9 (M 6), oMs (q 7) (d 7), aI G (d 7) 9 (M 7), oMs dr da, aI G da 9 f_2])) hS3 => ?_)
  clear hP0 hD0 hS0
  have w2_0 : f_2 = kbeg f 1 := hw2
  refine lv_aload hx hb dX0_ask_15 (lv_at hl1 0 rfl) ?_
  refine lv_iconst (v := 1) hx hb dX0_ask_17 (by decide) ?_
  refine lv_aload_n hx hb dX0_ask_18 rfl (lv_at hl1 1 rfl) ?_
  refine kget F hK hP3 0 0 0 iX0 rfl rfl (by decide) (List.mem_of_getElem? (i := 1) rfl) rfl dX0_ask_19 ?_
  refine kget F hK hP3 3 1 0 iX3 rfl rfl (by decide) (List.mem_of_getElem? (i := 3) rfl) rfl dX0_ask_22 ?_
  refine kVv (wr := [oCl h pe ti c, oPe pe lc ls li lo dr p, oTi ti t, oRo rh w rp, aM G w 8 (krow q), oMs (q 0) (d 0), aI G (d 0) 9 (M 0), oMs (q 1) (d 1), aI G (d 1) 9 (M 1), oMs (q 2) (d 2), aI G (d 2) 9 (M 2), oMs (q 3) (d 3), aI G (d 3) 9 (M 3), oMs (q 4) (d 4), aI G (d 4) 9 (M 4), oMs (q 5) (d 5), aI G (d 5) 9 (M 5), oMs (q 6) (d 6), aI G (d 6) 9 (M 6), oMs (q 7) (d 7), aI G (d 7) 9 (M 7)]) F hK hP3 hD3 hS3 hA hl1.1 (c_X2_put l G dr da f_2 1 (p 0) (by first | assumption | decide | omega)) [21, 22] [0, 1, 2, 3, 4, 5, 6, 7, 8, 9, 10, 11, 12, 13, 14, 15, 16, 17, 18, 19, 20] 2 0 gX0_ask_X2_put rfl 2 rfl (by decide +kernel) ⟨Nat.le_of_ble_eq_true rfl, Nat.le_of_ble_eq_true rfl⟩ ⟨Nat.zero_le _, Nat.zero_le _⟩ rfl rfl rfl rfl (by decide) (by decide) (by decide) (Nat.le_of_ble_eq_true rfl) rfl dX0_ask_25 (fun f_4 H5 locs5 hw4 (hP5 : va_P G.1 vwCl ([oCl h pe ti c, oPe pe lc ls li lo dr p, oTi ti t, oRo rh w rp, aM G w 8 (krow q), oMs (q 0) (d 0), aI G (d 0) 9 (M 0), oMs (q 1) (d 1), aI G (d 1) 9 (M 1), oMs (q 2) (d 2), aI G (d 2) 9 (M 2), oMs (q 3) (d 3), aI G (d 3) 9 (M 3), oMs (q 4) (d 4), aI G (d 4) 9 (M 4), oMs (q 5) (d 5), aI G (d 5) 9 (M 5), oMs (q 6) (d 6), aI G (d 6) 9 (M 6), oMs (q 7) (d 7), aI G (d 7) 9 (M 7), oMs dr da, aI G da 9 f_4]) H5) (hD5 : va_D A ([oCl h pe ti c, oPe pe lc ls li lo dr p, oTi ti t, oRo rh w rp, aM G w 8 (krow q), oMs (q 0) (d 0), aI G (d 0) 9 (M 0), oMs (q 1) (d 1), aI G (d 1) 9 (M 1), oMs (q 2) (d 2), aI G (d 2) 9 (M 2), oMs (q 3) (d 3), aI G (d 3) 9 (M 3), oMs (q 4) (d 4), aI G (d 4) 9 (M 4), oMs (q 5) (d 5), aI G (d 5) 9 (M 5), oMs (q 6) (d 6), aI G (d 6) 9 (M 6), oMs (q 7) (d 7), aI G (d 7) 9 (M 7), oMs dr da, aI G da 9 f_4])) hS5 => ?_)
  clear hP3 hD3 hS3
  have w4_0 : f_4 = upd f_2 1 (p 0) := hw4
  refine lv_aload hx hb dX0_ask_28 (lv_at hl1 0 rfl) ?_
  refine lv_iconst (v := 2) hx hb dX0_ask_30 (by decide) ?_
  refine lv_aload_n hx hb dX0_ask_31 rfl (lv_at hl1 1 rfl) ?_
  refine kget F hK hP5 0 0 0 iX0 rfl rfl (by decide) (List.mem_of_getElem? (i := 1) rfl) rfl dX0_ask_32 ?_
  refine kget F hK hP5 3 1 1 iX3 rfl rfl (by decide) (List.mem_of_getElem? (i := 4) rfl) rfl dX0_ask_35 ?_
  refine kVv (wr := [oCl h pe ti c, oPe pe lc ls li lo dr p, oTi ti t, oRo rh w rp, aM G w 8 (krow q), oMs (q 0) (d 0), aI G (d 0) 9 (M 0), oMs (q 1) (d 1), aI G (d 1) 9 (M 1), oMs (q 2) (d 2), aI G (d 2) 9 (M 2), oMs (q 3) (d 3), aI G (d 3) 9 (M 3), oMs (q 4) (d 4), aI G (d 4) 9 (M 4), oMs (q 5) (d 5), aI G (d 5) 9 (M 5), oMs (q 6) (d 6), aI G (d 6) 9 (M 6), oMs (q 7) (d 7), aI G (d 7) 9 (M 7)]) F hK hP5 hD5 hS5 hA hl1.1 (c_X2_put l G dr da f_4 2 (p 1) (by first | assumption | decide | omega)) [21, 22] [0, 1, 2, 3, 4, 5, 6, 7, 8, 9, 10, 11, 12, 13, 14, 15, 16, 17, 18, 19, 20] 2 0 gX0_ask_X2_put rfl 2 rfl (by decide +kernel) ⟨Nat.le_of_ble_eq_true rfl, Nat.le_of_ble_eq_true rfl⟩ ⟨Nat.zero_le _, Nat.zero_le _⟩ rfl rfl rfl rfl (by decide) (by decide) (by decide) (Nat.le_of_ble_eq_true rfl) rfl dX0_ask_38 (fun f_6 H7 locs7 hw6 (hP7 : va_P G.1 vwCl ([oCl h pe ti c, oPe pe lc ls li lo dr p, oTi ti t, oRo rh w rp, aM G w 8 (krow q), oMs (q 0) (d 0), aI G (d 0) 9 (M 0), oMs (q 1) (d 1), aI G (d 1) 9 (M 1), oMs (q 2) (d 2), aI G (d 2) 9 (M 2), oMs (q 3) (d 3), aI G (d 3) 9 (M 3), oMs (q 4) (d 4), aI G (d 4) 9 (M 4), oMs (q 5) (d 5), aI G (d 5) 9 (M 5), oMs (q 6) (d 6), aI G (d 6) 9 (M 6), oMs (q 7) (d 7), aI G (d 7) 9 (M 7), oMs dr da, aI G da 9 f_6]) H7) (hD7 : va_D A ([oCl h pe ti c, oPe pe lc ls li lo dr p, oTi ti t, oRo rh w rp, aM G w 8 (krow q), oMs (q 0) (d 0), aI G (d 0) 9 (M 0), oMs (q 1) (d 1), aI G (d 1) 9 (M 1), oMs (q 2) (d 2), aI G (d 2) 9 (M 2), oMs (q 3) (d 3), aI G (d 3) 9 (M 3), oMs (q 4) (d 4), aI G (d 4) 9 (M 4), oMs (q 5) (d 5), aI G (d 5) 9 (M 5), oMs (q 6) (d 6), aI G (d 6) 9 (M 6), oMs (q 7) (d 7), aI G (d 7) 9 (M 7), oMs dr da, aI G da 9 f_6])) hS7 => ?_)
  clear hP5 hD5 hS5
  have w6_0 : f_6 = upd f_4 2 (p 1) := hw6
  refine lv_aload hx hb dX0_ask_41 (lv_at hl1 0 rfl) ?_
  refine lv_iconst (v := 3) hx hb dX0_ask_43 (by decide) ?_
  refine lv_iload_n hx hb dX0_ask_44 rfl (lv_at hl1 2 rfl) ?_
  refine kVv (wr := [oCl h pe ti c, oPe pe lc ls li lo dr p, oTi ti t, oRo rh w rp, aM G w 8 (krow q), oMs (q 0) (d 0), aI G (d 0) 9 (M 0), oMs (q 1) (d 1), aI G (d 1) 9 (M 1), oMs (q 2) (d 2), aI G (d 2) 9 (M 2), oMs (q 3) (d 3), aI G (d 3) 9 (M 3), oMs (q 4) (d 4), aI G (d 4) 9 (M 4), oMs (q 5) (d 5), aI G (d 5) 9 (M 5), oMs (q 6) (d 6), aI G (d 6) 9 (M 6), oMs (q 7) (d 7), aI G (d 7) 9 (M 7)]) F hK hP7 hD7 hS7 hA hl1.1 (c_X2_put l G dr da f_6 3 g (by first | assumption | decide | omega)) [21, 22] [0, 1, 2, 3, 4, 5, 6, 7, 8, 9, 10, 11, 12, 13, 14, 15, 16, 17, 18, 19, 20] 2 0 gX0_ask_X2_put rfl 2 rfl (by decide +kernel) ⟨Nat.le_of_ble_eq_true rfl, Nat.le_of_ble_eq_true rfl⟩ ⟨Nat.zero_le _, Nat.zero_le _⟩ rfl rfl rfl rfl (by decide) (by decide) (by decide) (Nat.le_of_ble_eq_true rfl) rfl dX0_ask_45 (fun f_8 H9 locs9 hw8 (hP9 : va_P G.1 vwCl ([oCl h pe ti c, oPe pe lc ls li lo dr p, oTi ti t, oRo rh w rp, aM G w 8 (krow q), oMs (q 0) (d 0), aI G (d 0) 9 (M 0), oMs (q 1) (d 1), aI G (d 1) 9 (M 1), oMs (q 2) (d 2), aI G (d 2) 9 (M 2), oMs (q 3) (d 3), aI G (d 3) 9 (M 3), oMs (q 4) (d 4), aI G (d 4) 9 (M 4), oMs (q 5) (d 5), aI G (d 5) 9 (M 5), oMs (q 6) (d 6), aI G (d 6) 9 (M 6), oMs (q 7) (d 7), aI G (d 7) 9 (M 7), oMs dr da, aI G da 9 f_8]) H9) (hD9 : va_D A ([oCl h pe ti c, oPe pe lc ls li lo dr p, oTi ti t, oRo rh w rp, aM G w 8 (krow q), oMs (q 0) (d 0), aI G (d 0) 9 (M 0), oMs (q 1) (d 1), aI G (d 1) 9 (M 1), oMs (q 2) (d 2), aI G (d 2) 9 (M 2), oMs (q 3) (d 3), aI G (d 3) 9 (M 3), oMs (q 4) (d 4), aI G (d 4) 9 (M 4), oMs (q 5) (d 5), aI G (d 5) 9 (M 5), oMs (q 6) (d 6), aI G (d 6) 9 (M 6), oMs (q 7) (d 7), aI G (d 7) 9 (M 7), oMs dr da, aI G da 9 f_8])) hS9 => ?_)
  clear hP7 hD7 hS7
  have w8_0 : f_8 = upd f_6 3 g := hw8
  refine lv_aload hx hb dX0_ask_48 (lv_at hl1 0 rfl) ?_
  refine lv_iconst (v := 4) hx hb dX0_ask_50 (by decide) ?_
  refine lv_iload_n hx hb dX0_ask_51 rfl (lv_at hl1 2 rfl) ?_
  refine lv_aload_n hx hb dX0_ask_52 rfl (lv_at hl1 1 rfl) ?_
  refine kget F hK hP9 0 0 0 iX0 rfl rfl (by decide) (List.mem_of_getElem? (i := 1) rfl) rfl dX0_ask_53 ?_
  refine kget F hK hP9 3 1 2 iX3 rfl rfl (by decide) (List.mem_of_getElem? (i := 5) rfl) rfl dX0_ask_56 ?_
  refine kPNi F hK hP9 hD9 hS9 hA hl1.1 (c_X8_shareOf l G g (p 2)) (fun _ => rfl) 8 rfl gX0_ask_X8_shareOf_n75 (List.mem_of_getElem? (i := 31) rfl) (List.mem_of_getElem? (i := 32) rfl) rfl 2 rfl (by decide +kernel) ⟨Nat.le_of_ble_eq_true rfl, Nat.le_of_ble_eq_true rfl⟩ ⟨Nat.zero_le _, Nat.zero_le _⟩ (Nat.le_of_ble_eq_true rfl) rfl dX0_ask_59 (fun r10 u10 H11 locs11 hw10 (hP11 : va_P G.1 vwCl ([oCl h pe ti c, oPe pe lc ls li lo dr p, oTi ti t, oRo rh w rp, aM G w 8 (krow q), oMs (q 0) (d 0), aI G (d 0) 9 (M 0), oMs (q 1) (d 1), aI G (d 1) 9 (M 1), oMs (q 2) (d 2), aI G (d 2) 9 (M 2), oMs (q 3) (d 3), aI G (d 3) 9 (M 3), oMs (q 4) (d 4), aI G (d 4) 9 (M 4), oMs (q 5) (d 5), aI G (d 5) 9 (M 5), oMs (q 6) (d 6), aI G (d 6) 9 (M 6), oMs (q 7) (d 7), aI G (d 7) 9 (M 7), oMs dr da, aI G da 9 f_8]) H11) (hD11 : va_D A ([oCl h pe ti c, oPe pe lc ls li lo dr p, oTi ti t, oRo rh w rp, aM G w 8 (krow q), oMs (q 0) (d 0), aI G (d 0) 9 (M 0), oMs (q 1) (d 1), aI G (d 1) 9 (M 1), oMs (q 2) (d 2), aI G (d 2) 9 (M 2), oMs (q 3) (d 3), aI G (d 3) 9 (M 3), oMs (q 4) (d 4), aI G (d 4) 9 (M 4), oMs (q 5) (d 5), aI G (d 5) 9 (M 5), oMs (q 6) (d 6), aI G (d 6) 9 (M 6), oMs (q 7) (d 7), aI G (d 7) 9 (M 7), oMs dr da, aI G da 9 f_8])) hS11 => ?_)
  clear hP9 hD9 hS9
  have w10_0 : r10 = kshareC g (p 2) := hw10
  refine kVv (wr := [oCl h pe ti c, oPe pe lc ls li lo dr p, oTi ti t, oRo rh w rp, aM G w 8 (krow q), oMs (q 0) (d 0), aI G (d 0) 9 (M 0), oMs (q 1) (d 1), aI G (d 1) 9 (M 1), oMs (q 2) (d 2), aI G (d 2) 9 (M 2), oMs (q 3) (d 3), aI G (d 3) 9 (M 3), oMs (q 4) (d 4), aI G (d 4) 9 (M 4), oMs (q 5) (d 5), aI G (d 5) 9 (M 5), oMs (q 6) (d 6), aI G (d 6) 9 (M 6), oMs (q 7) (d 7), aI G (d 7) 9 (M 7)]) F hK hP11 hD11 hS11 hA hl1.1 (c_X2_put l G dr da f_8 4 r10 (by first | assumption | decide | omega)) [21, 22] [0, 1, 2, 3, 4, 5, 6, 7, 8, 9, 10, 11, 12, 13, 14, 15, 16, 17, 18, 19, 20] 2 0 gX0_ask_X2_put rfl 2 rfl (by decide +kernel) ⟨Nat.le_of_ble_eq_true rfl, Nat.le_of_ble_eq_true rfl⟩ ⟨Nat.zero_le _, Nat.zero_le _⟩ rfl rfl rfl rfl (by decide) (by decide) (by decide) (Nat.le_of_ble_eq_true rfl) rfl dX0_ask_62 (fun f_12 H13 locs13 hw12 (hP13 : va_P G.1 vwCl ([oCl h pe ti c, oPe pe lc ls li lo dr p, oTi ti t, oRo rh w rp, aM G w 8 (krow q), oMs (q 0) (d 0), aI G (d 0) 9 (M 0), oMs (q 1) (d 1), aI G (d 1) 9 (M 1), oMs (q 2) (d 2), aI G (d 2) 9 (M 2), oMs (q 3) (d 3), aI G (d 3) 9 (M 3), oMs (q 4) (d 4), aI G (d 4) 9 (M 4), oMs (q 5) (d 5), aI G (d 5) 9 (M 5), oMs (q 6) (d 6), aI G (d 6) 9 (M 6), oMs (q 7) (d 7), aI G (d 7) 9 (M 7), oMs dr da, aI G da 9 f_12]) H13) (hD13 : va_D A ([oCl h pe ti c, oPe pe lc ls li lo dr p, oTi ti t, oRo rh w rp, aM G w 8 (krow q), oMs (q 0) (d 0), aI G (d 0) 9 (M 0), oMs (q 1) (d 1), aI G (d 1) 9 (M 1), oMs (q 2) (d 2), aI G (d 2) 9 (M 2), oMs (q 3) (d 3), aI G (d 3) 9 (M 3), oMs (q 4) (d 4), aI G (d 4) 9 (M 4), oMs (q 5) (d 5), aI G (d 5) 9 (M 5), oMs (q 6) (d 6), aI G (d 6) 9 (M 6), oMs (q 7) (d 7), aI G (d 7) 9 (M 7), oMs dr da, aI G da 9 f_12])) hS13 => ?_)
  clear hP11 hD11 hS11
  have w12_0 : f_12 = upd f_8 4 r10 := hw12
  refine lv_aload_n hx hb dX0_ask_65 rfl (lv_at hl1 1 rfl) ?_
  refine kget F hK hP13 0 0 2 iX0 rfl rfl (by decide) (List.mem_of_getElem? (i := 6) rfl) rfl dX0_ask_66 ?_
  refine lv_if_eq (tgt := 135) hx hb dX0_ask_69 (by decide) (fun c14 => ?_) (fun c14 => ?_)
  · refine lv_aload hx hb dX0_ask_135 (lv_at hl1 0 rfl) ?_
    refine lv_bipush (v := 8) hx hb dX0_ask_137 (by decide) ?_
    refine lv_aload_n hx hb dX0_ask_139 rfl (lv_at hl1 1 rfl) ?_
    refine kget F hK hP13 0 0 2 iX0 rfl rfl (by decide) (List.mem_of_getElem? (i := 6) rfl) rfl dX0_ask_140 ?_
    refine lv_if_eq (tgt := 160) hx hb dX0_ask_143 (by decide) (fun c15 => ?_) (fun c15 => ?_)
    · refine lv_iconst (v := (-1)) hx hb dX0_ask_160 (by decide) ?_
      refine kVv (wr := [oCl h pe ti c, oPe pe lc ls li lo dr p, oTi ti t, oRo rh w rp, aM G w 8 (krow q), oMs (q 0) (d 0), aI G (d 0) 9 (M 0), oMs (q 1) (d 1), aI G (d 1) 9 (M 1), oMs (q 2) (d 2), aI G (d 2) 9 (M 2), oMs (q 3) (d 3), aI G (d 3) 9 (M 3), oMs (q 4) (d 4), aI G (d 4) 9 (M 4), oMs (q 5) (d 5), aI G (d 5) 9 (M 5), oMs (q 6) (d 6), aI G (d 6) 9 (M 6), oMs (q 7) (d 7), aI G (d 7) 9 (M 7)]) F hK hP13 hD13 hS13 hA hl1.1 (c_X2_put l G dr da f_12 8 (-1) (by first | assumption | decide | omega)) [21, 22] [0, 1, 2, 3, 4, 5, 6, 7, 8, 9, 10, 11, 12, 13, 14, 15, 16, 17, 18, 19, 20] 2 0 gX0_ask_X2_put rfl 2 rfl (by decide +kernel) ⟨Nat.le_of_ble_eq_true rfl, Nat.le_of_ble_eq_true rfl⟩ ⟨Nat.zero_le _, Nat.zero_le _⟩ rfl rfl rfl rfl (by decide) (by decide) (by decide) (Nat.le_of_ble_eq_true rfl) rfl dX0_ask_161 (fun f_16 H17 locs17 hw16 (hP17 : va_P G.1 vwCl ([oCl h pe ti c, oPe pe lc ls li lo dr p, oTi ti t, oRo rh w rp, aM G w 8 (krow q), oMs (q 0) (d 0), aI G (d 0) 9 (M 0), oMs (q 1) (d 1), aI G (d 1) 9 (M 1), oMs (q 2) (d 2), aI G (d 2) 9 (M 2), oMs (q 3) (d 3), aI G (d 3) 9 (M 3), oMs (q 4) (d 4), aI G (d 4) 9 (M 4), oMs (q 5) (d 5), aI G (d 5) 9 (M 5), oMs (q 6) (d 6), aI G (d 6) 9 (M 6), oMs (q 7) (d 7), aI G (d 7) 9 (M 7), oMs dr da, aI G da 9 f_16]) H17) (hD17 : va_D A ([oCl h pe ti c, oPe pe lc ls li lo dr p, oTi ti t, oRo rh w rp, aM G w 8 (krow q), oMs (q 0) (d 0), aI G (d 0) 9 (M 0), oMs (q 1) (d 1), aI G (d 1) 9 (M 1), oMs (q 2) (d 2), aI G (d 2) 9 (M 2), oMs (q 3) (d 3), aI G (d 3) 9 (M 3), oMs (q 4) (d 4), aI G (d 4) 9 (M 4), oMs (q 5) (d 5), aI G (d 5) 9 (M 5), oMs (q 6) (d 6), aI G (d 6) 9 (M 6), oMs (q 7) (d 7), aI G (d 7) 9 (M 7), oMs dr da, aI G da 9 f_16])) hS17 => ?_)
      clear hP13 hD13 hS13
      have w16_0 : f_16 = upd f_12 8 (-1) := hw16
      refine lv_aload_n hx hb dX0_ask_164 rfl (lv_at hl1 1 rfl) ?_
      refine lv_iload_n hx hb dX0_ask_165 rfl (lv_at hl1 2 rfl) ?_
      refine kput F hK hP17 hD17 hS17 (ty0 := tyX0) 0 0 6 iX0 rfl tyX0_ok nmX0 (fun z => [oCl h pe ti z, oPe pe lc ls li lo dr p, oTi ti t, oRo rh w rp, aM G w 8 (krow q), oMs (q 0) (d 0), aI G (d 0) 9 (M 0), oMs (q 1) (d 1), aI G (d 1) 9 (M 1), oMs (q 2) (d 2), aI G (d 2) 9 (M 2), oMs (q 3) (d 3), aI G (d 3) 9 (M 3), oMs (q 4) (d 4), aI G (d 4) 9 (M 4), oMs (q 5) (d 5), aI G (d 5) 9 (M 5), oMs (q 6) (d 6), aI G (d 6) 9 (M 6), oMs (q 7) (d 7), aI G (d 7) 9 (M 7), oMs dr da, aI G da 9 f_16]) c rfl (by decide) (List.mem_of_getElem? (i := 15) rfl) rfl rfl rfl (Nat.le_of_ble_eq_true rfl) rfl dX0_ask_166 (fun H18 locs18 c18 ec18 (hP18 : va_P G.1 vwCl ([oCl h pe ti c18, oPe pe lc ls li lo dr p, oTi ti t, oRo rh w rp, aM G w 8 (krow q), oMs (q 0) (d 0), aI G (d 0) 9 (M 0), oMs (q 1) (d 1), aI G (d 1) 9 (M 1), oMs (q 2) (d 2), aI G (d 2) 9 (M 2), oMs (q 3) (d 3), aI G (d 3) 9 (M 3), oMs (q 4) (d 4), aI G (d 4) 9 (M 4), oMs (q 5) (d 5), aI G (d 5) 9 (M 5), oMs (q 6) (d 6), aI G (d 6) 9 (M 6), oMs (q 7) (d 7), aI G (d 7) 9 (M 7), oMs dr da, aI G da 9 f_16]) H18) (hD18 : va_D A ([oCl h pe ti c18, oPe pe lc ls li lo dr p, oTi ti t, oRo rh w rp, aM G w 8 (krow q), oMs (q 0) (d 0), aI G (d 0) 9 (M 0), oMs (q 1) (d 1), aI G (d 1) 9 (M 1), oMs (q 2) (d 2), aI G (d 2) 9 (M 2), oMs (q 3) (d 3), aI G (d 3) 9 (M 3), oMs (q 4) (d 4), aI G (d 4) 9 (M 4), oMs (q 5) (d 5), aI G (d 5) 9 (M 5), oMs (q 6) (d 6), aI G (d 6) 9 (M 6), oMs (q 7) (d 7), aI G (d 7) 9 (M 7), oMs dr da, aI G da 9 f_16])) hS18 => ?_)
      clear hP17 hD17 hS17
      refine lv_aload_n hx hb dX0_ask_169 rfl (lv_at hl1 1 rfl) ?_
      refine lv_aload_n hx hb dX0_ask_170 rfl (lv_at hl1 1 rfl) ?_
      refine kget F hK hP18 0 0 2 iX0 rfl rfl (by decide) (List.mem_of_getElem? (i := 6) rfl) rfl dX0_ask_171 ?_
      refine kput F hK hP18 hD18 hS18 (ty0 := tyX0) 0 0 7 iX0 rfl tyX0_ok nmX0 (fun z => [oCl h pe ti z, oPe pe lc ls li lo dr p, oTi ti t, oRo rh w rp, aM G w 8 (krow q), oMs (q 0) (d 0), aI G (d 0) 9 (M 0), oMs (q 1) (d 1), aI G (d 1) 9 (M 1), oMs (q 2) (d 2), aI G (d 2) 9 (M 2), oMs (q 3) (d 3), aI G (d 3) 9 (M 3), oMs (q 4) (d 4), aI G (d 4) 9 (M 4), oMs (q 5) (d 5), aI G (d 5) 9 (M 5), oMs (q 6) (d 6), aI G (d 6) 9 (M 6), oMs (q 7) (d 7), aI G (d 7) 9 (M 7), oMs dr da, aI G da 9 f_16]) c18 rfl (by decide) (List.mem_of_getElem? (i := 16) rfl) rfl (knb (by subst ec18; subst w16_0; subst w12_0; subst w10_0; subst w8_0; subst w6_0; subst w4_0; subst w2_0; exact hb)).1 (knb (by subst ec18; subst w16_0; subst w12_0; subst w10_0; subst w8_0; subst w6_0; subst w4_0; subst w2_0; exact hb)).2 (Nat.le_of_ble_eq_true rfl) rfl dX0_ask_174 (fun H19 locs19 c19 ec19 (hP19 : va_P G.1 vwCl ([oCl h pe ti c19, oPe pe lc ls li lo dr p, oTi ti t, oRo rh w rp, aM G w 8 (krow q), oMs (q 0) (d 0), aI G (d 0) 9 (M 0), oMs (q 1) (d 1), aI G (d 1) 9 (M 1), oMs (q 2) (d 2), aI G (d 2) 9 (M 2), oMs (q 3) (d 3), aI G (d 3) 9 (M 3), oMs (q 4) (d 4), aI G (d 4) 9 (M 4), oMs (q 5) (d 5), aI G (d 5) 9 (M 5), oMs (q 6) (d 6), aI G (d 6) 9 (M 6), oMs (q 7) (d 7), aI G (d 7) 9 (M 7), oMs dr da, aI G da 9 f_16]) H19) (hD19 : va_D A ([oCl h pe ti c19, oPe pe lc ls li lo dr p, oTi ti t, oRo rh w rp, aM G w 8 (krow q), oMs (q 0) (d 0), aI G (d 0) 9 (M 0), oMs (q 1) (d 1), aI G (d 1) 9 (M 1), oMs (q 2) (d 2), aI G (d 2) 9 (M 2), oMs (q 3) (d 3), aI G (d 3) 9 (M 3), oMs (q 4) (d 4), aI G (d 4) 9 (M 4), oMs (q 5) (d 5), aI G (d 5) 9 (M 5), oMs (q 6) (d 6), aI G (d 6) 9 (M 6), oMs (q 7) (d 7), aI G (d 7) 9 (M 7), oMs dr da, aI G da 9 f_16])) hS19 => ?_)
      clear hP18 hD18 hS18
      refine lv_aload_n hx hb dX0_ask_177 rfl (lv_at hl1 1 rfl) ?_
      refine lv_aload_n hx hb dX0_ask_178 rfl (lv_at hl1 1 rfl) ?_
      refine kget F hK hP19 0 0 1 iX0 rfl rfl (by decide) (List.mem_of_getElem? (i := 7) rfl) rfl dX0_ask_179 ?_
      refine kget F hK hP19 7 2 3 iX7 rfl rfl (by decide) (List.mem_of_getElem? (i := 11) rfl) rfl dX0_ask_182 ?_
      refine kput F hK hP19 hD19 hS19 (ty0 := tyX0) 0 0 8 iX0 rfl tyX0_ok nmX0 (fun z => [oCl h pe ti z, oPe pe lc ls li lo dr p, oTi ti t, oRo rh w rp, aM G w 8 (krow q), oMs (q 0) (d 0), aI G (d 0) 9 (M 0), oMs (q 1) (d 1), aI G (d 1) 9 (M 1), oMs (q 2) (d 2), aI G (d 2) 9 (M 2), oMs (q 3) (d 3), aI G (d 3) 9 (M 3), oMs (q 4) (d 4), aI G (d 4) 9 (M 4), oMs (q 5) (d 5), aI G (d 5) 9 (M 5), oMs (q 6) (d 6), aI G (d 6) 9 (M 6), oMs (q 7) (d 7), aI G (d 7) 9 (M 7), oMs dr da, aI G da 9 f_16]) c19 rfl (by decide) (List.mem_of_getElem? (i := 17) rfl) rfl rfl rfl (Nat.le_of_ble_eq_true rfl) rfl dX0_ask_185 (fun H20 locs20 c20 ec20 (hP20 : va_P G.1 vwCl ([oCl h pe ti c20, oPe pe lc ls li lo dr p, oTi ti t, oRo rh w rp, aM G w 8 (krow q), oMs (q 0) (d 0), aI G (d 0) 9 (M 0), oMs (q 1) (d 1), aI G (d 1) 9 (M 1), oMs (q 2) (d 2), aI G (d 2) 9 (M 2), oMs (q 3) (d 3), aI G (d 3) 9 (M 3), oMs (q 4) (d 4), aI G (d 4) 9 (M 4), oMs (q 5) (d 5), aI G (d 5) 9 (M 5), oMs (q 6) (d 6), aI G (d 6) 9 (M 6), oMs (q 7) (d 7), aI G (d 7) 9 (M 7), oMs dr da, aI G da 9 f_16]) H20) (hD20 : va_D A ([oCl h pe ti c20, oPe pe lc ls li lo dr p, oTi ti t, oRo rh w rp, aM G w 8 (krow q), oMs (q 0) (d 0), aI G (d 0) 9 (M 0), oMs (q 1) (d 1), aI G (d 1) 9 (M 1), oMs (q 2) (d 2), aI G (d 2) 9 (M 2), oMs (q 3) (d 3), aI G (d 3) 9 (M 3), oMs (q 4) (d 4), aI G (d 4) 9 (M 4), oMs (q 5) (d 5), aI G (d 5) 9 (M 5), oMs (q 6) (d 6), aI G (d 6) 9 (M 6), oMs (q 7) (d 7), aI G (d 7) 9 (M 7), oMs dr da, aI G da 9 f_16])) hS20 => ?_)
      clear hP19 hD19 hS19
      refine lv_aload_n hx hb dX0_ask_188 rfl (lv_at hl1 1 rfl) ?_
      refine kget F hK hP20 0 0 0 iX0 rfl rfl (by decide) (List.mem_of_getElem? (i := 1) rfl) rfl dX0_ask_189 ?_
      refine lv_aload hx hb dX0_ask_192 (lv_at hl1 0 rfl) ?_
      refine kVv (wr := [oCl h pe ti c20, oTi ti t, oRo rh w rp, aM G w 8 (krow q), oMs (q 0) (d 0), aI G (d 0) 9 (M 0), oMs (q 1) (d 1), aI G (d 1) 9 (M 1), oMs (q 2) (d 2), aI G (d 2) 9 (M 2), oMs (q 3) (d 3), aI G (d 3) 9 (M 3), oMs (q 4) (d 4), aI G (d 4) 9 (M 4), oMs (q 5) (d 5), aI G (d 5) 9 (M 5), oMs (q 6) (d 6), aI G (d 6) 9 (M 6), oMs (q 7) (d 7), aI G (d 7) 9 (M 7)]) F hK hP20 hD20 hS20 hA hl1.1 (c_X3_takeIn l G pe lc ls li lo dr p dr da f_16) [1, 21, 22] [0, 2, 3, 4, 5, 6, 7, 8, 9, 10, 11, 12, 13, 14, 15, 16, 17, 18, 19, 20] 3 0 gX0_ask_X3_takeIn rfl 1 rfl (by decide +kernel) ⟨Nat.le_of_ble_eq_true rfl, Nat.le_of_ble_eq_true rfl⟩ ⟨Nat.zero_le _, Nat.zero_le _⟩ rfl rfl rfl rfl (by decide) (by decide) (by decide) (Nat.le_of_ble_eq_true rfl) rfl dX0_ask_194 (fun p_21 H22 locs22 hw21 (hP22 : va_P G.1 vwCl ([oCl h pe ti c20, oTi ti t, oRo rh w rp, aM G w 8 (krow q), oMs (q 0) (d 0), aI G (d 0) 9 (M 0), oMs (q 1) (d 1), aI G (d 1) 9 (M 1), oMs (q 2) (d 2), aI G (d 2) 9 (M 2), oMs (q 3) (d 3), aI G (d 3) 9 (M 3), oMs (q 4) (d 4), aI G (d 4) 9 (M 4), oMs (q 5) (d 5), aI G (d 5) 9 (M 5), oMs (q 6) (d 6), aI G (d 6) 9 (M 6), oMs (q 7) (d 7), aI G (d 7) 9 (M 7), oPe pe lc ls li lo dr p_21, oMs dr da, aI G da 9 f_16]) H22) (hD22 : va_D A ([oCl h pe ti c20, oTi ti t, oRo rh w rp, aM G w 8 (krow q), oMs (q 0) (d 0), aI G (d 0) 9 (M 0), oMs (q 1) (d 1), aI G (d 1) 9 (M 1), oMs (q 2) (d 2), aI G (d 2) 9 (M 2), oMs (q 3) (d 3), aI G (d 3) 9 (M 3), oMs (q 4) (d 4), aI G (d 4) 9 (M 4), oMs (q 5) (d 5), aI G (d 5) 9 (M 5), oMs (q 6) (d 6), aI G (d 6) 9 (M 6), oMs (q 7) (d 7), aI G (d 7) 9 (M 7), oPe pe lc ls li lo dr p_21, oMs dr da, aI G da 9 f_16])) hS22 => ?_)
      clear hP20 hD20 hS20
      have w21_0 : p_21 = ktake p f_16 := hw21
      refine lv_aload_n hx hb dX0_ask_197 rfl (lv_at hl1 4 rfl) ?_
      refine lv_aload hx hb dX0_ask_198 (lv_at hl1 0 rfl) ?_
      refine kVv (wr := [oCl h pe ti c20, oTi ti t, oPe pe lc ls li lo dr p_21]) F hK hP22 hD22 hS22 hA hl1.1 (c_X4_send l G rh w q d rp M dr da f_16 L hL hL8) [2, 3, 4, 5, 6, 7, 8, 9, 10, 11, 12, 13, 14, 15, 16, 17, 18, 19, 21, 22] [0, 1, 20] 4 0 gX0_ask_X4_send rfl 1 rfl (by decide +kernel) ⟨Nat.le_of_ble_eq_true rfl, Nat.le_of_ble_eq_true rfl⟩ ⟨Nat.zero_le _, Nat.zero_le _⟩ rfl rfl rfl rfl (by decide) (by decide) (by decide) (Nat.le_of_ble_eq_true rfl) rfl dX0_ask_200 (fun u23 H24 locs24 hw23 hP24 hD24 hS24 => ?_)
      obtain ⟨p_23, M_23⟩ := u23
      have hP24 : va_P G.1 vwCl ([oCl h pe ti c20, oTi ti t, oPe pe lc ls li lo dr p_21, oRo rh w p_23, aM G w 8 (krow q), oMs (q 0) (d 0), aI G (d 0) 9 (M_23 0), oMs (q 1) (d 1), aI G (d 1) 9 (M_23 1), oMs (q 2) (d 2), aI G (d 2) 9 (M_23 2), oMs (q 3) (d 3), aI G (d 3) 9 (M_23 3), oMs (q 4) (d 4), aI G (d 4) 9 (M_23 4), oMs (q 5) (d 5), aI G (d 5) 9 (M_23 5), oMs (q 6) (d 6), aI G (d 6) 9 (M_23 6), oMs (q 7) (d 7), aI G (d 7) 9 (M_23 7), oMs dr da, aI G da 9 f_16]) H24 := hP24
      have hD24 : va_D A ([oCl h pe ti c20, oTi ti t, oPe pe lc ls li lo dr p_21, oRo rh w p_23, aM G w 8 (krow q), oMs (q 0) (d 0), aI G (d 0) 9 (M_23 0), oMs (q 1) (d 1), aI G (d 1) 9 (M_23 1), oMs (q 2) (d 2), aI G (d 2) 9 (M_23 2), oMs (q 3) (d 3), aI G (d 3) 9 (M_23 3), oMs (q 4) (d 4), aI G (d 4) 9 (M_23 4), oMs (q 5) (d 5), aI G (d 5) 9 (M_23 5), oMs (q 6) (d 6), aI G (d 6) 9 (M_23 6), oMs (q 7) (d 7), aI G (d 7) 9 (M_23 7), oMs dr da, aI G da 9 f_16]) := hD24
      clear hP22 hD22 hS22
      have w23_0 : p_23 = ksendP L rp := hw23.1
      have w23_1 : M_23 = ksendM L M f_16 := hw23.2
      have q25 : (c20 = (kaskR L c p t f rp M g now).1) ∧ (p_21 = (kaskR L c p t f rp M g now).2.1) ∧ (f_16 = (kaskR L c p t f rp M g now).2.2.1) ∧ (p_23 = (kaskR L c p t f rp M g now).2.2.2.1) ∧ (M_23 = (kaskR L c p t f rp M g now).2.2.2.2) := by
        subst w23_1
        subst w23_0
        subst w21_0
        subst ec20
        subst ec19
        subst ec18
        subst w16_0
        subst w12_0
        subst w10_0
        subst w8_0
        subst w6_0
        subst w4_0
        subst w2_0
        first | (simp only [kaskR, kaskC, kaskF, kaskG, c14, c15, ↓reduceIte, and_self]; done) | (simp only [kaskR, kaskC, kaskF, kaskG, c14, c15, ↓reduceIte, and_self]; exact ⟨rfl, rfl, rfl, rfl, rfl⟩) | exact ⟨rfl, rfl, rfl, rfl, rfl⟩
      exact kRv F hr hlocks hS24 dX0_ask_203 ⟨c20, p_21, f_16, p_23, M_23⟩ q25 (hP24.sub [0, 2, 1, 21, 22, 3, 4, 5, 6, 7, 8, 9, 10, 11, 12, 13, 14, 15, 16, 17, 18, 19, 20] rfl) (hD24.sub [0, 2, 1, 21, 22, 3, 4, 5, 6, 7, 8, 9, 10, 11, 12, 13, 14, 15, 16, 17, 18, 19, 20] (by decide) rfl)
    · exact absurd c14 c15
  · refine lv_aload hx hb dX0_ask_72 (lv_at hl1 0 rfl) ?_
    refine lv_iconst (v := 5) hx hb dX0_ask_74 (by decide) ?_
    refine lv_aload_n hx hb dX0_ask_75 rfl (lv_at hl1 1 rfl) ?_
    refine kget F hK hP13 0 0 1 iX0 rfl rfl (by decide) (List.mem_of_getElem? (i := 7) rfl) rfl dX0_ask_76 ?_
    refine kget F hK hP13 7 2 0 iX7 rfl rfl (by decide) (List.mem_of_getElem? (i := 8) rfl) rfl dX0_ask_79 ?_
    refine kVv (wr := [oCl h pe ti c, oPe pe lc ls li lo dr p, oTi ti t, oRo rh w rp, aM G w 8 (krow q), oMs (q 0) (d 0), aI G (d 0) 9 (M 0), oMs (q 1) (d 1), aI G (d 1) 9 (M 1), oMs (q 2) (d 2), aI G (d 2) 9 (M 2), oMs (q 3) (d 3), aI G (d 3) 9 (M 3), oMs (q 4) (d 4), aI G (d 4) 9 (M 4), oMs (q 5) (d 5), aI G (d 5) 9 (M 5), oMs (q 6) (d 6), aI G (d 6) 9 (M 6), oMs (q 7) (d 7), aI G (d 7) 9 (M 7)]) F hK hP13 hD13 hS13 hA hl1.1 (c_X2_put l G dr da f_12 5 (t 0) (by first | assumption | decide | omega)) [21, 22] [0, 1, 2, 3, 4, 5, 6, 7, 8, 9, 10, 11, 12, 13, 14, 15, 16, 17, 18, 19, 20] 2 0 gX0_ask_X2_put rfl 2 rfl (by decide +kernel) ⟨Nat.le_of_ble_eq_true rfl, Nat.le_of_ble_eq_true rfl⟩ ⟨Nat.zero_le _, Nat.zero_le _⟩ rfl rfl rfl rfl (by decide) (by decide) (by decide) (Nat.le_of_ble_eq_true rfl) rfl dX0_ask_82 (fun f_26 H27 locs27 hw26 (hP27 : va_P G.1 vwCl ([oCl h pe ti c, oPe pe lc ls li lo dr p, oTi ti t, oRo rh w rp, aM G w 8 (krow q), oMs (q 0) (d 0), aI G (d 0) 9 (M 0), oMs (q 1) (d 1), aI G (d 1) 9 (M 1), oMs (q 2) (d 2), aI G (d 2) 9 (M 2), oMs (q 3) (d 3), aI G (d 3) 9 (M 3), oMs (q 4) (d 4), aI G (d 4) 9 (M 4), oMs (q 5) (d 5), aI G (d 5) 9 (M 5), oMs (q 6) (d 6), aI G (d 6) 9 (M 6), oMs (q 7) (d 7), aI G (d 7) 9 (M 7), oMs dr da, aI G da 9 f_26]) H27) (hD27 : va_D A ([oCl h pe ti c, oPe pe lc ls li lo dr p, oTi ti t, oRo rh w rp, aM G w 8 (krow q), oMs (q 0) (d 0), aI G (d 0) 9 (M 0), oMs (q 1) (d 1), aI G (d 1) 9 (M 1), oMs (q 2) (d 2), aI G (d 2) 9 (M 2), oMs (q 3) (d 3), aI G (d 3) 9 (M 3), oMs (q 4) (d 4), aI G (d 4) 9 (M 4), oMs (q 5) (d 5), aI G (d 5) 9 (M 5), oMs (q 6) (d 6), aI G (d 6) 9 (M 6), oMs (q 7) (d 7), aI G (d 7) 9 (M 7), oMs dr da, aI G da 9 f_26])) hS27 => ?_)
    clear hP13 hD13 hS13
    have w26_0 : f_26 = upd f_12 5 (t 0) := hw26
    refine lv_aload hx hb dX0_ask_85 (lv_at hl1 0 rfl) ?_
    refine lv_bipush (v := 6) hx hb dX0_ask_87 (by decide) ?_
    refine lv_iload_n hx hb dX0_ask_89 rfl (lv_at hl1 3 rfl) ?_
    refine lv_aload_n hx hb dX0_ask_90 rfl (lv_at hl1 1 rfl) ?_
    refine kget F hK hP27 0 0 1 iX0 rfl rfl (by decide) (List.mem_of_getElem? (i := 7) rfl) rfl dX0_ask_91 ?_
    refine kget F hK hP27 7 2 2 iX7 rfl rfl (by decide) (List.mem_of_getElem? (i := 9) rfl) rfl dX0_ask_94 ?_
    refine lv_isub hx hb dX0_ask_97 ?_
    refine lv_aload_n hx hb dX0_ask_98 rfl (lv_at hl1 1 rfl) ?_
    refine kget F hK hP27 0 0 1 iX0 rfl rfl (by decide) (List.mem_of_getElem? (i := 7) rfl) rfl dX0_ask_99 ?_
    refine kget F hK hP27 7 2 4 iX7 rfl rfl (by decide) (List.mem_of_getElem? (i := 10) rfl) rfl dX0_ask_102 ?_
    refine lv_iadd hx hb dX0_ask_105 ?_
    refine kVv (wr := [oCl h pe ti c, oPe pe lc ls li lo dr p, oTi ti t, oRo rh w rp, aM G w 8 (krow q), oMs (q 0) (d 0), aI G (d 0) 9 (M 0), oMs (q 1) (d 1), aI G (d 1) 9 (M 1), oMs (q 2) (d 2), aI G (d 2) 9 (M 2), oMs (q 3) (d 3), aI G (d 3) 9 (M 3), oMs (q 4) (d 4), aI G (d 4) 9 (M 4), oMs (q 5) (d 5), aI G (d 5) 9 (M 5), oMs (q 6) (d 6), aI G (d 6) 9 (M 6), oMs (q 7) (d 7), aI G (d 7) 9 (M 7)]) F hK hP27 hD27 hS27 hA hl1.1 (c_X2_put l G dr da f_26 6 ((now - (t 2)) + (t 4)) (by first | assumption | decide | omega)) [21, 22] [0, 1, 2, 3, 4, 5, 6, 7, 8, 9, 10, 11, 12, 13, 14, 15, 16, 17, 18, 19, 20] 2 0 gX0_ask_X2_put rfl 2 rfl (by decide +kernel) ⟨Nat.le_of_ble_eq_true rfl, Nat.le_of_ble_eq_true rfl⟩ ⟨Nat.zero_le _, Nat.zero_le _⟩ rfl rfl rfl rfl (by decide) (by decide) (by decide) (Nat.le_of_ble_eq_true rfl) rfl dX0_ask_106 (fun f_28 H29 locs29 hw28 (hP29 : va_P G.1 vwCl ([oCl h pe ti c, oPe pe lc ls li lo dr p, oTi ti t, oRo rh w rp, aM G w 8 (krow q), oMs (q 0) (d 0), aI G (d 0) 9 (M 0), oMs (q 1) (d 1), aI G (d 1) 9 (M 1), oMs (q 2) (d 2), aI G (d 2) 9 (M 2), oMs (q 3) (d 3), aI G (d 3) 9 (M 3), oMs (q 4) (d 4), aI G (d 4) 9 (M 4), oMs (q 5) (d 5), aI G (d 5) 9 (M 5), oMs (q 6) (d 6), aI G (d 6) 9 (M 6), oMs (q 7) (d 7), aI G (d 7) 9 (M 7), oMs dr da, aI G da 9 f_28]) H29) (hD29 : va_D A ([oCl h pe ti c, oPe pe lc ls li lo dr p, oTi ti t, oRo rh w rp, aM G w 8 (krow q), oMs (q 0) (d 0), aI G (d 0) 9 (M 0), oMs (q 1) (d 1), aI G (d 1) 9 (M 1), oMs (q 2) (d 2), aI G (d 2) 9 (M 2), oMs (q 3) (d 3), aI G (d 3) 9 (M 3), oMs (q 4) (d 4), aI G (d 4) 9 (M 4), oMs (q 5) (d 5), aI G (d 5) 9 (M 5), oMs (q 6) (d 6), aI G (d 6) 9 (M 6), oMs (q 7) (d 7), aI G (d 7) 9 (M 7), oMs dr da, aI G da 9 f_28])) hS29 => ?_)
    clear hP27 hD27 hS27
    have w28_0 : f_28 = upd f_26 6 ((now - (t 2)) + (t 4)) := hw28
    refine lv_aload hx hb dX0_ask_109 (lv_at hl1 0 rfl) ?_
    refine lv_bipush (v := 7) hx hb dX0_ask_111 (by decide) ?_
    refine lv_aload_n hx hb dX0_ask_113 rfl (lv_at hl1 1 rfl) ?_
    refine kget F hK hP29 0 0 1 iX0 rfl rfl (by decide) (List.mem_of_getElem? (i := 7) rfl) rfl dX0_ask_114 ?_
    refine kget F hK hP29 7 2 3 iX7 rfl rfl (by decide) (List.mem_of_getElem? (i := 11) rfl) rfl dX0_ask_117 ?_
    refine lv_aload_n hx hb dX0_ask_120 rfl (lv_at hl1 1 rfl) ?_
    refine kget F hK hP29 0 0 0 iX0 rfl rfl (by decide) (List.mem_of_getElem? (i := 1) rfl) rfl dX0_ask_121 ?_
    refine kget F hK hP29 3 1 5 iX3 rfl rfl (by decide) (List.mem_of_getElem? (i := 12) rfl) rfl dX0_ask_124 ?_
    refine lv_aload hx hb dX0_ask_127 (lv_at hl1 0 rfl) ?_
    refine kNi (wr := [oCl h pe ti c, oPe pe lc ls li lo dr p, oTi ti t, oRo rh w rp, aM G w 8 (krow q), oMs (q 0) (d 0), aI G (d 0) 9 (M 0), oMs (q 1) (d 1), aI G (d 1) 9 (M 1), oMs (q 2) (d 2), aI G (d 2) 9 (M 2), oMs (q 3) (d 3), aI G (d 3) 9 (M 3), oMs (q 4) (d 4), aI G (d 4) 9 (M 4), oMs (q 5) (d 5), aI G (d 5) 9 (M 5), oMs (q 6) (d 6), aI G (d 6) 9 (M 6), oMs (q 7) (d 7), aI G (d 7) 9 (M 7)]) F hK hP29 hD29 hS29 hA hl1.1 (c_X8_binderOf l G (t 3) (p 5) dr da f_28) [21, 22] [0, 1, 2, 3, 4, 5, 6, 7, 8, 9, 10, 11, 12, 13, 14, 15, 16, 17, 18, 19, 20] 9 rfl gX0_ask_X8_binderOf_n97 (List.mem_of_getElem? (i := 40) rfl) (List.mem_of_getElem? (i := 32) rfl) rfl 3 rfl (by decide +kernel) ⟨Nat.le_of_ble_eq_true rfl, Nat.le_of_ble_eq_true rfl⟩ ⟨Nat.zero_le _, Nat.zero_le _⟩ rfl rfl (by decide) (by decide) (by decide) (Nat.le_of_ble_eq_true rfl) rfl dX0_ask_129 (fun r30 u30 H31 locs31 hw30 (hP31 : va_P G.1 vwCl ([oCl h pe ti c, oPe pe lc ls li lo dr p, oTi ti t, oRo rh w rp, aM G w 8 (krow q), oMs (q 0) (d 0), aI G (d 0) 9 (M 0), oMs (q 1) (d 1), aI G (d 1) 9 (M 1), oMs (q 2) (d 2), aI G (d 2) 9 (M 2), oMs (q 3) (d 3), aI G (d 3) 9 (M 3), oMs (q 4) (d 4), aI G (d 4) 9 (M 4), oMs (q 5) (d 5), aI G (d 5) 9 (M 5), oMs (q 6) (d 6), aI G (d 6) 9 (M 6), oMs (q 7) (d 7), aI G (d 7) 9 (M 7), oMs dr da, aI G da 9 f_28]) H31) (hD31 : va_D A ([oCl h pe ti c, oPe pe lc ls li lo dr p, oTi ti t, oRo rh w rp, aM G w 8 (krow q), oMs (q 0) (d 0), aI G (d 0) 9 (M 0), oMs (q 1) (d 1), aI G (d 1) 9 (M 1), oMs (q 2) (d 2), aI G (d 2) 9 (M 2), oMs (q 3) (d 3), aI G (d 3) 9 (M 3), oMs (q 4) (d 4), aI G (d 4) 9 (M 4), oMs (q 5) (d 5), aI G (d 5) 9 (M 5), oMs (q 6) (d 6), aI G (d 6) 9 (M 6), oMs (q 7) (d 7), aI G (d 7) 9 (M 7), oMs dr da, aI G da 9 f_28])) hS31 => ?_)
    clear hP29 hD29 hS29
    have w30_0 : r30 = kbind (t 3) (p 5) f_28 := hw30
    refine kVv (wr := [oCl h pe ti c, oPe pe lc ls li lo dr p, oTi ti t, oRo rh w rp, aM G w 8 (krow q), oMs (q 0) (d 0), aI G (d 0) 9 (M 0), oMs (q 1) (d 1), aI G (d 1) 9 (M 1), oMs (q 2) (d 2), aI G (d 2) 9 (M 2), oMs (q 3) (d 3), aI G (d 3) 9 (M 3), oMs (q 4) (d 4), aI G (d 4) 9 (M 4), oMs (q 5) (d 5), aI G (d 5) 9 (M 5), oMs (q 6) (d 6), aI G (d 6) 9 (M 6), oMs (q 7) (d 7), aI G (d 7) 9 (M 7)]) F hK hP31 hD31 hS31 hA hl1.1 (c_X2_put l G dr da f_28 7 r30 (by first | assumption | decide | omega)) [21, 22] [0, 1, 2, 3, 4, 5, 6, 7, 8, 9, 10, 11, 12, 13, 14, 15, 16, 17, 18, 19, 20] 2 0 gX0_ask_X2_put rfl 2 rfl (by decide +kernel) ⟨Nat.le_of_ble_eq_true rfl, Nat.le_of_ble_eq_true rfl⟩ ⟨Nat.zero_le _, Nat.zero_le _⟩ rfl rfl rfl rfl (by decide) (by decide) (by decide) (Nat.le_of_ble_eq_true rfl) rfl dX0_ask_132 (fun f_32 H33 locs33 hw32 (hP33 : va_P G.1 vwCl ([oCl h pe ti c, oPe pe lc ls li lo dr p, oTi ti t, oRo rh w rp, aM G w 8 (krow q), oMs (q 0) (d 0), aI G (d 0) 9 (M 0), oMs (q 1) (d 1), aI G (d 1) 9 (M 1), oMs (q 2) (d 2), aI G (d 2) 9 (M 2), oMs (q 3) (d 3), aI G (d 3) 9 (M 3), oMs (q 4) (d 4), aI G (d 4) 9 (M 4), oMs (q 5) (d 5), aI G (d 5) 9 (M 5), oMs (q 6) (d 6), aI G (d 6) 9 (M 6), oMs (q 7) (d 7), aI G (d 7) 9 (M 7), oMs dr da, aI G da 9 f_32]) H33) (hD33 : va_D A ([oCl h pe ti c, oPe pe lc ls li lo dr p, oTi ti t, oRo rh w rp, aM G w 8 (krow q), oMs (q 0) (d 0), aI G (d 0) 9 (M 0), oMs (q 1) (d 1), aI G (d 1) 9 (M 1), oMs (q 2) (d 2), aI G (d 2) 9 (M 2), oMs (q 3) (d 3), aI G (d 3) 9 (M 3), oMs (q 4) (d 4), aI G (d 4) 9 (M 4), oMs (q 5) (d 5), aI G (d 5) 9 (M 5), oMs (q 6) (d 6), aI G (d 6) 9 (M 6), oMs (q 7) (d 7), aI G (d 7) 9 (M 7), oMs dr da, aI G da 9 f_32])) hS33 => ?_)
    clear hP31 hD31 hS31
    have w32_0 : f_32 = upd f_28 7 r30 := hw32
    refine lv_aload hx hb dX0_ask_135 (lv_at hl1 0 rfl) ?_
    refine lv_bipush (v := 8) hx hb dX0_ask_137 (by decide) ?_
    refine lv_aload_n hx hb dX0_ask_139 rfl (lv_at hl1 1 rfl) ?_
    refine kget F hK hP33 0 0 2 iX0 rfl rfl (by decide) (List.mem_of_getElem? (i := 6) rfl) rfl dX0_ask_140 ?_
    refine lv_if_eq (tgt := 160) hx hb dX0_ask_143 (by decide) (fun c34 => ?_) (fun c34 => ?_)
    · exact absurd c34 c14
    · refine lv_aload_n hx hb dX0_ask_146 rfl (lv_at hl1 1 rfl) ?_
      refine kget F hK hP33 0 0 5 iX0 rfl rfl (by decide) (List.mem_of_getElem? (i := 13) rfl) rfl dX0_ask_147 ?_
      refine lv_if_ne (tgt := 160) hx hb dX0_ask_150 (by decide) (fun c35 => ?_) (fun c35 => ?_)
      · refine lv_iconst (v := (-1)) hx hb dX0_ask_160 (by decide) ?_
        refine kVv (wr := [oCl h pe ti c, oPe pe lc ls li lo dr p, oTi ti t, oRo rh w rp, aM G w 8 (krow q), oMs (q 0) (d 0), aI G (d 0) 9 (M 0), oMs (q 1) (d 1), aI G (d 1) 9 (M 1), oMs (q 2) (d 2), aI G (d 2) 9 (M 2), oMs (q 3) (d 3), aI G (d 3) 9 (M 3), oMs (q 4) (d 4), aI G (d 4) 9 (M 4), oMs (q 5) (d 5), aI G (d 5) 9 (M 5), oMs (q 6) (d 6), aI G (d 6) 9 (M 6), oMs (q 7) (d 7), aI G (d 7) 9 (M 7)]) F hK hP33 hD33 hS33 hA hl1.1 (c_X2_put l G dr da f_32 8 (-1) (by first | assumption | decide | omega)) [21, 22] [0, 1, 2, 3, 4, 5, 6, 7, 8, 9, 10, 11, 12, 13, 14, 15, 16, 17, 18, 19, 20] 2 0 gX0_ask_X2_put rfl 2 rfl (by decide +kernel) ⟨Nat.le_of_ble_eq_true rfl, Nat.le_of_ble_eq_true rfl⟩ ⟨Nat.zero_le _, Nat.zero_le _⟩ rfl rfl rfl rfl (by decide) (by decide) (by decide) (Nat.le_of_ble_eq_true rfl) rfl dX0_ask_161 (fun f_36 H37 locs37 hw36 (hP37 : va_P G.1 vwCl ([oCl h pe ti c, oPe pe lc ls li lo dr p, oTi ti t, oRo rh w rp, aM G w 8 (krow q), oMs (q 0) (d 0), aI G (d 0) 9 (M 0), oMs (q 1) (d 1), aI G (d 1) 9 (M 1), oMs (q 2) (d 2), aI G (d 2) 9 (M 2), oMs (q 3) (d 3), aI G (d 3) 9 (M 3), oMs (q 4) (d 4), aI G (d 4) 9 (M 4), oMs (q 5) (d 5), aI G (d 5) 9 (M 5), oMs (q 6) (d 6), aI G (d 6) 9 (M 6), oMs (q 7) (d 7), aI G (d 7) 9 (M 7), oMs dr da, aI G da 9 f_36]) H37) (hD37 : va_D A ([oCl h pe ti c, oPe pe lc ls li lo dr p, oTi ti t, oRo rh w rp, aM G w 8 (krow q), oMs (q 0) (d 0), aI G (d 0) 9 (M 0), oMs (q 1) (d 1), aI G (d 1) 9 (M 1), oMs (q 2) (d 2), aI G (d 2) 9 (M 2), oMs (q 3) (d 3), aI G (d 3) 9 (M 3), oMs (q 4) (d 4), aI G (d 4) 9 (M 4), oMs (q 5) (d 5), aI G (d 5) 9 (M 5), oMs (q 6) (d 6), aI G (d 6) 9 (M 6), oMs (q 7) (d 7), aI G (d 7) 9 (M 7), oMs dr da, aI G da 9 f_36])) hS37 => ?_)
        clear hP33 hD33 hS33
        have w36_0 : f_36 = upd f_32 8 (-1) := hw36
        refine lv_aload_n hx hb dX0_ask_164 rfl (lv_at hl1 1 rfl) ?_
        refine lv_iload_n hx hb dX0_ask_165 rfl (lv_at hl1 2 rfl) ?_
        refine kput F hK hP37 hD37 hS37 (ty0 := tyX0) 0 0 6 iX0 rfl tyX0_ok nmX0 (fun z => [oCl h pe ti z, oPe pe lc ls li lo dr p, oTi ti t, oRo rh w rp, aM G w 8 (krow q), oMs (q 0) (d 0), aI G (d 0) 9 (M 0), oMs (q 1) (d 1), aI G (d 1) 9 (M 1), oMs (q 2) (d 2), aI G (d 2) 9 (M 2), oMs (q 3) (d 3), aI G (d 3) 9 (M 3), oMs (q 4) (d 4), aI G (d 4) 9 (M 4), oMs (q 5) (d 5), aI G (d 5) 9 (M 5), oMs (q 6) (d 6), aI G (d 6) 9 (M 6), oMs (q 7) (d 7), aI G (d 7) 9 (M 7), oMs dr da, aI G da 9 f_36]) c rfl (by decide) (List.mem_of_getElem? (i := 15) rfl) rfl rfl rfl (Nat.le_of_ble_eq_true rfl) rfl dX0_ask_166 (fun H38 locs38 c38 ec38 (hP38 : va_P G.1 vwCl ([oCl h pe ti c38, oPe pe lc ls li lo dr p, oTi ti t, oRo rh w rp, aM G w 8 (krow q), oMs (q 0) (d 0), aI G (d 0) 9 (M 0), oMs (q 1) (d 1), aI G (d 1) 9 (M 1), oMs (q 2) (d 2), aI G (d 2) 9 (M 2), oMs (q 3) (d 3), aI G (d 3) 9 (M 3), oMs (q 4) (d 4), aI G (d 4) 9 (M 4), oMs (q 5) (d 5), aI G (d 5) 9 (M 5), oMs (q 6) (d 6), aI G (d 6) 9 (M 6), oMs (q 7) (d 7), aI G (d 7) 9 (M 7), oMs dr da, aI G da 9 f_36]) H38) (hD38 : va_D A ([oCl h pe ti c38, oPe pe lc ls li lo dr p, oTi ti t, oRo rh w rp, aM G w 8 (krow q), oMs (q 0) (d 0), aI G (d 0) 9 (M 0), oMs (q 1) (d 1), aI G (d 1) 9 (M 1), oMs (q 2) (d 2), aI G (d 2) 9 (M 2), oMs (q 3) (d 3), aI G (d 3) 9 (M 3), oMs (q 4) (d 4), aI G (d 4) 9 (M 4), oMs (q 5) (d 5), aI G (d 5) 9 (M 5), oMs (q 6) (d 6), aI G (d 6) 9 (M 6), oMs (q 7) (d 7), aI G (d 7) 9 (M 7), oMs dr da, aI G da 9 f_36])) hS38 => ?_)
        clear hP37 hD37 hS37
        refine lv_aload_n hx hb dX0_ask_169 rfl (lv_at hl1 1 rfl) ?_
        refine lv_aload_n hx hb dX0_ask_170 rfl (lv_at hl1 1 rfl) ?_
        refine kget F hK hP38 0 0 2 iX0 rfl rfl (by decide) (List.mem_of_getElem? (i := 6) rfl) rfl dX0_ask_171 ?_
        refine kput F hK hP38 hD38 hS38 (ty0 := tyX0) 0 0 7 iX0 rfl tyX0_ok nmX0 (fun z => [oCl h pe ti z, oPe pe lc ls li lo dr p, oTi ti t, oRo rh w rp, aM G w 8 (krow q), oMs (q 0) (d 0), aI G (d 0) 9 (M 0), oMs (q 1) (d 1), aI G (d 1) 9 (M 1), oMs (q 2) (d 2), aI G (d 2) 9 (M 2), oMs (q 3) (d 3), aI G (d 3) 9 (M 3), oMs (q 4) (d 4), aI G (d 4) 9 (M 4), oMs (q 5) (d 5), aI G (d 5) 9 (M 5), oMs (q 6) (d 6), aI G (d 6) 9 (M 6), oMs (q 7) (d 7), aI G (d 7) 9 (M 7), oMs dr da, aI G da 9 f_36]) c38 rfl (by decide) (List.mem_of_getElem? (i := 16) rfl) rfl (knb (by subst ec38; subst w36_0; subst w32_0; subst w30_0; subst w28_0; subst w26_0; subst w12_0; subst w10_0; subst w8_0; subst w6_0; subst w4_0; subst w2_0; exact hb)).1 (knb (by subst ec38; subst w36_0; subst w32_0; subst w30_0; subst w28_0; subst w26_0; subst w12_0; subst w10_0; subst w8_0; subst w6_0; subst w4_0; subst w2_0; exact hb)).2 (Nat.le_of_ble_eq_true rfl) rfl dX0_ask_174 (fun H39 locs39 c39 ec39 (hP39 : va_P G.1 vwCl ([oCl h pe ti c39, oPe pe lc ls li lo dr p, oTi ti t, oRo rh w rp, aM G w 8 (krow q), oMs (q 0) (d 0), aI G (d 0) 9 (M 0), oMs (q 1) (d 1), aI G (d 1) 9 (M 1), oMs (q 2) (d 2), aI G (d 2) 9 (M 2), oMs (q 3) (d 3), aI G (d 3) 9 (M 3), oMs (q 4) (d 4), aI G (d 4) 9 (M 4), oMs (q 5) (d 5), aI G (d 5) 9 (M 5), oMs (q 6) (d 6), aI G (d 6) 9 (M 6), oMs (q 7) (d 7), aI G (d 7) 9 (M 7), oMs dr da, aI G da 9 f_36]) H39) (hD39 : va_D A ([oCl h pe ti c39, oPe pe lc ls li lo dr p, oTi ti t, oRo rh w rp, aM G w 8 (krow q), oMs (q 0) (d 0), aI G (d 0) 9 (M 0), oMs (q 1) (d 1), aI G (d 1) 9 (M 1), oMs (q 2) (d 2), aI G (d 2) 9 (M 2), oMs (q 3) (d 3), aI G (d 3) 9 (M 3), oMs (q 4) (d 4), aI G (d 4) 9 (M 4), oMs (q 5) (d 5), aI G (d 5) 9 (M 5), oMs (q 6) (d 6), aI G (d 6) 9 (M 6), oMs (q 7) (d 7), aI G (d 7) 9 (M 7), oMs dr da, aI G da 9 f_36])) hS39 => ?_)
        clear hP38 hD38 hS38
        refine lv_aload_n hx hb dX0_ask_177 rfl (lv_at hl1 1 rfl) ?_
        refine lv_aload_n hx hb dX0_ask_178 rfl (lv_at hl1 1 rfl) ?_
        refine kget F hK hP39 0 0 1 iX0 rfl rfl (by decide) (List.mem_of_getElem? (i := 7) rfl) rfl dX0_ask_179 ?_
        refine kget F hK hP39 7 2 3 iX7 rfl rfl (by decide) (List.mem_of_getElem? (i := 11) rfl) rfl dX0_ask_182 ?_
        refine kput F hK hP39 hD39 hS39 (ty0 := tyX0) 0 0 8 iX0 rfl tyX0_ok nmX0 (fun z => [oCl h pe ti z, oPe pe lc ls li lo dr p, oTi ti t, oRo rh w rp, aM G w 8 (krow q), oMs (q 0) (d 0), aI G (d 0) 9 (M 0), oMs (q 1) (d 1), aI G (d 1) 9 (M 1), oMs (q 2) (d 2), aI G (d 2) 9 (M 2), oMs (q 3) (d 3), aI G (d 3) 9 (M 3), oMs (q 4) (d 4), aI G (d 4) 9 (M 4), oMs (q 5) (d 5), aI G (d 5) 9 (M 5), oMs (q 6) (d 6), aI G (d 6) 9 (M 6), oMs (q 7) (d 7), aI G (d 7) 9 (M 7), oMs dr da, aI G da 9 f_36]) c39 rfl (by decide) (List.mem_of_getElem? (i := 17) rfl) rfl rfl rfl (Nat.le_of_ble_eq_true rfl) rfl dX0_ask_185 (fun H40 locs40 c40 ec40 (hP40 : va_P G.1 vwCl ([oCl h pe ti c40, oPe pe lc ls li lo dr p, oTi ti t, oRo rh w rp, aM G w 8 (krow q), oMs (q 0) (d 0), aI G (d 0) 9 (M 0), oMs (q 1) (d 1), aI G (d 1) 9 (M 1), oMs (q 2) (d 2), aI G (d 2) 9 (M 2), oMs (q 3) (d 3), aI G (d 3) 9 (M 3), oMs (q 4) (d 4), aI G (d 4) 9 (M 4), oMs (q 5) (d 5), aI G (d 5) 9 (M 5), oMs (q 6) (d 6), aI G (d 6) 9 (M 6), oMs (q 7) (d 7), aI G (d 7) 9 (M 7), oMs dr da, aI G da 9 f_36]) H40) (hD40 : va_D A ([oCl h pe ti c40, oPe pe lc ls li lo dr p, oTi ti t, oRo rh w rp, aM G w 8 (krow q), oMs (q 0) (d 0), aI G (d 0) 9 (M 0), oMs (q 1) (d 1), aI G (d 1) 9 (M 1), oMs (q 2) (d 2), aI G (d 2) 9 (M 2), oMs (q 3) (d 3), aI G (d 3) 9 (M 3), oMs (q 4) (d 4), aI G (d 4) 9 (M 4), oMs (q 5) (d 5), aI G (d 5) 9 (M 5), oMs (q 6) (d 6), aI G (d 6) 9 (M 6), oMs (q 7) (d 7), aI G (d 7) 9 (M 7), oMs dr da, aI G da 9 f_36])) hS40 => ?_)
        clear hP39 hD39 hS39
        refine lv_aload_n hx hb dX0_ask_188 rfl (lv_at hl1 1 rfl) ?_
        refine kget F hK hP40 0 0 0 iX0 rfl rfl (by decide) (List.mem_of_getElem? (i := 1) rfl) rfl dX0_ask_189 ?_
        refine lv_aload hx hb dX0_ask_192 (lv_at hl1 0 rfl) ?_
        refine kVv (wr := [oCl h pe ti c40, oTi ti t, oRo rh w rp, aM G w 8 (krow q), oMs (q 0) (d 0), aI G (d 0) 9 (M 0), oMs (q 1) (d 1), aI G (d 1) 9 (M 1), oMs (q 2) (d 2), aI G (d 2) 9 (M 2), oMs (q 3) (d 3), aI G (d 3) 9 (M 3), oMs (q 4) (d 4), aI G (d 4) 9 (M 4), oMs (q 5) (d 5), aI G (d 5) 9 (M 5), oMs (q 6) (d 6), aI G (d 6) 9 (M 6), oMs (q 7) (d 7), aI G (d 7) 9 (M 7)]) F hK hP40 hD40 hS40 hA hl1.1 (c_X3_takeIn l G pe lc ls li lo dr p dr da f_36) [1, 21, 22] [0, 2, 3, 4, 5, 6, 7, 8, 9, 10, 11, 12, 13, 14, 15, 16, 17, 18, 19, 20] 3 0 gX0_ask_X3_takeIn rfl 1 rfl (by decide +kernel) ⟨Nat.le_of_ble_eq_true rfl, Nat.le_of_ble_eq_true rfl⟩ ⟨Nat.zero_le _, Nat.zero_le _⟩ rfl rfl rfl rfl (by decide) (by decide) (by decide) (Nat.le_of_ble_eq_true rfl) rfl dX0_ask_194 (fun p_41 H42 locs42 hw41 (hP42 : va_P G.1 vwCl ([oCl h pe ti c40, oTi ti t, oRo rh w rp, aM G w 8 (krow q), oMs (q 0) (d 0), aI G (d 0) 9 (M 0), oMs (q 1) (d 1), aI G (d 1) 9 (M 1), oMs (q 2) (d 2), aI G (d 2) 9 (M 2), oMs (q 3) (d 3), aI G (d 3) 9 (M 3), oMs (q 4) (d 4), aI G (d 4) 9 (M 4), oMs (q 5) (d 5), aI G (d 5) 9 (M 5), oMs (q 6) (d 6), aI G (d 6) 9 (M 6), oMs (q 7) (d 7), aI G (d 7) 9 (M 7), oPe pe lc ls li lo dr p_41, oMs dr da, aI G da 9 f_36]) H42) (hD42 : va_D A ([oCl h pe ti c40, oTi ti t, oRo rh w rp, aM G w 8 (krow q), oMs (q 0) (d 0), aI G (d 0) 9 (M 0), oMs (q 1) (d 1), aI G (d 1) 9 (M 1), oMs (q 2) (d 2), aI G (d 2) 9 (M 2), oMs (q 3) (d 3), aI G (d 3) 9 (M 3), oMs (q 4) (d 4), aI G (d 4) 9 (M 4), oMs (q 5) (d 5), aI G (d 5) 9 (M 5), oMs (q 6) (d 6), aI G (d 6) 9 (M 6), oMs (q 7) (d 7), aI G (d 7) 9 (M 7), oPe pe lc ls li lo dr p_41, oMs dr da, aI G da 9 f_36])) hS42 => ?_)
        clear hP40 hD40 hS40
        have w41_0 : p_41 = ktake p f_36 := hw41
        refine lv_aload_n hx hb dX0_ask_197 rfl (lv_at hl1 4 rfl) ?_
        refine lv_aload hx hb dX0_ask_198 (lv_at hl1 0 rfl) ?_
        refine kVv (wr := [oCl h pe ti c40, oTi ti t, oPe pe lc ls li lo dr p_41]) F hK hP42 hD42 hS42 hA hl1.1 (c_X4_send l G rh w q d rp M dr da f_36 L hL hL8) [2, 3, 4, 5, 6, 7, 8, 9, 10, 11, 12, 13, 14, 15, 16, 17, 18, 19, 21, 22] [0, 1, 20] 4 0 gX0_ask_X4_send rfl 1 rfl (by decide +kernel) ⟨Nat.le_of_ble_eq_true rfl, Nat.le_of_ble_eq_true rfl⟩ ⟨Nat.zero_le _, Nat.zero_le _⟩ rfl rfl rfl rfl (by decide) (by decide) (by decide) (Nat.le_of_ble_eq_true rfl) rfl dX0_ask_200 (fun u43 H44 locs44 hw43 hP44 hD44 hS44 => ?_)
        obtain ⟨p_43, M_43⟩ := u43
        have hP44 : va_P G.1 vwCl ([oCl h pe ti c40, oTi ti t, oPe pe lc ls li lo dr p_41, oRo rh w p_43, aM G w 8 (krow q), oMs (q 0) (d 0), aI G (d 0) 9 (M_43 0), oMs (q 1) (d 1), aI G (d 1) 9 (M_43 1), oMs (q 2) (d 2), aI G (d 2) 9 (M_43 2), oMs (q 3) (d 3), aI G (d 3) 9 (M_43 3), oMs (q 4) (d 4), aI G (d 4) 9 (M_43 4), oMs (q 5) (d 5), aI G (d 5) 9 (M_43 5), oMs (q 6) (d 6), aI G (d 6) 9 (M_43 6), oMs (q 7) (d 7), aI G (d 7) 9 (M_43 7), oMs dr da, aI G da 9 f_36]) H44 := hP44
        have hD44 : va_D A ([oCl h pe ti c40, oTi ti t, oPe pe lc ls li lo dr p_41, oRo rh w p_43, aM G w 8 (krow q), oMs (q 0) (d 0), aI G (d 0) 9 (M_43 0), oMs (q 1) (d 1), aI G (d 1) 9 (M_43 1), oMs (q 2) (d 2), aI G (d 2) 9 (M_43 2), oMs (q 3) (d 3), aI G (d 3) 9 (M_43 3), oMs (q 4) (d 4), aI G (d 4) 9 (M_43 4), oMs (q 5) (d 5), aI G (d 5) 9 (M_43 5), oMs (q 6) (d 6), aI G (d 6) 9 (M_43 6), oMs (q 7) (d 7), aI G (d 7) 9 (M_43 7), oMs dr da, aI G da 9 f_36]) := hD44
        clear hP42 hD42 hS42
        have w43_0 : p_43 = ksendP L rp := hw43.1
        have w43_1 : M_43 = ksendM L M f_36 := hw43.2
        have q45 : (c40 = (kaskR L c p t f rp M g now).1) ∧ (p_41 = (kaskR L c p t f rp M g now).2.1) ∧ (f_36 = (kaskR L c p t f rp M g now).2.2.1) ∧ (p_43 = (kaskR L c p t f rp M g now).2.2.2.1) ∧ (M_43 = (kaskR L c p t f rp M g now).2.2.2.2) := by
          subst w43_1
          subst w43_0
          subst w41_0
          subst ec40
          subst ec39
          subst ec38
          subst w36_0
          subst w32_0
          subst w30_0
          subst w28_0
          subst w26_0
          subst w12_0
          subst w10_0
          subst w8_0
          subst w6_0
          subst w4_0
          subst w2_0
          first | (simp only [kaskR, kaskC, kaskF, kaskG, c14, c34, c35, ↓reduceIte, and_self]; done) | (simp only [kaskR, kaskC, kaskF, kaskG, c14, c34, c35, ↓reduceIte, and_self]; exact ⟨rfl, rfl, rfl, rfl, rfl⟩) | exact ⟨rfl, rfl, rfl, rfl, rfl⟩
        exact kRv F hr hlocks hS44 dX0_ask_203 ⟨c40, p_41, f_36, p_43, M_43⟩ q45 (hP44.sub [0, 2, 1, 21, 22, 3, 4, 5, 6, 7, 8, 9, 10, 11, 12, 13, 14, 15, 16, 17, 18, 19, 20] rfl) (hD44.sub [0, 2, 1, 21, 22, 3, 4, 5, 6, 7, 8, 9, 10, 11, 12, 13, 14, 15, 16, 17, 18, 19, 20] (by decide) rfl)
      · refine lv_aload_n hx hb dX0_ask_153 rfl (lv_at hl1 1 rfl) ?_
        refine kget F hK hP33 0 0 4 iX0 rfl rfl (by decide) (List.mem_of_getElem? (i := 14) rfl) rfl dX0_ask_154 ?_
        refine lv_goto (tgt := 161) hx hb dX0_ask_157 (by decide) ?_
        refine kVv (wr := [oCl h pe ti c, oPe pe lc ls li lo dr p, oTi ti t, oRo rh w rp, aM G w 8 (krow q), oMs (q 0) (d 0), aI G (d 0) 9 (M 0), oMs (q 1) (d 1), aI G (d 1) 9 (M 1), oMs (q 2) (d 2), aI G (d 2) 9 (M 2), oMs (q 3) (d 3), aI G (d 3) 9 (M 3), oMs (q 4) (d 4), aI G (d 4) 9 (M 4), oMs (q 5) (d 5), aI G (d 5) 9 (M 5), oMs (q 6) (d 6), aI G (d 6) 9 (M 6), oMs (q 7) (d 7), aI G (d 7) 9 (M 7)]) F hK hP33 hD33 hS33 hA hl1.1 (c_X2_put l G dr da f_32 8 (c 4) (by first | assumption | decide | omega)) [21, 22] [0, 1, 2, 3, 4, 5, 6, 7, 8, 9, 10, 11, 12, 13, 14, 15, 16, 17, 18, 19, 20] 2 0 gX0_ask_X2_put rfl 2 rfl (by decide +kernel) ⟨Nat.le_of_ble_eq_true rfl, Nat.le_of_ble_eq_true rfl⟩ ⟨Nat.zero_le _, Nat.zero_le _⟩ rfl rfl rfl rfl (by decide) (by decide) (by decide) (Nat.le_of_ble_eq_true rfl) rfl dX0_ask_161 (fun f_46 H47 locs47 hw46 (hP47 : va_P G.1 vwCl ([oCl h pe ti c, oPe pe lc ls li lo dr p, oTi ti t, oRo rh w rp, aM G w 8 (krow q), oMs (q 0) (d 0), aI G (d 0) 9 (M 0), oMs (q 1) (d 1), aI G (d 1) 9 (M 1), oMs (q 2) (d 2), aI G (d 2) 9 (M 2), oMs (q 3) (d 3), aI G (d 3) 9 (M 3), oMs (q 4) (d 4), aI G (d 4) 9 (M 4), oMs (q 5) (d 5), aI G (d 5) 9 (M 5), oMs (q 6) (d 6), aI G (d 6) 9 (M 6), oMs (q 7) (d 7), aI G (d 7) 9 (M 7), oMs dr da, aI G da 9 f_46]) H47) (hD47 : va_D A ([oCl h pe ti c, oPe pe lc ls li lo dr p, oTi ti t, oRo rh w rp, aM G w 8 (krow q), oMs (q 0) (d 0), aI G (d 0) 9 (M 0), oMs (q 1) (d 1), aI G (d 1) 9 (M 1), oMs (q 2) (d 2), aI G (d 2) 9 (M 2), oMs (q 3) (d 3), aI G (d 3) 9 (M 3), oMs (q 4) (d 4), aI G (d 4) 9 (M 4), oMs (q 5) (d 5), aI G (d 5) 9 (M 5), oMs (q 6) (d 6), aI G (d 6) 9 (M 6), oMs (q 7) (d 7), aI G (d 7) 9 (M 7), oMs dr da, aI G da 9 f_46])) hS47 => ?_)
        clear hP33 hD33 hS33
        have w46_0 : f_46 = upd f_32 8 (c 4) := hw46
        refine lv_aload_n hx hb dX0_ask_164 rfl (lv_at hl1 1 rfl) ?_
        refine lv_iload_n hx hb dX0_ask_165 rfl (lv_at hl1 2 rfl) ?_
        refine kput F hK hP47 hD47 hS47 (ty0 := tyX0) 0 0 6 iX0 rfl tyX0_ok nmX0 (fun z => [oCl h pe ti z, oPe pe lc ls li lo dr p, oTi ti t, oRo rh w rp, aM G w 8 (krow q), oMs (q 0) (d 0), aI G (d 0) 9 (M 0), oMs (q 1) (d 1), aI G (d 1) 9 (M 1), oMs (q 2) (d 2), aI G (d 2) 9 (M 2), oMs (q 3) (d 3), aI G (d 3) 9 (M 3), oMs (q 4) (d 4), aI G (d 4) 9 (M 4), oMs (q 5) (d 5), aI G (d 5) 9 (M 5), oMs (q 6) (d 6), aI G (d 6) 9 (M 6), oMs (q 7) (d 7), aI G (d 7) 9 (M 7), oMs dr da, aI G da 9 f_46]) c rfl (by decide) (List.mem_of_getElem? (i := 15) rfl) rfl rfl rfl (Nat.le_of_ble_eq_true rfl) rfl dX0_ask_166 (fun H48 locs48 c48 ec48 (hP48 : va_P G.1 vwCl ([oCl h pe ti c48, oPe pe lc ls li lo dr p, oTi ti t, oRo rh w rp, aM G w 8 (krow q), oMs (q 0) (d 0), aI G (d 0) 9 (M 0), oMs (q 1) (d 1), aI G (d 1) 9 (M 1), oMs (q 2) (d 2), aI G (d 2) 9 (M 2), oMs (q 3) (d 3), aI G (d 3) 9 (M 3), oMs (q 4) (d 4), aI G (d 4) 9 (M 4), oMs (q 5) (d 5), aI G (d 5) 9 (M 5), oMs (q 6) (d 6), aI G (d 6) 9 (M 6), oMs (q 7) (d 7), aI G (d 7) 9 (M 7), oMs dr da, aI G da 9 f_46]) H48) (hD48 : va_D A ([oCl h pe ti c48, oPe pe lc ls li lo dr p, oTi ti t, oRo rh w rp, aM G w 8 (krow q), oMs (q 0) (d 0), aI G (d 0) 9 (M 0), oMs (q 1) (d 1), aI G (d 1) 9 (M 1), oMs (q 2) (d 2), aI G (d 2) 9 (M 2), oMs (q 3) (d 3), aI G (d 3) 9 (M 3), oMs (q 4) (d 4), aI G (d 4) 9 (M 4), oMs (q 5) (d 5), aI G (d 5) 9 (M 5), oMs (q 6) (d 6), aI G (d 6) 9 (M 6), oMs (q 7) (d 7), aI G (d 7) 9 (M 7), oMs dr da, aI G da 9 f_46])) hS48 => ?_)
        clear hP47 hD47 hS47
        refine lv_aload_n hx hb dX0_ask_169 rfl (lv_at hl1 1 rfl) ?_
        refine lv_aload_n hx hb dX0_ask_170 rfl (lv_at hl1 1 rfl) ?_
        refine kget F hK hP48 0 0 2 iX0 rfl rfl (by decide) (List.mem_of_getElem? (i := 6) rfl) rfl dX0_ask_171 ?_
        refine kput F hK hP48 hD48 hS48 (ty0 := tyX0) 0 0 7 iX0 rfl tyX0_ok nmX0 (fun z => [oCl h pe ti z, oPe pe lc ls li lo dr p, oTi ti t, oRo rh w rp, aM G w 8 (krow q), oMs (q 0) (d 0), aI G (d 0) 9 (M 0), oMs (q 1) (d 1), aI G (d 1) 9 (M 1), oMs (q 2) (d 2), aI G (d 2) 9 (M 2), oMs (q 3) (d 3), aI G (d 3) 9 (M 3), oMs (q 4) (d 4), aI G (d 4) 9 (M 4), oMs (q 5) (d 5), aI G (d 5) 9 (M 5), oMs (q 6) (d 6), aI G (d 6) 9 (M 6), oMs (q 7) (d 7), aI G (d 7) 9 (M 7), oMs dr da, aI G da 9 f_46]) c48 rfl (by decide) (List.mem_of_getElem? (i := 16) rfl) rfl (knb (by subst ec48; subst w46_0; subst w32_0; subst w30_0; subst w28_0; subst w26_0; subst w12_0; subst w10_0; subst w8_0; subst w6_0; subst w4_0; subst w2_0; exact hb)).1 (knb (by subst ec48; subst w46_0; subst w32_0; subst w30_0; subst w28_0; subst w26_0; subst w12_0; subst w10_0; subst w8_0; subst w6_0; subst w4_0; subst w2_0; exact hb)).2 (Nat.le_of_ble_eq_true rfl) rfl dX0_ask_174 (fun H49 locs49 c49 ec49 (hP49 : va_P G.1 vwCl ([oCl h pe ti c49, oPe pe lc ls li lo dr p, oTi ti t, oRo rh w rp, aM G w 8 (krow q), oMs (q 0) (d 0), aI G (d 0) 9 (M 0), oMs (q 1) (d 1), aI G (d 1) 9 (M 1), oMs (q 2) (d 2), aI G (d 2) 9 (M 2), oMs (q 3) (d 3), aI G (d 3) 9 (M 3), oMs (q 4) (d 4), aI G (d 4) 9 (M 4), oMs (q 5) (d 5), aI G (d 5) 9 (M 5), oMs (q 6) (d 6), aI G (d 6) 9 (M 6), oMs (q 7) (d 7), aI G (d 7) 9 (M 7), oMs dr da, aI G da 9 f_46]) H49) (hD49 : va_D A ([oCl h pe ti c49, oPe pe lc ls li lo dr p, oTi ti t, oRo rh w rp, aM G w 8 (krow q), oMs (q 0) (d 0), aI G (d 0) 9 (M 0), oMs (q 1) (d 1), aI G (d 1) 9 (M 1), oMs (q 2) (d 2), aI G (d 2) 9 (M 2), oMs (q 3) (d 3), aI G (d 3) 9 (M 3), oMs (q 4) (d 4), aI G (d 4) 9 (M 4), oMs (q 5) (d 5), aI G (d 5) 9 (M 5), oMs (q 6) (d 6), aI G (d 6) 9 (M 6), oMs (q 7) (d 7), aI G (d 7) 9 (M 7), oMs dr da, aI G da 9 f_46])) hS49 => ?_)
        clear hP48 hD48 hS48
        refine lv_aload_n hx hb dX0_ask_177 rfl (lv_at hl1 1 rfl) ?_
        refine lv_aload_n hx hb dX0_ask_178 rfl (lv_at hl1 1 rfl) ?_
        refine kget F hK hP49 0 0 1 iX0 rfl rfl (by decide) (List.mem_of_getElem? (i := 7) rfl) rfl dX0_ask_179 ?_
        refine kget F hK hP49 7 2 3 iX7 rfl rfl (by decide) (List.mem_of_getElem? (i := 11) rfl) rfl dX0_ask_182 ?_
        refine kput F hK hP49 hD49 hS49 (ty0 := tyX0) 0 0 8 iX0 rfl tyX0_ok nmX0 (fun z => [oCl h pe ti z, oPe pe lc ls li lo dr p, oTi ti t, oRo rh w rp, aM G w 8 (krow q), oMs (q 0) (d 0), aI G (d 0) 9 (M 0), oMs (q 1) (d 1), aI G (d 1) 9 (M 1), oMs (q 2) (d 2), aI G (d 2) 9 (M 2), oMs (q 3) (d 3), aI G (d 3) 9 (M 3), oMs (q 4) (d 4), aI G (d 4) 9 (M 4), oMs (q 5) (d 5), aI G (d 5) 9 (M 5), oMs (q 6) (d 6), aI G (d 6) 9 (M 6), oMs (q 7) (d 7), aI G (d 7) 9 (M 7), oMs dr da, aI G da 9 f_46]) c49 rfl (by decide) (List.mem_of_getElem? (i := 17) rfl) rfl rfl rfl (Nat.le_of_ble_eq_true rfl) rfl dX0_ask_185 (fun H50 locs50 c50 ec50 (hP50 : va_P G.1 vwCl ([oCl h pe ti c50, oPe pe lc ls li lo dr p, oTi ti t, oRo rh w rp, aM G w 8 (krow q), oMs (q 0) (d 0), aI G (d 0) 9 (M 0), oMs (q 1) (d 1), aI G (d 1) 9 (M 1), oMs (q 2) (d 2), aI G (d 2) 9 (M 2), oMs (q 3) (d 3), aI G (d 3) 9 (M 3), oMs (q 4) (d 4), aI G (d 4) 9 (M 4), oMs (q 5) (d 5), aI G (d 5) 9 (M 5), oMs (q 6) (d 6), aI G (d 6) 9 (M 6), oMs (q 7) (d 7), aI G (d 7) 9 (M 7), oMs dr da, aI G da 9 f_46]) H50) (hD50 : va_D A ([oCl h pe ti c50, oPe pe lc ls li lo dr p, oTi ti t, oRo rh w rp, aM G w 8 (krow q), oMs (q 0) (d 0), aI G (d 0) 9 (M 0), oMs (q 1) (d 1), aI G (d 1) 9 (M 1), oMs (q 2) (d 2), aI G (d 2) 9 (M 2), oMs (q 3) (d 3), aI G (d 3) 9 (M 3), oMs (q 4) (d 4), aI G (d 4) 9 (M 4), oMs (q 5) (d 5), aI G (d 5) 9 (M 5), oMs (q 6) (d 6), aI G (d 6) 9 (M 6), oMs (q 7) (d 7), aI G (d 7) 9 (M 7), oMs dr da, aI G da 9 f_46])) hS50 => ?_)
        clear hP49 hD49 hS49
        refine lv_aload_n hx hb dX0_ask_188 rfl (lv_at hl1 1 rfl) ?_
        refine kget F hK hP50 0 0 0 iX0 rfl rfl (by decide) (List.mem_of_getElem? (i := 1) rfl) rfl dX0_ask_189 ?_
        refine lv_aload hx hb dX0_ask_192 (lv_at hl1 0 rfl) ?_
        refine kVv (wr := [oCl h pe ti c50, oTi ti t, oRo rh w rp, aM G w 8 (krow q), oMs (q 0) (d 0), aI G (d 0) 9 (M 0), oMs (q 1) (d 1), aI G (d 1) 9 (M 1), oMs (q 2) (d 2), aI G (d 2) 9 (M 2), oMs (q 3) (d 3), aI G (d 3) 9 (M 3), oMs (q 4) (d 4), aI G (d 4) 9 (M 4), oMs (q 5) (d 5), aI G (d 5) 9 (M 5), oMs (q 6) (d 6), aI G (d 6) 9 (M 6), oMs (q 7) (d 7), aI G (d 7) 9 (M 7)]) F hK hP50 hD50 hS50 hA hl1.1 (c_X3_takeIn l G pe lc ls li lo dr p dr da f_46) [1, 21, 22] [0, 2, 3, 4, 5, 6, 7, 8, 9, 10, 11, 12, 13, 14, 15, 16, 17, 18, 19, 20] 3 0 gX0_ask_X3_takeIn rfl 1 rfl (by decide +kernel) ⟨Nat.le_of_ble_eq_true rfl, Nat.le_of_ble_eq_true rfl⟩ ⟨Nat.zero_le _, Nat.zero_le _⟩ rfl rfl rfl rfl (by decide) (by decide) (by decide) (Nat.le_of_ble_eq_true rfl) rfl dX0_ask_194 (fun p_51 H52 locs52 hw51 (hP52 : va_P G.1 vwCl ([oCl h pe ti c50, oTi ti t, oRo rh w rp, aM G w 8 (krow q), oMs (q 0) (d 0), aI G (d 0) 9 (M 0), oMs (q 1) (d 1), aI G (d 1) 9 (M 1), oMs (q 2) (d 2), aI G (d 2) 9 (M 2), oMs (q 3) (d 3), aI G (d 3) 9 (M 3), oMs (q 4) (d 4), aI G (d 4) 9 (M 4), oMs (q 5) (d 5), aI G (d 5) 9 (M 5), oMs (q 6) (d 6), aI G (d 6) 9 (M 6), oMs (q 7) (d 7), aI G (d 7) 9 (M 7), oPe pe lc ls li lo dr p_51, oMs dr da, aI G da 9 f_46]) H52) (hD52 : va_D A ([oCl h pe ti c50, oTi ti t, oRo rh w rp, aM G w 8 (krow q), oMs (q 0) (d 0), aI G (d 0) 9 (M 0), oMs (q 1) (d 1), aI G (d 1) 9 (M 1), oMs (q 2) (d 2), aI G (d 2) 9 (M 2), oMs (q 3) (d 3), aI G (d 3) 9 (M 3), oMs (q 4) (d 4), aI G (d 4) 9 (M 4), oMs (q 5) (d 5), aI G (d 5) 9 (M 5), oMs (q 6) (d 6), aI G (d 6) 9 (M 6), oMs (q 7) (d 7), aI G (d 7) 9 (M 7), oPe pe lc ls li lo dr p_51, oMs dr da, aI G da 9 f_46])) hS52 => ?_)
        clear hP50 hD50 hS50
        have w51_0 : p_51 = ktake p f_46 := hw51
        refine lv_aload_n hx hb dX0_ask_197 rfl (lv_at hl1 4 rfl) ?_
        refine lv_aload hx hb dX0_ask_198 (lv_at hl1 0 rfl) ?_
        refine kVv (wr := [oCl h pe ti c50, oTi ti t, oPe pe lc ls li lo dr p_51]) F hK hP52 hD52 hS52 hA hl1.1 (c_X4_send l G rh w q d rp M dr da f_46 L hL hL8) [2, 3, 4, 5, 6, 7, 8, 9, 10, 11, 12, 13, 14, 15, 16, 17, 18, 19, 21, 22] [0, 1, 20] 4 0 gX0_ask_X4_send rfl 1 rfl (by decide +kernel) ⟨Nat.le_of_ble_eq_true rfl, Nat.le_of_ble_eq_true rfl⟩ ⟨Nat.zero_le _, Nat.zero_le _⟩ rfl rfl rfl rfl (by decide) (by decide) (by decide) (Nat.le_of_ble_eq_true rfl) rfl dX0_ask_200 (fun u53 H54 locs54 hw53 hP54 hD54 hS54 => ?_)
        obtain ⟨p_53, M_53⟩ := u53
        have hP54 : va_P G.1 vwCl ([oCl h pe ti c50, oTi ti t, oPe pe lc ls li lo dr p_51, oRo rh w p_53, aM G w 8 (krow q), oMs (q 0) (d 0), aI G (d 0) 9 (M_53 0), oMs (q 1) (d 1), aI G (d 1) 9 (M_53 1), oMs (q 2) (d 2), aI G (d 2) 9 (M_53 2), oMs (q 3) (d 3), aI G (d 3) 9 (M_53 3), oMs (q 4) (d 4), aI G (d 4) 9 (M_53 4), oMs (q 5) (d 5), aI G (d 5) 9 (M_53 5), oMs (q 6) (d 6), aI G (d 6) 9 (M_53 6), oMs (q 7) (d 7), aI G (d 7) 9 (M_53 7), oMs dr da, aI G da 9 f_46]) H54 := hP54
        have hD54 : va_D A ([oCl h pe ti c50, oTi ti t, oPe pe lc ls li lo dr p_51, oRo rh w p_53, aM G w 8 (krow q), oMs (q 0) (d 0), aI G (d 0) 9 (M_53 0), oMs (q 1) (d 1), aI G (d 1) 9 (M_53 1), oMs (q 2) (d 2), aI G (d 2) 9 (M_53 2), oMs (q 3) (d 3), aI G (d 3) 9 (M_53 3), oMs (q 4) (d 4), aI G (d 4) 9 (M_53 4), oMs (q 5) (d 5), aI G (d 5) 9 (M_53 5), oMs (q 6) (d 6), aI G (d 6) 9 (M_53 6), oMs (q 7) (d 7), aI G (d 7) 9 (M_53 7), oMs dr da, aI G da 9 f_46]) := hD54
        clear hP52 hD52 hS52
        have w53_0 : p_53 = ksendP L rp := hw53.1
        have w53_1 : M_53 = ksendM L M f_46 := hw53.2
        have q55 : (c50 = (kaskR L c p t f rp M g now).1) ∧ (p_51 = (kaskR L c p t f rp M g now).2.1) ∧ (f_46 = (kaskR L c p t f rp M g now).2.2.1) ∧ (p_53 = (kaskR L c p t f rp M g now).2.2.2.1) ∧ (M_53 = (kaskR L c p t f rp M g now).2.2.2.2) := by
          subst w53_1
          subst w53_0
          subst w51_0
          subst ec50
          subst ec49
          subst ec48
          subst w46_0
          subst w32_0
          subst w30_0
          subst w28_0
          subst w26_0
          subst w12_0
          subst w10_0
          subst w8_0
          subst w6_0
          subst w4_0
          subst w2_0
          first | (simp only [kaskR, kaskC, kaskF, kaskG, c14, c34, c35, ↓reduceIte, and_self]; done) | (simp only [kaskR, kaskC, kaskF, kaskG, c14, c34, c35, ↓reduceIte, and_self]; exact ⟨rfl, rfl, rfl, rfl, rfl⟩) | exact ⟨rfl, rfl, rfl, rfl, rfl⟩
        exact kRv F hr hlocks hS54 dX0_ask_203 ⟨c50, p_51, f_46, p_53, M_53⟩ q55 (hP54.sub [0, 2, 1, 21, 22, 3, 4, 5, 6, 7, 8, 9, 10, 11, 12, 13, 14, 15, 16, 17, 18, 19, 20] rfl) (hD54.sub [0, 2, 1, 21, 22, 3, 4, 5, 6, 7, 8, 9, 10, 11, 12, 13, 14, 15, 16, 17, 18, 19, 20] (by decide) rfl)
set_option maxHeartbeats 4000000 in
set_option maxRecDepth 100000 in
theorem c_X0_begin (l : Launch) (G : kG) (h : Nat) (pe : Nat) (ti : Nat) (lc : Nat) (ls : Nat) (li : Nat) (lo : Nat) (dr : Nat) (da : Nat) (c : Nat → Int32) (p : Nat → Int32) (t : Nat → Int32) (f : Nat → Int32) (rh : Nat) (w : Nat) (q : Nat → Nat) (d : Nat → Nat) (rp : Nat → Int32) (M : Nat → Nat → Int32) (L : Nat) (now : Int32) (hL : rp 1 = nI L) (hL8 : L ≤ 8) (hb : c 2 = 0 ∨ c 2 = 1) : kM G l yX0_begin wsX0_begin ({ frames := 4, cells := 0, slots := 0, locals := 92 }) [.ref h, .int now, .ref rh] ([oCl h pe ti c, oPe pe lc ls li lo dr p, oTi ti t, oMs dr da, aI G da 9 f, oRo rh w rp, aM G w 8 (krow q), oMs (q 0) (d 0), aI G (d 0) 9 (M 0), oMs (q 1) (d 1), aI G (d 1) 9 (M 1), oMs (q 2) (d 2), aI G (d 2) 9 (M 2), oMs (q 3) (d 3), aI G (d 3) 9 (M 3), oMs (q 4) (d 4), aI G (d 4) 9 (M 4), oMs (q 5) (d 5), aI G (d 5) 9 (M 5), oMs (q 6) (d 6), aI G (d 6) 9 (M 6), oMs (q 7) (d 7), aI G (d 7) 9 (M 7)]) (kQv G (fun (uu : (Nat → Int32) × (Nat → Int32) × (Nat → Int32) × (Nat → Int32) × (Nat → Nat → Int32)) => (uu.1 = (kbeginR L c p t f rp M now).1) ∧ (uu.2.1 = (kbeginR L c p t f rp M now).2.1) ∧ (uu.2.2.1 = (kbeginR L c p t f rp M now).2.2.1) ∧ (uu.2.2.2.1 = (kbeginR L c p t f rp M now).2.2.2.1) ∧ (uu.2.2.2.2 = (kbeginR L c p t f rp M now).2.2.2.2)) (fun (uu : (Nat → Int32) × (Nat → Int32) × (Nat → Int32) × (Nat → Int32) × (Nat → Nat → Int32)) => [oCl h pe ti uu.1, oPe pe lc ls li lo dr uu.2.1, oTi ti t, oMs dr da, aI G da 9 uu.2.2.1, oRo rh w uu.2.2.2.1, aM G w 8 (krow q), oMs (q 0) (d 0), aI G (d 0) 9 (uu.2.2.2.2 0), oMs (q 1) (d 1), aI G (d 1) 9 (uu.2.2.2.2 1), oMs (q 2) (d 2), aI G (d 2) 9 (uu.2.2.2.2 2), oMs (q 3) (d 3), aI G (d 3) 9 (uu.2.2.2.2 3), oMs (q 4) (d 4), aI G (d 4) 9 (uu.2.2.2.2 4), oMs (q 5) (d 5), aI G (d 5) 9 (uu.2.2.2.2 5), oMs (q 6) (d 6), aI G (d 6) 9 (uu.2.2.2.2 6), oMs (q 7) (d 7), aI G (d 7) 9 (uu.2.2.2.2 7)])) := by
  refine kStart (cc := cX0_begin) (maxL := 3) (ret := none) (by decide) rfl (Nat.le_of_ble_eq_true rfl) (fun pg ev st mi bl mt cd A ls0 F hr hlocks hin hK hP0 hD0 hA hS0 hl0 => ?_)
  obtain ⟨hx, hb, hml, hown, hts⟩ := id F
  have hl0 : lv_has ls0 3 [(0, .ref h), (1, .int now), (2, .ref rh)] := hl0
  have iX0 : ∀ w ∈ u_ws RX0 TX0 9, w ∈ wsX0_begin := fun w h => List.mem_cons_of_mem _ (List.mem_append_left _ (List.mem_append_left _ (List.mem_append_left _ (List.mem_append_left _ (List.mem_append_right _ h)))))
  have iX3 : ∀ w ∈ u_ws RX3 TX3 18, w ∈ wsX0_begin := fun w h => List.mem_cons_of_mem _ (List.mem_append_left _ (List.mem_append_left _ (List.mem_append_left _ (List.mem_append_right _ h))))
  refine lv_aload_n hx hb dX0_begin_0 rfl (lv_at hl0 0 rfl) ?_
  refine lv_iconst (v := 0) hx hb dX0_begin_1 (by decide) ?_
  refine kput F hK hP0 hD0 hS0 (ty0 := tyX0) 0 0 5 iX0 rfl tyX0_ok nmX0 (fun z => [oCl h pe ti z, oPe pe lc ls li lo dr p, oTi ti t, oMs dr da, aI G da 9 f, oRo rh w rp, aM G w 8 (krow q), oMs (q 0) (d 0), aI G (d 0) 9 (M 0), oMs (q 1) (d 1), aI G (d 1) 9 (M 1), oMs (q 2) (d 2), aI G (d 2) 9 (M 2), oMs (q 3) (d 3), aI G (d 3) 9 (M 3), oMs (q 4) (d 4), aI G (d 4) 9 (M 4), oMs (q 5) (d 5), aI G (d 5) 9 (M 5), oMs (q 6) (d 6), aI G (d 6) 9 (M 6), oMs (q 7) (d 7), aI G (d 7) 9 (M 7)]) c rfl (by decide) (List.mem_of_getElem? (i := 1) rfl) rfl rfl rfl (Nat.le_of_ble_eq_true rfl) rfl dX0_begin_2 (fun H1 locs1 c1 ec1 (hP1 : va_P G.1 vwCl ([oCl h pe ti c1, oPe pe lc ls li lo dr p, oTi ti t, oMs dr da, aI G da 9 f, oRo rh w rp, aM G w 8 (krow q), oMs (q 0) (d 0), aI G (d 0) 9 (M 0), oMs (q 1) (d 1), aI G (d 1) 9 (M 1), oMs (q 2) (d 2), aI G (d 2) 9 (M 2), oMs (q 3) (d 3), aI G (d 3) 9 (M 3), oMs (q 4) (d 4), aI G (d 4) 9 (M 4), oMs (q 5) (d 5), aI G (d 5) 9 (M 5), oMs (q 6) (d 6), aI G (d 6) 9 (M 6), oMs (q 7) (d 7), aI G (d 7) 9 (M 7)]) H1) (hD1 : va_D A ([oCl h pe ti c1, oPe pe lc ls li lo dr p, oTi ti t, oMs dr da, aI G da 9 f, oRo rh w rp, aM G w 8 (krow q), oMs (q 0) (d 0), aI G (d 0) 9 (M 0), oMs (q 1) (d 1), aI G (d 1) 9 (M 1), oMs (q 2) (d 2), aI G (d 2) 9 (M 2), oMs (q 3) (d 3), aI G (d 3) 9 (M 3), oMs (q 4) (d 4), aI G (d 4) 9 (M 4), oMs (q 5) (d 5), aI G (d 5) 9 (M 5), oMs (q 6) (d 6), aI G (d 6) 9 (M 6), oMs (q 7) (d 7), aI G (d 7) 9 (M 7)])) hS1 => ?_)
  clear hP0 hD0 hS0
  refine lv_aload_n hx hb dX0_begin_5 rfl (lv_at hl0 0 rfl) ?_
  refine kget F hK hP1 0 0 0 iX0 rfl rfl (by decide) (List.mem_of_getElem? (i := 2) rfl) rfl dX0_begin_6 ?_
  refine lv_iconst (v := 1) hx hb dX0_begin_9 (by decide) ?_
  refine kput F hK hP1 hD1 hS1 (ty0 := tyX3) 3 1 3 iX3 rfl tyX3_ok nmX3 (fun z => [oCl h pe ti c1, oPe pe lc ls li lo dr z, oTi ti t, oMs dr da, aI G da 9 f, oRo rh w rp, aM G w 8 (krow q), oMs (q 0) (d 0), aI G (d 0) 9 (M 0), oMs (q 1) (d 1), aI G (d 1) 9 (M 1), oMs (q 2) (d 2), aI G (d 2) 9 (M 2), oMs (q 3) (d 3), aI G (d 3) 9 (M 3), oMs (q 4) (d 4), aI G (d 4) 9 (M 4), oMs (q 5) (d 5), aI G (d 5) 9 (M 5), oMs (q 6) (d 6), aI G (d 6) 9 (M 6), oMs (q 7) (d 7), aI G (d 7) 9 (M 7)]) p rfl (by decide) (List.mem_of_getElem? (i := 3) rfl) rfl rfl rfl (Nat.le_of_ble_eq_true rfl) rfl dX0_begin_10 (fun H2 locs2 p2 ep2 (hP2 : va_P G.1 vwCl ([oCl h pe ti c1, oPe pe lc ls li lo dr p2, oTi ti t, oMs dr da, aI G da 9 f, oRo rh w rp, aM G w 8 (krow q), oMs (q 0) (d 0), aI G (d 0) 9 (M 0), oMs (q 1) (d 1), aI G (d 1) 9 (M 1), oMs (q 2) (d 2), aI G (d 2) 9 (M 2), oMs (q 3) (d 3), aI G (d 3) 9 (M 3), oMs (q 4) (d 4), aI G (d 4) 9 (M 4), oMs (q 5) (d 5), aI G (d 5) 9 (M 5), oMs (q 6) (d 6), aI G (d 6) 9 (M 6), oMs (q 7) (d 7), aI G (d 7) 9 (M 7)]) H2) (hD2 : va_D A ([oCl h pe ti c1, oPe pe lc ls li lo dr p2, oTi ti t, oMs dr da, aI G da 9 f, oRo rh w rp, aM G w 8 (krow q), oMs (q 0) (d 0), aI G (d 0) 9 (M 0), oMs (q 1) (d 1), aI G (d 1) 9 (M 1), oMs (q 2) (d 2), aI G (d 2) 9 (M 2), oMs (q 3) (d 3), aI G (d 3) 9 (M 3), oMs (q 4) (d 4), aI G (d 4) 9 (M 4), oMs (q 5) (d 5), aI G (d 5) 9 (M 5), oMs (q 6) (d 6), aI G (d 6) 9 (M 6), oMs (q 7) (d 7), aI G (d 7) 9 (M 7)])) hS2 => ?_)
  clear hP1 hD1 hS1
  refine lv_aload_n hx hb dX0_begin_13 rfl (lv_at hl0 0 rfl) ?_
  refine lv_aload_n hx hb dX0_begin_14 rfl (lv_at hl0 0 rfl) ?_
  refine kget F hK hP2 0 0 0 iX0 rfl rfl (by decide) (List.mem_of_getElem? (i := 2) rfl) rfl dX0_begin_15 ?_
  refine kget F hK hP2 3 1 1 iX3 rfl rfl (by decide) (List.mem_of_getElem? (i := 4) rfl) rfl dX0_begin_18 ?_
  refine lv_aload_n hx hb dX0_begin_21 rfl (lv_at hl0 0 rfl) ?_
  refine kget F hK hP2 0 0 3 iX0 rfl rfl (by decide) (List.mem_of_getElem? (i := 5) rfl) rfl dX0_begin_22 ?_
  refine kPNi F hK hP2 hD2 hS2 hA hl0.1 (c_X8_hasGroup l G (p2 1) (c1 3)) (fun _ => rfl) 6 rfl gX0_begin_X8_hasGroup_n44 (List.mem_of_getElem? (i := 6) rfl) (List.mem_of_getElem? (i := 7) rfl) rfl 2 rfl (by decide +kernel) ⟨Nat.le_of_ble_eq_true rfl, Nat.le_of_ble_eq_true rfl⟩ ⟨Nat.zero_le _, Nat.zero_le _⟩ (Nat.le_of_ble_eq_true rfl) rfl dX0_begin_25 (fun r3 u3 H4 locs4 hw3 (hP4 : va_P G.1 vwCl ([oCl h pe ti c1, oPe pe lc ls li lo dr p2, oTi ti t, oMs dr da, aI G da 9 f, oRo rh w rp, aM G w 8 (krow q), oMs (q 0) (d 0), aI G (d 0) 9 (M 0), oMs (q 1) (d 1), aI G (d 1) 9 (M 1), oMs (q 2) (d 2), aI G (d 2) 9 (M 2), oMs (q 3) (d 3), aI G (d 3) 9 (M 3), oMs (q 4) (d 4), aI G (d 4) 9 (M 4), oMs (q 5) (d 5), aI G (d 5) 9 (M 5), oMs (q 6) (d 6), aI G (d 6) 9 (M 6), oMs (q 7) (d 7), aI G (d 7) 9 (M 7)]) H4) (hD4 : va_D A ([oCl h pe ti c1, oPe pe lc ls li lo dr p2, oTi ti t, oMs dr da, aI G da 9 f, oRo rh w rp, aM G w 8 (krow q), oMs (q 0) (d 0), aI G (d 0) 9 (M 0), oMs (q 1) (d 1), aI G (d 1) 9 (M 1), oMs (q 2) (d 2), aI G (d 2) 9 (M 2), oMs (q 3) (d 3), aI G (d 3) 9 (M 3), oMs (q 4) (d 4), aI G (d 4) 9 (M 4), oMs (q 5) (d 5), aI G (d 5) 9 (M 5), oMs (q 6) (d 6), aI G (d 6) 9 (M 6), oMs (q 7) (d 7), aI G (d 7) 9 (M 7)])) hS4 => ?_)
  clear hP2 hD2 hS2
  have w3_0 : r3 = khasG (p2 1) (c1 3) := hw3
  refine lv_if_eq (tgt := 38) hx hb dX0_begin_28 (by decide) (fun c5 => ?_) (fun c5 => ?_)
  · refine lv_aload_n hx hb dX0_begin_38 rfl (lv_at hl0 0 rfl) ?_
    refine kget F hK hP4 0 0 0 iX0 rfl rfl (by decide) (List.mem_of_getElem? (i := 2) rfl) rfl dX0_begin_39 ?_
    refine kget F hK hP4 3 1 1 iX3 rfl rfl (by decide) (List.mem_of_getElem? (i := 4) rfl) rfl dX0_begin_42 ?_
    refine kPNi F hK hP4 hD4 hS4 hA hl0.1 (c_X8_leastOf l G (p2 1)) (fun _ => rfl) 7 rfl gX0_begin_X8_leastOf_n48 (List.mem_of_getElem? (i := 12) rfl) (List.mem_of_getElem? (i := 7) rfl) rfl 1 rfl (by decide +kernel) ⟨Nat.le_of_ble_eq_true rfl, Nat.le_of_ble_eq_true rfl⟩ ⟨Nat.zero_le _, Nat.zero_le _⟩ (Nat.le_of_ble_eq_true rfl) rfl dX0_begin_45 (fun r6 u6 H7 locs7 hw6 (hP7 : va_P G.1 vwCl ([oCl h pe ti c1, oPe pe lc ls li lo dr p2, oTi ti t, oMs dr da, aI G da 9 f, oRo rh w rp, aM G w 8 (krow q), oMs (q 0) (d 0), aI G (d 0) 9 (M 0), oMs (q 1) (d 1), aI G (d 1) 9 (M 1), oMs (q 2) (d 2), aI G (d 2) 9 (M 2), oMs (q 3) (d 3), aI G (d 3) 9 (M 3), oMs (q 4) (d 4), aI G (d 4) 9 (M 4), oMs (q 5) (d 5), aI G (d 5) 9 (M 5), oMs (q 6) (d 6), aI G (d 6) 9 (M 6), oMs (q 7) (d 7), aI G (d 7) 9 (M 7)]) H7) (hD7 : va_D A ([oCl h pe ti c1, oPe pe lc ls li lo dr p2, oTi ti t, oMs dr da, aI G da 9 f, oRo rh w rp, aM G w 8 (krow q), oMs (q 0) (d 0), aI G (d 0) 9 (M 0), oMs (q 1) (d 1), aI G (d 1) 9 (M 1), oMs (q 2) (d 2), aI G (d 2) 9 (M 2), oMs (q 3) (d 3), aI G (d 3) 9 (M 3), oMs (q 4) (d 4), aI G (d 4) 9 (M 4), oMs (q 5) (d 5), aI G (d 5) 9 (M 5), oMs (q 6) (d 6), aI G (d 6) 9 (M 6), oMs (q 7) (d 7), aI G (d 7) 9 (M 7)])) hS7 => ?_)
    clear hP4 hD4 hS4
    have w6_0 : r6 = kleast (p2 1) := hw6
    refine lv_iload_n hx hb dX0_begin_48 rfl (lv_at hl0 1 rfl) ?_
    refine lv_aload_n hx hb dX0_begin_49 rfl (lv_at hl0 2 rfl) ?_
    refine kVv (wr := []) F hK hP7 hD7 hS7 hA hl0.1 (c_X0_ask l G h pe ti lc ls li lo dr da c1 p2 t f rh w q d rp M L r6 now hL hL8 (by subst w6_0; subst w3_0; subst ep2; subst ec1; exact hb)) [0, 1, 2, 3, 4, 5, 6, 7, 8, 9, 10, 11, 12, 13, 14, 15, 16, 17, 18, 19, 20, 21, 22] [] 0 0 gX0_begin_X0_ask rfl 3 rfl (by decide +kernel) ⟨Nat.le_of_ble_eq_true rfl, Nat.le_of_ble_eq_true rfl⟩ ⟨Nat.zero_le _, Nat.zero_le _⟩ rfl rfl rfl rfl (by decide) (by decide) (by decide) (Nat.le_of_ble_eq_true rfl) rfl dX0_begin_50 (fun u8 H9 locs9 hw8 hP9 hD9 hS9 => ?_)
    obtain ⟨c_8, p_8, f_8, rp_8, M_8⟩ := u8
    have hP9 : va_P G.1 vwCl ([oCl h pe ti c_8, oPe pe lc ls li lo dr p_8, oTi ti t, oMs dr da, aI G da 9 f_8, oRo rh w rp_8, aM G w 8 (krow q), oMs (q 0) (d 0), aI G (d 0) 9 (M_8 0), oMs (q 1) (d 1), aI G (d 1) 9 (M_8 1), oMs (q 2) (d 2), aI G (d 2) 9 (M_8 2), oMs (q 3) (d 3), aI G (d 3) 9 (M_8 3), oMs (q 4) (d 4), aI G (d 4) 9 (M_8 4), oMs (q 5) (d 5), aI G (d 5) 9 (M_8 5), oMs (q 6) (d 6), aI G (d 6) 9 (M_8 6), oMs (q 7) (d 7), aI G (d 7) 9 (M_8 7)]) H9 := hP9
    have hD9 : va_D A ([oCl h pe ti c_8, oPe pe lc ls li lo dr p_8, oTi ti t, oMs dr da, aI G da 9 f_8, oRo rh w rp_8, aM G w 8 (krow q), oMs (q 0) (d 0), aI G (d 0) 9 (M_8 0), oMs (q 1) (d 1), aI G (d 1) 9 (M_8 1), oMs (q 2) (d 2), aI G (d 2) 9 (M_8 2), oMs (q 3) (d 3), aI G (d 3) 9 (M_8 3), oMs (q 4) (d 4), aI G (d 4) 9 (M_8 4), oMs (q 5) (d 5), aI G (d 5) 9 (M_8 5), oMs (q 6) (d 6), aI G (d 6) 9 (M_8 6), oMs (q 7) (d 7), aI G (d 7) 9 (M_8 7)]) := hD9
    clear hP7 hD7 hS7
    have w8_0 : c_8 = (kaskR L c1 p2 t f rp M r6 now).1 := hw8.1
    have w8_1 : p_8 = (kaskR L c1 p2 t f rp M r6 now).2.1 := hw8.2.1
    have w8_2 : f_8 = (kaskR L c1 p2 t f rp M r6 now).2.2.1 := hw8.2.2.1
    have w8_3 : rp_8 = (kaskR L c1 p2 t f rp M r6 now).2.2.2.1 := hw8.2.2.2.1
    have w8_4 : M_8 = (kaskR L c1 p2 t f rp M r6 now).2.2.2.2 := hw8.2.2.2.2
    have q10 : (c_8 = (kbeginR L c p t f rp M now).1) ∧ (p_8 = (kbeginR L c p t f rp M now).2.1) ∧ (f_8 = (kbeginR L c p t f rp M now).2.2.1) ∧ (rp_8 = (kbeginR L c p t f rp M now).2.2.2.1) ∧ (M_8 = (kbeginR L c p t f rp M now).2.2.2.2) := by
      subst w8_4
      subst w8_3
      subst w8_2
      subst w8_1
      subst w8_0
      subst w6_0
      subst w3_0
      subst ep2
      subst ec1
      first | (simp only [kbeginR, kgrp0, c5, ↓reduceIte, and_self]; done) | (simp only [kbeginR, kgrp0, c5, ↓reduceIte, and_self]; exact ⟨rfl, rfl, rfl, rfl, rfl⟩) | exact ⟨rfl, rfl, rfl, rfl, rfl⟩
    exact kRv F hr hlocks hS9 dX0_begin_53 ⟨c_8, p_8, f_8, rp_8, M_8⟩ q10 hP9 hD9
  · refine lv_aload_n hx hb dX0_begin_31 rfl (lv_at hl0 0 rfl) ?_
    refine kget F hK hP4 0 0 3 iX0 rfl rfl (by decide) (List.mem_of_getElem? (i := 5) rfl) rfl dX0_begin_32 ?_
    refine lv_goto (tgt := 48) hx hb dX0_begin_35 (by decide) ?_
    refine lv_iload_n hx hb dX0_begin_48 rfl (lv_at hl0 1 rfl) ?_
    refine lv_aload_n hx hb dX0_begin_49 rfl (lv_at hl0 2 rfl) ?_
    refine kVv (wr := []) F hK hP4 hD4 hS4 hA hl0.1 (c_X0_ask l G h pe ti lc ls li lo dr da c1 p2 t f rh w q d rp M L (c1 3) now hL hL8 (by subst w3_0; subst ep2; subst ec1; exact hb)) [0, 1, 2, 3, 4, 5, 6, 7, 8, 9, 10, 11, 12, 13, 14, 15, 16, 17, 18, 19, 20, 21, 22] [] 0 0 gX0_begin_X0_ask rfl 3 rfl (by decide +kernel) ⟨Nat.le_of_ble_eq_true rfl, Nat.le_of_ble_eq_true rfl⟩ ⟨Nat.zero_le _, Nat.zero_le _⟩ rfl rfl rfl rfl (by decide) (by decide) (by decide) (Nat.le_of_ble_eq_true rfl) rfl dX0_begin_50 (fun u11 H12 locs12 hw11 hP12 hD12 hS12 => ?_)
    obtain ⟨c_11, p_11, f_11, rp_11, M_11⟩ := u11
    have hP12 : va_P G.1 vwCl ([oCl h pe ti c_11, oPe pe lc ls li lo dr p_11, oTi ti t, oMs dr da, aI G da 9 f_11, oRo rh w rp_11, aM G w 8 (krow q), oMs (q 0) (d 0), aI G (d 0) 9 (M_11 0), oMs (q 1) (d 1), aI G (d 1) 9 (M_11 1), oMs (q 2) (d 2), aI G (d 2) 9 (M_11 2), oMs (q 3) (d 3), aI G (d 3) 9 (M_11 3), oMs (q 4) (d 4), aI G (d 4) 9 (M_11 4), oMs (q 5) (d 5), aI G (d 5) 9 (M_11 5), oMs (q 6) (d 6), aI G (d 6) 9 (M_11 6), oMs (q 7) (d 7), aI G (d 7) 9 (M_11 7)]) H12 := hP12
    have hD12 : va_D A ([oCl h pe ti c_11, oPe pe lc ls li lo dr p_11, oTi ti t, oMs dr da, aI G da 9 f_11, oRo rh w rp_11, aM G w 8 (krow q), oMs (q 0) (d 0), aI G (d 0) 9 (M_11 0), oMs (q 1) (d 1), aI G (d 1) 9 (M_11 1), oMs (q 2) (d 2), aI G (d 2) 9 (M_11 2), oMs (q 3) (d 3), aI G (d 3) 9 (M_11 3), oMs (q 4) (d 4), aI G (d 4) 9 (M_11 4), oMs (q 5) (d 5), aI G (d 5) 9 (M_11 5), oMs (q 6) (d 6), aI G (d 6) 9 (M_11 6), oMs (q 7) (d 7), aI G (d 7) 9 (M_11 7)]) := hD12
    clear hP4 hD4 hS4
    have w11_0 : c_11 = (kaskR L c1 p2 t f rp M (c1 3) now).1 := hw11.1
    have w11_1 : p_11 = (kaskR L c1 p2 t f rp M (c1 3) now).2.1 := hw11.2.1
    have w11_2 : f_11 = (kaskR L c1 p2 t f rp M (c1 3) now).2.2.1 := hw11.2.2.1
    have w11_3 : rp_11 = (kaskR L c1 p2 t f rp M (c1 3) now).2.2.2.1 := hw11.2.2.2.1
    have w11_4 : M_11 = (kaskR L c1 p2 t f rp M (c1 3) now).2.2.2.2 := hw11.2.2.2.2
    have q13 : (c_11 = (kbeginR L c p t f rp M now).1) ∧ (p_11 = (kbeginR L c p t f rp M now).2.1) ∧ (f_11 = (kbeginR L c p t f rp M now).2.2.1) ∧ (rp_11 = (kbeginR L c p t f rp M now).2.2.2.1) ∧ (M_11 = (kbeginR L c p t f rp M now).2.2.2.2) := by
      subst w11_4
      subst w11_3
      subst w11_2
      subst w11_1
      subst w11_0
      subst w3_0
      subst ep2
      subst ec1
      first | (simp only [kbeginR, kgrp0, c5, ↓reduceIte, and_self]; done) | (simp only [kbeginR, kgrp0, c5, ↓reduceIte, and_self]; exact ⟨rfl, rfl, rfl, rfl, rfl⟩) | exact ⟨rfl, rfl, rfl, rfl, rfl⟩
    exact kRv F hr hlocks hS12 dX0_begin_53 ⟨c_11, p_11, f_11, rp_11, M_11⟩ q13 hP12 hD12
set_option maxHeartbeats 4000000 in
set_option maxRecDepth 100000 in
theorem c_X0_receiveRetry (l : Launch) (G : kG) (h : Nat) (pe : Nat) (ti : Nat) (lc : Nat) (ls : Nat) (li : Nat) (lo : Nat) (dr : Nat) (da : Nat) (c : Nat → Int32) (p : Nat → Int32) (t : Nat → Int32) (f : Nat → Int32) (rh : Nat) (w : Nat) (q : Nat → Nat) (d : Nat → Nat) (rp : Nat → Int32) (M : Nat → Nat → Int32) (L : Nat) (h2 : Nat) (a2 : Nat) (z : Nat → Int32) (now : Int32) (hL : rp 1 = nI L) (hL8 : L ≤ 8) (hb : c 2 = 0 ∨ c 2 = 1) : kM G l yX0_receiveRetry wsX0_receiveRetry ({ frames := 4, cells := 0, slots := 0, locals := 92 }) [.ref h, .ref h2, .int now, .ref rh] ([oCl h pe ti c, oPe pe lc ls li lo dr p, oTi ti t, oMs dr da, aI G da 9 f, oRo rh w rp, aM G w 8 (krow q), oMs (q 0) (d 0), aI G (d 0) 9 (M 0), oMs (q 1) (d 1), aI G (d 1) 9 (M 1), oMs (q 2) (d 2), aI G (d 2) 9 (M 2), oMs (q 3) (d 3), aI G (d 3) 9 (M 3), oMs (q 4) (d 4), aI G (d 4) 9 (M 4), oMs (q 5) (d 5), aI G (d 5) 9 (M 5), oMs (q 6) (d 6), aI G (d 6) 9 (M 6), oMs (q 7) (d 7), aI G (d 7) 9 (M 7), oMs h2 a2, aI G a2 9 z]) (kQv G (fun (uu : (Nat → Int32) × (Nat → Int32) × (Nat → Int32) × (Nat → Int32) × (Nat → Nat → Int32)) => (uu.1 = (kretryR L c p t f rp M z now).1) ∧ (uu.2.1 = (kretryR L c p t f rp M z now).2.1) ∧ (uu.2.2.1 = (kretryR L c p t f rp M z now).2.2.1) ∧ (uu.2.2.2.1 = (kretryR L c p t f rp M z now).2.2.2.1) ∧ (uu.2.2.2.2 = (kretryR L c p t f rp M z now).2.2.2.2)) (fun (uu : (Nat → Int32) × (Nat → Int32) × (Nat → Int32) × (Nat → Int32) × (Nat → Nat → Int32)) => [oCl h pe ti uu.1, oPe pe lc ls li lo dr uu.2.1, oTi ti t, oMs dr da, aI G da 9 uu.2.2.1, oRo rh w uu.2.2.2.1, aM G w 8 (krow q), oMs (q 0) (d 0), aI G (d 0) 9 (uu.2.2.2.2 0), oMs (q 1) (d 1), aI G (d 1) 9 (uu.2.2.2.2 1), oMs (q 2) (d 2), aI G (d 2) 9 (uu.2.2.2.2 2), oMs (q 3) (d 3), aI G (d 3) 9 (uu.2.2.2.2 3), oMs (q 4) (d 4), aI G (d 4) 9 (uu.2.2.2.2 4), oMs (q 5) (d 5), aI G (d 5) 9 (uu.2.2.2.2 5), oMs (q 6) (d 6), aI G (d 6) 9 (uu.2.2.2.2 6), oMs (q 7) (d 7), aI G (d 7) 9 (uu.2.2.2.2 7), oMs h2 a2, aI G a2 9 z])) := by
  refine kStart (cc := cX0_receiveRetry) (maxL := 5) (ret := none) (by decide) rfl (Nat.le_of_ble_eq_true rfl) (fun pg ev st mi bl mt cd A ls0 F hr hlocks hin hK hP0 hD0 hA hS0 hl0 => ?_)
  obtain ⟨hx, hb, hml, hown, hts⟩ := id F
  have hl0 : lv_has ls0 5 [(0, .ref h), (1, .ref h2), (2, .int now), (3, .ref rh)] := hl0
  have iX0 : ∀ w ∈ u_ws RX0 TX0 9, w ∈ wsX0_receiveRetry := fun w h => List.mem_cons_of_mem _ (List.mem_append_left _ (List.mem_append_left _ (List.mem_append_left _ (List.mem_append_left _ (List.mem_append_right _ h)))))
  have iX3 : ∀ w ∈ u_ws RX3 TX3 18, w ∈ wsX0_receiveRetry := fun w h => List.mem_cons_of_mem _ (List.mem_append_left _ (List.mem_append_left _ (List.mem_append_left _ (List.mem_append_right _ h))))
  refine lv_aload_n hx hb dX0_receiveRetry_0 rfl (lv_at hl0 1 rfl) ?_
  refine lv_iconst (v := 1) hx hb dX0_receiveRetry_1 (by decide) ?_
  refine kVi (wr := [oCl h pe ti c, oPe pe lc ls li lo dr p, oTi ti t, oMs dr da, aI G da 9 f, oRo rh w rp, aM G w 8 (krow q), oMs (q 0) (d 0), aI G (d 0) 9 (M 0), oMs (q 1) (d 1), aI G (d 1) 9 (M 1), oMs (q 2) (d 2), aI G (d 2) 9 (M 2), oMs (q 3) (d 3), aI G (d 3) 9 (M 3), oMs (q 4) (d 4), aI G (d 4) 9 (M 4), oMs (q 5) (d 5), aI G (d 5) 9 (M 5), oMs (q 6) (d 6), aI G (d 6) 9 (M 6), oMs (q 7) (d 7), aI G (d 7) 9 (M 7)]) F hK hP0 hD0 hS0 hA hl0.1 (c_X2_at l G h2 a2 z 1 (by first | assumption | decide | omega)) [23, 24] [0, 1, 2, 3, 4, 5, 6, 7, 8, 9, 10, 11, 12, 13, 14, 15, 16, 17, 18, 19, 20, 21, 22] 2 0 gX0_receiveRetry_X2_at rfl 1 rfl (by decide +kernel) ⟨Nat.le_of_ble_eq_true rfl, Nat.le_of_ble_eq_true rfl⟩ ⟨Nat.zero_le _, Nat.zero_le _⟩ rfl rfl rfl rfl (by decide) (by decide) (by decide) (Nat.le_of_ble_eq_true rfl) rfl dX0_receiveRetry_2 (fun r1 u1 H2 locs2 hw1 (hP2 : va_P G.1 vwCl ([oCl h pe ti c, oPe pe lc ls li lo dr p, oTi ti t, oMs dr da, aI G da 9 f, oRo rh w rp, aM G w 8 (krow q), oMs (q 0) (d 0), aI G (d 0) 9 (M 0), oMs (q 1) (d 1), aI G (d 1) 9 (M 1), oMs (q 2) (d 2), aI G (d 2) 9 (M 2), oMs (q 3) (d 3), aI G (d 3) 9 (M 3), oMs (q 4) (d 4), aI G (d 4) 9 (M 4), oMs (q 5) (d 5), aI G (d 5) 9 (M 5), oMs (q 6) (d 6), aI G (d 6) 9 (M 6), oMs (q 7) (d 7), aI G (d 7) 9 (M 7), oMs h2 a2, aI G a2 9 z]) H2) (hD2 : va_D A ([oCl h pe ti c, oPe pe lc ls li lo dr p, oTi ti t, oMs dr da, aI G da 9 f, oRo rh w rp, aM G w 8 (krow q), oMs (q 0) (d 0), aI G (d 0) 9 (M 0), oMs (q 1) (d 1), aI G (d 1) 9 (M 1), oMs (q 2) (d 2), aI G (d 2) 9 (M 2), oMs (q 3) (d 3), aI G (d 3) 9 (M 3), oMs (q 4) (d 4), aI G (d 4) 9 (M 4), oMs (q 5) (d 5), aI G (d 5) 9 (M 5), oMs (q 6) (d 6), aI G (d 6) 9 (M 6), oMs (q 7) (d 7), aI G (d 7) 9 (M 7), oMs h2 a2, aI G a2 9 z])) hS2 => ?_)
  clear hP0 hD0 hS0
  have w1_0 : r1 = z 1 := hw1
  refine lv_istore (lv' := [(4, .int r1), (0, .ref h), (1, .ref h2), (2, .int now), (3, .ref rh)]) hx hb dX0_receiveRetry_5 hl0 (by decide) rfl (fun ls3 hl3 => ?_)
  clear hl0
  refine lv_aload_n hx hb dX0_receiveRetry_7 rfl (lv_at hl3 1 rfl) ?_
  refine kget F hK hP2 0 0 0 iX0 rfl rfl (by decide) (List.mem_of_getElem? (i := 1) rfl) rfl dX0_receiveRetry_8 ?_
  refine kget F hK hP2 3 1 1 iX3 rfl rfl (by decide) (List.mem_of_getElem? (i := 2) rfl) rfl dX0_receiveRetry_11 ?_
  refine lv_iload hx hb dX0_receiveRetry_14 (lv_at hl3 0 rfl) ?_
  refine kPNi F hK hP2 hD2 hS2 hA hl3.1 (c_X8_hasGroup l G (p 1) r1) (fun _ => rfl) 6 rfl gX0_receiveRetry_X8_hasGroup_n44 (List.mem_of_getElem? (i := 14) rfl) (List.mem_of_getElem? (i := 15) rfl) rfl 2 rfl (by decide +kernel) ⟨Nat.le_of_ble_eq_true rfl, Nat.le_of_ble_eq_true rfl⟩ ⟨Nat.zero_le _, Nat.zero_le _⟩ (Nat.le_of_ble_eq_true rfl) rfl dX0_receiveRetry_16 (fun r4 u4 H5 locs5 hw4 (hP5 : va_P G.1 vwCl ([oCl h pe ti c, oPe pe lc ls li lo dr p, oTi ti t, oMs dr da, aI G da 9 f, oRo rh w rp, aM G w 8 (krow q), oMs (q 0) (d 0), aI G (d 0) 9 (M 0), oMs (q 1) (d 1), aI G (d 1) 9 (M 1), oMs (q 2) (d 2), aI G (d 2) 9 (M 2), oMs (q 3) (d 3), aI G (d 3) 9 (M 3), oMs (q 4) (d 4), aI G (d 4) 9 (M 4), oMs (q 5) (d 5), aI G (d 5) 9 (M 5), oMs (q 6) (d 6), aI G (d 6) 9 (M 6), oMs (q 7) (d 7), aI G (d 7) 9 (M 7), oMs h2 a2, aI G a2 9 z]) H5) (hD5 : va_D A ([oCl h pe ti c, oPe pe lc ls li lo dr p, oTi ti t, oMs dr da, aI G da 9 f, oRo rh w rp, aM G w 8 (krow q), oMs (q 0) (d 0), aI G (d 0) 9 (M 0), oMs (q 1) (d 1), aI G (d 1) 9 (M 1), oMs (q 2) (d 2), aI G (d 2) 9 (M 2), oMs (q 3) (d 3), aI G (d 3) 9 (M 3), oMs (q 4) (d 4), aI G (d 4) 9 (M 4), oMs (q 5) (d 5), aI G (d 5) 9 (M 5), oMs (q 6) (d 6), aI G (d 6) 9 (M 6), oMs (q 7) (d 7), aI G (d 7) 9 (M 7), oMs h2 a2, aI G a2 9 z])) hS5 => ?_)
  clear hP2 hD2 hS2
  have w4_0 : r4 = khasG (p 1) r1 := hw4
  refine lv_if_eq (tgt := 38) hx hb dX0_receiveRetry_19 (by decide) (fun c6 => ?_) (fun c6 => ?_)
  · refine lv_aload_n hx hb dX0_receiveRetry_38 rfl (lv_at hl3 1 rfl) ?_
    refine kget F hK hP5 0 0 0 iX0 rfl rfl (by decide) (List.mem_of_getElem? (i := 1) rfl) rfl dX0_receiveRetry_39 ?_
    refine lv_iconst (v := 4) hx hb dX0_receiveRetry_42 (by decide) ?_
    refine kVv (wr := [oCl h pe ti c, oTi ti t, oMs dr da, aI G da 9 f, oRo rh w rp, aM G w 8 (krow q), oMs (q 0) (d 0), aI G (d 0) 9 (M 0), oMs (q 1) (d 1), aI G (d 1) 9 (M 1), oMs (q 2) (d 2), aI G (d 2) 9 (M 2), oMs (q 3) (d 3), aI G (d 3) 9 (M 3), oMs (q 4) (d 4), aI G (d 4) 9 (M 4), oMs (q 5) (d 5), aI G (d 5) 9 (M 5), oMs (q 6) (d 6), aI G (d 6) 9 (M 6), oMs (q 7) (d 7), aI G (d 7) 9 (M 7), oMs h2 a2, aI G a2 9 z]) F hK hP5 hD5 hS5 hA hl3.1 (c_X3_fail l G pe lc ls li lo dr p 4) [1] [0, 2, 3, 4, 5, 6, 7, 8, 9, 10, 11, 12, 13, 14, 15, 16, 17, 18, 19, 20, 21, 22, 23, 24] 3 0 gX0_receiveRetry_X3_fail rfl 1 rfl (by decide +kernel) ⟨Nat.le_of_ble_eq_true rfl, Nat.le_of_ble_eq_true rfl⟩ ⟨Nat.zero_le _, Nat.zero_le _⟩ rfl rfl rfl rfl (by decide) (by decide) (by decide) (Nat.le_of_ble_eq_true rfl) rfl dX0_receiveRetry_43 (fun p_7 H8 locs8 hw7 (hP8 : va_P G.1 vwCl ([oCl h pe ti c, oTi ti t, oMs dr da, aI G da 9 f, oRo rh w rp, aM G w 8 (krow q), oMs (q 0) (d 0), aI G (d 0) 9 (M 0), oMs (q 1) (d 1), aI G (d 1) 9 (M 1), oMs (q 2) (d 2), aI G (d 2) 9 (M 2), oMs (q 3) (d 3), aI G (d 3) 9 (M 3), oMs (q 4) (d 4), aI G (d 4) 9 (M 4), oMs (q 5) (d 5), aI G (d 5) 9 (M 5), oMs (q 6) (d 6), aI G (d 6) 9 (M 6), oMs (q 7) (d 7), aI G (d 7) 9 (M 7), oMs h2 a2, aI G a2 9 z, oPe pe lc ls li lo dr p_7]) H8) (hD8 : va_D A ([oCl h pe ti c, oTi ti t, oMs dr da, aI G da 9 f, oRo rh w rp, aM G w 8 (krow q), oMs (q 0) (d 0), aI G (d 0) 9 (M 0), oMs (q 1) (d 1), aI G (d 1) 9 (M 1), oMs (q 2) (d 2), aI G (d 2) 9 (M 2), oMs (q 3) (d 3), aI G (d 3) 9 (M 3), oMs (q 4) (d 4), aI G (d 4) 9 (M 4), oMs (q 5) (d 5), aI G (d 5) 9 (M 5), oMs (q 6) (d 6), aI G (d 6) 9 (M 6), oMs (q 7) (d 7), aI G (d 7) 9 (M 7), oMs h2 a2, aI G a2 9 z, oPe pe lc ls li lo dr p_7])) hS8 => ?_)
    clear hP5 hD5 hS5
    have w7_0 : p_7 = kfail p 4 := hw7
    have q9 : (c = (kretryR L c p t f rp M z now).1) ∧ (p_7 = (kretryR L c p t f rp M z now).2.1) ∧ (f = (kretryR L c p t f rp M z now).2.2.1) ∧ (rp = (kretryR L c p t f rp M z now).2.2.2.1) ∧ (M = (kretryR L c p t f rp M z now).2.2.2.2) := by
      subst w7_0
      subst w4_0
      subst w1_0
      first | (simp only [kretryR, c6, ↓reduceIte, and_self]; done) | (simp only [kretryR, c6, ↓reduceIte, and_self]; exact ⟨rfl, rfl, rfl, rfl, rfl⟩) | exact ⟨rfl, rfl, rfl, rfl, rfl⟩
    exact kRv F hr hlocks hS8 dX0_receiveRetry_46 ⟨c, p_7, f, rp, M⟩ q9 (hP8.sub [0, 24, 1, 2, 3, 4, 5, 6, 7, 8, 9, 10, 11, 12, 13, 14, 15, 16, 17, 18, 19, 20, 21, 22, 23] rfl) (hD8.sub [0, 24, 1, 2, 3, 4, 5, 6, 7, 8, 9, 10, 11, 12, 13, 14, 15, 16, 17, 18, 19, 20, 21, 22, 23] (by decide) rfl)
  · refine lv_iload hx hb dX0_receiveRetry_22 (lv_at hl3 0 rfl) ?_
    refine lv_aload_n hx hb dX0_receiveRetry_24 rfl (lv_at hl3 1 rfl) ?_
    refine kget F hK hP5 0 0 6 iX0 rfl rfl (by decide) (List.mem_of_getElem? (i := 3) rfl) rfl dX0_receiveRetry_25 ?_
    refine lv_icmp_eq (tgt := 38) hx hb dX0_receiveRetry_28 (by decide) (fun c10 => ?_) (fun c10 => ?_)
    · refine lv_aload_n hx hb dX0_receiveRetry_38 rfl (lv_at hl3 1 rfl) ?_
      refine kget F hK hP5 0 0 0 iX0 rfl rfl (by decide) (List.mem_of_getElem? (i := 1) rfl) rfl dX0_receiveRetry_39 ?_
      refine lv_iconst (v := 4) hx hb dX0_receiveRetry_42 (by decide) ?_
      refine kVv (wr := [oCl h pe ti c, oTi ti t, oMs dr da, aI G da 9 f, oRo rh w rp, aM G w 8 (krow q), oMs (q 0) (d 0), aI G (d 0) 9 (M 0), oMs (q 1) (d 1), aI G (d 1) 9 (M 1), oMs (q 2) (d 2), aI G (d 2) 9 (M 2), oMs (q 3) (d 3), aI G (d 3) 9 (M 3), oMs (q 4) (d 4), aI G (d 4) 9 (M 4), oMs (q 5) (d 5), aI G (d 5) 9 (M 5), oMs (q 6) (d 6), aI G (d 6) 9 (M 6), oMs (q 7) (d 7), aI G (d 7) 9 (M 7), oMs h2 a2, aI G a2 9 z]) F hK hP5 hD5 hS5 hA hl3.1 (c_X3_fail l G pe lc ls li lo dr p 4) [1] [0, 2, 3, 4, 5, 6, 7, 8, 9, 10, 11, 12, 13, 14, 15, 16, 17, 18, 19, 20, 21, 22, 23, 24] 3 0 gX0_receiveRetry_X3_fail rfl 1 rfl (by decide +kernel) ⟨Nat.le_of_ble_eq_true rfl, Nat.le_of_ble_eq_true rfl⟩ ⟨Nat.zero_le _, Nat.zero_le _⟩ rfl rfl rfl rfl (by decide) (by decide) (by decide) (Nat.le_of_ble_eq_true rfl) rfl dX0_receiveRetry_43 (fun p_11 H12 locs12 hw11 (hP12 : va_P G.1 vwCl ([oCl h pe ti c, oTi ti t, oMs dr da, aI G da 9 f, oRo rh w rp, aM G w 8 (krow q), oMs (q 0) (d 0), aI G (d 0) 9 (M 0), oMs (q 1) (d 1), aI G (d 1) 9 (M 1), oMs (q 2) (d 2), aI G (d 2) 9 (M 2), oMs (q 3) (d 3), aI G (d 3) 9 (M 3), oMs (q 4) (d 4), aI G (d 4) 9 (M 4), oMs (q 5) (d 5), aI G (d 5) 9 (M 5), oMs (q 6) (d 6), aI G (d 6) 9 (M 6), oMs (q 7) (d 7), aI G (d 7) 9 (M 7), oMs h2 a2, aI G a2 9 z, oPe pe lc ls li lo dr p_11]) H12) (hD12 : va_D A ([oCl h pe ti c, oTi ti t, oMs dr da, aI G da 9 f, oRo rh w rp, aM G w 8 (krow q), oMs (q 0) (d 0), aI G (d 0) 9 (M 0), oMs (q 1) (d 1), aI G (d 1) 9 (M 1), oMs (q 2) (d 2), aI G (d 2) 9 (M 2), oMs (q 3) (d 3), aI G (d 3) 9 (M 3), oMs (q 4) (d 4), aI G (d 4) 9 (M 4), oMs (q 5) (d 5), aI G (d 5) 9 (M 5), oMs (q 6) (d 6), aI G (d 6) 9 (M 6), oMs (q 7) (d 7), aI G (d 7) 9 (M 7), oMs h2 a2, aI G a2 9 z, oPe pe lc ls li lo dr p_11])) hS12 => ?_)
      clear hP5 hD5 hS5
      have w11_0 : p_11 = kfail p 4 := hw11
      have q13 : (c = (kretryR L c p t f rp M z now).1) ∧ (p_11 = (kretryR L c p t f rp M z now).2.1) ∧ (f = (kretryR L c p t f rp M z now).2.2.1) ∧ (rp = (kretryR L c p t f rp M z now).2.2.2.1) ∧ (M = (kretryR L c p t f rp M z now).2.2.2.2) := by
        subst w11_0
        subst w4_0
        subst w1_0
        first | (simp only [kretryR, c6, c10, ↓reduceIte, and_self]; done) | (simp only [kretryR, c6, c10, ↓reduceIte, and_self]; exact ⟨rfl, rfl, rfl, rfl, rfl⟩) | exact ⟨rfl, rfl, rfl, rfl, rfl⟩
      exact kRv F hr hlocks hS12 dX0_receiveRetry_46 ⟨c, p_11, f, rp, M⟩ q13 (hP12.sub [0, 24, 1, 2, 3, 4, 5, 6, 7, 8, 9, 10, 11, 12, 13, 14, 15, 16, 17, 18, 19, 20, 21, 22, 23] rfl) (hD12.sub [0, 24, 1, 2, 3, 4, 5, 6, 7, 8, 9, 10, 11, 12, 13, 14, 15, 16, 17, 18, 19, 20, 21, 22, 23] (by decide) rfl)
    · refine lv_aload_n hx hb dX0_receiveRetry_31 rfl (lv_at hl3 1 rfl) ?_
      refine kget F hK hP5 0 0 5 iX0 rfl rfl (by decide) (List.mem_of_getElem? (i := 4) rfl) rfl dX0_receiveRetry_32 ?_
      refine lv_if_eq (tgt := 47) hx hb dX0_receiveRetry_35 (by decide) (fun c14 => ?_) (fun c14 => ?_)
      · refine lv_aload_n hx hb dX0_receiveRetry_47 rfl (lv_at hl3 1 rfl) ?_
        refine lv_iconst (v := 1) hx hb dX0_receiveRetry_48 (by decide) ?_
        refine kput F hK hP5 hD5 hS5 (ty0 := tyX0) 0 0 5 iX0 rfl tyX0_ok nmX0 (fun z => [oCl h pe ti z, oPe pe lc ls li lo dr p, oTi ti t, oMs dr da, aI G da 9 f, oRo rh w rp, aM G w 8 (krow q), oMs (q 0) (d 0), aI G (d 0) 9 (M 0), oMs (q 1) (d 1), aI G (d 1) 9 (M 1), oMs (q 2) (d 2), aI G (d 2) 9 (M 2), oMs (q 3) (d 3), aI G (d 3) 9 (M 3), oMs (q 4) (d 4), aI G (d 4) 9 (M 4), oMs (q 5) (d 5), aI G (d 5) 9 (M 5), oMs (q 6) (d 6), aI G (d 6) 9 (M 6), oMs (q 7) (d 7), aI G (d 7) 9 (M 7), oMs h2 a2, aI G a2 9 z]) c rfl (by decide) (List.mem_of_getElem? (i := 4) rfl) rfl rfl rfl (Nat.le_of_ble_eq_true rfl) rfl dX0_receiveRetry_49 (fun H15 locs15 c15 ec15 (hP15 : va_P G.1 vwCl ([oCl h pe ti c15, oPe pe lc ls li lo dr p, oTi ti t, oMs dr da, aI G da 9 f, oRo rh w rp, aM G w 8 (krow q), oMs (q 0) (d 0), aI G (d 0) 9 (M 0), oMs (q 1) (d 1), aI G (d 1) 9 (M 1), oMs (q 2) (d 2), aI G (d 2) 9 (M 2), oMs (q 3) (d 3), aI G (d 3) 9 (M 3), oMs (q 4) (d 4), aI G (d 4) 9 (M 4), oMs (q 5) (d 5), aI G (d 5) 9 (M 5), oMs (q 6) (d 6), aI G (d 6) 9 (M 6), oMs (q 7) (d 7), aI G (d 7) 9 (M 7), oMs h2 a2, aI G a2 9 z]) H15) (hD15 : va_D A ([oCl h pe ti c15, oPe pe lc ls li lo dr p, oTi ti t, oMs dr da, aI G da 9 f, oRo rh w rp, aM G w 8 (krow q), oMs (q 0) (d 0), aI G (d 0) 9 (M 0), oMs (q 1) (d 1), aI G (d 1) 9 (M 1), oMs (q 2) (d 2), aI G (d 2) 9 (M 2), oMs (q 3) (d 3), aI G (d 3) 9 (M 3), oMs (q 4) (d 4), aI G (d 4) 9 (M 4), oMs (q 5) (d 5), aI G (d 5) 9 (M 5), oMs (q 6) (d 6), aI G (d 6) 9 (M 6), oMs (q 7) (d 7), aI G (d 7) 9 (M 7), oMs h2 a2, aI G a2 9 z])) hS15 => ?_)
        clear hP5 hD5 hS5
        refine lv_aload_n hx hb dX0_receiveRetry_52 rfl (lv_at hl3 1 rfl) ?_
        refine kget F hK hP15 0 0 0 iX0 rfl rfl (by decide) (List.mem_of_getElem? (i := 1) rfl) rfl dX0_receiveRetry_53 ?_
        refine lv_aload_n hx hb dX0_receiveRetry_56 rfl (lv_at hl3 2 rfl) ?_
        refine kVv (wr := [oCl h pe ti c15, oTi ti t, oMs dr da, aI G da 9 f, oRo rh w rp, aM G w 8 (krow q), oMs (q 0) (d 0), aI G (d 0) 9 (M 0), oMs (q 1) (d 1), aI G (d 1) 9 (M 1), oMs (q 2) (d 2), aI G (d 2) 9 (M 2), oMs (q 3) (d 3), aI G (d 3) 9 (M 3), oMs (q 4) (d 4), aI G (d 4) 9 (M 4), oMs (q 5) (d 5), aI G (d 5) 9 (M 5), oMs (q 6) (d 6), aI G (d 6) 9 (M 6), oMs (q 7) (d 7), aI G (d 7) 9 (M 7)]) F hK hP15 hD15 hS15 hA hl3.1 (c_X3_takeIn l G pe lc ls li lo dr p h2 a2 z) [1, 23, 24] [0, 2, 3, 4, 5, 6, 7, 8, 9, 10, 11, 12, 13, 14, 15, 16, 17, 18, 19, 20, 21, 22] 3 0 gX0_receiveRetry_X3_takeIn rfl 1 rfl (by decide +kernel) ⟨Nat.le_of_ble_eq_true rfl, Nat.le_of_ble_eq_true rfl⟩ ⟨Nat.zero_le _, Nat.zero_le _⟩ rfl rfl rfl rfl (by decide) (by decide) (by decide) (Nat.le_of_ble_eq_true rfl) rfl dX0_receiveRetry_57 (fun p_16 H17 locs17 hw16 (hP17 : va_P G.1 vwCl ([oCl h pe ti c15, oTi ti t, oMs dr da, aI G da 9 f, oRo rh w rp, aM G w 8 (krow q), oMs (q 0) (d 0), aI G (d 0) 9 (M 0), oMs (q 1) (d 1), aI G (d 1) 9 (M 1), oMs (q 2) (d 2), aI G (d 2) 9 (M 2), oMs (q 3) (d 3), aI G (d 3) 9 (M 3), oMs (q 4) (d 4), aI G (d 4) 9 (M 4), oMs (q 5) (d 5), aI G (d 5) 9 (M 5), oMs (q 6) (d 6), aI G (d 6) 9 (M 6), oMs (q 7) (d 7), aI G (d 7) 9 (M 7), oPe pe lc ls li lo dr p_16, oMs h2 a2, aI G a2 9 z]) H17) (hD17 : va_D A ([oCl h pe ti c15, oTi ti t, oMs dr da, aI G da 9 f, oRo rh w rp, aM G w 8 (krow q), oMs (q 0) (d 0), aI G (d 0) 9 (M 0), oMs (q 1) (d 1), aI G (d 1) 9 (M 1), oMs (q 2) (d 2), aI G (d 2) 9 (M 2), oMs (q 3) (d 3), aI G (d 3) 9 (M 3), oMs (q 4) (d 4), aI G (d 4) 9 (M 4), oMs (q 5) (d 5), aI G (d 5) 9 (M 5), oMs (q 6) (d 6), aI G (d 6) 9 (M 6), oMs (q 7) (d 7), aI G (d 7) 9 (M 7), oPe pe lc ls li lo dr p_16, oMs h2 a2, aI G a2 9 z])) hS17 => ?_)
        clear hP15 hD15 hS15
        have w16_0 : p_16 = ktake p z := hw16
        refine lv_aload_n hx hb dX0_receiveRetry_60 rfl (lv_at hl3 1 rfl) ?_
        refine lv_iload hx hb dX0_receiveRetry_61 (lv_at hl3 0 rfl) ?_
        refine lv_iload_n hx hb dX0_receiveRetry_63 rfl (lv_at hl3 3 rfl) ?_
        refine lv_aload_n hx hb dX0_receiveRetry_64 rfl (lv_at hl3 4 rfl) ?_
        refine kVv (wr := [oMs h2 a2, aI G a2 9 z]) F hK hP17 hD17 hS17 hA hl3.1 (c_X0_ask l G h pe ti lc ls li lo dr da c15 p_16 t f rh w q d rp M L r1 now hL hL8 (by subst w16_0; subst ec15; subst w4_0; subst w1_0; exact hb)) [0, 22, 1, 2, 3, 4, 5, 6, 7, 8, 9, 10, 11, 12, 13, 14, 15, 16, 17, 18, 19, 20, 21] [23, 24] 0 0 gX0_receiveRetry_X0_ask rfl 3 rfl (by decide +kernel) ⟨Nat.le_of_ble_eq_true rfl, Nat.le_of_ble_eq_true rfl⟩ ⟨Nat.zero_le _, Nat.zero_le _⟩ rfl rfl rfl rfl (by decide) (by decide) (by decide) (Nat.le_of_ble_eq_true rfl) rfl dX0_receiveRetry_65 (fun u18 H19 locs19 hw18 hP19 hD19 hS19 => ?_)
        obtain ⟨c_18, p_18, f_18, rp_18, M_18⟩ := u18
        have hP19 : va_P G.1 vwCl ([oMs h2 a2, aI G a2 9 z, oCl h pe ti c_18, oPe pe lc ls li lo dr p_18, oTi ti t, oMs dr da, aI G da 9 f_18, oRo rh w rp_18, aM G w 8 (krow q), oMs (q 0) (d 0), aI G (d 0) 9 (M_18 0), oMs (q 1) (d 1), aI G (d 1) 9 (M_18 1), oMs (q 2) (d 2), aI G (d 2) 9 (M_18 2), oMs (q 3) (d 3), aI G (d 3) 9 (M_18 3), oMs (q 4) (d 4), aI G (d 4) 9 (M_18 4), oMs (q 5) (d 5), aI G (d 5) 9 (M_18 5), oMs (q 6) (d 6), aI G (d 6) 9 (M_18 6), oMs (q 7) (d 7), aI G (d 7) 9 (M_18 7)]) H19 := hP19
        have hD19 : va_D A ([oMs h2 a2, aI G a2 9 z, oCl h pe ti c_18, oPe pe lc ls li lo dr p_18, oTi ti t, oMs dr da, aI G da 9 f_18, oRo rh w rp_18, aM G w 8 (krow q), oMs (q 0) (d 0), aI G (d 0) 9 (M_18 0), oMs (q 1) (d 1), aI G (d 1) 9 (M_18 1), oMs (q 2) (d 2), aI G (d 2) 9 (M_18 2), oMs (q 3) (d 3), aI G (d 3) 9 (M_18 3), oMs (q 4) (d 4), aI G (d 4) 9 (M_18 4), oMs (q 5) (d 5), aI G (d 5) 9 (M_18 5), oMs (q 6) (d 6), aI G (d 6) 9 (M_18 6), oMs (q 7) (d 7), aI G (d 7) 9 (M_18 7)]) := hD19
        clear hP17 hD17 hS17
        have w18_0 : c_18 = (kaskR L c15 p_16 t f rp M r1 now).1 := hw18.1
        have w18_1 : p_18 = (kaskR L c15 p_16 t f rp M r1 now).2.1 := hw18.2.1
        have w18_2 : f_18 = (kaskR L c15 p_16 t f rp M r1 now).2.2.1 := hw18.2.2.1
        have w18_3 : rp_18 = (kaskR L c15 p_16 t f rp M r1 now).2.2.2.1 := hw18.2.2.2.1
        have w18_4 : M_18 = (kaskR L c15 p_16 t f rp M r1 now).2.2.2.2 := hw18.2.2.2.2
        have q20 : (c_18 = (kretryR L c p t f rp M z now).1) ∧ (p_18 = (kretryR L c p t f rp M z now).2.1) ∧ (f_18 = (kretryR L c p t f rp M z now).2.2.1) ∧ (rp_18 = (kretryR L c p t f rp M z now).2.2.2.1) ∧ (M_18 = (kretryR L c p t f rp M z now).2.2.2.2) := by
          subst w18_4
          subst w18_3
          subst w18_2
          subst w18_1
          subst w18_0
          subst w16_0
          subst ec15
          subst w4_0
          subst w1_0
          first | (simp only [kretryR, c6, c10, c14, ↓reduceIte, and_self]; done) | (simp only [kretryR, c6, c10, c14, ↓reduceIte, and_self]; exact ⟨rfl, rfl, rfl, rfl, rfl⟩) | exact ⟨rfl, rfl, rfl, rfl, rfl⟩
        exact kRv F hr hlocks hS19 dX0_receiveRetry_68 ⟨c_18, p_18, f_18, rp_18, M_18⟩ q20 (hP19.sub [2, 3, 4, 5, 6, 7, 8, 9, 10, 11, 12, 13, 14, 15, 16, 17, 18, 19, 20, 21, 22, 23, 24, 0, 1] rfl) (hD19.sub [2, 3, 4, 5, 6, 7, 8, 9, 10, 11, 12, 13, 14, 15, 16, 17, 18, 19, 20, 21, 22, 23, 24, 0, 1] (by decide) rfl)
      · refine lv_aload_n hx hb dX0_receiveRetry_38 rfl (lv_at hl3 1 rfl) ?_
        refine kget F hK hP5 0 0 0 iX0 rfl rfl (by decide) (List.mem_of_getElem? (i := 1) rfl) rfl dX0_receiveRetry_39 ?_
        refine lv_iconst (v := 4) hx hb dX0_receiveRetry_42 (by decide) ?_
        refine kVv (wr := [oCl h pe ti c, oTi ti t, oMs dr da, aI G da 9 f, oRo rh w rp, aM G w 8 (krow q), oMs (q 0) (d 0), aI G (d 0) 9 (M 0), oMs (q 1) (d 1), aI G (d 1) 9 (M 1), oMs (q 2) (d 2), aI G (d 2) 9 (M 2), oMs (q 3) (d 3), aI G (d 3) 9 (M 3), oMs (q 4) (d 4), aI G (d 4) 9 (M 4), oMs (q 5) (d 5), aI G (d 5) 9 (M 5), oMs (q 6) (d 6), aI G (d 6) 9 (M 6), oMs (q 7) (d 7), aI G (d 7) 9 (M 7), oMs h2 a2, aI G a2 9 z]) F hK hP5 hD5 hS5 hA hl3.1 (c_X3_fail l G pe lc ls li lo dr p 4) [1] [0, 2, 3, 4, 5, 6, 7, 8, 9, 10, 11, 12, 13, 14, 15, 16, 17, 18, 19, 20, 21, 22, 23, 24] 3 0 gX0_receiveRetry_X3_fail rfl 1 rfl (by decide +kernel) ⟨Nat.le_of_ble_eq_true rfl, Nat.le_of_ble_eq_true rfl⟩ ⟨Nat.zero_le _, Nat.zero_le _⟩ rfl rfl rfl rfl (by decide) (by decide) (by decide) (Nat.le_of_ble_eq_true rfl) rfl dX0_receiveRetry_43 (fun p_21 H22 locs22 hw21 (hP22 : va_P G.1 vwCl ([oCl h pe ti c, oTi ti t, oMs dr da, aI G da 9 f, oRo rh w rp, aM G w 8 (krow q), oMs (q 0) (d 0), aI G (d 0) 9 (M 0), oMs (q 1) (d 1), aI G (d 1) 9 (M 1), oMs (q 2) (d 2), aI G (d 2) 9 (M 2), oMs (q 3) (d 3), aI G (d 3) 9 (M 3), oMs (q 4) (d 4), aI G (d 4) 9 (M 4), oMs (q 5) (d 5), aI G (d 5) 9 (M 5), oMs (q 6) (d 6), aI G (d 6) 9 (M 6), oMs (q 7) (d 7), aI G (d 7) 9 (M 7), oMs h2 a2, aI G a2 9 z, oPe pe lc ls li lo dr p_21]) H22) (hD22 : va_D A ([oCl h pe ti c, oTi ti t, oMs dr da, aI G da 9 f, oRo rh w rp, aM G w 8 (krow q), oMs (q 0) (d 0), aI G (d 0) 9 (M 0), oMs (q 1) (d 1), aI G (d 1) 9 (M 1), oMs (q 2) (d 2), aI G (d 2) 9 (M 2), oMs (q 3) (d 3), aI G (d 3) 9 (M 3), oMs (q 4) (d 4), aI G (d 4) 9 (M 4), oMs (q 5) (d 5), aI G (d 5) 9 (M 5), oMs (q 6) (d 6), aI G (d 6) 9 (M 6), oMs (q 7) (d 7), aI G (d 7) 9 (M 7), oMs h2 a2, aI G a2 9 z, oPe pe lc ls li lo dr p_21])) hS22 => ?_)
        clear hP5 hD5 hS5
        have w21_0 : p_21 = kfail p 4 := hw21
        have q23 : (c = (kretryR L c p t f rp M z now).1) ∧ (p_21 = (kretryR L c p t f rp M z now).2.1) ∧ (f = (kretryR L c p t f rp M z now).2.2.1) ∧ (rp = (kretryR L c p t f rp M z now).2.2.2.1) ∧ (M = (kretryR L c p t f rp M z now).2.2.2.2) := by
          subst w21_0
          subst w4_0
          subst w1_0
          first | (simp only [kretryR, c6, c10, c14, ↓reduceIte, and_self]; done) | (simp only [kretryR, c6, c10, c14, ↓reduceIte, and_self]; exact ⟨rfl, rfl, rfl, rfl, rfl⟩) | exact ⟨rfl, rfl, rfl, rfl, rfl⟩
        exact kRv F hr hlocks hS22 dX0_receiveRetry_46 ⟨c, p_21, f, rp, M⟩ q23 (hP22.sub [0, 24, 1, 2, 3, 4, 5, 6, 7, 8, 9, 10, 11, 12, 13, 14, 15, 16, 17, 18, 19, 20, 21, 22, 23] rfl) (hD22.sub [0, 24, 1, 2, 3, 4, 5, 6, 7, 8, 9, 10, 11, 12, 13, 14, 15, 16, 17, 18, 19, 20, 21, 22, 23] (by decide) rfl)
set_option maxHeartbeats 4000000 in
set_option maxRecDepth 100000 in
theorem c_X0_wrongIn (l : Launch) (G : kG) (h : Nat) (pe : Nat) (ti : Nat) (lc : Nat) (ls : Nat) (li : Nat) (lo : Nat) (dr : Nat) (c : Nat → Int32) (p : Nat → Int32) (h2 : Nat) (a2 : Nat) (z : Nat → Int32) : kM G l yX0_wrongIn wsX0_wrongIn ({ frames := 2, cells := 0, slots := 0, locals := 41 }) [.ref h, .ref h2] ([oCl h pe ti c, oPe pe lc ls li lo dr p, oMs h2 a2, aI G a2 9 z]) (kQi G (fun (rr : Int32) (uu : Unit) => rr = kwrongC p c z) (fun (uu : Unit) => [oCl h pe ti c, oPe pe lc ls li lo dr p, oMs h2 a2, aI G a2 9 z])) := by
  refine kStart (cc := cX0_wrongIn) (maxL := 3) (ret := (some .int)) (by decide) rfl (Nat.le_of_ble_eq_true rfl) (fun pg ev st mi bl mt cd A ls0 F hr hlocks hin hK hP0 hD0 hA hS0 hl0 => ?_)
  obtain ⟨hx, hb, hml, hown, hts⟩ := id F
  have hl0 : lv_has ls0 3 [(0, .ref h), (1, .ref h2)] := hl0
  have iX0 : ∀ w ∈ u_ws RX0 TX0 9, w ∈ wsX0_wrongIn := fun w h => List.mem_cons_of_mem _ (List.mem_append_left _ (List.mem_append_left _ (List.mem_append_right _ h)))
  have iX3 : ∀ w ∈ u_ws RX3 TX3 18, w ∈ wsX0_wrongIn := fun w h => List.mem_cons_of_mem _ (List.mem_append_left _ (List.mem_append_right _ h))
  refine lv_aload_n hx hb dX0_wrongIn_0 rfl (lv_at hl0 1 rfl) ?_
  refine lv_iconst (v := 1) hx hb dX0_wrongIn_1 (by decide) ?_
  refine kVi (wr := [oCl h pe ti c, oPe pe lc ls li lo dr p]) F hK hP0 hD0 hS0 hA hl0.1 (c_X2_at l G h2 a2 z 1 (by first | assumption | decide | omega)) [2, 3] [0, 1] 2 0 gX0_wrongIn_X2_at rfl 1 rfl (by decide +kernel) ⟨Nat.le_of_ble_eq_true rfl, Nat.le_of_ble_eq_true rfl⟩ ⟨Nat.zero_le _, Nat.zero_le _⟩ rfl rfl rfl rfl (by decide) (by decide) (by decide) (Nat.le_of_ble_eq_true rfl) rfl dX0_wrongIn_2 (fun r1 u1 H2 locs2 hw1 (hP2 : va_P G.1 vwCl ([oCl h pe ti c, oPe pe lc ls li lo dr p, oMs h2 a2, aI G a2 9 z]) H2) (hD2 : va_D A ([oCl h pe ti c, oPe pe lc ls li lo dr p, oMs h2 a2, aI G a2 9 z])) hS2 => ?_)
  clear hP0 hD0 hS0
  have w1_0 : r1 = z 1 := hw1
  refine lv_istore_n (lv' := [(2, .int r1), (0, .ref h), (1, .ref h2)]) hx hb dX0_wrongIn_5 rfl hl0 (by decide) rfl (fun ls3 hl3 => ?_)
  clear hl0
  refine lv_aload_n hx hb dX0_wrongIn_6 rfl (lv_at hl3 1 rfl) ?_
  refine kget F hK hP2 0 0 0 iX0 rfl rfl (by decide) (List.mem_of_getElem? (i := 1) rfl) rfl dX0_wrongIn_7 ?_
  refine kget F hK hP2 3 1 0 iX3 rfl rfl (by decide) (List.mem_of_getElem? (i := 2) rfl) rfl dX0_wrongIn_10 ?_
  refine lv_iload_n hx hb dX0_wrongIn_13 rfl (lv_at hl3 0 rfl) ?_
  refine kPNi F hK hP2 hD2 hS2 hA hl3.1 (c_X8_hasVersion l G (p 0) r1) (fun _ => rfl) 11 rfl gX0_wrongIn_X8_hasVersion_n166 (List.mem_of_getElem? (i := 14) rfl) (List.mem_of_getElem? (i := 15) rfl) rfl 2 rfl (by decide +kernel) ⟨Nat.le_of_ble_eq_true rfl, Nat.le_of_ble_eq_true rfl⟩ ⟨Nat.zero_le _, Nat.zero_le _⟩ (Nat.le_of_ble_eq_true rfl) rfl dX0_wrongIn_14 (fun r4 u4 H5 locs5 hw4 (hP5 : va_P G.1 vwCl ([oCl h pe ti c, oPe pe lc ls li lo dr p, oMs h2 a2, aI G a2 9 z]) H5) (hD5 : va_D A ([oCl h pe ti c, oPe pe lc ls li lo dr p, oMs h2 a2, aI G a2 9 z])) hS5 => ?_)
  clear hP2 hD2 hS2
  have w4_0 : r4 = khasV (p 0) r1 := hw4
  refine lv_if_ne (tgt := 22) hx hb dX0_wrongIn_17 (by decide) (fun c6 => ?_) (fun c6 => ?_)
  · refine lv_aload_n hx hb dX0_wrongIn_22 rfl (lv_at hl3 2 rfl) ?_
    refine lv_iconst (v := 2) hx hb dX0_wrongIn_23 (by decide) ?_
    refine kVi (wr := [oCl h pe ti c, oPe pe lc ls li lo dr p]) F hK hP5 hD5 hS5 hA hl3.1 (c_X2_at l G h2 a2 z 2 (by first | assumption | decide | omega)) [2, 3] [0, 1] 2 0 gX0_wrongIn_X2_at rfl 1 rfl (by decide +kernel) ⟨Nat.le_of_ble_eq_true rfl, Nat.le_of_ble_eq_true rfl⟩ ⟨Nat.zero_le _, Nat.zero_le _⟩ rfl rfl rfl rfl (by decide) (by decide) (by decide) (Nat.le_of_ble_eq_true rfl) rfl dX0_wrongIn_24 (fun r7 u7 H8 locs8 hw7 (hP8 : va_P G.1 vwCl ([oCl h pe ti c, oPe pe lc ls li lo dr p, oMs h2 a2, aI G a2 9 z]) H8) (hD8 : va_D A ([oCl h pe ti c, oPe pe lc ls li lo dr p, oMs h2 a2, aI G a2 9 z])) hS8 => ?_)
    clear hP5 hD5 hS5
    have w7_0 : r7 = z 2 := hw7
    refine lv_aload_n hx hb dX0_wrongIn_27 rfl (lv_at hl3 1 rfl) ?_
    refine kget F hK hP8 0 0 6 iX0 rfl rfl (by decide) (List.mem_of_getElem? (i := 3) rfl) rfl dX0_wrongIn_28 ?_
    refine lv_icmp_eq (tgt := 36) hx hb dX0_wrongIn_31 (by decide) (fun c9 => ?_) (fun c9 => ?_)
    · refine lv_aload_n hx hb dX0_wrongIn_36 rfl (lv_at hl3 2 rfl) ?_
      refine lv_iconst (v := 4) hx hb dX0_wrongIn_37 (by decide) ?_
      refine kVi (wr := [oCl h pe ti c, oPe pe lc ls li lo dr p]) F hK hP8 hD8 hS8 hA hl3.1 (c_X2_at l G h2 a2 z 4 (by first | assumption | decide | omega)) [2, 3] [0, 1] 2 0 gX0_wrongIn_X2_at rfl 1 rfl (by decide +kernel) ⟨Nat.le_of_ble_eq_true rfl, Nat.le_of_ble_eq_true rfl⟩ ⟨Nat.zero_le _, Nat.zero_le _⟩ rfl rfl rfl rfl (by decide) (by decide) (by decide) (Nat.le_of_ble_eq_true rfl) rfl dX0_wrongIn_38 (fun r10 u10 H11 locs11 hw10 (hP11 : va_P G.1 vwCl ([oCl h pe ti c, oPe pe lc ls li lo dr p, oMs h2 a2, aI G a2 9 z]) H11) (hD11 : va_D A ([oCl h pe ti c, oPe pe lc ls li lo dr p, oMs h2 a2, aI G a2 9 z])) hS11 => ?_)
      clear hP8 hD8 hS8
      have w10_0 : r10 = z 4 := hw10
      refine lv_if_eq (tgt := 61) hx hb dX0_wrongIn_41 (by decide) (fun c12 => ?_) (fun c12 => ?_)
      · refine lv_aload_n hx hb dX0_wrongIn_61 rfl (lv_at hl3 2 rfl) ?_
        refine lv_iconst (v := 3) hx hb dX0_wrongIn_62 (by decide) ?_
        refine kVi (wr := [oCl h pe ti c, oPe pe lc ls li lo dr p]) F hK hP11 hD11 hS11 hA hl3.1 (c_X2_at l G h2 a2 z 3 (by first | assumption | decide | omega)) [2, 3] [0, 1] 2 0 gX0_wrongIn_X2_at rfl 1 rfl (by decide +kernel) ⟨Nat.le_of_ble_eq_true rfl, Nat.le_of_ble_eq_true rfl⟩ ⟨Nat.zero_le _, Nat.zero_le _⟩ rfl rfl rfl rfl (by decide) (by decide) (by decide) (Nat.le_of_ble_eq_true rfl) rfl dX0_wrongIn_63 (fun r13 u13 H14 locs14 hw13 (hP14 : va_P G.1 vwCl ([oCl h pe ti c, oPe pe lc ls li lo dr p, oMs h2 a2, aI G a2 9 z]) H14) (hD14 : va_D A ([oCl h pe ti c, oPe pe lc ls li lo dr p, oMs h2 a2, aI G a2 9 z])) hS14 => ?_)
        clear hP11 hD11 hS11
        have w13_0 : r13 = z 3 := hw13
        refine lv_aload_n hx hb dX0_wrongIn_66 rfl (lv_at hl3 1 rfl) ?_
        refine kget F hK hP14 0 0 6 iX0 rfl rfl (by decide) (List.mem_of_getElem? (i := 3) rfl) rfl dX0_wrongIn_67 ?_
        refine kPNi F hK hP14 hD14 hS14 hA hl3.1 (c_X8_isShare l G r13 (c 6)) (fun _ => rfl) 13 rfl gX0_wrongIn_X8_isShare_n172 (List.mem_of_getElem? (i := 19) rfl) (List.mem_of_getElem? (i := 15) rfl) rfl 2 rfl (by decide +kernel) ⟨Nat.le_of_ble_eq_true rfl, Nat.le_of_ble_eq_true rfl⟩ ⟨Nat.zero_le _, Nat.zero_le _⟩ (Nat.le_of_ble_eq_true rfl) rfl dX0_wrongIn_70 (fun r15 u15 H16 locs16 hw15 (hP16 : va_P G.1 vwCl ([oCl h pe ti c, oPe pe lc ls li lo dr p, oMs h2 a2, aI G a2 9 z]) H16) (hD16 : va_D A ([oCl h pe ti c, oPe pe lc ls li lo dr p, oMs h2 a2, aI G a2 9 z])) hS16 => ?_)
        clear hP14 hD14 hS14
        have w15_0 : r15 = kisShare r13 (c 6) := hw15
        refine lv_if_ne (tgt := 78) hx hb dX0_wrongIn_73 (by decide) (fun c17 => ?_) (fun c17 => ?_)
        · refine lv_aload_n hx hb dX0_wrongIn_78 rfl (lv_at hl3 2 rfl) ?_
          refine lv_iconst (v := 5) hx hb dX0_wrongIn_79 (by decide) ?_
          refine kVi (wr := [oCl h pe ti c, oPe pe lc ls li lo dr p]) F hK hP16 hD16 hS16 hA hl3.1 (c_X2_at l G h2 a2 z 5 (by first | assumption | decide | omega)) [2, 3] [0, 1] 2 0 gX0_wrongIn_X2_at rfl 1 rfl (by decide +kernel) ⟨Nat.le_of_ble_eq_true rfl, Nat.le_of_ble_eq_true rfl⟩ ⟨Nat.zero_le _, Nat.zero_le _⟩ rfl rfl rfl rfl (by decide) (by decide) (by decide) (Nat.le_of_ble_eq_true rfl) rfl dX0_wrongIn_80 (fun r18 u18 H19 locs19 hw18 (hP19 : va_P G.1 vwCl ([oCl h pe ti c, oPe pe lc ls li lo dr p, oMs h2 a2, aI G a2 9 z]) H19) (hD19 : va_D A ([oCl h pe ti c, oPe pe lc ls li lo dr p, oMs h2 a2, aI G a2 9 z])) hS19 => ?_)
          clear hP16 hD16 hS16
          have w18_0 : r18 = z 5 := hw18
          refine lv_if_eq (tgt := 98) hx hb dX0_wrongIn_83 (by decide) (fun c20 => ?_) (fun c20 => ?_)
          · refine lv_iconst (v := 0) hx hb dX0_wrongIn_98 (by decide) ?_
            have q21 : 0 = kwrongC p c z := by
              subst w18_0
              subst w15_0
              subst w13_0
              subst w10_0
              subst w7_0
              subst w4_0
              subst w1_0
              first | (simp only [kwrongC, c6, c9, c12, c17, c20, ↓reduceIte, and_self]; done) | (simp only [kwrongC, c6, c9, c12, c17, c20, ↓reduceIte, and_self]; exact rfl) | exact rfl
            exact kRi F hr hlocks hS19 dX0_wrongIn_99 () q21 hP19 hD19
          · refine lv_aload_n hx hb dX0_wrongIn_86 rfl (lv_at hl3 1 rfl) ?_
            refine kget F hK hP19 0 0 7 iX0 rfl rfl (by decide) (List.mem_of_getElem? (i := 4) rfl) rfl dX0_wrongIn_87 ?_
            refine lv_if_ne (tgt := 98) hx hb dX0_wrongIn_90 (by decide) (fun c22 => ?_) (fun c22 => ?_)
            · refine lv_iconst (v := 0) hx hb dX0_wrongIn_98 (by decide) ?_
              have q23 : 0 = kwrongC p c z := by
                subst w18_0
                subst w15_0
                subst w13_0
                subst w10_0
                subst w7_0
                subst w4_0
                subst w1_0
                first | (simp only [kwrongC, c6, c9, c12, c17, c20, c22, ↓reduceIte, and_self]; done) | (simp only [kwrongC, c6, c9, c12, c17, c20, c22, ↓reduceIte, and_self]; exact rfl) | exact rfl
              exact kRi F hr hlocks hS19 dX0_wrongIn_99 () q23 hP19 hD19
            · refine lv_bipush (v := 6) hx hb dX0_wrongIn_93 (by decide) ?_
              refine lv_goto (tgt := 99) hx hb dX0_wrongIn_95 (by decide) ?_
              have q24 : 6 = kwrongC p c z := by
                subst w18_0
                subst w15_0
                subst w13_0
                subst w10_0
                subst w7_0
                subst w4_0
                subst w1_0
                first | (simp only [kwrongC, c6, c9, c12, c17, c20, c22, ↓reduceIte, and_self]; done) | (simp only [kwrongC, c6, c9, c12, c17, c20, c22, ↓reduceIte, and_self]; exact rfl) | exact rfl
              exact kRi F hr hlocks hS19 dX0_wrongIn_99 () q24 hP19 hD19
        · refine lv_iconst (v := 5) hx hb dX0_wrongIn_76 (by decide) ?_
          have q25 : 5 = kwrongC p c z := by
            subst w15_0
            subst w13_0
            subst w10_0
            subst w7_0
            subst w4_0
            subst w1_0
            first | (simp only [kwrongC, c6, c9, c12, c17, ↓reduceIte, and_self]; done) | (simp only [kwrongC, c6, c9, c12, c17, ↓reduceIte, and_self]; exact rfl) | exact rfl
          exact kRi F hr hlocks hS16 dX0_wrongIn_77 () q25 hP16 hD16
      · refine lv_aload_n hx hb dX0_wrongIn_44 rfl (lv_at hl3 1 rfl) ?_
        refine kget F hK hP11 0 0 0 iX0 rfl rfl (by decide) (List.mem_of_getElem? (i := 1) rfl) rfl dX0_wrongIn_45 ?_
        refine kget F hK hP11 3 1 0 iX3 rfl rfl (by decide) (List.mem_of_getElem? (i := 2) rfl) rfl dX0_wrongIn_48 ?_
        refine lv_iload_n hx hb dX0_wrongIn_51 rfl (lv_at hl3 0 rfl) ?_
        refine kPNi F hK hP11 hD11 hS11 hA hl3.1 (c_X8_hasVersionAbove l G (p 0) r1) (fun _ => rfl) 12 rfl gX0_wrongIn_X8_hasVersionAbove_n169 (List.mem_of_getElem? (i := 17) rfl) (List.mem_of_getElem? (i := 15) rfl) rfl 2 rfl (by decide +kernel) ⟨Nat.le_of_ble_eq_true rfl, Nat.le_of_ble_eq_true rfl⟩ ⟨Nat.zero_le _, Nat.zero_le _⟩ (Nat.le_of_ble_eq_true rfl) rfl dX0_wrongIn_52 (fun r26 u26 H27 locs27 hw26 (hP27 : va_P G.1 vwCl ([oCl h pe ti c, oPe pe lc ls li lo dr p, oMs h2 a2, aI G a2 9 z]) H27) (hD27 : va_D A ([oCl h pe ti c, oPe pe lc ls li lo dr p, oMs h2 a2, aI G a2 9 z])) hS27 => ?_)
        clear hP11 hD11 hS11
        have w26_0 : r26 = khasA (p 0) r1 := hw26
        refine lv_if_eq (tgt := 61) hx hb dX0_wrongIn_55 (by decide) (fun c28 => ?_) (fun c28 => ?_)
        · refine lv_aload_n hx hb dX0_wrongIn_61 rfl (lv_at hl3 2 rfl) ?_
          refine lv_iconst (v := 3) hx hb dX0_wrongIn_62 (by decide) ?_
          refine kVi (wr := [oCl h pe ti c, oPe pe lc ls li lo dr p]) F hK hP27 hD27 hS27 hA hl3.1 (c_X2_at l G h2 a2 z 3 (by first | assumption | decide | omega)) [2, 3] [0, 1] 2 0 gX0_wrongIn_X2_at rfl 1 rfl (by decide +kernel) ⟨Nat.le_of_ble_eq_true rfl, Nat.le_of_ble_eq_true rfl⟩ ⟨Nat.zero_le _, Nat.zero_le _⟩ rfl rfl rfl rfl (by decide) (by decide) (by decide) (Nat.le_of_ble_eq_true rfl) rfl dX0_wrongIn_63 (fun r29 u29 H30 locs30 hw29 (hP30 : va_P G.1 vwCl ([oCl h pe ti c, oPe pe lc ls li lo dr p, oMs h2 a2, aI G a2 9 z]) H30) (hD30 : va_D A ([oCl h pe ti c, oPe pe lc ls li lo dr p, oMs h2 a2, aI G a2 9 z])) hS30 => ?_)
          clear hP27 hD27 hS27
          have w29_0 : r29 = z 3 := hw29
          refine lv_aload_n hx hb dX0_wrongIn_66 rfl (lv_at hl3 1 rfl) ?_
          refine kget F hK hP30 0 0 6 iX0 rfl rfl (by decide) (List.mem_of_getElem? (i := 3) rfl) rfl dX0_wrongIn_67 ?_
          refine kPNi F hK hP30 hD30 hS30 hA hl3.1 (c_X8_isShare l G r29 (c 6)) (fun _ => rfl) 13 rfl gX0_wrongIn_X8_isShare_n172 (List.mem_of_getElem? (i := 19) rfl) (List.mem_of_getElem? (i := 15) rfl) rfl 2 rfl (by decide +kernel) ⟨Nat.le_of_ble_eq_true rfl, Nat.le_of_ble_eq_true rfl⟩ ⟨Nat.zero_le _, Nat.zero_le _⟩ (Nat.le_of_ble_eq_true rfl) rfl dX0_wrongIn_70 (fun r31 u31 H32 locs32 hw31 (hP32 : va_P G.1 vwCl ([oCl h pe ti c, oPe pe lc ls li lo dr p, oMs h2 a2, aI G a2 9 z]) H32) (hD32 : va_D A ([oCl h pe ti c, oPe pe lc ls li lo dr p, oMs h2 a2, aI G a2 9 z])) hS32 => ?_)
          clear hP30 hD30 hS30
          have w31_0 : r31 = kisShare r29 (c 6) := hw31
          refine lv_if_ne (tgt := 78) hx hb dX0_wrongIn_73 (by decide) (fun c33 => ?_) (fun c33 => ?_)
          · refine lv_aload_n hx hb dX0_wrongIn_78 rfl (lv_at hl3 2 rfl) ?_
            refine lv_iconst (v := 5) hx hb dX0_wrongIn_79 (by decide) ?_
            refine kVi (wr := [oCl h pe ti c, oPe pe lc ls li lo dr p]) F hK hP32 hD32 hS32 hA hl3.1 (c_X2_at l G h2 a2 z 5 (by first | assumption | decide | omega)) [2, 3] [0, 1] 2 0 gX0_wrongIn_X2_at rfl 1 rfl (by decide +kernel) ⟨Nat.le_of_ble_eq_true rfl, Nat.le_of_ble_eq_true rfl⟩ ⟨Nat.zero_le _, Nat.zero_le _⟩ rfl rfl rfl rfl (by decide) (by decide) (by decide) (Nat.le_of_ble_eq_true rfl) rfl dX0_wrongIn_80 (fun r34 u34 H35 locs35 hw34 (hP35 : va_P G.1 vwCl ([oCl h pe ti c, oPe pe lc ls li lo dr p, oMs h2 a2, aI G a2 9 z]) H35) (hD35 : va_D A ([oCl h pe ti c, oPe pe lc ls li lo dr p, oMs h2 a2, aI G a2 9 z])) hS35 => ?_)
            clear hP32 hD32 hS32
            have w34_0 : r34 = z 5 := hw34
            refine lv_if_eq (tgt := 98) hx hb dX0_wrongIn_83 (by decide) (fun c36 => ?_) (fun c36 => ?_)
            · refine lv_iconst (v := 0) hx hb dX0_wrongIn_98 (by decide) ?_
              have q37 : 0 = kwrongC p c z := by
                subst w34_0
                subst w31_0
                subst w29_0
                subst w26_0
                subst w10_0
                subst w7_0
                subst w4_0
                subst w1_0
                first | (simp only [kwrongC, c6, c9, c12, c28, c33, c36, ↓reduceIte, and_self]; done) | (simp only [kwrongC, c6, c9, c12, c28, c33, c36, ↓reduceIte, and_self]; exact rfl) | exact rfl
              exact kRi F hr hlocks hS35 dX0_wrongIn_99 () q37 hP35 hD35
            · refine lv_aload_n hx hb dX0_wrongIn_86 rfl (lv_at hl3 1 rfl) ?_
              refine kget F hK hP35 0 0 7 iX0 rfl rfl (by decide) (List.mem_of_getElem? (i := 4) rfl) rfl dX0_wrongIn_87 ?_
              refine lv_if_ne (tgt := 98) hx hb dX0_wrongIn_90 (by decide) (fun c38 => ?_) (fun c38 => ?_)
              · refine lv_iconst (v := 0) hx hb dX0_wrongIn_98 (by decide) ?_
                have q39 : 0 = kwrongC p c z := by
                  subst w34_0
                  subst w31_0
                  subst w29_0
                  subst w26_0
                  subst w10_0
                  subst w7_0
                  subst w4_0
                  subst w1_0
                  first | (simp only [kwrongC, c6, c9, c12, c28, c33, c36, c38, ↓reduceIte, and_self]; done) | (simp only [kwrongC, c6, c9, c12, c28, c33, c36, c38, ↓reduceIte, and_self]; exact rfl) | exact rfl
                exact kRi F hr hlocks hS35 dX0_wrongIn_99 () q39 hP35 hD35
              · refine lv_bipush (v := 6) hx hb dX0_wrongIn_93 (by decide) ?_
                refine lv_goto (tgt := 99) hx hb dX0_wrongIn_95 (by decide) ?_
                have q40 : 6 = kwrongC p c z := by
                  subst w34_0
                  subst w31_0
                  subst w29_0
                  subst w26_0
                  subst w10_0
                  subst w7_0
                  subst w4_0
                  subst w1_0
                  first | (simp only [kwrongC, c6, c9, c12, c28, c33, c36, c38, ↓reduceIte, and_self]; done) | (simp only [kwrongC, c6, c9, c12, c28, c33, c36, c38, ↓reduceIte, and_self]; exact rfl) | exact rfl
                exact kRi F hr hlocks hS35 dX0_wrongIn_99 () q40 hP35 hD35
          · refine lv_iconst (v := 5) hx hb dX0_wrongIn_76 (by decide) ?_
            have q41 : 5 = kwrongC p c z := by
              subst w31_0
              subst w29_0
              subst w26_0
              subst w10_0
              subst w7_0
              subst w4_0
              subst w1_0
              first | (simp only [kwrongC, c6, c9, c12, c28, c33, ↓reduceIte, and_self]; done) | (simp only [kwrongC, c6, c9, c12, c28, c33, ↓reduceIte, and_self]; exact rfl) | exact rfl
            exact kRi F hr hlocks hS32 dX0_wrongIn_77 () q41 hP32 hD32
        · refine lv_bipush (v := 7) hx hb dX0_wrongIn_58 (by decide) ?_
          have q42 : 7 = kwrongC p c z := by
            subst w26_0
            subst w10_0
            subst w7_0
            subst w4_0
            subst w1_0
            first | (simp only [kwrongC, c6, c9, c12, c28, ↓reduceIte, and_self]; done) | (simp only [kwrongC, c6, c9, c12, c28, ↓reduceIte, and_self]; exact rfl) | exact rfl
          exact kRi F hr hlocks hS27 dX0_wrongIn_60 () q42 hP27 hD27
    · refine lv_iconst (v := 4) hx hb dX0_wrongIn_34 (by decide) ?_
      have q43 : 4 = kwrongC p c z := by
        subst w7_0
        subst w4_0
        subst w1_0
        first | (simp only [kwrongC, c6, c9, ↓reduceIte, and_self]; done) | (simp only [kwrongC, c6, c9, ↓reduceIte, and_self]; exact rfl) | exact rfl
      exact kRi F hr hlocks hS8 dX0_wrongIn_35 () q43 hP8 hD8
  · refine lv_iconst (v := 2) hx hb dX0_wrongIn_20 (by decide) ?_
    have q44 : 2 = kwrongC p c z := by
      subst w4_0
      subst w1_0
      first | (simp only [kwrongC, c6, ↓reduceIte, and_self]; done) | (simp only [kwrongC, c6, ↓reduceIte, and_self]; exact rfl) | exact rfl
    exact kRi F hr hlocks hS5 dX0_wrongIn_21 () q44 hP5 hD5
set_option maxHeartbeats 4000000 in
set_option maxRecDepth 100000 in
theorem c_X0_receiveGreeting (l : Launch) (G : kG) (h : Nat) (pe : Nat) (ti : Nat) (lc : Nat) (ls : Nat) (li : Nat) (lo : Nat) (dr : Nat) (da : Nat) (c : Nat → Int32) (p : Nat → Int32) (a : Nat → Int32) (b : Nat → Int32) (f : Nat → Int32) (rh : Nat) (w : Nat) (q : Nat → Nat) (d : Nat → Nat) (rp : Nat → Int32) (M : Nat → Nat → Int32) (L : Nat) (h2 : Nat) (a2 : Nat) (z : Nat → Int32) (hL : rp 1 = nI L) (hL8 : L ≤ 8) : kM G l yX0_receiveGreeting wsX0_receiveGreeting ({ frames := 3, cells := 0, slots := 0, locals := 68 }) [.ref h, .ref h2, .ref rh] ([oCl h pe ti c, oPe pe lc ls li lo dr p, oLa lc a, oLa ls b, oMs dr da, aI G da 9 f, oRo rh w rp, aM G w 8 (krow q), oMs (q 0) (d 0), aI G (d 0) 9 (M 0), oMs (q 1) (d 1), aI G (d 1) 9 (M 1), oMs (q 2) (d 2), aI G (d 2) 9 (M 2), oMs (q 3) (d 3), aI G (d 3) 9 (M 3), oMs (q 4) (d 4), aI G (d 4) 9 (M 4), oMs (q 5) (d 5), aI G (d 5) 9 (M 5), oMs (q 6) (d 6), aI G (d 6) 9 (M 6), oMs (q 7) (d 7), aI G (d 7) 9 (M 7), oMs h2 a2, aI G a2 9 z]) (kQv G (fun (uu : (Nat → Int32) × (Nat → Int32) × (Nat → Int32) × (Nat → Int32) × (Nat → Int32) × (Nat → Nat → Int32)) => (uu.1 = (kgreetR L c p a b f rp M z).1) ∧ (uu.2.1 = (kgreetR L c p a b f rp M z).2.1) ∧ (uu.2.2.1 = (kgreetR L c p a b f rp M z).2.2.1) ∧ (uu.2.2.2.1 = (kgreetR L c p a b f rp M z).2.2.2.1) ∧ (uu.2.2.2.2.1 = (kgreetR L c p a b f rp M z).2.2.2.2.1) ∧ (uu.2.2.2.2.2 = (kgreetR L c p a b f rp M z).2.2.2.2.2)) (fun (uu : (Nat → Int32) × (Nat → Int32) × (Nat → Int32) × (Nat → Int32) × (Nat → Int32) × (Nat → Nat → Int32)) => [oCl h pe ti c, oPe pe lc ls li lo dr uu.1, oLa lc uu.2.1, oLa ls uu.2.2.1, oMs dr da, aI G da 9 uu.2.2.2.1, oRo rh w uu.2.2.2.2.1, aM G w 8 (krow q), oMs (q 0) (d 0), aI G (d 0) 9 (uu.2.2.2.2.2 0), oMs (q 1) (d 1), aI G (d 1) 9 (uu.2.2.2.2.2 1), oMs (q 2) (d 2), aI G (d 2) 9 (uu.2.2.2.2.2 2), oMs (q 3) (d 3), aI G (d 3) 9 (uu.2.2.2.2.2 3), oMs (q 4) (d 4), aI G (d 4) 9 (uu.2.2.2.2.2 4), oMs (q 5) (d 5), aI G (d 5) 9 (uu.2.2.2.2.2 5), oMs (q 6) (d 6), aI G (d 6) 9 (uu.2.2.2.2.2 6), oMs (q 7) (d 7), aI G (d 7) 9 (uu.2.2.2.2.2 7), oMs h2 a2, aI G a2 9 z])) := by
  refine kStart (cc := cX0_receiveGreeting) (maxL := 4) (ret := none) (by decide) rfl (Nat.le_of_ble_eq_true rfl) (fun pg ev st mi bl mt cd A ls0 F hr hlocks hin hK hP0 hD0 hA hS0 hl0 => ?_)
  obtain ⟨hx, hb, hml, hown, hts⟩ := id F
  have hl0 : lv_has ls0 4 [(0, .ref h), (1, .ref h2), (2, .ref rh)] := hl0
  have iX0 : ∀ w ∈ u_ws RX0 TX0 9, w ∈ wsX0_receiveGreeting := fun w h => List.mem_cons_of_mem _ (List.mem_append_left _ (List.mem_append_left _ (List.mem_append_left _ (List.mem_append_left _ (List.mem_append_right _ h)))))
  have iX3 : ∀ w ∈ u_ws RX3 TX3 18, w ∈ wsX0_receiveGreeting := fun w h => List.mem_cons_of_mem _ (List.mem_append_left _ (List.mem_append_left _ (List.mem_append_left _ (List.mem_append_right _ h))))
  refine lv_aload_n hx hb dX0_receiveGreeting_0 rfl (lv_at hl0 0 rfl) ?_
  refine lv_aload_n hx hb dX0_receiveGreeting_1 rfl (lv_at hl0 1 rfl) ?_
  refine kVi (wr := [oLa lc a, oLa ls b, oMs dr da, aI G da 9 f, oRo rh w rp, aM G w 8 (krow q), oMs (q 0) (d 0), aI G (d 0) 9 (M 0), oMs (q 1) (d 1), aI G (d 1) 9 (M 1), oMs (q 2) (d 2), aI G (d 2) 9 (M 2), oMs (q 3) (d 3), aI G (d 3) 9 (M 3), oMs (q 4) (d 4), aI G (d 4) 9 (M 4), oMs (q 5) (d 5), aI G (d 5) 9 (M 5), oMs (q 6) (d 6), aI G (d 6) 9 (M 6), oMs (q 7) (d 7), aI G (d 7) 9 (M 7)]) F hK hP0 hD0 hS0 hA hl0.1 (c_X0_wrongIn l G h pe ti lc ls li lo dr c p h2 a2 z) [0, 1, 24, 25] [2, 3, 4, 5, 6, 7, 8, 9, 10, 11, 12, 13, 14, 15, 16, 17, 18, 19, 20, 21, 22, 23] 0 0 gX0_receiveGreeting_X0_wrongIn rfl 1 rfl (by decide +kernel) ⟨Nat.le_of_ble_eq_true rfl, Nat.le_of_ble_eq_true rfl⟩ ⟨Nat.zero_le _, Nat.zero_le _⟩ rfl rfl rfl rfl (by decide) (by decide) (by decide) (Nat.le_of_ble_eq_true rfl) rfl dX0_receiveGreeting_2 (fun r1 u1 H2 locs2 hw1 (hP2 : va_P G.1 vwCl ([oLa lc a, oLa ls b, oMs dr da, aI G da 9 f, oRo rh w rp, aM G w 8 (krow q), oMs (q 0) (d 0), aI G (d 0) 9 (M 0), oMs (q 1) (d 1), aI G (d 1) 9 (M 1), oMs (q 2) (d 2), aI G (d 2) 9 (M 2), oMs (q 3) (d 3), aI G (d 3) 9 (M 3), oMs (q 4) (d 4), aI G (d 4) 9 (M 4), oMs (q 5) (d 5), aI G (d 5) 9 (M 5), oMs (q 6) (d 6), aI G (d 6) 9 (M 6), oMs (q 7) (d 7), aI G (d 7) 9 (M 7), oCl h pe ti c, oPe pe lc ls li lo dr p, oMs h2 a2, aI G a2 9 z]) H2) (hD2 : va_D A ([oLa lc a, oLa ls b, oMs dr da, aI G da 9 f, oRo rh w rp, aM G w 8 (krow q), oMs (q 0) (d 0), aI G (d 0) 9 (M 0), oMs (q 1) (d 1), aI G (d 1) 9 (M 1), oMs (q 2) (d 2), aI G (d 2) 9 (M 2), oMs (q 3) (d 3), aI G (d 3) 9 (M 3), oMs (q 4) (d 4), aI G (d 4) 9 (M 4), oMs (q 5) (d 5), aI G (d 5) 9 (M 5), oMs (q 6) (d 6), aI G (d 6) 9 (M 6), oMs (q 7) (d 7), aI G (d 7) 9 (M 7), oCl h pe ti c, oPe pe lc ls li lo dr p, oMs h2 a2, aI G a2 9 z])) hS2 => ?_)
  clear hP0 hD0 hS0
  have w1_0 : r1 = kwrongC p c z := hw1
  refine lv_istore_n (lv' := [(3, .int r1), (0, .ref h), (1, .ref h2), (2, .ref rh)]) hx hb dX0_receiveGreeting_5 rfl hl0 (by decide) rfl (fun ls3 hl3 => ?_)
  clear hl0
  refine lv_iload_n hx hb dX0_receiveGreeting_6 rfl (lv_at hl3 0 rfl) ?_
  refine lv_if_eq (tgt := 19) hx hb dX0_receiveGreeting_7 (by decide) (fun c4 => ?_) (fun c4 => ?_)
  · refine lv_aload_n hx hb dX0_receiveGreeting_19 rfl (lv_at hl3 1 rfl) ?_
    refine kget F hK hP2 0 22 0 iX0 rfl rfl (by decide) (List.mem_of_getElem? (i := 1) rfl) rfl dX0_receiveGreeting_20 ?_
    refine lv_aload_n hx hb dX0_receiveGreeting_23 rfl (lv_at hl3 2 rfl) ?_
    refine lv_iconst (v := 1) hx hb dX0_receiveGreeting_24 (by decide) ?_
    refine kVi (wr := [oLa lc a, oLa ls b, oMs dr da, aI G da 9 f, oRo rh w rp, aM G w 8 (krow q), oMs (q 0) (d 0), aI G (d 0) 9 (M 0), oMs (q 1) (d 1), aI G (d 1) 9 (M 1), oMs (q 2) (d 2), aI G (d 2) 9 (M 2), oMs (q 3) (d 3), aI G (d 3) 9 (M 3), oMs (q 4) (d 4), aI G (d 4) 9 (M 4), oMs (q 5) (d 5), aI G (d 5) 9 (M 5), oMs (q 6) (d 6), aI G (d 6) 9 (M 6), oMs (q 7) (d 7), aI G (d 7) 9 (M 7), oCl h pe ti c, oPe pe lc ls li lo dr p]) F hK hP2 hD2 hS2 hA hl3.1 (c_X2_at l G h2 a2 z 1 (by first | assumption | decide | omega)) [24, 25] [0, 1, 2, 3, 4, 5, 6, 7, 8, 9, 10, 11, 12, 13, 14, 15, 16, 17, 18, 19, 20, 21, 22, 23] 2 0 gX0_receiveGreeting_X2_at rfl 1 rfl (by decide +kernel) ⟨Nat.le_of_ble_eq_true rfl, Nat.le_of_ble_eq_true rfl⟩ ⟨Nat.zero_le _, Nat.zero_le _⟩ rfl rfl rfl rfl (by decide) (by decide) (by decide) (Nat.le_of_ble_eq_true rfl) rfl dX0_receiveGreeting_25 (fun r5 u5 H6 locs6 hw5 (hP6 : va_P G.1 vwCl ([oLa lc a, oLa ls b, oMs dr da, aI G da 9 f, oRo rh w rp, aM G w 8 (krow q), oMs (q 0) (d 0), aI G (d 0) 9 (M 0), oMs (q 1) (d 1), aI G (d 1) 9 (M 1), oMs (q 2) (d 2), aI G (d 2) 9 (M 2), oMs (q 3) (d 3), aI G (d 3) 9 (M 3), oMs (q 4) (d 4), aI G (d 4) 9 (M 4), oMs (q 5) (d 5), aI G (d 5) 9 (M 5), oMs (q 6) (d 6), aI G (d 6) 9 (M 6), oMs (q 7) (d 7), aI G (d 7) 9 (M 7), oCl h pe ti c, oPe pe lc ls li lo dr p, oMs h2 a2, aI G a2 9 z]) H6) (hD6 : va_D A ([oLa lc a, oLa ls b, oMs dr da, aI G da 9 f, oRo rh w rp, aM G w 8 (krow q), oMs (q 0) (d 0), aI G (d 0) 9 (M 0), oMs (q 1) (d 1), aI G (d 1) 9 (M 1), oMs (q 2) (d 2), aI G (d 2) 9 (M 2), oMs (q 3) (d 3), aI G (d 3) 9 (M 3), oMs (q 4) (d 4), aI G (d 4) 9 (M 4), oMs (q 5) (d 5), aI G (d 5) 9 (M 5), oMs (q 6) (d 6), aI G (d 6) 9 (M 6), oMs (q 7) (d 7), aI G (d 7) 9 (M 7), oCl h pe ti c, oPe pe lc ls li lo dr p, oMs h2 a2, aI G a2 9 z])) hS6 => ?_)
    clear hP2 hD2 hS2
    have w5_0 : r5 = z 1 := hw5
    refine kput F hK hP6 hD6 hS6 (ty0 := tyX3) 3 23 6 iX3 rfl tyX3_ok nmX3 (fun z => [oLa lc a, oLa ls b, oMs dr da, aI G da 9 f, oRo rh w rp, aM G w 8 (krow q), oMs (q 0) (d 0), aI G (d 0) 9 (M 0), oMs (q 1) (d 1), aI G (d 1) 9 (M 1), oMs (q 2) (d 2), aI G (d 2) 9 (M 2), oMs (q 3) (d 3), aI G (d 3) 9 (M 3), oMs (q 4) (d 4), aI G (d 4) 9 (M 4), oMs (q 5) (d 5), aI G (d 5) 9 (M 5), oMs (q 6) (d 6), aI G (d 6) 9 (M 6), oMs (q 7) (d 7), aI G (d 7) 9 (M 7), oCl h pe ti c, oPe pe lc ls li lo dr z, oMs h2 a2, aI G a2 9 z]) p rfl (by decide) (List.mem_of_getElem? (i := 2) rfl) rfl rfl rfl (Nat.le_of_ble_eq_true rfl) rfl dX0_receiveGreeting_28 (fun H7 locs7 p7 ep7 (hP7 : va_P G.1 vwCl ([oLa lc a, oLa ls b, oMs dr da, aI G da 9 f, oRo rh w rp, aM G w 8 (krow q), oMs (q 0) (d 0), aI G (d 0) 9 (M 0), oMs (q 1) (d 1), aI G (d 1) 9 (M 1), oMs (q 2) (d 2), aI G (d 2) 9 (M 2), oMs (q 3) (d 3), aI G (d 3) 9 (M 3), oMs (q 4) (d 4), aI G (d 4) 9 (M 4), oMs (q 5) (d 5), aI G (d 5) 9 (M 5), oMs (q 6) (d 6), aI G (d 6) 9 (M 6), oMs (q 7) (d 7), aI G (d 7) 9 (M 7), oCl h pe ti c, oPe pe lc ls li lo dr p7, oMs h2 a2, aI G a2 9 z]) H7) (hD7 : va_D A ([oLa lc a, oLa ls b, oMs dr da, aI G da 9 f, oRo rh w rp, aM G w 8 (krow q), oMs (q 0) (d 0), aI G (d 0) 9 (M 0), oMs (q 1) (d 1), aI G (d 1) 9 (M 1), oMs (q 2) (d 2), aI G (d 2) 9 (M 2), oMs (q 3) (d 3), aI G (d 3) 9 (M 3), oMs (q 4) (d 4), aI G (d 4) 9 (M 4), oMs (q 5) (d 5), aI G (d 5) 9 (M 5), oMs (q 6) (d 6), aI G (d 6) 9 (M 6), oMs (q 7) (d 7), aI G (d 7) 9 (M 7), oCl h pe ti c, oPe pe lc ls li lo dr p7, oMs h2 a2, aI G a2 9 z])) hS7 => ?_)
    clear hP6 hD6 hS6
    refine lv_aload_n hx hb dX0_receiveGreeting_31 rfl (lv_at hl3 1 rfl) ?_
    refine kget F hK hP7 0 22 0 iX0 rfl rfl (by decide) (List.mem_of_getElem? (i := 1) rfl) rfl dX0_receiveGreeting_32 ?_
    refine lv_aload_n hx hb dX0_receiveGreeting_35 rfl (lv_at hl3 1 rfl) ?_
    refine kget F hK hP7 0 22 6 iX0 rfl rfl (by decide) (List.mem_of_getElem? (i := 3) rfl) rfl dX0_receiveGreeting_36 ?_
    refine kput F hK hP7 hD7 hS7 (ty0 := tyX3) 3 23 7 iX3 rfl tyX3_ok nmX3 (fun z => [oLa lc a, oLa ls b, oMs dr da, aI G da 9 f, oRo rh w rp, aM G w 8 (krow q), oMs (q 0) (d 0), aI G (d 0) 9 (M 0), oMs (q 1) (d 1), aI G (d 1) 9 (M 1), oMs (q 2) (d 2), aI G (d 2) 9 (M 2), oMs (q 3) (d 3), aI G (d 3) 9 (M 3), oMs (q 4) (d 4), aI G (d 4) 9 (M 4), oMs (q 5) (d 5), aI G (d 5) 9 (M 5), oMs (q 6) (d 6), aI G (d 6) 9 (M 6), oMs (q 7) (d 7), aI G (d 7) 9 (M 7), oCl h pe ti c, oPe pe lc ls li lo dr z, oMs h2 a2, aI G a2 9 z]) p7 rfl (by decide) (List.mem_of_getElem? (i := 4) rfl) rfl rfl rfl (Nat.le_of_ble_eq_true rfl) rfl dX0_receiveGreeting_39 (fun H8 locs8 p8 ep8 (hP8 : va_P G.1 vwCl ([oLa lc a, oLa ls b, oMs dr da, aI G da 9 f, oRo rh w rp, aM G w 8 (krow q), oMs (q 0) (d 0), aI G (d 0) 9 (M 0), oMs (q 1) (d 1), aI G (d 1) 9 (M 1), oMs (q 2) (d 2), aI G (d 2) 9 (M 2), oMs (q 3) (d 3), aI G (d 3) 9 (M 3), oMs (q 4) (d 4), aI G (d 4) 9 (M 4), oMs (q 5) (d 5), aI G (d 5) 9 (M 5), oMs (q 6) (d 6), aI G (d 6) 9 (M 6), oMs (q 7) (d 7), aI G (d 7) 9 (M 7), oCl h pe ti c, oPe pe lc ls li lo dr p8, oMs h2 a2, aI G a2 9 z]) H8) (hD8 : va_D A ([oLa lc a, oLa ls b, oMs dr da, aI G da 9 f, oRo rh w rp, aM G w 8 (krow q), oMs (q 0) (d 0), aI G (d 0) 9 (M 0), oMs (q 1) (d 1), aI G (d 1) 9 (M 1), oMs (q 2) (d 2), aI G (d 2) 9 (M 2), oMs (q 3) (d 3), aI G (d 3) 9 (M 3), oMs (q 4) (d 4), aI G (d 4) 9 (M 4), oMs (q 5) (d 5), aI G (d 5) 9 (M 5), oMs (q 6) (d 6), aI G (d 6) 9 (M 6), oMs (q 7) (d 7), aI G (d 7) 9 (M 7), oCl h pe ti c, oPe pe lc ls li lo dr p8, oMs h2 a2, aI G a2 9 z])) hS8 => ?_)
    clear hP7 hD7 hS7
    refine lv_aload_n hx hb dX0_receiveGreeting_42 rfl (lv_at hl3 1 rfl) ?_
    refine kget F hK hP8 0 22 0 iX0 rfl rfl (by decide) (List.mem_of_getElem? (i := 1) rfl) rfl dX0_receiveGreeting_43 ?_
    refine lv_aload_n hx hb dX0_receiveGreeting_46 rfl (lv_at hl3 2 rfl) ?_
    refine lv_iconst (v := 5) hx hb dX0_receiveGreeting_47 (by decide) ?_
    refine kVi (wr := [oLa lc a, oLa ls b, oMs dr da, aI G da 9 f, oRo rh w rp, aM G w 8 (krow q), oMs (q 0) (d 0), aI G (d 0) 9 (M 0), oMs (q 1) (d 1), aI G (d 1) 9 (M 1), oMs (q 2) (d 2), aI G (d 2) 9 (M 2), oMs (q 3) (d 3), aI G (d 3) 9 (M 3), oMs (q 4) (d 4), aI G (d 4) 9 (M 4), oMs (q 5) (d 5), aI G (d 5) 9 (M 5), oMs (q 6) (d 6), aI G (d 6) 9 (M 6), oMs (q 7) (d 7), aI G (d 7) 9 (M 7), oCl h pe ti c, oPe pe lc ls li lo dr p8]) F hK hP8 hD8 hS8 hA hl3.1 (c_X2_at l G h2 a2 z 5 (by first | assumption | decide | omega)) [24, 25] [0, 1, 2, 3, 4, 5, 6, 7, 8, 9, 10, 11, 12, 13, 14, 15, 16, 17, 18, 19, 20, 21, 22, 23] 2 0 gX0_receiveGreeting_X2_at rfl 1 rfl (by decide +kernel) ⟨Nat.le_of_ble_eq_true rfl, Nat.le_of_ble_eq_true rfl⟩ ⟨Nat.zero_le _, Nat.zero_le _⟩ rfl rfl rfl rfl (by decide) (by decide) (by decide) (Nat.le_of_ble_eq_true rfl) rfl dX0_receiveGreeting_48 (fun r9 u9 H10 locs10 hw9 (hP10 : va_P G.1 vwCl ([oLa lc a, oLa ls b, oMs dr da, aI G da 9 f, oRo rh w rp, aM G w 8 (krow q), oMs (q 0) (d 0), aI G (d 0) 9 (M 0), oMs (q 1) (d 1), aI G (d 1) 9 (M 1), oMs (q 2) (d 2), aI G (d 2) 9 (M 2), oMs (q 3) (d 3), aI G (d 3) 9 (M 3), oMs (q 4) (d 4), aI G (d 4) 9 (M 4), oMs (q 5) (d 5), aI G (d 5) 9 (M 5), oMs (q 6) (d 6), aI G (d 6) 9 (M 6), oMs (q 7) (d 7), aI G (d 7) 9 (M 7), oCl h pe ti c, oPe pe lc ls li lo dr p8, oMs h2 a2, aI G a2 9 z]) H10) (hD10 : va_D A ([oLa lc a, oLa ls b, oMs dr da, aI G da 9 f, oRo rh w rp, aM G w 8 (krow q), oMs (q 0) (d 0), aI G (d 0) 9 (M 0), oMs (q 1) (d 1), aI G (d 1) 9 (M 1), oMs (q 2) (d 2), aI G (d 2) 9 (M 2), oMs (q 3) (d 3), aI G (d 3) 9 (M 3), oMs (q 4) (d 4), aI G (d 4) 9 (M 4), oMs (q 5) (d 5), aI G (d 5) 9 (M 5), oMs (q 6) (d 6), aI G (d 6) 9 (M 6), oMs (q 7) (d 7), aI G (d 7) 9 (M 7), oCl h pe ti c, oPe pe lc ls li lo dr p8, oMs h2 a2, aI G a2 9 z])) hS10 => ?_)
    clear hP8 hD8 hS8
    have w9_0 : r9 = z 5 := hw9
    refine lv_if_eq (tgt := 58) hx hb dX0_receiveGreeting_51 (by decide) (fun c11 => ?_) (fun c11 => ?_)
    · refine lv_iconst (v := 0) hx hb dX0_receiveGreeting_58 (by decide) ?_
      refine kput F hK hP10 hD10 hS10 (ty0 := tyX3) 3 23 8 iX3 rfl tyX3_ok nmX3 (fun z => [oLa lc a, oLa ls b, oMs dr da, aI G da 9 f, oRo rh w rp, aM G w 8 (krow q), oMs (q 0) (d 0), aI G (d 0) 9 (M 0), oMs (q 1) (d 1), aI G (d 1) 9 (M 1), oMs (q 2) (d 2), aI G (d 2) 9 (M 2), oMs (q 3) (d 3), aI G (d 3) 9 (M 3), oMs (q 4) (d 4), aI G (d 4) 9 (M 4), oMs (q 5) (d 5), aI G (d 5) 9 (M 5), oMs (q 6) (d 6), aI G (d 6) 9 (M 6), oMs (q 7) (d 7), aI G (d 7) 9 (M 7), oCl h pe ti c, oPe pe lc ls li lo dr z, oMs h2 a2, aI G a2 9 z]) p8 rfl (by decide) (List.mem_of_getElem? (i := 5) rfl) rfl rfl rfl (Nat.le_of_ble_eq_true rfl) rfl dX0_receiveGreeting_59 (fun H12 locs12 p12 ep12 (hP12 : va_P G.1 vwCl ([oLa lc a, oLa ls b, oMs dr da, aI G da 9 f, oRo rh w rp, aM G w 8 (krow q), oMs (q 0) (d 0), aI G (d 0) 9 (M 0), oMs (q 1) (d 1), aI G (d 1) 9 (M 1), oMs (q 2) (d 2), aI G (d 2) 9 (M 2), oMs (q 3) (d 3), aI G (d 3) 9 (M 3), oMs (q 4) (d 4), aI G (d 4) 9 (M 4), oMs (q 5) (d 5), aI G (d 5) 9 (M 5), oMs (q 6) (d 6), aI G (d 6) 9 (M 6), oMs (q 7) (d 7), aI G (d 7) 9 (M 7), oCl h pe ti c, oPe pe lc ls li lo dr p12, oMs h2 a2, aI G a2 9 z]) H12) (hD12 : va_D A ([oLa lc a, oLa ls b, oMs dr da, aI G da 9 f, oRo rh w rp, aM G w 8 (krow q), oMs (q 0) (d 0), aI G (d 0) 9 (M 0), oMs (q 1) (d 1), aI G (d 1) 9 (M 1), oMs (q 2) (d 2), aI G (d 2) 9 (M 2), oMs (q 3) (d 3), aI G (d 3) 9 (M 3), oMs (q 4) (d 4), aI G (d 4) 9 (M 4), oMs (q 5) (d 5), aI G (d 5) 9 (M 5), oMs (q 6) (d 6), aI G (d 6) 9 (M 6), oMs (q 7) (d 7), aI G (d 7) 9 (M 7), oCl h pe ti c, oPe pe lc ls li lo dr p12, oMs h2 a2, aI G a2 9 z])) hS12 => ?_)
      clear hP10 hD10 hS10
      refine lv_aload_n hx hb dX0_receiveGreeting_62 rfl (lv_at hl3 1 rfl) ?_
      refine kget F hK hP12 0 22 0 iX0 rfl rfl (by decide) (List.mem_of_getElem? (i := 1) rfl) rfl dX0_receiveGreeting_63 ?_
      refine lv_aload_n hx hb dX0_receiveGreeting_66 rfl (lv_at hl3 2 rfl) ?_
      refine lv_iconst (v := 3) hx hb dX0_receiveGreeting_67 (by decide) ?_
      refine kVi (wr := [oLa lc a, oLa ls b, oMs dr da, aI G da 9 f, oRo rh w rp, aM G w 8 (krow q), oMs (q 0) (d 0), aI G (d 0) 9 (M 0), oMs (q 1) (d 1), aI G (d 1) 9 (M 1), oMs (q 2) (d 2), aI G (d 2) 9 (M 2), oMs (q 3) (d 3), aI G (d 3) 9 (M 3), oMs (q 4) (d 4), aI G (d 4) 9 (M 4), oMs (q 5) (d 5), aI G (d 5) 9 (M 5), oMs (q 6) (d 6), aI G (d 6) 9 (M 6), oMs (q 7) (d 7), aI G (d 7) 9 (M 7), oCl h pe ti c, oPe pe lc ls li lo dr p12]) F hK hP12 hD12 hS12 hA hl3.1 (c_X2_at l G h2 a2 z 3 (by first | assumption | decide | omega)) [24, 25] [0, 1, 2, 3, 4, 5, 6, 7, 8, 9, 10, 11, 12, 13, 14, 15, 16, 17, 18, 19, 20, 21, 22, 23] 2 0 gX0_receiveGreeting_X2_at rfl 1 rfl (by decide +kernel) ⟨Nat.le_of_ble_eq_true rfl, Nat.le_of_ble_eq_true rfl⟩ ⟨Nat.zero_le _, Nat.zero_le _⟩ rfl rfl rfl rfl (by decide) (by decide) (by decide) (Nat.le_of_ble_eq_true rfl) rfl dX0_receiveGreeting_68 (fun r13 u13 H14 locs14 hw13 (hP14 : va_P G.1 vwCl ([oLa lc a, oLa ls b, oMs dr da, aI G da 9 f, oRo rh w rp, aM G w 8 (krow q), oMs (q 0) (d 0), aI G (d 0) 9 (M 0), oMs (q 1) (d 1), aI G (d 1) 9 (M 1), oMs (q 2) (d 2), aI G (d 2) 9 (M 2), oMs (q 3) (d 3), aI G (d 3) 9 (M 3), oMs (q 4) (d 4), aI G (d 4) 9 (M 4), oMs (q 5) (d 5), aI G (d 5) 9 (M 5), oMs (q 6) (d 6), aI G (d 6) 9 (M 6), oMs (q 7) (d 7), aI G (d 7) 9 (M 7), oCl h pe ti c, oPe pe lc ls li lo dr p12, oMs h2 a2, aI G a2 9 z]) H14) (hD14 : va_D A ([oLa lc a, oLa ls b, oMs dr da, aI G da 9 f, oRo rh w rp, aM G w 8 (krow q), oMs (q 0) (d 0), aI G (d 0) 9 (M 0), oMs (q 1) (d 1), aI G (d 1) 9 (M 1), oMs (q 2) (d 2), aI G (d 2) 9 (M 2), oMs (q 3) (d 3), aI G (d 3) 9 (M 3), oMs (q 4) (d 4), aI G (d 4) 9 (M 4), oMs (q 5) (d 5), aI G (d 5) 9 (M 5), oMs (q 6) (d 6), aI G (d 6) 9 (M 6), oMs (q 7) (d 7), aI G (d 7) 9 (M 7), oCl h pe ti c, oPe pe lc ls li lo dr p12, oMs h2 a2, aI G a2 9 z])) hS14 => ?_)
      clear hP12 hD12 hS12
      have w13_0 : r13 = z 3 := hw13
      refine lv_aload_n hx hb dX0_receiveGreeting_71 rfl (lv_at hl3 1 rfl) ?_
      refine kget F hK hP14 0 22 0 iX0 rfl rfl (by decide) (List.mem_of_getElem? (i := 1) rfl) rfl dX0_receiveGreeting_72 ?_
      refine kget F hK hP14 3 23 2 iX3 rfl rfl (by decide) (List.mem_of_getElem? (i := 6) rfl) rfl dX0_receiveGreeting_75 ?_
      refine lv_aload_n hx hb dX0_receiveGreeting_78 rfl (lv_at hl3 1 rfl) ?_
      refine kget F hK hP14 0 22 6 iX0 rfl rfl (by decide) (List.mem_of_getElem? (i := 3) rfl) rfl dX0_receiveGreeting_79 ?_
      refine lv_aload_n hx hb dX0_receiveGreeting_82 rfl (lv_at hl3 1 rfl) ?_
      refine kget F hK hP14 0 22 0 iX0 rfl rfl (by decide) (List.mem_of_getElem? (i := 1) rfl) rfl dX0_receiveGreeting_83 ?_
      refine kget F hK hP14 3 23 8 iX3 rfl rfl (by decide) (List.mem_of_getElem? (i := 5) rfl) rfl dX0_receiveGreeting_86 ?_
      rw [show (p12 8) = 0 from by subst w13_0; subst ep12; subst w9_0; subst ep8; subst ep7; subst w5_0; subst w1_0; rfl]
      refine lv_if_eq (tgt := 99) hx hb dX0_receiveGreeting_89 (by decide) (fun c15 => ?_) (fun c15 => ?_)
      · refine lv_iconst (v := 0) hx hb dX0_receiveGreeting_99 (by decide) ?_
        refine kPNi F hK hP14 hD14 hS14 hA hl3.1 (c_X8_keyOf l G r13 (p12 2) (c 6) 0) (fun _ => rfl) 10 rfl gX0_receiveGreeting_X8_keyOf_n153 (List.mem_of_getElem? (i := 43) rfl) (List.mem_of_getElem? (i := 27) rfl) rfl 4 rfl (by decide +kernel) ⟨Nat.le_of_ble_eq_true rfl, Nat.le_of_ble_eq_true rfl⟩ ⟨Nat.zero_le _, Nat.zero_le _⟩ (Nat.le_of_ble_eq_true rfl) rfl dX0_receiveGreeting_100 (fun r16 u16 H17 locs17 hw16 (hP17 : va_P G.1 vwCl ([oLa lc a, oLa ls b, oMs dr da, aI G da 9 f, oRo rh w rp, aM G w 8 (krow q), oMs (q 0) (d 0), aI G (d 0) 9 (M 0), oMs (q 1) (d 1), aI G (d 1) 9 (M 1), oMs (q 2) (d 2), aI G (d 2) 9 (M 2), oMs (q 3) (d 3), aI G (d 3) 9 (M 3), oMs (q 4) (d 4), aI G (d 4) 9 (M 4), oMs (q 5) (d 5), aI G (d 5) 9 (M 5), oMs (q 6) (d 6), aI G (d 6) 9 (M 6), oMs (q 7) (d 7), aI G (d 7) 9 (M 7), oCl h pe ti c, oPe pe lc ls li lo dr p12, oMs h2 a2, aI G a2 9 z]) H17) (hD17 : va_D A ([oLa lc a, oLa ls b, oMs dr da, aI G da 9 f, oRo rh w rp, aM G w 8 (krow q), oMs (q 0) (d 0), aI G (d 0) 9 (M 0), oMs (q 1) (d 1), aI G (d 1) 9 (M 1), oMs (q 2) (d 2), aI G (d 2) 9 (M 2), oMs (q 3) (d 3), aI G (d 3) 9 (M 3), oMs (q 4) (d 4), aI G (d 4) 9 (M 4), oMs (q 5) (d 5), aI G (d 5) 9 (M 5), oMs (q 6) (d 6), aI G (d 6) 9 (M 6), oMs (q 7) (d 7), aI G (d 7) 9 (M 7), oCl h pe ti c, oPe pe lc ls li lo dr p12, oMs h2 a2, aI G a2 9 z])) hS17 => ?_)
        clear hP14 hD14 hS14
        have w16_0 : r16 = kkey r13 (p12 2) (c 6) 0 := hw16
        refine kput F hK hP17 hD17 hS17 (ty0 := tyX3) 3 23 9 iX3 rfl tyX3_ok nmX3 (fun z => [oLa lc a, oLa ls b, oMs dr da, aI G da 9 f, oRo rh w rp, aM G w 8 (krow q), oMs (q 0) (d 0), aI G (d 0) 9 (M 0), oMs (q 1) (d 1), aI G (d 1) 9 (M 1), oMs (q 2) (d 2), aI G (d 2) 9 (M 2), oMs (q 3) (d 3), aI G (d 3) 9 (M 3), oMs (q 4) (d 4), aI G (d 4) 9 (M 4), oMs (q 5) (d 5), aI G (d 5) 9 (M 5), oMs (q 6) (d 6), aI G (d 6) 9 (M 6), oMs (q 7) (d 7), aI G (d 7) 9 (M 7), oCl h pe ti c, oPe pe lc ls li lo dr z, oMs h2 a2, aI G a2 9 z]) p12 rfl (by decide) (List.mem_of_getElem? (i := 8) rfl) rfl rfl rfl (Nat.le_of_ble_eq_true rfl) rfl dX0_receiveGreeting_103 (fun H18 locs18 p18 ep18 (hP18 : va_P G.1 vwCl ([oLa lc a, oLa ls b, oMs dr da, aI G da 9 f, oRo rh w rp, aM G w 8 (krow q), oMs (q 0) (d 0), aI G (d 0) 9 (M 0), oMs (q 1) (d 1), aI G (d 1) 9 (M 1), oMs (q 2) (d 2), aI G (d 2) 9 (M 2), oMs (q 3) (d 3), aI G (d 3) 9 (M 3), oMs (q 4) (d 4), aI G (d 4) 9 (M 4), oMs (q 5) (d 5), aI G (d 5) 9 (M 5), oMs (q 6) (d 6), aI G (d 6) 9 (M 6), oMs (q 7) (d 7), aI G (d 7) 9 (M 7), oCl h pe ti c, oPe pe lc ls li lo dr p18, oMs h2 a2, aI G a2 9 z]) H18) (hD18 : va_D A ([oLa lc a, oLa ls b, oMs dr da, aI G da 9 f, oRo rh w rp, aM G w 8 (krow q), oMs (q 0) (d 0), aI G (d 0) 9 (M 0), oMs (q 1) (d 1), aI G (d 1) 9 (M 1), oMs (q 2) (d 2), aI G (d 2) 9 (M 2), oMs (q 3) (d 3), aI G (d 3) 9 (M 3), oMs (q 4) (d 4), aI G (d 4) 9 (M 4), oMs (q 5) (d 5), aI G (d 5) 9 (M 5), oMs (q 6) (d 6), aI G (d 6) 9 (M 6), oMs (q 7) (d 7), aI G (d 7) 9 (M 7), oCl h pe ti c, oPe pe lc ls li lo dr p18, oMs h2 a2, aI G a2 9 z])) hS18 => ?_)
        clear hP17 hD17 hS17
        refine lv_aload_n hx hb dX0_receiveGreeting_106 rfl (lv_at hl3 1 rfl) ?_
        refine kget F hK hP18 0 22 0 iX0 rfl rfl (by decide) (List.mem_of_getElem? (i := 1) rfl) rfl dX0_receiveGreeting_107 ?_
        refine lv_aload_n hx hb dX0_receiveGreeting_110 rfl (lv_at hl3 2 rfl) ?_
        refine kVv (wr := [oLa lc a, oLa ls b, oMs dr da, aI G da 9 f, oRo rh w rp, aM G w 8 (krow q), oMs (q 0) (d 0), aI G (d 0) 9 (M 0), oMs (q 1) (d 1), aI G (d 1) 9 (M 1), oMs (q 2) (d 2), aI G (d 2) 9 (M 2), oMs (q 3) (d 3), aI G (d 3) 9 (M 3), oMs (q 4) (d 4), aI G (d 4) 9 (M 4), oMs (q 5) (d 5), aI G (d 5) 9 (M 5), oMs (q 6) (d 6), aI G (d 6) 9 (M 6), oMs (q 7) (d 7), aI G (d 7) 9 (M 7), oCl h pe ti c]) F hK hP18 hD18 hS18 hA hl3.1 (c_X3_takeIn l G pe lc ls li lo dr p18 h2 a2 z) [23, 24, 25] [0, 1, 2, 3, 4, 5, 6, 7, 8, 9, 10, 11, 12, 13, 14, 15, 16, 17, 18, 19, 20, 21, 22] 3 0 gX0_receiveGreeting_X3_takeIn rfl 1 rfl (by decide +kernel) ⟨Nat.le_of_ble_eq_true rfl, Nat.le_of_ble_eq_true rfl⟩ ⟨Nat.zero_le _, Nat.zero_le _⟩ rfl rfl rfl rfl (by decide) (by decide) (by decide) (Nat.le_of_ble_eq_true rfl) rfl dX0_receiveGreeting_111 (fun p_19 H20 locs20 hw19 (hP20 : va_P G.1 vwCl ([oLa lc a, oLa ls b, oMs dr da, aI G da 9 f, oRo rh w rp, aM G w 8 (krow q), oMs (q 0) (d 0), aI G (d 0) 9 (M 0), oMs (q 1) (d 1), aI G (d 1) 9 (M 1), oMs (q 2) (d 2), aI G (d 2) 9 (M 2), oMs (q 3) (d 3), aI G (d 3) 9 (M 3), oMs (q 4) (d 4), aI G (d 4) 9 (M 4), oMs (q 5) (d 5), aI G (d 5) 9 (M 5), oMs (q 6) (d 6), aI G (d 6) 9 (M 6), oMs (q 7) (d 7), aI G (d 7) 9 (M 7), oCl h pe ti c, oPe pe lc ls li lo dr p_19, oMs h2 a2, aI G a2 9 z]) H20) (hD20 : va_D A ([oLa lc a, oLa ls b, oMs dr da, aI G da 9 f, oRo rh w rp, aM G w 8 (krow q), oMs (q 0) (d 0), aI G (d 0) 9 (M 0), oMs (q 1) (d 1), aI G (d 1) 9 (M 1), oMs (q 2) (d 2), aI G (d 2) 9 (M 2), oMs (q 3) (d 3), aI G (d 3) 9 (M 3), oMs (q 4) (d 4), aI G (d 4) 9 (M 4), oMs (q 5) (d 5), aI G (d 5) 9 (M 5), oMs (q 6) (d 6), aI G (d 6) 9 (M 6), oMs (q 7) (d 7), aI G (d 7) 9 (M 7), oCl h pe ti c, oPe pe lc ls li lo dr p_19, oMs h2 a2, aI G a2 9 z])) hS20 => ?_)
        clear hP18 hD18 hS18
        have w19_0 : p_19 = ktake p18 z := hw19
        refine lv_aload_n hx hb dX0_receiveGreeting_114 rfl (lv_at hl3 2 rfl) ?_
        refine lv_bipush (v := 7) hx hb dX0_receiveGreeting_115 (by decide) ?_
        refine kVi (wr := [oLa lc a, oLa ls b, oMs dr da, aI G da 9 f, oRo rh w rp, aM G w 8 (krow q), oMs (q 0) (d 0), aI G (d 0) 9 (M 0), oMs (q 1) (d 1), aI G (d 1) 9 (M 1), oMs (q 2) (d 2), aI G (d 2) 9 (M 2), oMs (q 3) (d 3), aI G (d 3) 9 (M 3), oMs (q 4) (d 4), aI G (d 4) 9 (M 4), oMs (q 5) (d 5), aI G (d 5) 9 (M 5), oMs (q 6) (d 6), aI G (d 6) 9 (M 6), oMs (q 7) (d 7), aI G (d 7) 9 (M 7), oCl h pe ti c, oPe pe lc ls li lo dr p_19]) F hK hP20 hD20 hS20 hA hl3.1 (c_X2_at l G h2 a2 z 7 (by first | assumption | decide | omega)) [24, 25] [0, 1, 2, 3, 4, 5, 6, 7, 8, 9, 10, 11, 12, 13, 14, 15, 16, 17, 18, 19, 20, 21, 22, 23] 2 0 gX0_receiveGreeting_X2_at rfl 1 rfl (by decide +kernel) ⟨Nat.le_of_ble_eq_true rfl, Nat.le_of_ble_eq_true rfl⟩ ⟨Nat.zero_le _, Nat.zero_le _⟩ rfl rfl rfl rfl (by decide) (by decide) (by decide) (Nat.le_of_ble_eq_true rfl) rfl dX0_receiveGreeting_117 (fun r21 u21 H22 locs22 hw21 (hP22 : va_P G.1 vwCl ([oLa lc a, oLa ls b, oMs dr da, aI G da 9 f, oRo rh w rp, aM G w 8 (krow q), oMs (q 0) (d 0), aI G (d 0) 9 (M 0), oMs (q 1) (d 1), aI G (d 1) 9 (M 1), oMs (q 2) (d 2), aI G (d 2) 9 (M 2), oMs (q 3) (d 3), aI G (d 3) 9 (M 3), oMs (q 4) (d 4), aI G (d 4) 9 (M 4), oMs (q 5) (d 5), aI G (d 5) 9 (M 5), oMs (q 6) (d 6), aI G (d 6) 9 (M 6), oMs (q 7) (d 7), aI G (d 7) 9 (M 7), oCl h pe ti c, oPe pe lc ls li lo dr p_19, oMs h2 a2, aI G a2 9 z]) H22) (hD22 : va_D A ([oLa lc a, oLa ls b, oMs dr da, aI G da 9 f, oRo rh w rp, aM G w 8 (krow q), oMs (q 0) (d 0), aI G (d 0) 9 (M 0), oMs (q 1) (d 1), aI G (d 1) 9 (M 1), oMs (q 2) (d 2), aI G (d 2) 9 (M 2), oMs (q 3) (d 3), aI G (d 3) 9 (M 3), oMs (q 4) (d 4), aI G (d 4) 9 (M 4), oMs (q 5) (d 5), aI G (d 5) 9 (M 5), oMs (q 6) (d 6), aI G (d 6) 9 (M 6), oMs (q 7) (d 7), aI G (d 7) 9 (M 7), oCl h pe ti c, oPe pe lc ls li lo dr p_19, oMs h2 a2, aI G a2 9 z])) hS22 => ?_)
        clear hP20 hD20 hS20
        have w21_0 : r21 = z 7 := hw21
        refine lv_aload_n hx hb dX0_receiveGreeting_120 rfl (lv_at hl3 1 rfl) ?_
        refine kget F hK hP22 0 22 0 iX0 rfl rfl (by decide) (List.mem_of_getElem? (i := 1) rfl) rfl dX0_receiveGreeting_121 ?_
        refine lv_iconst (v := 1) hx hb dX0_receiveGreeting_124 (by decide) ?_
        refine kVi (wr := [oLa lc a, oLa ls b, oMs dr da, aI G da 9 f, oRo rh w rp, aM G w 8 (krow q), oMs (q 0) (d 0), aI G (d 0) 9 (M 0), oMs (q 1) (d 1), aI G (d 1) 9 (M 1), oMs (q 2) (d 2), aI G (d 2) 9 (M 2), oMs (q 3) (d 3), aI G (d 3) 9 (M 3), oMs (q 4) (d 4), aI G (d 4) 9 (M 4), oMs (q 5) (d 5), aI G (d 5) 9 (M 5), oMs (q 6) (d 6), aI G (d 6) 9 (M 6), oMs (q 7) (d 7), aI G (d 7) 9 (M 7), oCl h pe ti c, oMs h2 a2, aI G a2 9 z]) F hK hP22 hD22 hS22 hA hl3.1 (c_X3_proof l G pe lc ls li lo dr p_19 1) [23] [0, 1, 2, 3, 4, 5, 6, 7, 8, 9, 10, 11, 12, 13, 14, 15, 16, 17, 18, 19, 20, 21, 22, 24, 25] 3 0 gX0_receiveGreeting_X3_proof rfl 1 rfl (by decide +kernel) ⟨Nat.le_of_ble_eq_true rfl, Nat.le_of_ble_eq_true rfl⟩ ⟨Nat.zero_le _, Nat.zero_le _⟩ rfl rfl rfl rfl (by decide) (by decide) (by decide) (Nat.le_of_ble_eq_true rfl) rfl dX0_receiveGreeting_125 (fun r23 u23 H24 locs24 hw23 (hP24 : va_P G.1 vwCl ([oLa lc a, oLa ls b, oMs dr da, aI G da 9 f, oRo rh w rp, aM G w 8 (krow q), oMs (q 0) (d 0), aI G (d 0) 9 (M 0), oMs (q 1) (d 1), aI G (d 1) 9 (M 1), oMs (q 2) (d 2), aI G (d 2) 9 (M 2), oMs (q 3) (d 3), aI G (d 3) 9 (M 3), oMs (q 4) (d 4), aI G (d 4) 9 (M 4), oMs (q 5) (d 5), aI G (d 5) 9 (M 5), oMs (q 6) (d 6), aI G (d 6) 9 (M 6), oMs (q 7) (d 7), aI G (d 7) 9 (M 7), oCl h pe ti c, oMs h2 a2, aI G a2 9 z, oPe pe lc ls li lo dr p_19]) H24) (hD24 : va_D A ([oLa lc a, oLa ls b, oMs dr da, aI G da 9 f, oRo rh w rp, aM G w 8 (krow q), oMs (q 0) (d 0), aI G (d 0) 9 (M 0), oMs (q 1) (d 1), aI G (d 1) 9 (M 1), oMs (q 2) (d 2), aI G (d 2) 9 (M 2), oMs (q 3) (d 3), aI G (d 3) 9 (M 3), oMs (q 4) (d 4), aI G (d 4) 9 (M 4), oMs (q 5) (d 5), aI G (d 5) 9 (M 5), oMs (q 6) (d 6), aI G (d 6) 9 (M 6), oMs (q 7) (d 7), aI G (d 7) 9 (M 7), oCl h pe ti c, oMs h2 a2, aI G a2 9 z, oPe pe lc ls li lo dr p_19])) hS24 => ?_)
        clear hP22 hD22 hS22
        have w23_0 : r23 = kproof p_19 1 := hw23
        refine lv_icmp_eq (tgt := 141) hx hb dX0_receiveGreeting_128 (by decide) (fun c25 => ?_) (fun c25 => ?_)
        · refine lv_aload_n hx hb dX0_receiveGreeting_141 rfl (lv_at hl3 1 rfl) ?_
          refine kget F hK hP24 0 22 0 iX0 rfl rfl (by decide) (List.mem_of_getElem? (i := 1) rfl) rfl dX0_receiveGreeting_142 ?_
          refine kget F hK hP24 3 25 17 iX3 rfl rfl (by decide) (List.mem_of_getElem? (i := 9) rfl) rfl dX0_receiveGreeting_145 ?_
          refine lv_iconst (v := 4) hx hb dX0_receiveGreeting_148 (by decide) ?_
          refine kVv (wr := [oLa lc a, oLa ls b, oRo rh w rp, aM G w 8 (krow q), oMs (q 0) (d 0), aI G (d 0) 9 (M 0), oMs (q 1) (d 1), aI G (d 1) 9 (M 1), oMs (q 2) (d 2), aI G (d 2) 9 (M 2), oMs (q 3) (d 3), aI G (d 3) 9 (M 3), oMs (q 4) (d 4), aI G (d 4) 9 (M 4), oMs (q 5) (d 5), aI G (d 5) 9 (M 5), oMs (q 6) (d 6), aI G (d 6) 9 (M 6), oMs (q 7) (d 7), aI G (d 7) 9 (M 7), oCl h pe ti c, oMs h2 a2, aI G a2 9 z, oPe pe lc ls li lo dr p_19]) F hK hP24 hD24 hS24 hA hl3.1 (c_X2_begin l G dr da f 4) [2, 3] [0, 1, 4, 5, 6, 7, 8, 9, 10, 11, 12, 13, 14, 15, 16, 17, 18, 19, 20, 21, 22, 23, 24, 25] 2 0 gX0_receiveGreeting_X2_begin rfl 1 rfl (by decide +kernel) ⟨Nat.le_of_ble_eq_true rfl, Nat.le_of_ble_eq_true rfl⟩ ⟨Nat.zero_le _, Nat.zero_le _⟩ rfl rfl rfl rfl (by decide) (by decide) (by decide) (Nat.le_of_ble_eq_true rfl) rfl dX0_receiveGreeting_149 (fun f_26 H27 locs27 hw26 (hP27 : va_P G.1 vwCl ([oLa lc a, oLa ls b, oRo rh w rp, aM G w 8 (krow q), oMs (q 0) (d 0), aI G (d 0) 9 (M 0), oMs (q 1) (d 1), aI G (d 1) 9 (M 1), oMs (q 2) (d 2), aI G (d 2) 9 (M 2), oMs (q 3) (d 3), aI G (d 3) 9 (M 3), oMs (q 4) (d 4), aI G (d 4) 9 (M 4), oMs (q 5) (d 5), aI G (d 5) 9 (M 5), oMs (q 6) (d 6), aI G (d 6) 9 (M 6), oMs (q 7) (d 7), aI G (d 7) 9 (M 7), oCl h pe ti c, oMs h2 a2, aI G a2 9 z, oPe pe lc ls li lo dr p_19, oMs dr da, aI G da 9 f_26]) H27) (hD27 : va_D A ([oLa lc a, oLa ls b, oRo rh w rp, aM G w 8 (krow q), oMs (q 0) (d 0), aI G (d 0) 9 (M 0), oMs (q 1) (d 1), aI G (d 1) 9 (M 1), oMs (q 2) (d 2), aI G (d 2) 9 (M 2), oMs (q 3) (d 3), aI G (d 3) 9 (M 3), oMs (q 4) (d 4), aI G (d 4) 9 (M 4), oMs (q 5) (d 5), aI G (d 5) 9 (M 5), oMs (q 6) (d 6), aI G (d 6) 9 (M 6), oMs (q 7) (d 7), aI G (d 7) 9 (M 7), oCl h pe ti c, oMs h2 a2, aI G a2 9 z, oPe pe lc ls li lo dr p_19, oMs dr da, aI G da 9 f_26])) hS27 => ?_)
          clear hP24 hD24 hS24
          have w26_0 : f_26 = kbeg f 4 := hw26
          refine lv_aload_n hx hb dX0_receiveGreeting_152 rfl (lv_at hl3 1 rfl) ?_
          refine kget F hK hP27 0 20 0 iX0 rfl rfl (by decide) (List.mem_of_getElem? (i := 1) rfl) rfl dX0_receiveGreeting_153 ?_
          refine kget F hK hP27 3 23 17 iX3 rfl rfl (by decide) (List.mem_of_getElem? (i := 9) rfl) rfl dX0_receiveGreeting_156 ?_
          refine lv_iconst (v := 1) hx hb dX0_receiveGreeting_159 (by decide) ?_
          refine lv_aload_n hx hb dX0_receiveGreeting_160 rfl (lv_at hl3 1 rfl) ?_
          refine kget F hK hP27 0 20 0 iX0 rfl rfl (by decide) (List.mem_of_getElem? (i := 1) rfl) rfl dX0_receiveGreeting_161 ?_
          refine lv_iconst (v := 2) hx hb dX0_receiveGreeting_164 (by decide) ?_
          refine kVi (wr := [oLa lc a, oLa ls b, oRo rh w rp, aM G w 8 (krow q), oMs (q 0) (d 0), aI G (d 0) 9 (M 0), oMs (q 1) (d 1), aI G (d 1) 9 (M 1), oMs (q 2) (d 2), aI G (d 2) 9 (M 2), oMs (q 3) (d 3), aI G (d 3) 9 (M 3), oMs (q 4) (d 4), aI G (d 4) 9 (M 4), oMs (q 5) (d 5), aI G (d 5) 9 (M 5), oMs (q 6) (d 6), aI G (d 6) 9 (M 6), oMs (q 7) (d 7), aI G (d 7) 9 (M 7), oCl h pe ti c, oMs h2 a2, aI G a2 9 z, oMs dr da, aI G da 9 f_26]) F hK hP27 hD27 hS27 hA hl3.1 (c_X3_proof l G pe lc ls li lo dr p_19 2) [23] [0, 1, 2, 3, 4, 5, 6, 7, 8, 9, 10, 11, 12, 13, 14, 15, 16, 17, 18, 19, 20, 21, 22, 24, 25] 3 0 gX0_receiveGreeting_X3_proof rfl 1 rfl (by decide +kernel) ⟨Nat.le_of_ble_eq_true rfl, Nat.le_of_ble_eq_true rfl⟩ ⟨Nat.zero_le _, Nat.zero_le _⟩ rfl rfl rfl rfl (by decide) (by decide) (by decide) (Nat.le_of_ble_eq_true rfl) rfl dX0_receiveGreeting_165 (fun r28 u28 H29 locs29 hw28 (hP29 : va_P G.1 vwCl ([oLa lc a, oLa ls b, oRo rh w rp, aM G w 8 (krow q), oMs (q 0) (d 0), aI G (d 0) 9 (M 0), oMs (q 1) (d 1), aI G (d 1) 9 (M 1), oMs (q 2) (d 2), aI G (d 2) 9 (M 2), oMs (q 3) (d 3), aI G (d 3) 9 (M 3), oMs (q 4) (d 4), aI G (d 4) 9 (M 4), oMs (q 5) (d 5), aI G (d 5) 9 (M 5), oMs (q 6) (d 6), aI G (d 6) 9 (M 6), oMs (q 7) (d 7), aI G (d 7) 9 (M 7), oCl h pe ti c, oMs h2 a2, aI G a2 9 z, oMs dr da, aI G da 9 f_26, oPe pe lc ls li lo dr p_19]) H29) (hD29 : va_D A ([oLa lc a, oLa ls b, oRo rh w rp, aM G w 8 (krow q), oMs (q 0) (d 0), aI G (d 0) 9 (M 0), oMs (q 1) (d 1), aI G (d 1) 9 (M 1), oMs (q 2) (d 2), aI G (d 2) 9 (M 2), oMs (q 3) (d 3), aI G (d 3) 9 (M 3), oMs (q 4) (d 4), aI G (d 4) 9 (M 4), oMs (q 5) (d 5), aI G (d 5) 9 (M 5), oMs (q 6) (d 6), aI G (d 6) 9 (M 6), oMs (q 7) (d 7), aI G (d 7) 9 (M 7), oCl h pe ti c, oMs h2 a2, aI G a2 9 z, oMs dr da, aI G da 9 f_26, oPe pe lc ls li lo dr p_19])) hS29 => ?_)
          clear hP27 hD27 hS27
          have w28_0 : r28 = kproof p_19 2 := hw28
          refine kVv (wr := [oLa lc a, oLa ls b, oRo rh w rp, aM G w 8 (krow q), oMs (q 0) (d 0), aI G (d 0) 9 (M 0), oMs (q 1) (d 1), aI G (d 1) 9 (M 1), oMs (q 2) (d 2), aI G (d 2) 9 (M 2), oMs (q 3) (d 3), aI G (d 3) 9 (M 3), oMs (q 4) (d 4), aI G (d 4) 9 (M 4), oMs (q 5) (d 5), aI G (d 5) 9 (M 5), oMs (q 6) (d 6), aI G (d 6) 9 (M 6), oMs (q 7) (d 7), aI G (d 7) 9 (M 7), oCl h pe ti c, oMs h2 a2, aI G a2 9 z, oPe pe lc ls li lo dr p_19]) F hK hP29 hD29 hS29 hA hl3.1 (c_X2_put l G dr da f_26 1 r28 (by first | assumption | decide | omega)) [23, 24] [0, 1, 2, 3, 4, 5, 6, 7, 8, 9, 10, 11, 12, 13, 14, 15, 16, 17, 18, 19, 20, 21, 22, 25] 2 0 gX0_receiveGreeting_X2_put rfl 2 rfl (by decide +kernel) ⟨Nat.le_of_ble_eq_true rfl, Nat.le_of_ble_eq_true rfl⟩ ⟨Nat.zero_le _, Nat.zero_le _⟩ rfl rfl rfl rfl (by decide) (by decide) (by decide) (Nat.le_of_ble_eq_true rfl) rfl dX0_receiveGreeting_168 (fun f_30 H31 locs31 hw30 (hP31 : va_P G.1 vwCl ([oLa lc a, oLa ls b, oRo rh w rp, aM G w 8 (krow q), oMs (q 0) (d 0), aI G (d 0) 9 (M 0), oMs (q 1) (d 1), aI G (d 1) 9 (M 1), oMs (q 2) (d 2), aI G (d 2) 9 (M 2), oMs (q 3) (d 3), aI G (d 3) 9 (M 3), oMs (q 4) (d 4), aI G (d 4) 9 (M 4), oMs (q 5) (d 5), aI G (d 5) 9 (M 5), oMs (q 6) (d 6), aI G (d 6) 9 (M 6), oMs (q 7) (d 7), aI G (d 7) 9 (M 7), oCl h pe ti c, oMs h2 a2, aI G a2 9 z, oPe pe lc ls li lo dr p_19, oMs dr da, aI G da 9 f_30]) H31) (hD31 : va_D A ([oLa lc a, oLa ls b, oRo rh w rp, aM G w 8 (krow q), oMs (q 0) (d 0), aI G (d 0) 9 (M 0), oMs (q 1) (d 1), aI G (d 1) 9 (M 1), oMs (q 2) (d 2), aI G (d 2) 9 (M 2), oMs (q 3) (d 3), aI G (d 3) 9 (M 3), oMs (q 4) (d 4), aI G (d 4) 9 (M 4), oMs (q 5) (d 5), aI G (d 5) 9 (M 5), oMs (q 6) (d 6), aI G (d 6) 9 (M 6), oMs (q 7) (d 7), aI G (d 7) 9 (M 7), oCl h pe ti c, oMs h2 a2, aI G a2 9 z, oPe pe lc ls li lo dr p_19, oMs dr da, aI G da 9 f_30])) hS31 => ?_)
          clear hP29 hD29 hS29
          have w30_0 : f_30 = upd f_26 1 r28 := hw30
          refine lv_aload_n hx hb dX0_receiveGreeting_171 rfl (lv_at hl3 3 rfl) ?_
          refine lv_aload_n hx hb dX0_receiveGreeting_172 rfl (lv_at hl3 1 rfl) ?_
          refine kget F hK hP31 0 20 0 iX0 rfl rfl (by decide) (List.mem_of_getElem? (i := 1) rfl) rfl dX0_receiveGreeting_173 ?_
          refine kget F hK hP31 3 23 17 iX3 rfl rfl (by decide) (List.mem_of_getElem? (i := 9) rfl) rfl dX0_receiveGreeting_176 ?_
          refine kVv (wr := [oLa lc a, oLa ls b, oCl h pe ti c, oMs h2 a2, aI G a2 9 z, oPe pe lc ls li lo dr p_19]) F hK hP31 hD31 hS31 hA hl3.1 (c_X4_send l G rh w q d rp M dr da f_30 L hL hL8) [2, 3, 4, 5, 6, 7, 8, 9, 10, 11, 12, 13, 14, 15, 16, 17, 18, 19, 24, 25] [0, 1, 20, 21, 22, 23] 4 0 gX0_receiveGreeting_X4_send rfl 1 rfl (by decide +kernel) ⟨Nat.le_of_ble_eq_true rfl, Nat.le_of_ble_eq_true rfl⟩ ⟨Nat.zero_le _, Nat.zero_le _⟩ rfl rfl rfl rfl (by decide) (by decide) (by decide) (Nat.le_of_ble_eq_true rfl) rfl dX0_receiveGreeting_179 (fun u32 H33 locs33 hw32 hP33 hD33 hS33 => ?_)
          obtain ⟨p_32, M_32⟩ := u32
          have hP33 : va_P G.1 vwCl ([oLa lc a, oLa ls b, oCl h pe ti c, oMs h2 a2, aI G a2 9 z, oPe pe lc ls li lo dr p_19, oRo rh w p_32, aM G w 8 (krow q), oMs (q 0) (d 0), aI G (d 0) 9 (M_32 0), oMs (q 1) (d 1), aI G (d 1) 9 (M_32 1), oMs (q 2) (d 2), aI G (d 2) 9 (M_32 2), oMs (q 3) (d 3), aI G (d 3) 9 (M_32 3), oMs (q 4) (d 4), aI G (d 4) 9 (M_32 4), oMs (q 5) (d 5), aI G (d 5) 9 (M_32 5), oMs (q 6) (d 6), aI G (d 6) 9 (M_32 6), oMs (q 7) (d 7), aI G (d 7) 9 (M_32 7), oMs dr da, aI G da 9 f_30]) H33 := hP33
          have hD33 : va_D A ([oLa lc a, oLa ls b, oCl h pe ti c, oMs h2 a2, aI G a2 9 z, oPe pe lc ls li lo dr p_19, oRo rh w p_32, aM G w 8 (krow q), oMs (q 0) (d 0), aI G (d 0) 9 (M_32 0), oMs (q 1) (d 1), aI G (d 1) 9 (M_32 1), oMs (q 2) (d 2), aI G (d 2) 9 (M_32 2), oMs (q 3) (d 3), aI G (d 3) 9 (M_32 3), oMs (q 4) (d 4), aI G (d 4) 9 (M_32 4), oMs (q 5) (d 5), aI G (d 5) 9 (M_32 5), oMs (q 6) (d 6), aI G (d 6) 9 (M_32 6), oMs (q 7) (d 7), aI G (d 7) 9 (M_32 7), oMs dr da, aI G da 9 f_30]) := hD33
          clear hP31 hD31 hS31
          have w32_0 : p_32 = ksendP L rp := hw32.1
          have w32_1 : M_32 = ksendM L M f_30 := hw32.2
          refine lv_aload_n hx hb dX0_receiveGreeting_182 rfl (lv_at hl3 1 rfl) ?_
          refine kget F hK hP33 0 2 0 iX0 rfl rfl (by decide) (List.mem_of_getElem? (i := 1) rfl) rfl dX0_receiveGreeting_183 ?_
          refine kVv (wr := [oCl h pe ti c, oMs h2 a2, aI G a2 9 z, oRo rh w p_32, aM G w 8 (krow q), oMs (q 0) (d 0), aI G (d 0) 9 (M_32 0), oMs (q 1) (d 1), aI G (d 1) 9 (M_32 1), oMs (q 2) (d 2), aI G (d 2) 9 (M_32 2), oMs (q 3) (d 3), aI G (d 3) 9 (M_32 3), oMs (q 4) (d 4), aI G (d 4) 9 (M_32 4), oMs (q 5) (d 5), aI G (d 5) 9 (M_32 5), oMs (q 6) (d 6), aI G (d 6) 9 (M_32 6), oMs (q 7) (d 7), aI G (d 7) 9 (M_32 7), oMs dr da, aI G da 9 f_30]) F hK hP33 hD33 hS33 hA hl3.1 (c_X3_join l G pe lc ls li lo dr p_19 a b) [5, 0, 1] [2, 3, 4, 6, 7, 8, 9, 10, 11, 12, 13, 14, 15, 16, 17, 18, 19, 20, 21, 22, 23, 24, 25] 3 0 gX0_receiveGreeting_X3_join rfl 0 rfl (by decide +kernel) ⟨Nat.le_of_ble_eq_true rfl, Nat.le_of_ble_eq_true rfl⟩ ⟨Nat.zero_le _, Nat.zero_le _⟩ rfl rfl rfl rfl (by decide) (by decide) (by decide) (Nat.le_of_ble_eq_true rfl) rfl dX0_receiveGreeting_186 (fun u34 H35 locs35 hw34 hP35 hD35 hS35 => ?_)
          obtain ⟨p_34, a_34, b_34⟩ := u34
          have hP35 : va_P G.1 vwCl ([oCl h pe ti c, oMs h2 a2, aI G a2 9 z, oRo rh w p_32, aM G w 8 (krow q), oMs (q 0) (d 0), aI G (d 0) 9 (M_32 0), oMs (q 1) (d 1), aI G (d 1) 9 (M_32 1), oMs (q 2) (d 2), aI G (d 2) 9 (M_32 2), oMs (q 3) (d 3), aI G (d 3) 9 (M_32 3), oMs (q 4) (d 4), aI G (d 4) 9 (M_32 4), oMs (q 5) (d 5), aI G (d 5) 9 (M_32 5), oMs (q 6) (d 6), aI G (d 6) 9 (M_32 6), oMs (q 7) (d 7), aI G (d 7) 9 (M_32 7), oMs dr da, aI G da 9 f_30, oPe pe lc ls li lo dr p_34, oLa lc a_34, oLa ls b_34]) H35 := hP35
          have hD35 : va_D A ([oCl h pe ti c, oMs h2 a2, aI G a2 9 z, oRo rh w p_32, aM G w 8 (krow q), oMs (q 0) (d 0), aI G (d 0) 9 (M_32 0), oMs (q 1) (d 1), aI G (d 1) 9 (M_32 1), oMs (q 2) (d 2), aI G (d 2) 9 (M_32 2), oMs (q 3) (d 3), aI G (d 3) 9 (M_32 3), oMs (q 4) (d 4), aI G (d 4) 9 (M_32 4), oMs (q 5) (d 5), aI G (d 5) 9 (M_32 5), oMs (q 6) (d 6), aI G (d 6) 9 (M_32 6), oMs (q 7) (d 7), aI G (d 7) 9 (M_32 7), oMs dr da, aI G da 9 f_30, oPe pe lc ls li lo dr p_34, oLa lc a_34, oLa ls b_34]) := hD35
          clear hP33 hD33 hS33
          have w34_0 : p_34 = kjoinP p_19 := hw34.1
          have w34_1 : a_34 = kopen a := hw34.2.1
          have w34_2 : b_34 = kopen b := hw34.2.2
          have q36 : (p_34 = (kgreetR L c p a b f rp M z).1) ∧ (a_34 = (kgreetR L c p a b f rp M z).2.1) ∧ (b_34 = (kgreetR L c p a b f rp M z).2.2.1) ∧ (f_30 = (kgreetR L c p a b f rp M z).2.2.2.1) ∧ (p_32 = (kgreetR L c p a b f rp M z).2.2.2.2.1) ∧ (M_32 = (kgreetR L c p a b f rp M z).2.2.2.2.2) := by
            subst w34_2
            subst w34_1
            subst w34_0
            subst w32_1
            subst w32_0
            subst w30_0
            subst w28_0
            subst w26_0
            subst w23_0
            subst w21_0
            subst w19_0
            subst ep18
            subst w16_0
            subst w13_0
            subst ep12
            subst w9_0
            subst ep8
            subst ep7
            subst w5_0
            subst w1_0
            first | (simp only [kgreetR, kgreetP, kgreetF, c4, c11, c15, c25, ↓reduceIte, and_self]; done) | (simp only [kgreetR, kgreetP, kgreetF, c4, c11, c15, c25, ↓reduceIte, and_self]; exact ⟨rfl, rfl, rfl, rfl, rfl, rfl⟩) | exact ⟨rfl, rfl, rfl, rfl, rfl, rfl⟩
          exact kRv F hr hlocks hS35 dX0_receiveGreeting_189 ⟨p_34, a_34, b_34, f_30, p_32, M_32⟩ q36 (hP35.sub [0, 23, 24, 25, 21, 22, 3, 4, 5, 6, 7, 8, 9, 10, 11, 12, 13, 14, 15, 16, 17, 18, 19, 20, 1, 2] rfl) (hD35.sub [0, 23, 24, 25, 21, 22, 3, 4, 5, 6, 7, 8, 9, 10, 11, 12, 13, 14, 15, 16, 17, 18, 19, 20, 1, 2] (by decide) rfl)
        · refine lv_aload_n hx hb dX0_receiveGreeting_131 rfl (lv_at hl3 1 rfl) ?_
          refine kget F hK hP24 0 22 0 iX0 rfl rfl (by decide) (List.mem_of_getElem? (i := 1) rfl) rfl dX0_receiveGreeting_132 ?_
          refine lv_bipush (v := 8) hx hb dX0_receiveGreeting_135 (by decide) ?_
          refine kVv (wr := [oLa lc a, oLa ls b, oMs dr da, aI G da 9 f, oRo rh w rp, aM G w 8 (krow q), oMs (q 0) (d 0), aI G (d 0) 9 (M 0), oMs (q 1) (d 1), aI G (d 1) 9 (M 1), oMs (q 2) (d 2), aI G (d 2) 9 (M 2), oMs (q 3) (d 3), aI G (d 3) 9 (M 3), oMs (q 4) (d 4), aI G (d 4) 9 (M 4), oMs (q 5) (d 5), aI G (d 5) 9 (M 5), oMs (q 6) (d 6), aI G (d 6) 9 (M 6), oMs (q 7) (d 7), aI G (d 7) 9 (M 7), oCl h pe ti c, oMs h2 a2, aI G a2 9 z]) F hK hP24 hD24 hS24 hA hl3.1 (c_X3_fail l G pe lc ls li lo dr p_19 8) [25] [0, 1, 2, 3, 4, 5, 6, 7, 8, 9, 10, 11, 12, 13, 14, 15, 16, 17, 18, 19, 20, 21, 22, 23, 24] 3 0 gX0_receiveGreeting_X3_fail rfl 1 rfl (by decide +kernel) ⟨Nat.le_of_ble_eq_true rfl, Nat.le_of_ble_eq_true rfl⟩ ⟨Nat.zero_le _, Nat.zero_le _⟩ rfl rfl rfl rfl (by decide) (by decide) (by decide) (Nat.le_of_ble_eq_true rfl) rfl dX0_receiveGreeting_137 (fun p_37 H38 locs38 hw37 (hP38 : va_P G.1 vwCl ([oLa lc a, oLa ls b, oMs dr da, aI G da 9 f, oRo rh w rp, aM G w 8 (krow q), oMs (q 0) (d 0), aI G (d 0) 9 (M 0), oMs (q 1) (d 1), aI G (d 1) 9 (M 1), oMs (q 2) (d 2), aI G (d 2) 9 (M 2), oMs (q 3) (d 3), aI G (d 3) 9 (M 3), oMs (q 4) (d 4), aI G (d 4) 9 (M 4), oMs (q 5) (d 5), aI G (d 5) 9 (M 5), oMs (q 6) (d 6), aI G (d 6) 9 (M 6), oMs (q 7) (d 7), aI G (d 7) 9 (M 7), oCl h pe ti c, oMs h2 a2, aI G a2 9 z, oPe pe lc ls li lo dr p_37]) H38) (hD38 : va_D A ([oLa lc a, oLa ls b, oMs dr da, aI G da 9 f, oRo rh w rp, aM G w 8 (krow q), oMs (q 0) (d 0), aI G (d 0) 9 (M 0), oMs (q 1) (d 1), aI G (d 1) 9 (M 1), oMs (q 2) (d 2), aI G (d 2) 9 (M 2), oMs (q 3) (d 3), aI G (d 3) 9 (M 3), oMs (q 4) (d 4), aI G (d 4) 9 (M 4), oMs (q 5) (d 5), aI G (d 5) 9 (M 5), oMs (q 6) (d 6), aI G (d 6) 9 (M 6), oMs (q 7) (d 7), aI G (d 7) 9 (M 7), oCl h pe ti c, oMs h2 a2, aI G a2 9 z, oPe pe lc ls li lo dr p_37])) hS38 => ?_)
          clear hP24 hD24 hS24
          have w37_0 : p_37 = kfail p_19 8 := hw37
          have q39 : (p_37 = (kgreetR L c p a b f rp M z).1) ∧ (a = (kgreetR L c p a b f rp M z).2.1) ∧ (b = (kgreetR L c p a b f rp M z).2.2.1) ∧ (f = (kgreetR L c p a b f rp M z).2.2.2.1) ∧ (rp = (kgreetR L c p a b f rp M z).2.2.2.2.1) ∧ (M = (kgreetR L c p a b f rp M z).2.2.2.2.2) := by
            subst w37_0
            subst w23_0
            subst w21_0
            subst w19_0
            subst ep18
            subst w16_0
            subst w13_0
            subst ep12
            subst w9_0
            subst ep8
            subst ep7
            subst w5_0
            subst w1_0
            first | (simp only [kgreetR, kgreetP, kgreetF, c4, c11, c15, c25, ↓reduceIte, and_self]; done) | (simp only [kgreetR, kgreetP, kgreetF, c4, c11, c15, c25, ↓reduceIte, and_self]; exact ⟨rfl, rfl, rfl, rfl, rfl, rfl⟩) | exact ⟨rfl, rfl, rfl, rfl, rfl, rfl⟩
          exact kRv F hr hlocks hS38 dX0_receiveGreeting_140 ⟨p_37, a, b, f, rp, M⟩ q39 (hP38.sub [22, 25, 0, 1, 2, 3, 4, 5, 6, 7, 8, 9, 10, 11, 12, 13, 14, 15, 16, 17, 18, 19, 20, 21, 23, 24] rfl) (hD38.sub [22, 25, 0, 1, 2, 3, 4, 5, 6, 7, 8, 9, 10, 11, 12, 13, 14, 15, 16, 17, 18, 19, 20, 21, 23, 24] (by decide) rfl)
      · exact absurd (by decide) c15
    · refine lv_iconst (v := 1) hx hb dX0_receiveGreeting_54 (by decide) ?_
      refine lv_goto (tgt := 59) hx hb dX0_receiveGreeting_55 (by decide) ?_
      refine kput F hK hP10 hD10 hS10 (ty0 := tyX3) 3 23 8 iX3 rfl tyX3_ok nmX3 (fun z => [oLa lc a, oLa ls b, oMs dr da, aI G da 9 f, oRo rh w rp, aM G w 8 (krow q), oMs (q 0) (d 0), aI G (d 0) 9 (M 0), oMs (q 1) (d 1), aI G (d 1) 9 (M 1), oMs (q 2) (d 2), aI G (d 2) 9 (M 2), oMs (q 3) (d 3), aI G (d 3) 9 (M 3), oMs (q 4) (d 4), aI G (d 4) 9 (M 4), oMs (q 5) (d 5), aI G (d 5) 9 (M 5), oMs (q 6) (d 6), aI G (d 6) 9 (M 6), oMs (q 7) (d 7), aI G (d 7) 9 (M 7), oCl h pe ti c, oPe pe lc ls li lo dr z, oMs h2 a2, aI G a2 9 z]) p8 rfl (by decide) (List.mem_of_getElem? (i := 5) rfl) rfl rfl rfl (Nat.le_of_ble_eq_true rfl) rfl dX0_receiveGreeting_59 (fun H40 locs40 p40 ep40 (hP40 : va_P G.1 vwCl ([oLa lc a, oLa ls b, oMs dr da, aI G da 9 f, oRo rh w rp, aM G w 8 (krow q), oMs (q 0) (d 0), aI G (d 0) 9 (M 0), oMs (q 1) (d 1), aI G (d 1) 9 (M 1), oMs (q 2) (d 2), aI G (d 2) 9 (M 2), oMs (q 3) (d 3), aI G (d 3) 9 (M 3), oMs (q 4) (d 4), aI G (d 4) 9 (M 4), oMs (q 5) (d 5), aI G (d 5) 9 (M 5), oMs (q 6) (d 6), aI G (d 6) 9 (M 6), oMs (q 7) (d 7), aI G (d 7) 9 (M 7), oCl h pe ti c, oPe pe lc ls li lo dr p40, oMs h2 a2, aI G a2 9 z]) H40) (hD40 : va_D A ([oLa lc a, oLa ls b, oMs dr da, aI G da 9 f, oRo rh w rp, aM G w 8 (krow q), oMs (q 0) (d 0), aI G (d 0) 9 (M 0), oMs (q 1) (d 1), aI G (d 1) 9 (M 1), oMs (q 2) (d 2), aI G (d 2) 9 (M 2), oMs (q 3) (d 3), aI G (d 3) 9 (M 3), oMs (q 4) (d 4), aI G (d 4) 9 (M 4), oMs (q 5) (d 5), aI G (d 5) 9 (M 5), oMs (q 6) (d 6), aI G (d 6) 9 (M 6), oMs (q 7) (d 7), aI G (d 7) 9 (M 7), oCl h pe ti c, oPe pe lc ls li lo dr p40, oMs h2 a2, aI G a2 9 z])) hS40 => ?_)
      clear hP10 hD10 hS10
      refine lv_aload_n hx hb dX0_receiveGreeting_62 rfl (lv_at hl3 1 rfl) ?_
      refine kget F hK hP40 0 22 0 iX0 rfl rfl (by decide) (List.mem_of_getElem? (i := 1) rfl) rfl dX0_receiveGreeting_63 ?_
      refine lv_aload_n hx hb dX0_receiveGreeting_66 rfl (lv_at hl3 2 rfl) ?_
      refine lv_iconst (v := 3) hx hb dX0_receiveGreeting_67 (by decide) ?_
      refine kVi (wr := [oLa lc a, oLa ls b, oMs dr da, aI G da 9 f, oRo rh w rp, aM G w 8 (krow q), oMs (q 0) (d 0), aI G (d 0) 9 (M 0), oMs (q 1) (d 1), aI G (d 1) 9 (M 1), oMs (q 2) (d 2), aI G (d 2) 9 (M 2), oMs (q 3) (d 3), aI G (d 3) 9 (M 3), oMs (q 4) (d 4), aI G (d 4) 9 (M 4), oMs (q 5) (d 5), aI G (d 5) 9 (M 5), oMs (q 6) (d 6), aI G (d 6) 9 (M 6), oMs (q 7) (d 7), aI G (d 7) 9 (M 7), oCl h pe ti c, oPe pe lc ls li lo dr p40]) F hK hP40 hD40 hS40 hA hl3.1 (c_X2_at l G h2 a2 z 3 (by first | assumption | decide | omega)) [24, 25] [0, 1, 2, 3, 4, 5, 6, 7, 8, 9, 10, 11, 12, 13, 14, 15, 16, 17, 18, 19, 20, 21, 22, 23] 2 0 gX0_receiveGreeting_X2_at rfl 1 rfl (by decide +kernel) ⟨Nat.le_of_ble_eq_true rfl, Nat.le_of_ble_eq_true rfl⟩ ⟨Nat.zero_le _, Nat.zero_le _⟩ rfl rfl rfl rfl (by decide) (by decide) (by decide) (Nat.le_of_ble_eq_true rfl) rfl dX0_receiveGreeting_68 (fun r41 u41 H42 locs42 hw41 (hP42 : va_P G.1 vwCl ([oLa lc a, oLa ls b, oMs dr da, aI G da 9 f, oRo rh w rp, aM G w 8 (krow q), oMs (q 0) (d 0), aI G (d 0) 9 (M 0), oMs (q 1) (d 1), aI G (d 1) 9 (M 1), oMs (q 2) (d 2), aI G (d 2) 9 (M 2), oMs (q 3) (d 3), aI G (d 3) 9 (M 3), oMs (q 4) (d 4), aI G (d 4) 9 (M 4), oMs (q 5) (d 5), aI G (d 5) 9 (M 5), oMs (q 6) (d 6), aI G (d 6) 9 (M 6), oMs (q 7) (d 7), aI G (d 7) 9 (M 7), oCl h pe ti c, oPe pe lc ls li lo dr p40, oMs h2 a2, aI G a2 9 z]) H42) (hD42 : va_D A ([oLa lc a, oLa ls b, oMs dr da, aI G da 9 f, oRo rh w rp, aM G w 8 (krow q), oMs (q 0) (d 0), aI G (d 0) 9 (M 0), oMs (q 1) (d 1), aI G (d 1) 9 (M 1), oMs (q 2) (d 2), aI G (d 2) 9 (M 2), oMs (q 3) (d 3), aI G (d 3) 9 (M 3), oMs (q 4) (d 4), aI G (d 4) 9 (M 4), oMs (q 5) (d 5), aI G (d 5) 9 (M 5), oMs (q 6) (d 6), aI G (d 6) 9 (M 6), oMs (q 7) (d 7), aI G (d 7) 9 (M 7), oCl h pe ti c, oPe pe lc ls li lo dr p40, oMs h2 a2, aI G a2 9 z])) hS42 => ?_)
      clear hP40 hD40 hS40
      have w41_0 : r41 = z 3 := hw41
      refine lv_aload_n hx hb dX0_receiveGreeting_71 rfl (lv_at hl3 1 rfl) ?_
      refine kget F hK hP42 0 22 0 iX0 rfl rfl (by decide) (List.mem_of_getElem? (i := 1) rfl) rfl dX0_receiveGreeting_72 ?_
      refine kget F hK hP42 3 23 2 iX3 rfl rfl (by decide) (List.mem_of_getElem? (i := 6) rfl) rfl dX0_receiveGreeting_75 ?_
      refine lv_aload_n hx hb dX0_receiveGreeting_78 rfl (lv_at hl3 1 rfl) ?_
      refine kget F hK hP42 0 22 6 iX0 rfl rfl (by decide) (List.mem_of_getElem? (i := 3) rfl) rfl dX0_receiveGreeting_79 ?_
      refine lv_aload_n hx hb dX0_receiveGreeting_82 rfl (lv_at hl3 1 rfl) ?_
      refine kget F hK hP42 0 22 0 iX0 rfl rfl (by decide) (List.mem_of_getElem? (i := 1) rfl) rfl dX0_receiveGreeting_83 ?_
      refine kget F hK hP42 3 23 8 iX3 rfl rfl (by decide) (List.mem_of_getElem? (i := 5) rfl) rfl dX0_receiveGreeting_86 ?_
      rw [show (p40 8) = 1 from by subst w41_0; subst ep40; subst w9_0; subst ep8; subst ep7; subst w5_0; subst w1_0; rfl]
      refine lv_if_eq (tgt := 99) hx hb dX0_receiveGreeting_89 (by decide) (fun c43 => ?_) (fun c43 => ?_)
      · exact absurd c43 (by decide)
      · refine lv_aload_n hx hb dX0_receiveGreeting_92 rfl (lv_at hl3 1 rfl) ?_
        refine kget F hK hP42 0 22 8 iX0 rfl rfl (by decide) (List.mem_of_getElem? (i := 7) rfl) rfl dX0_receiveGreeting_93 ?_
        refine lv_goto (tgt := 100) hx hb dX0_receiveGreeting_96 (by decide) ?_
        refine kPNi F hK hP42 hD42 hS42 hA hl3.1 (c_X8_keyOf l G r41 (p40 2) (c 6) (c 8)) (fun _ => rfl) 10 rfl gX0_receiveGreeting_X8_keyOf_n153 (List.mem_of_getElem? (i := 43) rfl) (List.mem_of_getElem? (i := 27) rfl) rfl 4 rfl (by decide +kernel) ⟨Nat.le_of_ble_eq_true rfl, Nat.le_of_ble_eq_true rfl⟩ ⟨Nat.zero_le _, Nat.zero_le _⟩ (Nat.le_of_ble_eq_true rfl) rfl dX0_receiveGreeting_100 (fun r44 u44 H45 locs45 hw44 (hP45 : va_P G.1 vwCl ([oLa lc a, oLa ls b, oMs dr da, aI G da 9 f, oRo rh w rp, aM G w 8 (krow q), oMs (q 0) (d 0), aI G (d 0) 9 (M 0), oMs (q 1) (d 1), aI G (d 1) 9 (M 1), oMs (q 2) (d 2), aI G (d 2) 9 (M 2), oMs (q 3) (d 3), aI G (d 3) 9 (M 3), oMs (q 4) (d 4), aI G (d 4) 9 (M 4), oMs (q 5) (d 5), aI G (d 5) 9 (M 5), oMs (q 6) (d 6), aI G (d 6) 9 (M 6), oMs (q 7) (d 7), aI G (d 7) 9 (M 7), oCl h pe ti c, oPe pe lc ls li lo dr p40, oMs h2 a2, aI G a2 9 z]) H45) (hD45 : va_D A ([oLa lc a, oLa ls b, oMs dr da, aI G da 9 f, oRo rh w rp, aM G w 8 (krow q), oMs (q 0) (d 0), aI G (d 0) 9 (M 0), oMs (q 1) (d 1), aI G (d 1) 9 (M 1), oMs (q 2) (d 2), aI G (d 2) 9 (M 2), oMs (q 3) (d 3), aI G (d 3) 9 (M 3), oMs (q 4) (d 4), aI G (d 4) 9 (M 4), oMs (q 5) (d 5), aI G (d 5) 9 (M 5), oMs (q 6) (d 6), aI G (d 6) 9 (M 6), oMs (q 7) (d 7), aI G (d 7) 9 (M 7), oCl h pe ti c, oPe pe lc ls li lo dr p40, oMs h2 a2, aI G a2 9 z])) hS45 => ?_)
        clear hP42 hD42 hS42
        have w44_0 : r44 = kkey r41 (p40 2) (c 6) (c 8) := hw44
        refine kput F hK hP45 hD45 hS45 (ty0 := tyX3) 3 23 9 iX3 rfl tyX3_ok nmX3 (fun z => [oLa lc a, oLa ls b, oMs dr da, aI G da 9 f, oRo rh w rp, aM G w 8 (krow q), oMs (q 0) (d 0), aI G (d 0) 9 (M 0), oMs (q 1) (d 1), aI G (d 1) 9 (M 1), oMs (q 2) (d 2), aI G (d 2) 9 (M 2), oMs (q 3) (d 3), aI G (d 3) 9 (M 3), oMs (q 4) (d 4), aI G (d 4) 9 (M 4), oMs (q 5) (d 5), aI G (d 5) 9 (M 5), oMs (q 6) (d 6), aI G (d 6) 9 (M 6), oMs (q 7) (d 7), aI G (d 7) 9 (M 7), oCl h pe ti c, oPe pe lc ls li lo dr z, oMs h2 a2, aI G a2 9 z]) p40 rfl (by decide) (List.mem_of_getElem? (i := 8) rfl) rfl rfl rfl (Nat.le_of_ble_eq_true rfl) rfl dX0_receiveGreeting_103 (fun H46 locs46 p46 ep46 (hP46 : va_P G.1 vwCl ([oLa lc a, oLa ls b, oMs dr da, aI G da 9 f, oRo rh w rp, aM G w 8 (krow q), oMs (q 0) (d 0), aI G (d 0) 9 (M 0), oMs (q 1) (d 1), aI G (d 1) 9 (M 1), oMs (q 2) (d 2), aI G (d 2) 9 (M 2), oMs (q 3) (d 3), aI G (d 3) 9 (M 3), oMs (q 4) (d 4), aI G (d 4) 9 (M 4), oMs (q 5) (d 5), aI G (d 5) 9 (M 5), oMs (q 6) (d 6), aI G (d 6) 9 (M 6), oMs (q 7) (d 7), aI G (d 7) 9 (M 7), oCl h pe ti c, oPe pe lc ls li lo dr p46, oMs h2 a2, aI G a2 9 z]) H46) (hD46 : va_D A ([oLa lc a, oLa ls b, oMs dr da, aI G da 9 f, oRo rh w rp, aM G w 8 (krow q), oMs (q 0) (d 0), aI G (d 0) 9 (M 0), oMs (q 1) (d 1), aI G (d 1) 9 (M 1), oMs (q 2) (d 2), aI G (d 2) 9 (M 2), oMs (q 3) (d 3), aI G (d 3) 9 (M 3), oMs (q 4) (d 4), aI G (d 4) 9 (M 4), oMs (q 5) (d 5), aI G (d 5) 9 (M 5), oMs (q 6) (d 6), aI G (d 6) 9 (M 6), oMs (q 7) (d 7), aI G (d 7) 9 (M 7), oCl h pe ti c, oPe pe lc ls li lo dr p46, oMs h2 a2, aI G a2 9 z])) hS46 => ?_)
        clear hP45 hD45 hS45
        refine lv_aload_n hx hb dX0_receiveGreeting_106 rfl (lv_at hl3 1 rfl) ?_
        refine kget F hK hP46 0 22 0 iX0 rfl rfl (by decide) (List.mem_of_getElem? (i := 1) rfl) rfl dX0_receiveGreeting_107 ?_
        refine lv_aload_n hx hb dX0_receiveGreeting_110 rfl (lv_at hl3 2 rfl) ?_
        refine kVv (wr := [oLa lc a, oLa ls b, oMs dr da, aI G da 9 f, oRo rh w rp, aM G w 8 (krow q), oMs (q 0) (d 0), aI G (d 0) 9 (M 0), oMs (q 1) (d 1), aI G (d 1) 9 (M 1), oMs (q 2) (d 2), aI G (d 2) 9 (M 2), oMs (q 3) (d 3), aI G (d 3) 9 (M 3), oMs (q 4) (d 4), aI G (d 4) 9 (M 4), oMs (q 5) (d 5), aI G (d 5) 9 (M 5), oMs (q 6) (d 6), aI G (d 6) 9 (M 6), oMs (q 7) (d 7), aI G (d 7) 9 (M 7), oCl h pe ti c]) F hK hP46 hD46 hS46 hA hl3.1 (c_X3_takeIn l G pe lc ls li lo dr p46 h2 a2 z) [23, 24, 25] [0, 1, 2, 3, 4, 5, 6, 7, 8, 9, 10, 11, 12, 13, 14, 15, 16, 17, 18, 19, 20, 21, 22] 3 0 gX0_receiveGreeting_X3_takeIn rfl 1 rfl (by decide +kernel) ⟨Nat.le_of_ble_eq_true rfl, Nat.le_of_ble_eq_true rfl⟩ ⟨Nat.zero_le _, Nat.zero_le _⟩ rfl rfl rfl rfl (by decide) (by decide) (by decide) (Nat.le_of_ble_eq_true rfl) rfl dX0_receiveGreeting_111 (fun p_47 H48 locs48 hw47 (hP48 : va_P G.1 vwCl ([oLa lc a, oLa ls b, oMs dr da, aI G da 9 f, oRo rh w rp, aM G w 8 (krow q), oMs (q 0) (d 0), aI G (d 0) 9 (M 0), oMs (q 1) (d 1), aI G (d 1) 9 (M 1), oMs (q 2) (d 2), aI G (d 2) 9 (M 2), oMs (q 3) (d 3), aI G (d 3) 9 (M 3), oMs (q 4) (d 4), aI G (d 4) 9 (M 4), oMs (q 5) (d 5), aI G (d 5) 9 (M 5), oMs (q 6) (d 6), aI G (d 6) 9 (M 6), oMs (q 7) (d 7), aI G (d 7) 9 (M 7), oCl h pe ti c, oPe pe lc ls li lo dr p_47, oMs h2 a2, aI G a2 9 z]) H48) (hD48 : va_D A ([oLa lc a, oLa ls b, oMs dr da, aI G da 9 f, oRo rh w rp, aM G w 8 (krow q), oMs (q 0) (d 0), aI G (d 0) 9 (M 0), oMs (q 1) (d 1), aI G (d 1) 9 (M 1), oMs (q 2) (d 2), aI G (d 2) 9 (M 2), oMs (q 3) (d 3), aI G (d 3) 9 (M 3), oMs (q 4) (d 4), aI G (d 4) 9 (M 4), oMs (q 5) (d 5), aI G (d 5) 9 (M 5), oMs (q 6) (d 6), aI G (d 6) 9 (M 6), oMs (q 7) (d 7), aI G (d 7) 9 (M 7), oCl h pe ti c, oPe pe lc ls li lo dr p_47, oMs h2 a2, aI G a2 9 z])) hS48 => ?_)
        clear hP46 hD46 hS46
        have w47_0 : p_47 = ktake p46 z := hw47
        refine lv_aload_n hx hb dX0_receiveGreeting_114 rfl (lv_at hl3 2 rfl) ?_
        refine lv_bipush (v := 7) hx hb dX0_receiveGreeting_115 (by decide) ?_
        refine kVi (wr := [oLa lc a, oLa ls b, oMs dr da, aI G da 9 f, oRo rh w rp, aM G w 8 (krow q), oMs (q 0) (d 0), aI G (d 0) 9 (M 0), oMs (q 1) (d 1), aI G (d 1) 9 (M 1), oMs (q 2) (d 2), aI G (d 2) 9 (M 2), oMs (q 3) (d 3), aI G (d 3) 9 (M 3), oMs (q 4) (d 4), aI G (d 4) 9 (M 4), oMs (q 5) (d 5), aI G (d 5) 9 (M 5), oMs (q 6) (d 6), aI G (d 6) 9 (M 6), oMs (q 7) (d 7), aI G (d 7) 9 (M 7), oCl h pe ti c, oPe pe lc ls li lo dr p_47]) F hK hP48 hD48 hS48 hA hl3.1 (c_X2_at l G h2 a2 z 7 (by first | assumption | decide | omega)) [24, 25] [0, 1, 2, 3, 4, 5, 6, 7, 8, 9, 10, 11, 12, 13, 14, 15, 16, 17, 18, 19, 20, 21, 22, 23] 2 0 gX0_receiveGreeting_X2_at rfl 1 rfl (by decide +kernel) ⟨Nat.le_of_ble_eq_true rfl, Nat.le_of_ble_eq_true rfl⟩ ⟨Nat.zero_le _, Nat.zero_le _⟩ rfl rfl rfl rfl (by decide) (by decide) (by decide) (Nat.le_of_ble_eq_true rfl) rfl dX0_receiveGreeting_117 (fun r49 u49 H50 locs50 hw49 (hP50 : va_P G.1 vwCl ([oLa lc a, oLa ls b, oMs dr da, aI G da 9 f, oRo rh w rp, aM G w 8 (krow q), oMs (q 0) (d 0), aI G (d 0) 9 (M 0), oMs (q 1) (d 1), aI G (d 1) 9 (M 1), oMs (q 2) (d 2), aI G (d 2) 9 (M 2), oMs (q 3) (d 3), aI G (d 3) 9 (M 3), oMs (q 4) (d 4), aI G (d 4) 9 (M 4), oMs (q 5) (d 5), aI G (d 5) 9 (M 5), oMs (q 6) (d 6), aI G (d 6) 9 (M 6), oMs (q 7) (d 7), aI G (d 7) 9 (M 7), oCl h pe ti c, oPe pe lc ls li lo dr p_47, oMs h2 a2, aI G a2 9 z]) H50) (hD50 : va_D A ([oLa lc a, oLa ls b, oMs dr da, aI G da 9 f, oRo rh w rp, aM G w 8 (krow q), oMs (q 0) (d 0), aI G (d 0) 9 (M 0), oMs (q 1) (d 1), aI G (d 1) 9 (M 1), oMs (q 2) (d 2), aI G (d 2) 9 (M 2), oMs (q 3) (d 3), aI G (d 3) 9 (M 3), oMs (q 4) (d 4), aI G (d 4) 9 (M 4), oMs (q 5) (d 5), aI G (d 5) 9 (M 5), oMs (q 6) (d 6), aI G (d 6) 9 (M 6), oMs (q 7) (d 7), aI G (d 7) 9 (M 7), oCl h pe ti c, oPe pe lc ls li lo dr p_47, oMs h2 a2, aI G a2 9 z])) hS50 => ?_)
        clear hP48 hD48 hS48
        have w49_0 : r49 = z 7 := hw49
        refine lv_aload_n hx hb dX0_receiveGreeting_120 rfl (lv_at hl3 1 rfl) ?_
        refine kget F hK hP50 0 22 0 iX0 rfl rfl (by decide) (List.mem_of_getElem? (i := 1) rfl) rfl dX0_receiveGreeting_121 ?_
        refine lv_iconst (v := 1) hx hb dX0_receiveGreeting_124 (by decide) ?_
        refine kVi (wr := [oLa lc a, oLa ls b, oMs dr da, aI G da 9 f, oRo rh w rp, aM G w 8 (krow q), oMs (q 0) (d 0), aI G (d 0) 9 (M 0), oMs (q 1) (d 1), aI G (d 1) 9 (M 1), oMs (q 2) (d 2), aI G (d 2) 9 (M 2), oMs (q 3) (d 3), aI G (d 3) 9 (M 3), oMs (q 4) (d 4), aI G (d 4) 9 (M 4), oMs (q 5) (d 5), aI G (d 5) 9 (M 5), oMs (q 6) (d 6), aI G (d 6) 9 (M 6), oMs (q 7) (d 7), aI G (d 7) 9 (M 7), oCl h pe ti c, oMs h2 a2, aI G a2 9 z]) F hK hP50 hD50 hS50 hA hl3.1 (c_X3_proof l G pe lc ls li lo dr p_47 1) [23] [0, 1, 2, 3, 4, 5, 6, 7, 8, 9, 10, 11, 12, 13, 14, 15, 16, 17, 18, 19, 20, 21, 22, 24, 25] 3 0 gX0_receiveGreeting_X3_proof rfl 1 rfl (by decide +kernel) ⟨Nat.le_of_ble_eq_true rfl, Nat.le_of_ble_eq_true rfl⟩ ⟨Nat.zero_le _, Nat.zero_le _⟩ rfl rfl rfl rfl (by decide) (by decide) (by decide) (Nat.le_of_ble_eq_true rfl) rfl dX0_receiveGreeting_125 (fun r51 u51 H52 locs52 hw51 (hP52 : va_P G.1 vwCl ([oLa lc a, oLa ls b, oMs dr da, aI G da 9 f, oRo rh w rp, aM G w 8 (krow q), oMs (q 0) (d 0), aI G (d 0) 9 (M 0), oMs (q 1) (d 1), aI G (d 1) 9 (M 1), oMs (q 2) (d 2), aI G (d 2) 9 (M 2), oMs (q 3) (d 3), aI G (d 3) 9 (M 3), oMs (q 4) (d 4), aI G (d 4) 9 (M 4), oMs (q 5) (d 5), aI G (d 5) 9 (M 5), oMs (q 6) (d 6), aI G (d 6) 9 (M 6), oMs (q 7) (d 7), aI G (d 7) 9 (M 7), oCl h pe ti c, oMs h2 a2, aI G a2 9 z, oPe pe lc ls li lo dr p_47]) H52) (hD52 : va_D A ([oLa lc a, oLa ls b, oMs dr da, aI G da 9 f, oRo rh w rp, aM G w 8 (krow q), oMs (q 0) (d 0), aI G (d 0) 9 (M 0), oMs (q 1) (d 1), aI G (d 1) 9 (M 1), oMs (q 2) (d 2), aI G (d 2) 9 (M 2), oMs (q 3) (d 3), aI G (d 3) 9 (M 3), oMs (q 4) (d 4), aI G (d 4) 9 (M 4), oMs (q 5) (d 5), aI G (d 5) 9 (M 5), oMs (q 6) (d 6), aI G (d 6) 9 (M 6), oMs (q 7) (d 7), aI G (d 7) 9 (M 7), oCl h pe ti c, oMs h2 a2, aI G a2 9 z, oPe pe lc ls li lo dr p_47])) hS52 => ?_)
        clear hP50 hD50 hS50
        have w51_0 : r51 = kproof p_47 1 := hw51
        refine lv_icmp_eq (tgt := 141) hx hb dX0_receiveGreeting_128 (by decide) (fun c53 => ?_) (fun c53 => ?_)
        · refine lv_aload_n hx hb dX0_receiveGreeting_141 rfl (lv_at hl3 1 rfl) ?_
          refine kget F hK hP52 0 22 0 iX0 rfl rfl (by decide) (List.mem_of_getElem? (i := 1) rfl) rfl dX0_receiveGreeting_142 ?_
          refine kget F hK hP52 3 25 17 iX3 rfl rfl (by decide) (List.mem_of_getElem? (i := 9) rfl) rfl dX0_receiveGreeting_145 ?_
          refine lv_iconst (v := 4) hx hb dX0_receiveGreeting_148 (by decide) ?_
          refine kVv (wr := [oLa lc a, oLa ls b, oRo rh w rp, aM G w 8 (krow q), oMs (q 0) (d 0), aI G (d 0) 9 (M 0), oMs (q 1) (d 1), aI G (d 1) 9 (M 1), oMs (q 2) (d 2), aI G (d 2) 9 (M 2), oMs (q 3) (d 3), aI G (d 3) 9 (M 3), oMs (q 4) (d 4), aI G (d 4) 9 (M 4), oMs (q 5) (d 5), aI G (d 5) 9 (M 5), oMs (q 6) (d 6), aI G (d 6) 9 (M 6), oMs (q 7) (d 7), aI G (d 7) 9 (M 7), oCl h pe ti c, oMs h2 a2, aI G a2 9 z, oPe pe lc ls li lo dr p_47]) F hK hP52 hD52 hS52 hA hl3.1 (c_X2_begin l G dr da f 4) [2, 3] [0, 1, 4, 5, 6, 7, 8, 9, 10, 11, 12, 13, 14, 15, 16, 17, 18, 19, 20, 21, 22, 23, 24, 25] 2 0 gX0_receiveGreeting_X2_begin rfl 1 rfl (by decide +kernel) ⟨Nat.le_of_ble_eq_true rfl, Nat.le_of_ble_eq_true rfl⟩ ⟨Nat.zero_le _, Nat.zero_le _⟩ rfl rfl rfl rfl (by decide) (by decide) (by decide) (Nat.le_of_ble_eq_true rfl) rfl dX0_receiveGreeting_149 (fun f_54 H55 locs55 hw54 (hP55 : va_P G.1 vwCl ([oLa lc a, oLa ls b, oRo rh w rp, aM G w 8 (krow q), oMs (q 0) (d 0), aI G (d 0) 9 (M 0), oMs (q 1) (d 1), aI G (d 1) 9 (M 1), oMs (q 2) (d 2), aI G (d 2) 9 (M 2), oMs (q 3) (d 3), aI G (d 3) 9 (M 3), oMs (q 4) (d 4), aI G (d 4) 9 (M 4), oMs (q 5) (d 5), aI G (d 5) 9 (M 5), oMs (q 6) (d 6), aI G (d 6) 9 (M 6), oMs (q 7) (d 7), aI G (d 7) 9 (M 7), oCl h pe ti c, oMs h2 a2, aI G a2 9 z, oPe pe lc ls li lo dr p_47, oMs dr da, aI G da 9 f_54]) H55) (hD55 : va_D A ([oLa lc a, oLa ls b, oRo rh w rp, aM G w 8 (krow q), oMs (q 0) (d 0), aI G (d 0) 9 (M 0), oMs (q 1) (d 1), aI G (d 1) 9 (M 1), oMs (q 2) (d 2), aI G (d 2) 9 (M 2), oMs (q 3) (d 3), aI G (d 3) 9 (M 3), oMs (q 4) (d 4), aI G (d 4) 9 (M 4), oMs (q 5) (d 5), aI G (d 5) 9 (M 5), oMs (q 6) (d 6), aI G (d 6) 9 (M 6), oMs (q 7) (d 7), aI G (d 7) 9 (M 7), oCl h pe ti c, oMs h2 a2, aI G a2 9 z, oPe pe lc ls li lo dr p_47, oMs dr da, aI G da 9 f_54])) hS55 => ?_)
          clear hP52 hD52 hS52
          have w54_0 : f_54 = kbeg f 4 := hw54
          refine lv_aload_n hx hb dX0_receiveGreeting_152 rfl (lv_at hl3 1 rfl) ?_
          refine kget F hK hP55 0 20 0 iX0 rfl rfl (by decide) (List.mem_of_getElem? (i := 1) rfl) rfl dX0_receiveGreeting_153 ?_
          refine kget F hK hP55 3 23 17 iX3 rfl rfl (by decide) (List.mem_of_getElem? (i := 9) rfl) rfl dX0_receiveGreeting_156 ?_
          refine lv_iconst (v := 1) hx hb dX0_receiveGreeting_159 (by decide) ?_
          refine lv_aload_n hx hb dX0_receiveGreeting_160 rfl (lv_at hl3 1 rfl) ?_
          refine kget F hK hP55 0 20 0 iX0 rfl rfl (by decide) (List.mem_of_getElem? (i := 1) rfl) rfl dX0_receiveGreeting_161 ?_
          refine lv_iconst (v := 2) hx hb dX0_receiveGreeting_164 (by decide) ?_
          refine kVi (wr := [oLa lc a, oLa ls b, oRo rh w rp, aM G w 8 (krow q), oMs (q 0) (d 0), aI G (d 0) 9 (M 0), oMs (q 1) (d 1), aI G (d 1) 9 (M 1), oMs (q 2) (d 2), aI G (d 2) 9 (M 2), oMs (q 3) (d 3), aI G (d 3) 9 (M 3), oMs (q 4) (d 4), aI G (d 4) 9 (M 4), oMs (q 5) (d 5), aI G (d 5) 9 (M 5), oMs (q 6) (d 6), aI G (d 6) 9 (M 6), oMs (q 7) (d 7), aI G (d 7) 9 (M 7), oCl h pe ti c, oMs h2 a2, aI G a2 9 z, oMs dr da, aI G da 9 f_54]) F hK hP55 hD55 hS55 hA hl3.1 (c_X3_proof l G pe lc ls li lo dr p_47 2) [23] [0, 1, 2, 3, 4, 5, 6, 7, 8, 9, 10, 11, 12, 13, 14, 15, 16, 17, 18, 19, 20, 21, 22, 24, 25] 3 0 gX0_receiveGreeting_X3_proof rfl 1 rfl (by decide +kernel) ⟨Nat.le_of_ble_eq_true rfl, Nat.le_of_ble_eq_true rfl⟩ ⟨Nat.zero_le _, Nat.zero_le _⟩ rfl rfl rfl rfl (by decide) (by decide) (by decide) (Nat.le_of_ble_eq_true rfl) rfl dX0_receiveGreeting_165 (fun r56 u56 H57 locs57 hw56 (hP57 : va_P G.1 vwCl ([oLa lc a, oLa ls b, oRo rh w rp, aM G w 8 (krow q), oMs (q 0) (d 0), aI G (d 0) 9 (M 0), oMs (q 1) (d 1), aI G (d 1) 9 (M 1), oMs (q 2) (d 2), aI G (d 2) 9 (M 2), oMs (q 3) (d 3), aI G (d 3) 9 (M 3), oMs (q 4) (d 4), aI G (d 4) 9 (M 4), oMs (q 5) (d 5), aI G (d 5) 9 (M 5), oMs (q 6) (d 6), aI G (d 6) 9 (M 6), oMs (q 7) (d 7), aI G (d 7) 9 (M 7), oCl h pe ti c, oMs h2 a2, aI G a2 9 z, oMs dr da, aI G da 9 f_54, oPe pe lc ls li lo dr p_47]) H57) (hD57 : va_D A ([oLa lc a, oLa ls b, oRo rh w rp, aM G w 8 (krow q), oMs (q 0) (d 0), aI G (d 0) 9 (M 0), oMs (q 1) (d 1), aI G (d 1) 9 (M 1), oMs (q 2) (d 2), aI G (d 2) 9 (M 2), oMs (q 3) (d 3), aI G (d 3) 9 (M 3), oMs (q 4) (d 4), aI G (d 4) 9 (M 4), oMs (q 5) (d 5), aI G (d 5) 9 (M 5), oMs (q 6) (d 6), aI G (d 6) 9 (M 6), oMs (q 7) (d 7), aI G (d 7) 9 (M 7), oCl h pe ti c, oMs h2 a2, aI G a2 9 z, oMs dr da, aI G da 9 f_54, oPe pe lc ls li lo dr p_47])) hS57 => ?_)
          clear hP55 hD55 hS55
          have w56_0 : r56 = kproof p_47 2 := hw56
          refine kVv (wr := [oLa lc a, oLa ls b, oRo rh w rp, aM G w 8 (krow q), oMs (q 0) (d 0), aI G (d 0) 9 (M 0), oMs (q 1) (d 1), aI G (d 1) 9 (M 1), oMs (q 2) (d 2), aI G (d 2) 9 (M 2), oMs (q 3) (d 3), aI G (d 3) 9 (M 3), oMs (q 4) (d 4), aI G (d 4) 9 (M 4), oMs (q 5) (d 5), aI G (d 5) 9 (M 5), oMs (q 6) (d 6), aI G (d 6) 9 (M 6), oMs (q 7) (d 7), aI G (d 7) 9 (M 7), oCl h pe ti c, oMs h2 a2, aI G a2 9 z, oPe pe lc ls li lo dr p_47]) F hK hP57 hD57 hS57 hA hl3.1 (c_X2_put l G dr da f_54 1 r56 (by first | assumption | decide | omega)) [23, 24] [0, 1, 2, 3, 4, 5, 6, 7, 8, 9, 10, 11, 12, 13, 14, 15, 16, 17, 18, 19, 20, 21, 22, 25] 2 0 gX0_receiveGreeting_X2_put rfl 2 rfl (by decide +kernel) ⟨Nat.le_of_ble_eq_true rfl, Nat.le_of_ble_eq_true rfl⟩ ⟨Nat.zero_le _, Nat.zero_le _⟩ rfl rfl rfl rfl (by decide) (by decide) (by decide) (Nat.le_of_ble_eq_true rfl) rfl dX0_receiveGreeting_168 (fun f_58 H59 locs59 hw58 (hP59 : va_P G.1 vwCl ([oLa lc a, oLa ls b, oRo rh w rp, aM G w 8 (krow q), oMs (q 0) (d 0), aI G (d 0) 9 (M 0), oMs (q 1) (d 1), aI G (d 1) 9 (M 1), oMs (q 2) (d 2), aI G (d 2) 9 (M 2), oMs (q 3) (d 3), aI G (d 3) 9 (M 3), oMs (q 4) (d 4), aI G (d 4) 9 (M 4), oMs (q 5) (d 5), aI G (d 5) 9 (M 5), oMs (q 6) (d 6), aI G (d 6) 9 (M 6), oMs (q 7) (d 7), aI G (d 7) 9 (M 7), oCl h pe ti c, oMs h2 a2, aI G a2 9 z, oPe pe lc ls li lo dr p_47, oMs dr da, aI G da 9 f_58]) H59) (hD59 : va_D A ([oLa lc a, oLa ls b, oRo rh w rp, aM G w 8 (krow q), oMs (q 0) (d 0), aI G (d 0) 9 (M 0), oMs (q 1) (d 1), aI G (d 1) 9 (M 1), oMs (q 2) (d 2), aI G (d 2) 9 (M 2), oMs (q 3) (d 3), aI G (d 3) 9 (M 3), oMs (q 4) (d 4), aI G (d 4) 9 (M 4), oMs (q 5) (d 5), aI G (d 5) 9 (M 5), oMs (q 6) (d 6), aI G (d 6) 9 (M 6), oMs (q 7) (d 7), aI G (d 7) 9 (M 7), oCl h pe ti c, oMs h2 a2, aI G a2 9 z, oPe pe lc ls li lo dr p_47, oMs dr da, aI G da 9 f_58])) hS59 => ?_)
          clear hP57 hD57 hS57
          have w58_0 : f_58 = upd f_54 1 r56 := hw58
          refine lv_aload_n hx hb dX0_receiveGreeting_171 rfl (lv_at hl3 3 rfl) ?_
          refine lv_aload_n hx hb dX0_receiveGreeting_172 rfl (lv_at hl3 1 rfl) ?_
          refine kget F hK hP59 0 20 0 iX0 rfl rfl (by decide) (List.mem_of_getElem? (i := 1) rfl) rfl dX0_receiveGreeting_173 ?_
          refine kget F hK hP59 3 23 17 iX3 rfl rfl (by decide) (List.mem_of_getElem? (i := 9) rfl) rfl dX0_receiveGreeting_176 ?_
          refine kVv (wr := [oLa lc a, oLa ls b, oCl h pe ti c, oMs h2 a2, aI G a2 9 z, oPe pe lc ls li lo dr p_47]) F hK hP59 hD59 hS59 hA hl3.1 (c_X4_send l G rh w q d rp M dr da f_58 L hL hL8) [2, 3, 4, 5, 6, 7, 8, 9, 10, 11, 12, 13, 14, 15, 16, 17, 18, 19, 24, 25] [0, 1, 20, 21, 22, 23] 4 0 gX0_receiveGreeting_X4_send rfl 1 rfl (by decide +kernel) ⟨Nat.le_of_ble_eq_true rfl, Nat.le_of_ble_eq_true rfl⟩ ⟨Nat.zero_le _, Nat.zero_le _⟩ rfl rfl rfl rfl (by decide) (by decide) (by decide) (Nat.le_of_ble_eq_true rfl) rfl dX0_receiveGreeting_179 (fun u60 H61 locs61 hw60 hP61 hD61 hS61 => ?_)
          obtain ⟨p_60, M_60⟩ := u60
          have hP61 : va_P G.1 vwCl ([oLa lc a, oLa ls b, oCl h pe ti c, oMs h2 a2, aI G a2 9 z, oPe pe lc ls li lo dr p_47, oRo rh w p_60, aM G w 8 (krow q), oMs (q 0) (d 0), aI G (d 0) 9 (M_60 0), oMs (q 1) (d 1), aI G (d 1) 9 (M_60 1), oMs (q 2) (d 2), aI G (d 2) 9 (M_60 2), oMs (q 3) (d 3), aI G (d 3) 9 (M_60 3), oMs (q 4) (d 4), aI G (d 4) 9 (M_60 4), oMs (q 5) (d 5), aI G (d 5) 9 (M_60 5), oMs (q 6) (d 6), aI G (d 6) 9 (M_60 6), oMs (q 7) (d 7), aI G (d 7) 9 (M_60 7), oMs dr da, aI G da 9 f_58]) H61 := hP61
          have hD61 : va_D A ([oLa lc a, oLa ls b, oCl h pe ti c, oMs h2 a2, aI G a2 9 z, oPe pe lc ls li lo dr p_47, oRo rh w p_60, aM G w 8 (krow q), oMs (q 0) (d 0), aI G (d 0) 9 (M_60 0), oMs (q 1) (d 1), aI G (d 1) 9 (M_60 1), oMs (q 2) (d 2), aI G (d 2) 9 (M_60 2), oMs (q 3) (d 3), aI G (d 3) 9 (M_60 3), oMs (q 4) (d 4), aI G (d 4) 9 (M_60 4), oMs (q 5) (d 5), aI G (d 5) 9 (M_60 5), oMs (q 6) (d 6), aI G (d 6) 9 (M_60 6), oMs (q 7) (d 7), aI G (d 7) 9 (M_60 7), oMs dr da, aI G da 9 f_58]) := hD61
          clear hP59 hD59 hS59
          have w60_0 : p_60 = ksendP L rp := hw60.1
          have w60_1 : M_60 = ksendM L M f_58 := hw60.2
          refine lv_aload_n hx hb dX0_receiveGreeting_182 rfl (lv_at hl3 1 rfl) ?_
          refine kget F hK hP61 0 2 0 iX0 rfl rfl (by decide) (List.mem_of_getElem? (i := 1) rfl) rfl dX0_receiveGreeting_183 ?_
          refine kVv (wr := [oCl h pe ti c, oMs h2 a2, aI G a2 9 z, oRo rh w p_60, aM G w 8 (krow q), oMs (q 0) (d 0), aI G (d 0) 9 (M_60 0), oMs (q 1) (d 1), aI G (d 1) 9 (M_60 1), oMs (q 2) (d 2), aI G (d 2) 9 (M_60 2), oMs (q 3) (d 3), aI G (d 3) 9 (M_60 3), oMs (q 4) (d 4), aI G (d 4) 9 (M_60 4), oMs (q 5) (d 5), aI G (d 5) 9 (M_60 5), oMs (q 6) (d 6), aI G (d 6) 9 (M_60 6), oMs (q 7) (d 7), aI G (d 7) 9 (M_60 7), oMs dr da, aI G da 9 f_58]) F hK hP61 hD61 hS61 hA hl3.1 (c_X3_join l G pe lc ls li lo dr p_47 a b) [5, 0, 1] [2, 3, 4, 6, 7, 8, 9, 10, 11, 12, 13, 14, 15, 16, 17, 18, 19, 20, 21, 22, 23, 24, 25] 3 0 gX0_receiveGreeting_X3_join rfl 0 rfl (by decide +kernel) ⟨Nat.le_of_ble_eq_true rfl, Nat.le_of_ble_eq_true rfl⟩ ⟨Nat.zero_le _, Nat.zero_le _⟩ rfl rfl rfl rfl (by decide) (by decide) (by decide) (Nat.le_of_ble_eq_true rfl) rfl dX0_receiveGreeting_186 (fun u62 H63 locs63 hw62 hP63 hD63 hS63 => ?_)
          obtain ⟨p_62, a_62, b_62⟩ := u62
          have hP63 : va_P G.1 vwCl ([oCl h pe ti c, oMs h2 a2, aI G a2 9 z, oRo rh w p_60, aM G w 8 (krow q), oMs (q 0) (d 0), aI G (d 0) 9 (M_60 0), oMs (q 1) (d 1), aI G (d 1) 9 (M_60 1), oMs (q 2) (d 2), aI G (d 2) 9 (M_60 2), oMs (q 3) (d 3), aI G (d 3) 9 (M_60 3), oMs (q 4) (d 4), aI G (d 4) 9 (M_60 4), oMs (q 5) (d 5), aI G (d 5) 9 (M_60 5), oMs (q 6) (d 6), aI G (d 6) 9 (M_60 6), oMs (q 7) (d 7), aI G (d 7) 9 (M_60 7), oMs dr da, aI G da 9 f_58, oPe pe lc ls li lo dr p_62, oLa lc a_62, oLa ls b_62]) H63 := hP63
          have hD63 : va_D A ([oCl h pe ti c, oMs h2 a2, aI G a2 9 z, oRo rh w p_60, aM G w 8 (krow q), oMs (q 0) (d 0), aI G (d 0) 9 (M_60 0), oMs (q 1) (d 1), aI G (d 1) 9 (M_60 1), oMs (q 2) (d 2), aI G (d 2) 9 (M_60 2), oMs (q 3) (d 3), aI G (d 3) 9 (M_60 3), oMs (q 4) (d 4), aI G (d 4) 9 (M_60 4), oMs (q 5) (d 5), aI G (d 5) 9 (M_60 5), oMs (q 6) (d 6), aI G (d 6) 9 (M_60 6), oMs (q 7) (d 7), aI G (d 7) 9 (M_60 7), oMs dr da, aI G da 9 f_58, oPe pe lc ls li lo dr p_62, oLa lc a_62, oLa ls b_62]) := hD63
          clear hP61 hD61 hS61
          have w62_0 : p_62 = kjoinP p_47 := hw62.1
          have w62_1 : a_62 = kopen a := hw62.2.1
          have w62_2 : b_62 = kopen b := hw62.2.2
          have q64 : (p_62 = (kgreetR L c p a b f rp M z).1) ∧ (a_62 = (kgreetR L c p a b f rp M z).2.1) ∧ (b_62 = (kgreetR L c p a b f rp M z).2.2.1) ∧ (f_58 = (kgreetR L c p a b f rp M z).2.2.2.1) ∧ (p_60 = (kgreetR L c p a b f rp M z).2.2.2.2.1) ∧ (M_60 = (kgreetR L c p a b f rp M z).2.2.2.2.2) := by
            subst w62_2
            subst w62_1
            subst w62_0
            subst w60_1
            subst w60_0
            subst w58_0
            subst w56_0
            subst w54_0
            subst w51_0
            subst w49_0
            subst w47_0
            subst ep46
            subst w44_0
            subst w41_0
            subst ep40
            subst w9_0
            subst ep8
            subst ep7
            subst w5_0
            subst w1_0
            first | (simp only [kgreetR, kgreetP, kgreetF, c4, c11, c43, c53, ↓reduceIte, and_self]; done) | (simp only [kgreetR, kgreetP, kgreetF, c4, c11, c43, c53, ↓reduceIte, and_self]; exact ⟨rfl, rfl, rfl, rfl, rfl, rfl⟩) | exact ⟨rfl, rfl, rfl, rfl, rfl, rfl⟩
          exact kRv F hr hlocks hS63 dX0_receiveGreeting_189 ⟨p_62, a_62, b_62, f_58, p_60, M_60⟩ q64 (hP63.sub [0, 23, 24, 25, 21, 22, 3, 4, 5, 6, 7, 8, 9, 10, 11, 12, 13, 14, 15, 16, 17, 18, 19, 20, 1, 2] rfl) (hD63.sub [0, 23, 24, 25, 21, 22, 3, 4, 5, 6, 7, 8, 9, 10, 11, 12, 13, 14, 15, 16, 17, 18, 19, 20, 1, 2] (by decide) rfl)
        · refine lv_aload_n hx hb dX0_receiveGreeting_131 rfl (lv_at hl3 1 rfl) ?_
          refine kget F hK hP52 0 22 0 iX0 rfl rfl (by decide) (List.mem_of_getElem? (i := 1) rfl) rfl dX0_receiveGreeting_132 ?_
          refine lv_bipush (v := 8) hx hb dX0_receiveGreeting_135 (by decide) ?_
          refine kVv (wr := [oLa lc a, oLa ls b, oMs dr da, aI G da 9 f, oRo rh w rp, aM G w 8 (krow q), oMs (q 0) (d 0), aI G (d 0) 9 (M 0), oMs (q 1) (d 1), aI G (d 1) 9 (M 1), oMs (q 2) (d 2), aI G (d 2) 9 (M 2), oMs (q 3) (d 3), aI G (d 3) 9 (M 3), oMs (q 4) (d 4), aI G (d 4) 9 (M 4), oMs (q 5) (d 5), aI G (d 5) 9 (M 5), oMs (q 6) (d 6), aI G (d 6) 9 (M 6), oMs (q 7) (d 7), aI G (d 7) 9 (M 7), oCl h pe ti c, oMs h2 a2, aI G a2 9 z]) F hK hP52 hD52 hS52 hA hl3.1 (c_X3_fail l G pe lc ls li lo dr p_47 8) [25] [0, 1, 2, 3, 4, 5, 6, 7, 8, 9, 10, 11, 12, 13, 14, 15, 16, 17, 18, 19, 20, 21, 22, 23, 24] 3 0 gX0_receiveGreeting_X3_fail rfl 1 rfl (by decide +kernel) ⟨Nat.le_of_ble_eq_true rfl, Nat.le_of_ble_eq_true rfl⟩ ⟨Nat.zero_le _, Nat.zero_le _⟩ rfl rfl rfl rfl (by decide) (by decide) (by decide) (Nat.le_of_ble_eq_true rfl) rfl dX0_receiveGreeting_137 (fun p_65 H66 locs66 hw65 (hP66 : va_P G.1 vwCl ([oLa lc a, oLa ls b, oMs dr da, aI G da 9 f, oRo rh w rp, aM G w 8 (krow q), oMs (q 0) (d 0), aI G (d 0) 9 (M 0), oMs (q 1) (d 1), aI G (d 1) 9 (M 1), oMs (q 2) (d 2), aI G (d 2) 9 (M 2), oMs (q 3) (d 3), aI G (d 3) 9 (M 3), oMs (q 4) (d 4), aI G (d 4) 9 (M 4), oMs (q 5) (d 5), aI G (d 5) 9 (M 5), oMs (q 6) (d 6), aI G (d 6) 9 (M 6), oMs (q 7) (d 7), aI G (d 7) 9 (M 7), oCl h pe ti c, oMs h2 a2, aI G a2 9 z, oPe pe lc ls li lo dr p_65]) H66) (hD66 : va_D A ([oLa lc a, oLa ls b, oMs dr da, aI G da 9 f, oRo rh w rp, aM G w 8 (krow q), oMs (q 0) (d 0), aI G (d 0) 9 (M 0), oMs (q 1) (d 1), aI G (d 1) 9 (M 1), oMs (q 2) (d 2), aI G (d 2) 9 (M 2), oMs (q 3) (d 3), aI G (d 3) 9 (M 3), oMs (q 4) (d 4), aI G (d 4) 9 (M 4), oMs (q 5) (d 5), aI G (d 5) 9 (M 5), oMs (q 6) (d 6), aI G (d 6) 9 (M 6), oMs (q 7) (d 7), aI G (d 7) 9 (M 7), oCl h pe ti c, oMs h2 a2, aI G a2 9 z, oPe pe lc ls li lo dr p_65])) hS66 => ?_)
          clear hP52 hD52 hS52
          have w65_0 : p_65 = kfail p_47 8 := hw65
          have q67 : (p_65 = (kgreetR L c p a b f rp M z).1) ∧ (a = (kgreetR L c p a b f rp M z).2.1) ∧ (b = (kgreetR L c p a b f rp M z).2.2.1) ∧ (f = (kgreetR L c p a b f rp M z).2.2.2.1) ∧ (rp = (kgreetR L c p a b f rp M z).2.2.2.2.1) ∧ (M = (kgreetR L c p a b f rp M z).2.2.2.2.2) := by
            subst w65_0
            subst w51_0
            subst w49_0
            subst w47_0
            subst ep46
            subst w44_0
            subst w41_0
            subst ep40
            subst w9_0
            subst ep8
            subst ep7
            subst w5_0
            subst w1_0
            first | (simp only [kgreetR, kgreetP, kgreetF, c4, c11, c43, c53, ↓reduceIte, and_self]; done) | (simp only [kgreetR, kgreetP, kgreetF, c4, c11, c43, c53, ↓reduceIte, and_self]; exact ⟨rfl, rfl, rfl, rfl, rfl, rfl⟩) | exact ⟨rfl, rfl, rfl, rfl, rfl, rfl⟩
          exact kRv F hr hlocks hS66 dX0_receiveGreeting_140 ⟨p_65, a, b, f, rp, M⟩ q67 (hP66.sub [22, 25, 0, 1, 2, 3, 4, 5, 6, 7, 8, 9, 10, 11, 12, 13, 14, 15, 16, 17, 18, 19, 20, 21, 23, 24] rfl) (hD66.sub [22, 25, 0, 1, 2, 3, 4, 5, 6, 7, 8, 9, 10, 11, 12, 13, 14, 15, 16, 17, 18, 19, 20, 21, 23, 24] (by decide) rfl)
  · refine lv_aload_n hx hb dX0_receiveGreeting_10 rfl (lv_at hl3 1 rfl) ?_
    refine kget F hK hP2 0 22 0 iX0 rfl rfl (by decide) (List.mem_of_getElem? (i := 1) rfl) rfl dX0_receiveGreeting_11 ?_
    refine lv_iload_n hx hb dX0_receiveGreeting_14 rfl (lv_at hl3 0 rfl) ?_
    refine kVv (wr := [oLa lc a, oLa ls b, oMs dr da, aI G da 9 f, oRo rh w rp, aM G w 8 (krow q), oMs (q 0) (d 0), aI G (d 0) 9 (M 0), oMs (q 1) (d 1), aI G (d 1) 9 (M 1), oMs (q 2) (d 2), aI G (d 2) 9 (M 2), oMs (q 3) (d 3), aI G (d 3) 9 (M 3), oMs (q 4) (d 4), aI G (d 4) 9 (M 4), oMs (q 5) (d 5), aI G (d 5) 9 (M 5), oMs (q 6) (d 6), aI G (d 6) 9 (M 6), oMs (q 7) (d 7), aI G (d 7) 9 (M 7), oCl h pe ti c, oMs h2 a2, aI G a2 9 z]) F hK hP2 hD2 hS2 hA hl3.1 (c_X3_fail l G pe lc ls li lo dr p r1) [23] [0, 1, 2, 3, 4, 5, 6, 7, 8, 9, 10, 11, 12, 13, 14, 15, 16, 17, 18, 19, 20, 21, 22, 24, 25] 3 0 gX0_receiveGreeting_X3_fail rfl 1 rfl (by decide +kernel) ⟨Nat.le_of_ble_eq_true rfl, Nat.le_of_ble_eq_true rfl⟩ ⟨Nat.zero_le _, Nat.zero_le _⟩ rfl rfl rfl rfl (by decide) (by decide) (by decide) (Nat.le_of_ble_eq_true rfl) rfl dX0_receiveGreeting_15 (fun p_68 H69 locs69 hw68 (hP69 : va_P G.1 vwCl ([oLa lc a, oLa ls b, oMs dr da, aI G da 9 f, oRo rh w rp, aM G w 8 (krow q), oMs (q 0) (d 0), aI G (d 0) 9 (M 0), oMs (q 1) (d 1), aI G (d 1) 9 (M 1), oMs (q 2) (d 2), aI G (d 2) 9 (M 2), oMs (q 3) (d 3), aI G (d 3) 9 (M 3), oMs (q 4) (d 4), aI G (d 4) 9 (M 4), oMs (q 5) (d 5), aI G (d 5) 9 (M 5), oMs (q 6) (d 6), aI G (d 6) 9 (M 6), oMs (q 7) (d 7), aI G (d 7) 9 (M 7), oCl h pe ti c, oMs h2 a2, aI G a2 9 z, oPe pe lc ls li lo dr p_68]) H69) (hD69 : va_D A ([oLa lc a, oLa ls b, oMs dr da, aI G da 9 f, oRo rh w rp, aM G w 8 (krow q), oMs (q 0) (d 0), aI G (d 0) 9 (M 0), oMs (q 1) (d 1), aI G (d 1) 9 (M 1), oMs (q 2) (d 2), aI G (d 2) 9 (M 2), oMs (q 3) (d 3), aI G (d 3) 9 (M 3), oMs (q 4) (d 4), aI G (d 4) 9 (M 4), oMs (q 5) (d 5), aI G (d 5) 9 (M 5), oMs (q 6) (d 6), aI G (d 6) 9 (M 6), oMs (q 7) (d 7), aI G (d 7) 9 (M 7), oCl h pe ti c, oMs h2 a2, aI G a2 9 z, oPe pe lc ls li lo dr p_68])) hS69 => ?_)
    clear hP2 hD2 hS2
    have w68_0 : p_68 = kfail p r1 := hw68
    have q70 : (p_68 = (kgreetR L c p a b f rp M z).1) ∧ (a = (kgreetR L c p a b f rp M z).2.1) ∧ (b = (kgreetR L c p a b f rp M z).2.2.1) ∧ (f = (kgreetR L c p a b f rp M z).2.2.2.1) ∧ (rp = (kgreetR L c p a b f rp M z).2.2.2.2.1) ∧ (M = (kgreetR L c p a b f rp M z).2.2.2.2.2) := by
      subst w68_0
      subst w1_0
      first | (simp only [kgreetR, kgreetP, kgreetF, c4, ↓reduceIte, and_self]; done) | (simp only [kgreetR, kgreetP, kgreetF, c4, ↓reduceIte, and_self]; exact ⟨rfl, rfl, rfl, rfl, rfl, rfl⟩) | exact ⟨rfl, rfl, rfl, rfl, rfl, rfl⟩
    exact kRv F hr hlocks hS69 dX0_receiveGreeting_18 ⟨p_68, a, b, f, rp, M⟩ q70 (hP69.sub [22, 25, 0, 1, 2, 3, 4, 5, 6, 7, 8, 9, 10, 11, 12, 13, 14, 15, 16, 17, 18, 19, 20, 21, 23, 24] rfl) (hD69.sub [22, 25, 0, 1, 2, 3, 4, 5, 6, 7, 8, 9, 10, 11, 12, 13, 14, 15, 16, 17, 18, 19, 20, 21, 23, 24] (by decide) rfl)
set_option maxHeartbeats 4000000 in
set_option maxRecDepth 100000 in
theorem c_X0_receiveTicket (l : Launch) (G : kG) (h : Nat) (pe : Nat) (ti : Nat) (lc : Nat) (ls : Nat) (li : Nat) (lo : Nat) (dr : Nat) (c : Nat → Int32) (p : Nat → Int32) (t : Nat → Int32) (h2 : Nat) (a2 : Nat) (z : Nat → Int32) (now : Int32) : kM G l yX0_receiveTicket wsX0_receiveTicket ({ frames := 2, cells := 0, slots := 0, locals := 41 }) [.ref h, .ref h2, .int now] ([oCl h pe ti c, oPe pe lc ls li lo dr p, oTi ti t, oMs h2 a2, aI G a2 9 z]) (kQv G (fun (uu : (Nat → Int32) × (Nat → Int32)) => (uu.1 = upd c 2 1) ∧ (uu.2 = kticket p t z now)) (fun (uu : (Nat → Int32) × (Nat → Int32)) => [oCl h pe ti uu.1, oPe pe lc ls li lo dr p, oTi ti uu.2, oMs h2 a2, aI G a2 9 z])) := by
  refine kStart (cc := cX0_receiveTicket) (maxL := 3) (ret := none) (by decide) rfl (Nat.le_of_ble_eq_true rfl) (fun pg ev st mi bl mt cd A ls0 F hr hlocks hin hK hP0 hD0 hA hS0 hl0 => ?_)
  obtain ⟨hx, hb, hml, hown, hts⟩ := id F
  have hl0 : lv_has ls0 3 [(0, .ref h), (1, .ref h2), (2, .int now)] := hl0
  have iX0 : ∀ w ∈ u_ws RX0 TX0 9, w ∈ wsX0_receiveTicket := fun w h => List.mem_cons_of_mem _ (List.mem_append_left _ (List.mem_append_left _ (List.mem_append_left _ (List.mem_append_right _ h))))
  have iX3 : ∀ w ∈ u_ws RX3 TX3 18, w ∈ wsX0_receiveTicket := fun w h => List.mem_cons_of_mem _ (List.mem_append_left _ (List.mem_append_right _ h))
  have iX7 : ∀ w ∈ u_ws RX7 TX7 5, w ∈ wsX0_receiveTicket := fun w h => List.mem_cons_of_mem _ (List.mem_append_left _ (List.mem_append_left _ (List.mem_append_right _ h)))
  refine lv_aload_n hx hb dX0_receiveTicket_0 rfl (lv_at hl0 0 rfl) ?_
  refine lv_iconst (v := 1) hx hb dX0_receiveTicket_1 (by decide) ?_
  refine kput F hK hP0 hD0 hS0 (ty0 := tyX0) 0 0 2 iX0 rfl tyX0_ok nmX0 (fun z => [oCl h pe ti z, oPe pe lc ls li lo dr p, oTi ti t, oMs h2 a2, aI G a2 9 z]) c rfl (by decide) (List.mem_of_getElem? (i := 1) rfl) rfl rfl rfl (Nat.le_of_ble_eq_true rfl) rfl dX0_receiveTicket_2 (fun H1 locs1 c1 ec1 (hP1 : va_P G.1 vwCl ([oCl h pe ti c1, oPe pe lc ls li lo dr p, oTi ti t, oMs h2 a2, aI G a2 9 z]) H1) (hD1 : va_D A ([oCl h pe ti c1, oPe pe lc ls li lo dr p, oTi ti t, oMs h2 a2, aI G a2 9 z])) hS1 => ?_)
  clear hP0 hD0 hS0
  refine lv_aload_n hx hb dX0_receiveTicket_5 rfl (lv_at hl0 0 rfl) ?_
  refine kget F hK hP1 0 0 1 iX0 rfl rfl (by decide) (List.mem_of_getElem? (i := 2) rfl) rfl dX0_receiveTicket_6 ?_
  refine lv_aload_n hx hb dX0_receiveTicket_9 rfl (lv_at hl0 1 rfl) ?_
  refine lv_iconst (v := 1) hx hb dX0_receiveTicket_10 (by decide) ?_
  refine kVi (wr := [oCl h pe ti c1, oPe pe lc ls li lo dr p, oTi ti t]) F hK hP1 hD1 hS1 hA hl0.1 (c_X2_at l G h2 a2 z 1 (by first | assumption | decide | omega)) [3, 4] [0, 1, 2] 2 0 gX0_receiveTicket_X2_at rfl 1 rfl (by decide +kernel) ⟨Nat.le_of_ble_eq_true rfl, Nat.le_of_ble_eq_true rfl⟩ ⟨Nat.zero_le _, Nat.zero_le _⟩ rfl rfl rfl rfl (by decide) (by decide) (by decide) (Nat.le_of_ble_eq_true rfl) rfl dX0_receiveTicket_11 (fun r2 u2 H3 locs3 hw2 (hP3 : va_P G.1 vwCl ([oCl h pe ti c1, oPe pe lc ls li lo dr p, oTi ti t, oMs h2 a2, aI G a2 9 z]) H3) (hD3 : va_D A ([oCl h pe ti c1, oPe pe lc ls li lo dr p, oTi ti t, oMs h2 a2, aI G a2 9 z])) hS3 => ?_)
  clear hP1 hD1 hS1
  have w2_0 : r2 = z 1 := hw2
  refine kput F hK hP3 hD3 hS3 (ty0 := tyX7) 7 2 0 iX7 rfl tyX7_ok nmX7 (fun z => [oCl h pe ti c1, oPe pe lc ls li lo dr p, oTi ti z, oMs h2 a2, aI G a2 9 z]) t rfl (by decide) (List.mem_of_getElem? (i := 3) rfl) rfl rfl rfl (Nat.le_of_ble_eq_true rfl) rfl dX0_receiveTicket_14 (fun H4 locs4 t4 et4 (hP4 : va_P G.1 vwCl ([oCl h pe ti c1, oPe pe lc ls li lo dr p, oTi ti t4, oMs h2 a2, aI G a2 9 z]) H4) (hD4 : va_D A ([oCl h pe ti c1, oPe pe lc ls li lo dr p, oTi ti t4, oMs h2 a2, aI G a2 9 z])) hS4 => ?_)
  clear hP3 hD3 hS3
  refine lv_aload_n hx hb dX0_receiveTicket_17 rfl (lv_at hl0 0 rfl) ?_
  refine kget F hK hP4 0 0 1 iX0 rfl rfl (by decide) (List.mem_of_getElem? (i := 2) rfl) rfl dX0_receiveTicket_18 ?_
  refine lv_aload_n hx hb dX0_receiveTicket_21 rfl (lv_at hl0 1 rfl) ?_
  refine lv_iconst (v := 2) hx hb dX0_receiveTicket_22 (by decide) ?_
  refine kVi (wr := [oCl h pe ti c1, oPe pe lc ls li lo dr p, oTi ti t4]) F hK hP4 hD4 hS4 hA hl0.1 (c_X2_at l G h2 a2 z 2 (by first | assumption | decide | omega)) [3, 4] [0, 1, 2] 2 0 gX0_receiveTicket_X2_at rfl 1 rfl (by decide +kernel) ⟨Nat.le_of_ble_eq_true rfl, Nat.le_of_ble_eq_true rfl⟩ ⟨Nat.zero_le _, Nat.zero_le _⟩ rfl rfl rfl rfl (by decide) (by decide) (by decide) (Nat.le_of_ble_eq_true rfl) rfl dX0_receiveTicket_23 (fun r5 u5 H6 locs6 hw5 (hP6 : va_P G.1 vwCl ([oCl h pe ti c1, oPe pe lc ls li lo dr p, oTi ti t4, oMs h2 a2, aI G a2 9 z]) H6) (hD6 : va_D A ([oCl h pe ti c1, oPe pe lc ls li lo dr p, oTi ti t4, oMs h2 a2, aI G a2 9 z])) hS6 => ?_)
  clear hP4 hD4 hS4
  have w5_0 : r5 = z 2 := hw5
  refine kput F hK hP6 hD6 hS6 (ty0 := tyX7) 7 2 4 iX7 rfl tyX7_ok nmX7 (fun z => [oCl h pe ti c1, oPe pe lc ls li lo dr p, oTi ti z, oMs h2 a2, aI G a2 9 z]) t4 rfl (by decide) (List.mem_of_getElem? (i := 4) rfl) rfl rfl rfl (Nat.le_of_ble_eq_true rfl) rfl dX0_receiveTicket_26 (fun H7 locs7 t7 et7 (hP7 : va_P G.1 vwCl ([oCl h pe ti c1, oPe pe lc ls li lo dr p, oTi ti t7, oMs h2 a2, aI G a2 9 z]) H7) (hD7 : va_D A ([oCl h pe ti c1, oPe pe lc ls li lo dr p, oTi ti t7, oMs h2 a2, aI G a2 9 z])) hS7 => ?_)
  clear hP6 hD6 hS6
  refine lv_aload_n hx hb dX0_receiveTicket_29 rfl (lv_at hl0 0 rfl) ?_
  refine kget F hK hP7 0 0 1 iX0 rfl rfl (by decide) (List.mem_of_getElem? (i := 2) rfl) rfl dX0_receiveTicket_30 ?_
  refine lv_aload_n hx hb dX0_receiveTicket_33 rfl (lv_at hl0 1 rfl) ?_
  refine lv_iconst (v := 3) hx hb dX0_receiveTicket_34 (by decide) ?_
  refine kVi (wr := [oCl h pe ti c1, oPe pe lc ls li lo dr p, oTi ti t7]) F hK hP7 hD7 hS7 hA hl0.1 (c_X2_at l G h2 a2 z 3 (by first | assumption | decide | omega)) [3, 4] [0, 1, 2] 2 0 gX0_receiveTicket_X2_at rfl 1 rfl (by decide +kernel) ⟨Nat.le_of_ble_eq_true rfl, Nat.le_of_ble_eq_true rfl⟩ ⟨Nat.zero_le _, Nat.zero_le _⟩ rfl rfl rfl rfl (by decide) (by decide) (by decide) (Nat.le_of_ble_eq_true rfl) rfl dX0_receiveTicket_35 (fun r8 u8 H9 locs9 hw8 (hP9 : va_P G.1 vwCl ([oCl h pe ti c1, oPe pe lc ls li lo dr p, oTi ti t7, oMs h2 a2, aI G a2 9 z]) H9) (hD9 : va_D A ([oCl h pe ti c1, oPe pe lc ls li lo dr p, oTi ti t7, oMs h2 a2, aI G a2 9 z])) hS9 => ?_)
  clear hP7 hD7 hS7
  have w8_0 : r8 = z 3 := hw8
  refine kput F hK hP9 hD9 hS9 (ty0 := tyX7) 7 2 1 iX7 rfl tyX7_ok nmX7 (fun z => [oCl h pe ti c1, oPe pe lc ls li lo dr p, oTi ti z, oMs h2 a2, aI G a2 9 z]) t7 rfl (by decide) (List.mem_of_getElem? (i := 5) rfl) rfl rfl rfl (Nat.le_of_ble_eq_true rfl) rfl dX0_receiveTicket_38 (fun H10 locs10 t10 et10 (hP10 : va_P G.1 vwCl ([oCl h pe ti c1, oPe pe lc ls li lo dr p, oTi ti t10, oMs h2 a2, aI G a2 9 z]) H10) (hD10 : va_D A ([oCl h pe ti c1, oPe pe lc ls li lo dr p, oTi ti t10, oMs h2 a2, aI G a2 9 z])) hS10 => ?_)
  clear hP9 hD9 hS9
  refine lv_aload_n hx hb dX0_receiveTicket_41 rfl (lv_at hl0 0 rfl) ?_
  refine kget F hK hP10 0 0 1 iX0 rfl rfl (by decide) (List.mem_of_getElem? (i := 2) rfl) rfl dX0_receiveTicket_42 ?_
  refine lv_iload_n hx hb dX0_receiveTicket_45 rfl (lv_at hl0 2 rfl) ?_
  refine kput F hK hP10 hD10 hS10 (ty0 := tyX7) 7 2 2 iX7 rfl tyX7_ok nmX7 (fun z => [oCl h pe ti c1, oPe pe lc ls li lo dr p, oTi ti z, oMs h2 a2, aI G a2 9 z]) t10 rfl (by decide) (List.mem_of_getElem? (i := 6) rfl) rfl rfl rfl (Nat.le_of_ble_eq_true rfl) rfl dX0_receiveTicket_46 (fun H11 locs11 t11 et11 (hP11 : va_P G.1 vwCl ([oCl h pe ti c1, oPe pe lc ls li lo dr p, oTi ti t11, oMs h2 a2, aI G a2 9 z]) H11) (hD11 : va_D A ([oCl h pe ti c1, oPe pe lc ls li lo dr p, oTi ti t11, oMs h2 a2, aI G a2 9 z])) hS11 => ?_)
  clear hP10 hD10 hS10
  refine lv_aload_n hx hb dX0_receiveTicket_49 rfl (lv_at hl0 0 rfl) ?_
  refine kget F hK hP11 0 0 1 iX0 rfl rfl (by decide) (List.mem_of_getElem? (i := 2) rfl) rfl dX0_receiveTicket_50 ?_
  refine lv_aload_n hx hb dX0_receiveTicket_53 rfl (lv_at hl0 0 rfl) ?_
  refine kget F hK hP11 0 0 0 iX0 rfl rfl (by decide) (List.mem_of_getElem? (i := 7) rfl) rfl dX0_receiveTicket_54 ?_
  refine kget F hK hP11 3 1 10 iX3 rfl rfl (by decide) (List.mem_of_getElem? (i := 8) rfl) rfl dX0_receiveTicket_57 ?_
  refine lv_aload_n hx hb dX0_receiveTicket_60 rfl (lv_at hl0 0 rfl) ?_
  refine kget F hK hP11 0 0 1 iX0 rfl rfl (by decide) (List.mem_of_getElem? (i := 2) rfl) rfl dX0_receiveTicket_61 ?_
  refine kget F hK hP11 7 2 0 iX7 rfl rfl (by decide) (List.mem_of_getElem? (i := 3) rfl) rfl dX0_receiveTicket_64 ?_
  refine kPNi F hK hP11 hD11 hS11 hA hl0.1 (c_X8_mix l G (p 10) (t11 0)) (fun _ => rfl) 14 rfl gX0_receiveTicket_X8_mix_n181 (List.mem_of_getElem? (i := 19) rfl) (List.mem_of_getElem? (i := 20) rfl) rfl 2 rfl (by decide +kernel) ⟨Nat.le_of_ble_eq_true rfl, Nat.le_of_ble_eq_true rfl⟩ ⟨Nat.zero_le _, Nat.zero_le _⟩ (Nat.le_of_ble_eq_true rfl) rfl dX0_receiveTicket_67 (fun r12 u12 H13 locs13 hw12 (hP13 : va_P G.1 vwCl ([oCl h pe ti c1, oPe pe lc ls li lo dr p, oTi ti t11, oMs h2 a2, aI G a2 9 z]) H13) (hD13 : va_D A ([oCl h pe ti c1, oPe pe lc ls li lo dr p, oTi ti t11, oMs h2 a2, aI G a2 9 z])) hS13 => ?_)
  clear hP11 hD11 hS11
  have w12_0 : r12 = kmix (p 10) (t11 0) := hw12
  refine kput F hK hP13 hD13 hS13 (ty0 := tyX7) 7 2 3 iX7 rfl tyX7_ok nmX7 (fun z => [oCl h pe ti c1, oPe pe lc ls li lo dr p, oTi ti z, oMs h2 a2, aI G a2 9 z]) t11 rfl (by decide) (List.mem_of_getElem? (i := 9) rfl) rfl rfl rfl (Nat.le_of_ble_eq_true rfl) rfl dX0_receiveTicket_70 (fun H14 locs14 t14 et14 (hP14 : va_P G.1 vwCl ([oCl h pe ti c1, oPe pe lc ls li lo dr p, oTi ti t14, oMs h2 a2, aI G a2 9 z]) H14) (hD14 : va_D A ([oCl h pe ti c1, oPe pe lc ls li lo dr p, oTi ti t14, oMs h2 a2, aI G a2 9 z])) hS14 => ?_)
  clear hP13 hD13 hS13
  have q15 : (c1 = upd c 2 1) ∧ (t14 = kticket p t z now) := by
    subst et14
    subst w12_0
    subst et11
    subst et10
    subst w8_0
    subst et7
    subst w5_0
    subst et4
    subst w2_0
    subst ec1
    first | (simp only [↓reduceIte, and_self]; done) | (simp only [↓reduceIte, and_self]; exact ⟨rfl, rfl⟩) | exact ⟨rfl, rfl⟩
  exact kRv F hr hlocks hS14 dX0_receiveTicket_73 ⟨c1, t14⟩ q15 hP14 hD14
set_option maxHeartbeats 4000000 in
set_option maxRecDepth 100000 in
theorem c_X0_receive (l : Launch) (G : kG) (h : Nat) (pe : Nat) (ti : Nat) (lc : Nat) (ls : Nat) (dr : Nat) (da : Nat) (c : Nat → Int32) (p : Nat → Int32) (a : Nat → Int32) (b : Nat → Int32) (f : Nat → Int32) (t : Nat → Int32) (rh : Nat) (w : Nat) (q : Nat → Nat) (d : Nat → Nat) (rp : Nat → Int32) (M : Nat → Nat → Int32) (L : Nat) (h2 : Nat) (a2 : Nat) (z : Nat → Int32) (now : Int32) (hL : rp 1 = nI L) (hL8 : L ≤ 8) (hb : c 2 = 0 ∨ c 2 = 1) : kM G l yX0_receive wsX0_receive ({ frames := 5, cells := 0, slots := 0, locals := 116 }) [.ref h, .ref h2, .int now, .ref rh] ([oCl h pe ti c, oPe pe lc ls lc ls dr p, oLa lc a, oLa ls b, oMs dr da, aI G da 9 f, oTi ti t, oRo rh w rp, aM G w 8 (krow q), oMs (q 0) (d 0), aI G (d 0) 9 (M 0), oMs (q 1) (d 1), aI G (d 1) 9 (M 1), oMs (q 2) (d 2), aI G (d 2) 9 (M 2), oMs (q 3) (d 3), aI G (d 3) 9 (M 3), oMs (q 4) (d 4), aI G (d 4) 9 (M 4), oMs (q 5) (d 5), aI G (d 5) 9 (M 5), oMs (q 6) (d 6), aI G (d 6) 9 (M 6), oMs (q 7) (d 7), aI G (d 7) 9 (M 7), oMs h2 a2, aI G a2 9 z]) (kQv G (fun (uu : (Nat → Int32) × (Nat → Int32) × (Nat → Int32) × (Nat → Int32) × (Nat → Int32) × (Nat → Int32) × (Nat → Int32) × (Nat → Nat → Int32)) => (uu.1 = (kcliR L c p a b f t rp M z now).1) ∧ (uu.2.1 = (kcliR L c p a b f t rp M z now).2.1) ∧ (uu.2.2.1 = (kcliR L c p a b f t rp M z now).2.2.1) ∧ (uu.2.2.2.1 = (kcliR L c p a b f t rp M z now).2.2.2.1) ∧ (uu.2.2.2.2.1 = (kcliR L c p a b f t rp M z now).2.2.2.2.1) ∧ (uu.2.2.2.2.2.1 = (kcliR L c p a b f t rp M z now).2.2.2.2.2.1) ∧ (uu.2.2.2.2.2.2.1 = (kcliR L c p a b f t rp M z now).2.2.2.2.2.2.1) ∧ (uu.2.2.2.2.2.2.2 = (kcliR L c p a b f t rp M z now).2.2.2.2.2.2.2)) (fun (uu : (Nat → Int32) × (Nat → Int32) × (Nat → Int32) × (Nat → Int32) × (Nat → Int32) × (Nat → Int32) × (Nat → Int32) × (Nat → Nat → Int32)) => [oCl h pe ti uu.1, oPe pe lc ls lc ls dr uu.2.1, oLa lc uu.2.2.1, oLa ls uu.2.2.2.1, oMs dr da, aI G da 9 uu.2.2.2.2.1, oTi ti uu.2.2.2.2.2.1, oRo rh w uu.2.2.2.2.2.2.1, aM G w 8 (krow q), oMs (q 0) (d 0), aI G (d 0) 9 (uu.2.2.2.2.2.2.2 0), oMs (q 1) (d 1), aI G (d 1) 9 (uu.2.2.2.2.2.2.2 1), oMs (q 2) (d 2), aI G (d 2) 9 (uu.2.2.2.2.2.2.2 2), oMs (q 3) (d 3), aI G (d 3) 9 (uu.2.2.2.2.2.2.2 3), oMs (q 4) (d 4), aI G (d 4) 9 (uu.2.2.2.2.2.2.2 4), oMs (q 5) (d 5), aI G (d 5) 9 (uu.2.2.2.2.2.2.2 5), oMs (q 6) (d 6), aI G (d 6) 9 (uu.2.2.2.2.2.2.2 6), oMs (q 7) (d 7), aI G (d 7) 9 (uu.2.2.2.2.2.2.2 7), oMs h2 a2, aI G a2 9 z])) := by
  refine kStart (cc := cX0_receive) (maxL := 5) (ret := none) (by decide) rfl (Nat.le_of_ble_eq_true rfl) (fun pg ev st mi bl mt cd A ls0 F hr hlocks hin hK hP0 hD0 hA hS0 hl0 => ?_)
  obtain ⟨hx, hb, hml, hown, hts⟩ := id F
  have hl0 : lv_has ls0 5 [(0, .ref h), (1, .ref h2), (2, .int now), (3, .ref rh)] := hl0
  have iX0 : ∀ w ∈ u_ws RX0 TX0 9, w ∈ wsX0_receive := fun w h => List.mem_cons_of_mem _ (List.mem_append_left _ (List.mem_append_left _ (List.mem_append_left _ (List.mem_append_left _ (List.mem_append_left _ (List.mem_append_right _ h))))))
  have iX3 : ∀ w ∈ u_ws RX3 TX3 18, w ∈ wsX0_receive := fun w h => List.mem_cons_of_mem _ (List.mem_append_left _ (List.mem_append_left _ (List.mem_append_left _ (List.mem_append_left _ (List.mem_append_right _ h)))))
  refine lv_aload_n hx hb dX0_receive_0 rfl (lv_at hl0 1 rfl) ?_
  refine lv_iconst (v := 0) hx hb dX0_receive_1 (by decide) ?_
  refine kVi (wr := [oCl h pe ti c, oPe pe lc ls lc ls dr p, oLa lc a, oLa ls b, oMs dr da, aI G da 9 f, oTi ti t, oRo rh w rp, aM G w 8 (krow q), oMs (q 0) (d 0), aI G (d 0) 9 (M 0), oMs (q 1) (d 1), aI G (d 1) 9 (M 1), oMs (q 2) (d 2), aI G (d 2) 9 (M 2), oMs (q 3) (d 3), aI G (d 3) 9 (M 3), oMs (q 4) (d 4), aI G (d 4) 9 (M 4), oMs (q 5) (d 5), aI G (d 5) 9 (M 5), oMs (q 6) (d 6), aI G (d 6) 9 (M 6), oMs (q 7) (d 7), aI G (d 7) 9 (M 7)]) F hK hP0 hD0 hS0 hA hl0.1 (c_X2_at l G h2 a2 z 0 (by first | assumption | decide | omega)) [25, 26] [0, 1, 2, 3, 4, 5, 6, 7, 8, 9, 10, 11, 12, 13, 14, 15, 16, 17, 18, 19, 20, 21, 22, 23, 24] 2 0 gX0_receive_X2_at rfl 1 rfl (by decide +kernel) ⟨Nat.le_of_ble_eq_true rfl, Nat.le_of_ble_eq_true rfl⟩ ⟨Nat.zero_le _, Nat.zero_le _⟩ rfl rfl rfl rfl (by decide) (by decide) (by decide) (Nat.le_of_ble_eq_true rfl) rfl dX0_receive_2 (fun r1 u1 H2 locs2 hw1 (hP2 : va_P G.1 vwCl ([oCl h pe ti c, oPe pe lc ls lc ls dr p, oLa lc a, oLa ls b, oMs dr da, aI G da 9 f, oTi ti t, oRo rh w rp, aM G w 8 (krow q), oMs (q 0) (d 0), aI G (d 0) 9 (M 0), oMs (q 1) (d 1), aI G (d 1) 9 (M 1), oMs (q 2) (d 2), aI G (d 2) 9 (M 2), oMs (q 3) (d 3), aI G (d 3) 9 (M 3), oMs (q 4) (d 4), aI G (d 4) 9 (M 4), oMs (q 5) (d 5), aI G (d 5) 9 (M 5), oMs (q 6) (d 6), aI G (d 6) 9 (M 6), oMs (q 7) (d 7), aI G (d 7) 9 (M 7), oMs h2 a2, aI G a2 9 z]) H2) (hD2 : va_D A ([oCl h pe ti c, oPe pe lc ls lc ls dr p, oLa lc a, oLa ls b, oMs dr da, aI G da 9 f, oTi ti t, oRo rh w rp, aM G w 8 (krow q), oMs (q 0) (d 0), aI G (d 0) 9 (M 0), oMs (q 1) (d 1), aI G (d 1) 9 (M 1), oMs (q 2) (d 2), aI G (d 2) 9 (M 2), oMs (q 3) (d 3), aI G (d 3) 9 (M 3), oMs (q 4) (d 4), aI G (d 4) 9 (M 4), oMs (q 5) (d 5), aI G (d 5) 9 (M 5), oMs (q 6) (d 6), aI G (d 6) 9 (M 6), oMs (q 7) (d 7), aI G (d 7) 9 (M 7), oMs h2 a2, aI G a2 9 z])) hS2 => ?_)
  clear hP0 hD0 hS0
  have w1_0 : r1 = z 0 := hw1
  refine lv_istore (lv' := [(4, .int r1), (0, .ref h), (1, .ref h2), (2, .int now), (3, .ref rh)]) hx hb dX0_receive_5 hl0 (by decide) rfl (fun ls3 hl3 => ?_)
  clear hl0
  refine lv_aload_n hx hb dX0_receive_7 rfl (lv_at hl3 1 rfl) ?_
  refine kget F hK hP2 0 0 0 iX0 rfl rfl (by decide) (List.mem_of_getElem? (i := 1) rfl) rfl dX0_receive_8 ?_
  refine kget F hK hP2 3 1 3 iX3 rfl rfl (by decide) (List.mem_of_getElem? (i := 2) rfl) rfl dX0_receive_11 ?_
  refine lv_iconst (v := 1) hx hb dX0_receive_14 (by decide) ?_
  refine lv_icmp_ne (tgt := 34) hx hb dX0_receive_15 (by decide) (fun c4 => ?_) (fun c4 => ?_)
  · refine lv_aload_n hx hb dX0_receive_34 rfl (lv_at hl3 1 rfl) ?_
    refine kget F hK hP2 0 0 0 iX0 rfl rfl (by decide) (List.mem_of_getElem? (i := 1) rfl) rfl dX0_receive_35 ?_
    refine kget F hK hP2 3 1 3 iX3 rfl rfl (by decide) (List.mem_of_getElem? (i := 2) rfl) rfl dX0_receive_38 ?_
    refine lv_iconst (v := 1) hx hb dX0_receive_41 (by decide) ?_
    refine lv_icmp_ne (tgt := 60) hx hb dX0_receive_42 (by decide) (fun c5 => ?_) (fun c5 => ?_)
    · refine lv_aload_n hx hb dX0_receive_60 rfl (lv_at hl3 1 rfl) ?_
      refine kget F hK hP2 0 0 0 iX0 rfl rfl (by decide) (List.mem_of_getElem? (i := 1) rfl) rfl dX0_receive_61 ?_
      refine kget F hK hP2 3 1 3 iX3 rfl rfl (by decide) (List.mem_of_getElem? (i := 2) rfl) rfl dX0_receive_64 ?_
      refine lv_iconst (v := 4) hx hb dX0_receive_67 (by decide) ?_
      refine lv_icmp_ne (tgt := 86) hx hb dX0_receive_68 (by decide) (fun c6 => ?_) (fun c6 => ?_)
      · refine lv_aload_n hx hb dX0_receive_86 rfl (lv_at hl3 1 rfl) ?_
        refine kget F hK hP2 0 0 0 iX0 rfl rfl (by decide) (List.mem_of_getElem? (i := 1) rfl) rfl dX0_receive_87 ?_
        refine lv_aload_n hx hb dX0_receive_90 rfl (lv_at hl3 2 rfl) ?_
        refine kVv (wr := [oCl h pe ti c, oLa ls b, oMs dr da, aI G da 9 f, oTi ti t, oRo rh w rp, aM G w 8 (krow q), oMs (q 0) (d 0), aI G (d 0) 9 (M 0), oMs (q 1) (d 1), aI G (d 1) 9 (M 1), oMs (q 2) (d 2), aI G (d 2) 9 (M 2), oMs (q 3) (d 3), aI G (d 3) 9 (M 3), oMs (q 4) (d 4), aI G (d 4) 9 (M 4), oMs (q 5) (d 5), aI G (d 5) 9 (M 5), oMs (q 6) (d 6), aI G (d 6) 9 (M 6), oMs (q 7) (d 7), aI G (d 7) 9 (M 7)]) F hK hP2 hD2 hS2 hA hl3.1 (c_X3_receive l G pe lc ls lc ls dr p a h2 a2 z) [1, 2, 25, 26] [0, 3, 4, 5, 6, 7, 8, 9, 10, 11, 12, 13, 14, 15, 16, 17, 18, 19, 20, 21, 22, 23, 24] 3 0 gX0_receive_X3_receive rfl 1 rfl (by decide +kernel) ⟨Nat.le_of_ble_eq_true rfl, Nat.le_of_ble_eq_true rfl⟩ ⟨Nat.zero_le _, Nat.zero_le _⟩ rfl rfl rfl rfl (by decide) (by decide) (by decide) (Nat.le_of_ble_eq_true rfl) rfl dX0_receive_91 (fun u7 H8 locs8 hw7 hP8 hD8 hS8 => ?_)
        obtain ⟨p_7, b_7⟩ := u7
        have hP8 : va_P G.1 vwCl ([oCl h pe ti c, oLa ls b, oMs dr da, aI G da 9 f, oTi ti t, oRo rh w rp, aM G w 8 (krow q), oMs (q 0) (d 0), aI G (d 0) 9 (M 0), oMs (q 1) (d 1), aI G (d 1) 9 (M 1), oMs (q 2) (d 2), aI G (d 2) 9 (M 2), oMs (q 3) (d 3), aI G (d 3) 9 (M 3), oMs (q 4) (d 4), aI G (d 4) 9 (M 4), oMs (q 5) (d 5), aI G (d 5) 9 (M 5), oMs (q 6) (d 6), aI G (d 6) 9 (M 6), oMs (q 7) (d 7), aI G (d 7) 9 (M 7), oPe pe lc ls lc ls dr p_7, oLa lc b_7, oMs h2 a2, aI G a2 9 z]) H8 := hP8
        have hD8 : va_D A ([oCl h pe ti c, oLa ls b, oMs dr da, aI G da 9 f, oTi ti t, oRo rh w rp, aM G w 8 (krow q), oMs (q 0) (d 0), aI G (d 0) 9 (M 0), oMs (q 1) (d 1), aI G (d 1) 9 (M 1), oMs (q 2) (d 2), aI G (d 2) 9 (M 2), oMs (q 3) (d 3), aI G (d 3) 9 (M 3), oMs (q 4) (d 4), aI G (d 4) 9 (M 4), oMs (q 5) (d 5), aI G (d 5) 9 (M 5), oMs (q 6) (d 6), aI G (d 6) 9 (M 6), oMs (q 7) (d 7), aI G (d 7) 9 (M 7), oPe pe lc ls lc ls dr p_7, oLa lc b_7, oMs h2 a2, aI G a2 9 z]) := hD8
        clear hP2 hD2 hS2
        have w7_0 : p_7 = (kprcv p a z).1 := hw7.1
        have w7_1 : b_7 = (kprcv p a z).2 := hw7.2
        have q9 : (c = (kcliR L c p a b f t rp M z now).1) ∧ (p_7 = (kcliR L c p a b f t rp M z now).2.1) ∧ (b_7 = (kcliR L c p a b f t rp M z now).2.2.1) ∧ (b = (kcliR L c p a b f t rp M z now).2.2.2.1) ∧ (f = (kcliR L c p a b f t rp M z now).2.2.2.2.1) ∧ (t = (kcliR L c p a b f t rp M z now).2.2.2.2.2.1) ∧ (rp = (kcliR L c p a b f t rp M z now).2.2.2.2.2.2.1) ∧ (M = (kcliR L c p a b f t rp M z now).2.2.2.2.2.2.2) := by
          subst w7_1
          subst w7_0
          subst w1_0
          first | (simp only [kcliR, c4, c5, c6, ↓reduceIte, and_self]; done) | (simp only [kcliR, c4, c5, c6, ↓reduceIte, and_self]; exact ⟨rfl, rfl, rfl, rfl, rfl, rfl, rfl, rfl⟩) | exact ⟨rfl, rfl, rfl, rfl, rfl, rfl, rfl, rfl⟩
        exact kRv F hr hlocks hS8 dX0_receive_94 ⟨c, p_7, b_7, b, f, t, rp, M⟩ q9 (hP8.sub [0, 23, 24, 1, 2, 3, 4, 5, 6, 7, 8, 9, 10, 11, 12, 13, 14, 15, 16, 17, 18, 19, 20, 21, 22, 25, 26] rfl) (hD8.sub [0, 23, 24, 1, 2, 3, 4, 5, 6, 7, 8, 9, 10, 11, 12, 13, 14, 15, 16, 17, 18, 19, 20, 21, 22, 25, 26] (by decide) rfl)
      · refine lv_iload hx hb dX0_receive_71 (lv_at hl3 0 rfl) ?_
        refine lv_iconst (v := 5) hx hb dX0_receive_73 (by decide) ?_
        refine lv_icmp_ne (tgt := 86) hx hb dX0_receive_74 (by decide) (fun c10 => ?_) (fun c10 => ?_)
        · refine lv_aload_n hx hb dX0_receive_86 rfl (lv_at hl3 1 rfl) ?_
          refine kget F hK hP2 0 0 0 iX0 rfl rfl (by decide) (List.mem_of_getElem? (i := 1) rfl) rfl dX0_receive_87 ?_
          refine lv_aload_n hx hb dX0_receive_90 rfl (lv_at hl3 2 rfl) ?_
          refine kVv (wr := [oCl h pe ti c, oLa ls b, oMs dr da, aI G da 9 f, oTi ti t, oRo rh w rp, aM G w 8 (krow q), oMs (q 0) (d 0), aI G (d 0) 9 (M 0), oMs (q 1) (d 1), aI G (d 1) 9 (M 1), oMs (q 2) (d 2), aI G (d 2) 9 (M 2), oMs (q 3) (d 3), aI G (d 3) 9 (M 3), oMs (q 4) (d 4), aI G (d 4) 9 (M 4), oMs (q 5) (d 5), aI G (d 5) 9 (M 5), oMs (q 6) (d 6), aI G (d 6) 9 (M 6), oMs (q 7) (d 7), aI G (d 7) 9 (M 7)]) F hK hP2 hD2 hS2 hA hl3.1 (c_X3_receive l G pe lc ls lc ls dr p a h2 a2 z) [1, 2, 25, 26] [0, 3, 4, 5, 6, 7, 8, 9, 10, 11, 12, 13, 14, 15, 16, 17, 18, 19, 20, 21, 22, 23, 24] 3 0 gX0_receive_X3_receive rfl 1 rfl (by decide +kernel) ⟨Nat.le_of_ble_eq_true rfl, Nat.le_of_ble_eq_true rfl⟩ ⟨Nat.zero_le _, Nat.zero_le _⟩ rfl rfl rfl rfl (by decide) (by decide) (by decide) (Nat.le_of_ble_eq_true rfl) rfl dX0_receive_91 (fun u11 H12 locs12 hw11 hP12 hD12 hS12 => ?_)
          obtain ⟨p_11, b_11⟩ := u11
          have hP12 : va_P G.1 vwCl ([oCl h pe ti c, oLa ls b, oMs dr da, aI G da 9 f, oTi ti t, oRo rh w rp, aM G w 8 (krow q), oMs (q 0) (d 0), aI G (d 0) 9 (M 0), oMs (q 1) (d 1), aI G (d 1) 9 (M 1), oMs (q 2) (d 2), aI G (d 2) 9 (M 2), oMs (q 3) (d 3), aI G (d 3) 9 (M 3), oMs (q 4) (d 4), aI G (d 4) 9 (M 4), oMs (q 5) (d 5), aI G (d 5) 9 (M 5), oMs (q 6) (d 6), aI G (d 6) 9 (M 6), oMs (q 7) (d 7), aI G (d 7) 9 (M 7), oPe pe lc ls lc ls dr p_11, oLa lc b_11, oMs h2 a2, aI G a2 9 z]) H12 := hP12
          have hD12 : va_D A ([oCl h pe ti c, oLa ls b, oMs dr da, aI G da 9 f, oTi ti t, oRo rh w rp, aM G w 8 (krow q), oMs (q 0) (d 0), aI G (d 0) 9 (M 0), oMs (q 1) (d 1), aI G (d 1) 9 (M 1), oMs (q 2) (d 2), aI G (d 2) 9 (M 2), oMs (q 3) (d 3), aI G (d 3) 9 (M 3), oMs (q 4) (d 4), aI G (d 4) 9 (M 4), oMs (q 5) (d 5), aI G (d 5) 9 (M 5), oMs (q 6) (d 6), aI G (d 6) 9 (M 6), oMs (q 7) (d 7), aI G (d 7) 9 (M 7), oPe pe lc ls lc ls dr p_11, oLa lc b_11, oMs h2 a2, aI G a2 9 z]) := hD12
          clear hP2 hD2 hS2
          have w11_0 : p_11 = (kprcv p a z).1 := hw11.1
          have w11_1 : b_11 = (kprcv p a z).2 := hw11.2
          have q13 : (c = (kcliR L c p a b f t rp M z now).1) ∧ (p_11 = (kcliR L c p a b f t rp M z now).2.1) ∧ (b_11 = (kcliR L c p a b f t rp M z now).2.2.1) ∧ (b = (kcliR L c p a b f t rp M z now).2.2.2.1) ∧ (f = (kcliR L c p a b f t rp M z now).2.2.2.2.1) ∧ (t = (kcliR L c p a b f t rp M z now).2.2.2.2.2.1) ∧ (rp = (kcliR L c p a b f t rp M z now).2.2.2.2.2.2.1) ∧ (M = (kcliR L c p a b f t rp M z now).2.2.2.2.2.2.2) := by
            subst w11_1
            subst w11_0
            subst w1_0
            first | (simp only [kcliR, c4, c5, c6, c10, ↓reduceIte, and_self]; done) | (simp only [kcliR, c4, c5, c6, c10, ↓reduceIte, and_self]; exact ⟨rfl, rfl, rfl, rfl, rfl, rfl, rfl, rfl⟩) | exact ⟨rfl, rfl, rfl, rfl, rfl, rfl, rfl, rfl⟩
          exact kRv F hr hlocks hS12 dX0_receive_94 ⟨c, p_11, b_11, b, f, t, rp, M⟩ q13 (hP12.sub [0, 23, 24, 1, 2, 3, 4, 5, 6, 7, 8, 9, 10, 11, 12, 13, 14, 15, 16, 17, 18, 19, 20, 21, 22, 25, 26] rfl) (hD12.sub [0, 23, 24, 1, 2, 3, 4, 5, 6, 7, 8, 9, 10, 11, 12, 13, 14, 15, 16, 17, 18, 19, 20, 21, 22, 25, 26] (by decide) rfl)
        · refine lv_aload_n hx hb dX0_receive_77 rfl (lv_at hl3 1 rfl) ?_
          refine lv_aload_n hx hb dX0_receive_78 rfl (lv_at hl3 2 rfl) ?_
          refine lv_iload_n hx hb dX0_receive_79 rfl (lv_at hl3 3 rfl) ?_
          refine kVv (wr := [oLa lc a, oLa ls b, oMs dr da, aI G da 9 f, oRo rh w rp, aM G w 8 (krow q), oMs (q 0) (d 0), aI G (d 0) 9 (M 0), oMs (q 1) (d 1), aI G (d 1) 9 (M 1), oMs (q 2) (d 2), aI G (d 2) 9 (M 2), oMs (q 3) (d 3), aI G (d 3) 9 (M 3), oMs (q 4) (d 4), aI G (d 4) 9 (M 4), oMs (q 5) (d 5), aI G (d 5) 9 (M 5), oMs (q 6) (d 6), aI G (d 6) 9 (M 6), oMs (q 7) (d 7), aI G (d 7) 9 (M 7)]) F hK hP2 hD2 hS2 hA hl3.1 (c_X0_receiveTicket l G h pe ti lc ls lc ls dr c p t h2 a2 z now) [0, 1, 6, 25, 26] [2, 3, 4, 5, 7, 8, 9, 10, 11, 12, 13, 14, 15, 16, 17, 18, 19, 20, 21, 22, 23, 24] 0 0 gX0_receive_X0_receiveTicket rfl 2 rfl (by decide +kernel) ⟨Nat.le_of_ble_eq_true rfl, Nat.le_of_ble_eq_true rfl⟩ ⟨Nat.zero_le _, Nat.zero_le _⟩ rfl rfl rfl rfl (by decide) (by decide) (by decide) (Nat.le_of_ble_eq_true rfl) rfl dX0_receive_80 (fun u14 H15 locs15 hw14 hP15 hD15 hS15 => ?_)
          obtain ⟨c_14, t_14⟩ := u14
          have hP15 : va_P G.1 vwCl ([oLa lc a, oLa ls b, oMs dr da, aI G da 9 f, oRo rh w rp, aM G w 8 (krow q), oMs (q 0) (d 0), aI G (d 0) 9 (M 0), oMs (q 1) (d 1), aI G (d 1) 9 (M 1), oMs (q 2) (d 2), aI G (d 2) 9 (M 2), oMs (q 3) (d 3), aI G (d 3) 9 (M 3), oMs (q 4) (d 4), aI G (d 4) 9 (M 4), oMs (q 5) (d 5), aI G (d 5) 9 (M 5), oMs (q 6) (d 6), aI G (d 6) 9 (M 6), oMs (q 7) (d 7), aI G (d 7) 9 (M 7), oCl h pe ti c_14, oPe pe lc ls lc ls dr p, oTi ti t_14, oMs h2 a2, aI G a2 9 z]) H15 := hP15
          have hD15 : va_D A ([oLa lc a, oLa ls b, oMs dr da, aI G da 9 f, oRo rh w rp, aM G w 8 (krow q), oMs (q 0) (d 0), aI G (d 0) 9 (M 0), oMs (q 1) (d 1), aI G (d 1) 9 (M 1), oMs (q 2) (d 2), aI G (d 2) 9 (M 2), oMs (q 3) (d 3), aI G (d 3) 9 (M 3), oMs (q 4) (d 4), aI G (d 4) 9 (M 4), oMs (q 5) (d 5), aI G (d 5) 9 (M 5), oMs (q 6) (d 6), aI G (d 6) 9 (M 6), oMs (q 7) (d 7), aI G (d 7) 9 (M 7), oCl h pe ti c_14, oPe pe lc ls lc ls dr p, oTi ti t_14, oMs h2 a2, aI G a2 9 z]) := hD15
          clear hP2 hD2 hS2
          have w14_0 : c_14 = upd c 2 1 := hw14.1
          have w14_1 : t_14 = kticket p t z now := hw14.2
          refine lv_goto (tgt := 94) hx hb dX0_receive_83 (by decide) ?_
          have q16 : (c_14 = (kcliR L c p a b f t rp M z now).1) ∧ (p = (kcliR L c p a b f t rp M z now).2.1) ∧ (a = (kcliR L c p a b f t rp M z now).2.2.1) ∧ (b = (kcliR L c p a b f t rp M z now).2.2.2.1) ∧ (f = (kcliR L c p a b f t rp M z now).2.2.2.2.1) ∧ (t_14 = (kcliR L c p a b f t rp M z now).2.2.2.2.2.1) ∧ (rp = (kcliR L c p a b f t rp M z now).2.2.2.2.2.2.1) ∧ (M = (kcliR L c p a b f t rp M z now).2.2.2.2.2.2.2) := by
            subst w14_1
            subst w14_0
            subst w1_0
            first | (simp only [kcliR, c4, c5, c6, c10, ↓reduceIte, and_self]; done) | (simp only [kcliR, c4, c5, c6, c10, ↓reduceIte, and_self]; exact ⟨rfl, rfl, rfl, rfl, rfl, rfl, rfl, rfl⟩) | exact ⟨rfl, rfl, rfl, rfl, rfl, rfl, rfl, rfl⟩
          exact kRv F hr hlocks hS15 dX0_receive_94 ⟨c_14, p, a, b, f, t_14, rp, M⟩ q16 (hP15.sub [22, 23, 0, 1, 2, 3, 24, 4, 5, 6, 7, 8, 9, 10, 11, 12, 13, 14, 15, 16, 17, 18, 19, 20, 21, 25, 26] rfl) (hD15.sub [22, 23, 0, 1, 2, 3, 24, 4, 5, 6, 7, 8, 9, 10, 11, 12, 13, 14, 15, 16, 17, 18, 19, 20, 21, 25, 26] (by decide) rfl)
    · exact absurd c5 c4
  · refine lv_iload hx hb dX0_receive_18 (lv_at hl3 0 rfl) ?_
    refine lv_iconst (v := 2) hx hb dX0_receive_20 (by decide) ?_
    refine lv_icmp_ne (tgt := 34) hx hb dX0_receive_21 (by decide) (fun c17 => ?_) (fun c17 => ?_)
    · refine lv_aload_n hx hb dX0_receive_34 rfl (lv_at hl3 1 rfl) ?_
      refine kget F hK hP2 0 0 0 iX0 rfl rfl (by decide) (List.mem_of_getElem? (i := 1) rfl) rfl dX0_receive_35 ?_
      refine kget F hK hP2 3 1 3 iX3 rfl rfl (by decide) (List.mem_of_getElem? (i := 2) rfl) rfl dX0_receive_38 ?_
      refine lv_iconst (v := 1) hx hb dX0_receive_41 (by decide) ?_
      refine lv_icmp_ne (tgt := 60) hx hb dX0_receive_42 (by decide) (fun c18 => ?_) (fun c18 => ?_)
      · exact absurd c4 c18
      · refine lv_iload hx hb dX0_receive_45 (lv_at hl3 0 rfl) ?_
        refine lv_iconst (v := 3) hx hb dX0_receive_47 (by decide) ?_
        refine lv_icmp_ne (tgt := 60) hx hb dX0_receive_48 (by decide) (fun c19 => ?_) (fun c19 => ?_)
        · refine lv_aload_n hx hb dX0_receive_60 rfl (lv_at hl3 1 rfl) ?_
          refine kget F hK hP2 0 0 0 iX0 rfl rfl (by decide) (List.mem_of_getElem? (i := 1) rfl) rfl dX0_receive_61 ?_
          refine kget F hK hP2 3 1 3 iX3 rfl rfl (by decide) (List.mem_of_getElem? (i := 2) rfl) rfl dX0_receive_64 ?_
          refine lv_iconst (v := 4) hx hb dX0_receive_67 (by decide) ?_
          refine lv_icmp_ne (tgt := 86) hx hb dX0_receive_68 (by decide) (fun c20 => ?_) (fun c20 => ?_)
          · refine lv_aload_n hx hb dX0_receive_86 rfl (lv_at hl3 1 rfl) ?_
            refine kget F hK hP2 0 0 0 iX0 rfl rfl (by decide) (List.mem_of_getElem? (i := 1) rfl) rfl dX0_receive_87 ?_
            refine lv_aload_n hx hb dX0_receive_90 rfl (lv_at hl3 2 rfl) ?_
            refine kVv (wr := [oCl h pe ti c, oLa ls b, oMs dr da, aI G da 9 f, oTi ti t, oRo rh w rp, aM G w 8 (krow q), oMs (q 0) (d 0), aI G (d 0) 9 (M 0), oMs (q 1) (d 1), aI G (d 1) 9 (M 1), oMs (q 2) (d 2), aI G (d 2) 9 (M 2), oMs (q 3) (d 3), aI G (d 3) 9 (M 3), oMs (q 4) (d 4), aI G (d 4) 9 (M 4), oMs (q 5) (d 5), aI G (d 5) 9 (M 5), oMs (q 6) (d 6), aI G (d 6) 9 (M 6), oMs (q 7) (d 7), aI G (d 7) 9 (M 7)]) F hK hP2 hD2 hS2 hA hl3.1 (c_X3_receive l G pe lc ls lc ls dr p a h2 a2 z) [1, 2, 25, 26] [0, 3, 4, 5, 6, 7, 8, 9, 10, 11, 12, 13, 14, 15, 16, 17, 18, 19, 20, 21, 22, 23, 24] 3 0 gX0_receive_X3_receive rfl 1 rfl (by decide +kernel) ⟨Nat.le_of_ble_eq_true rfl, Nat.le_of_ble_eq_true rfl⟩ ⟨Nat.zero_le _, Nat.zero_le _⟩ rfl rfl rfl rfl (by decide) (by decide) (by decide) (Nat.le_of_ble_eq_true rfl) rfl dX0_receive_91 (fun u21 H22 locs22 hw21 hP22 hD22 hS22 => ?_)
            obtain ⟨p_21, b_21⟩ := u21
            have hP22 : va_P G.1 vwCl ([oCl h pe ti c, oLa ls b, oMs dr da, aI G da 9 f, oTi ti t, oRo rh w rp, aM G w 8 (krow q), oMs (q 0) (d 0), aI G (d 0) 9 (M 0), oMs (q 1) (d 1), aI G (d 1) 9 (M 1), oMs (q 2) (d 2), aI G (d 2) 9 (M 2), oMs (q 3) (d 3), aI G (d 3) 9 (M 3), oMs (q 4) (d 4), aI G (d 4) 9 (M 4), oMs (q 5) (d 5), aI G (d 5) 9 (M 5), oMs (q 6) (d 6), aI G (d 6) 9 (M 6), oMs (q 7) (d 7), aI G (d 7) 9 (M 7), oPe pe lc ls lc ls dr p_21, oLa lc b_21, oMs h2 a2, aI G a2 9 z]) H22 := hP22
            have hD22 : va_D A ([oCl h pe ti c, oLa ls b, oMs dr da, aI G da 9 f, oTi ti t, oRo rh w rp, aM G w 8 (krow q), oMs (q 0) (d 0), aI G (d 0) 9 (M 0), oMs (q 1) (d 1), aI G (d 1) 9 (M 1), oMs (q 2) (d 2), aI G (d 2) 9 (M 2), oMs (q 3) (d 3), aI G (d 3) 9 (M 3), oMs (q 4) (d 4), aI G (d 4) 9 (M 4), oMs (q 5) (d 5), aI G (d 5) 9 (M 5), oMs (q 6) (d 6), aI G (d 6) 9 (M 6), oMs (q 7) (d 7), aI G (d 7) 9 (M 7), oPe pe lc ls lc ls dr p_21, oLa lc b_21, oMs h2 a2, aI G a2 9 z]) := hD22
            clear hP2 hD2 hS2
            have w21_0 : p_21 = (kprcv p a z).1 := hw21.1
            have w21_1 : b_21 = (kprcv p a z).2 := hw21.2
            have q23 : (c = (kcliR L c p a b f t rp M z now).1) ∧ (p_21 = (kcliR L c p a b f t rp M z now).2.1) ∧ (b_21 = (kcliR L c p a b f t rp M z now).2.2.1) ∧ (b = (kcliR L c p a b f t rp M z now).2.2.2.1) ∧ (f = (kcliR L c p a b f t rp M z now).2.2.2.2.1) ∧ (t = (kcliR L c p a b f t rp M z now).2.2.2.2.2.1) ∧ (rp = (kcliR L c p a b f t rp M z now).2.2.2.2.2.2.1) ∧ (M = (kcliR L c p a b f t rp M z now).2.2.2.2.2.2.2) := by
              subst w21_1
              subst w21_0
              subst w1_0
              first | (simp only [kcliR, c4, c17, c18, c19, c20, ↓reduceIte, and_self]; done) | (simp only [kcliR, c4, c17, c18, c19, c20, ↓reduceIte, and_self]; exact ⟨rfl, rfl, rfl, rfl, rfl, rfl, rfl, rfl⟩) | exact ⟨rfl, rfl, rfl, rfl, rfl, rfl, rfl, rfl⟩
            exact kRv F hr hlocks hS22 dX0_receive_94 ⟨c, p_21, b_21, b, f, t, rp, M⟩ q23 (hP22.sub [0, 23, 24, 1, 2, 3, 4, 5, 6, 7, 8, 9, 10, 11, 12, 13, 14, 15, 16, 17, 18, 19, 20, 21, 22, 25, 26] rfl) (hD22.sub [0, 23, 24, 1, 2, 3, 4, 5, 6, 7, 8, 9, 10, 11, 12, 13, 14, 15, 16, 17, 18, 19, 20, 21, 22, 25, 26] (by decide) rfl)
          · exact absurd (c4.symm.trans c20) (by decide)
        · refine lv_aload_n hx hb dX0_receive_51 rfl (lv_at hl3 1 rfl) ?_
          refine lv_aload_n hx hb dX0_receive_52 rfl (lv_at hl3 2 rfl) ?_
          refine lv_aload_n hx hb dX0_receive_53 rfl (lv_at hl3 4 rfl) ?_
          refine kVv (wr := [oTi ti t]) F hK hP2 hD2 hS2 hA hl3.1 (c_X0_receiveGreeting l G h pe ti lc ls lc ls dr da c p a b f rh w q d rp M L h2 a2 z hL hL8) [0, 1, 2, 3, 4, 5, 7, 8, 9, 10, 11, 12, 13, 14, 15, 16, 17, 18, 19, 20, 21, 22, 23, 24, 25, 26] [6] 0 0 gX0_receive_X0_receiveGreeting rfl 2 rfl (by decide +kernel) ⟨Nat.le_of_ble_eq_true rfl, Nat.le_of_ble_eq_true rfl⟩ ⟨Nat.zero_le _, Nat.zero_le _⟩ rfl rfl rfl rfl (by decide) (by decide) (by decide) (Nat.le_of_ble_eq_true rfl) rfl dX0_receive_54 (fun u24 H25 locs25 hw24 hP25 hD25 hS25 => ?_)
          obtain ⟨p_24, a_24, b_24, f_24, rp_24, M_24⟩ := u24
          have hP25 : va_P G.1 vwCl ([oTi ti t, oCl h pe ti c, oPe pe lc ls lc ls dr p_24, oLa lc a_24, oLa ls b_24, oMs dr da, aI G da 9 f_24, oRo rh w rp_24, aM G w 8 (krow q), oMs (q 0) (d 0), aI G (d 0) 9 (M_24 0), oMs (q 1) (d 1), aI G (d 1) 9 (M_24 1), oMs (q 2) (d 2), aI G (d 2) 9 (M_24 2), oMs (q 3) (d 3), aI G (d 3) 9 (M_24 3), oMs (q 4) (d 4), aI G (d 4) 9 (M_24 4), oMs (q 5) (d 5), aI G (d 5) 9 (M_24 5), oMs (q 6) (d 6), aI G (d 6) 9 (M_24 6), oMs (q 7) (d 7), aI G (d 7) 9 (M_24 7), oMs h2 a2, aI G a2 9 z]) H25 := hP25
          have hD25 : va_D A ([oTi ti t, oCl h pe ti c, oPe pe lc ls lc ls dr p_24, oLa lc a_24, oLa ls b_24, oMs dr da, aI G da 9 f_24, oRo rh w rp_24, aM G w 8 (krow q), oMs (q 0) (d 0), aI G (d 0) 9 (M_24 0), oMs (q 1) (d 1), aI G (d 1) 9 (M_24 1), oMs (q 2) (d 2), aI G (d 2) 9 (M_24 2), oMs (q 3) (d 3), aI G (d 3) 9 (M_24 3), oMs (q 4) (d 4), aI G (d 4) 9 (M_24 4), oMs (q 5) (d 5), aI G (d 5) 9 (M_24 5), oMs (q 6) (d 6), aI G (d 6) 9 (M_24 6), oMs (q 7) (d 7), aI G (d 7) 9 (M_24 7), oMs h2 a2, aI G a2 9 z]) := hD25
          clear hP2 hD2 hS2
          have w24_0 : p_24 = (kgreetR L c p a b f rp M z).1 := hw24.1
          have w24_1 : a_24 = (kgreetR L c p a b f rp M z).2.1 := hw24.2.1
          have w24_2 : b_24 = (kgreetR L c p a b f rp M z).2.2.1 := hw24.2.2.1
          have w24_3 : f_24 = (kgreetR L c p a b f rp M z).2.2.2.1 := hw24.2.2.2.1
          have w24_4 : rp_24 = (kgreetR L c p a b f rp M z).2.2.2.2.1 := hw24.2.2.2.2.1
          have w24_5 : M_24 = (kgreetR L c p a b f rp M z).2.2.2.2.2 := hw24.2.2.2.2.2
          refine lv_goto (tgt := 94) hx hb dX0_receive_57 (by decide) ?_
          have q26 : (c = (kcliR L c p a b f t rp M z now).1) ∧ (p_24 = (kcliR L c p a b f t rp M z now).2.1) ∧ (a_24 = (kcliR L c p a b f t rp M z now).2.2.1) ∧ (b_24 = (kcliR L c p a b f t rp M z now).2.2.2.1) ∧ (f_24 = (kcliR L c p a b f t rp M z now).2.2.2.2.1) ∧ (t = (kcliR L c p a b f t rp M z now).2.2.2.2.2.1) ∧ (rp_24 = (kcliR L c p a b f t rp M z now).2.2.2.2.2.2.1) ∧ (M_24 = (kcliR L c p a b f t rp M z now).2.2.2.2.2.2.2) := by
            subst w24_5
            subst w24_4
            subst w24_3
            subst w24_2
            subst w24_1
            subst w24_0
            subst w1_0
            first | (simp only [kcliR, c4, c17, c18, c19, ↓reduceIte, and_self]; done) | (simp only [kcliR, c4, c17, c18, c19, ↓reduceIte, and_self]; exact ⟨rfl, rfl, rfl, rfl, rfl, rfl, rfl, rfl⟩) | exact ⟨rfl, rfl, rfl, rfl, rfl, rfl, rfl, rfl⟩
          exact kRv F hr hlocks hS25 dX0_receive_94 ⟨c, p_24, a_24, b_24, f_24, t, rp_24, M_24⟩ q26 (hP25.sub [1, 2, 3, 4, 5, 6, 0, 7, 8, 9, 10, 11, 12, 13, 14, 15, 16, 17, 18, 19, 20, 21, 22, 23, 24, 25, 26] rfl) (hD25.sub [1, 2, 3, 4, 5, 6, 0, 7, 8, 9, 10, 11, 12, 13, 14, 15, 16, 17, 18, 19, 20, 21, 22, 23, 24, 25, 26] (by decide) rfl)
    · refine lv_aload_n hx hb dX0_receive_24 rfl (lv_at hl3 1 rfl) ?_
      refine lv_aload_n hx hb dX0_receive_25 rfl (lv_at hl3 2 rfl) ?_
      refine lv_iload_n hx hb dX0_receive_26 rfl (lv_at hl3 3 rfl) ?_
      refine lv_aload_n hx hb dX0_receive_27 rfl (lv_at hl3 4 rfl) ?_
      refine kVv (wr := [oLa lc a, oLa ls b]) F hK hP2 hD2 hS2 hA hl3.1 (c_X0_receiveRetry l G h pe ti lc ls lc ls dr da c p t f rh w q d rp M L h2 a2 z now hL hL8 hb) [0, 1, 6, 4, 5, 7, 8, 9, 10, 11, 12, 13, 14, 15, 16, 17, 18, 19, 20, 21, 22, 23, 24, 25, 26] [2, 3] 0 0 gX0_receive_X0_receiveRetry rfl 3 rfl (by decide +kernel) ⟨Nat.le_of_ble_eq_true rfl, Nat.le_of_ble_eq_true rfl⟩ ⟨Nat.zero_le _, Nat.zero_le _⟩ rfl rfl rfl rfl (by decide) (by decide) (by decide) (Nat.le_of_ble_eq_true rfl) rfl dX0_receive_28 (fun u27 H28 locs28 hw27 hP28 hD28 hS28 => ?_)
      obtain ⟨c_27, p_27, f_27, rp_27, M_27⟩ := u27
      have hP28 : va_P G.1 vwCl ([oLa lc a, oLa ls b, oCl h pe ti c_27, oPe pe lc ls lc ls dr p_27, oTi ti t, oMs dr da, aI G da 9 f_27, oRo rh w rp_27, aM G w 8 (krow q), oMs (q 0) (d 0), aI G (d 0) 9 (M_27 0), oMs (q 1) (d 1), aI G (d 1) 9 (M_27 1), oMs (q 2) (d 2), aI G (d 2) 9 (M_27 2), oMs (q 3) (d 3), aI G (d 3) 9 (M_27 3), oMs (q 4) (d 4), aI G (d 4) 9 (M_27 4), oMs (q 5) (d 5), aI G (d 5) 9 (M_27 5), oMs (q 6) (d 6), aI G (d 6) 9 (M_27 6), oMs (q 7) (d 7), aI G (d 7) 9 (M_27 7), oMs h2 a2, aI G a2 9 z]) H28 := hP28
      have hD28 : va_D A ([oLa lc a, oLa ls b, oCl h pe ti c_27, oPe pe lc ls lc ls dr p_27, oTi ti t, oMs dr da, aI G da 9 f_27, oRo rh w rp_27, aM G w 8 (krow q), oMs (q 0) (d 0), aI G (d 0) 9 (M_27 0), oMs (q 1) (d 1), aI G (d 1) 9 (M_27 1), oMs (q 2) (d 2), aI G (d 2) 9 (M_27 2), oMs (q 3) (d 3), aI G (d 3) 9 (M_27 3), oMs (q 4) (d 4), aI G (d 4) 9 (M_27 4), oMs (q 5) (d 5), aI G (d 5) 9 (M_27 5), oMs (q 6) (d 6), aI G (d 6) 9 (M_27 6), oMs (q 7) (d 7), aI G (d 7) 9 (M_27 7), oMs h2 a2, aI G a2 9 z]) := hD28
      clear hP2 hD2 hS2
      have w27_0 : c_27 = (kretryR L c p t f rp M z now).1 := hw27.1
      have w27_1 : p_27 = (kretryR L c p t f rp M z now).2.1 := hw27.2.1
      have w27_2 : f_27 = (kretryR L c p t f rp M z now).2.2.1 := hw27.2.2.1
      have w27_3 : rp_27 = (kretryR L c p t f rp M z now).2.2.2.1 := hw27.2.2.2.1
      have w27_4 : M_27 = (kretryR L c p t f rp M z now).2.2.2.2 := hw27.2.2.2.2
      refine lv_goto (tgt := 94) hx hb dX0_receive_31 (by decide) ?_
      have q29 : (c_27 = (kcliR L c p a b f t rp M z now).1) ∧ (p_27 = (kcliR L c p a b f t rp M z now).2.1) ∧ (a = (kcliR L c p a b f t rp M z now).2.2.1) ∧ (b = (kcliR L c p a b f t rp M z now).2.2.2.1) ∧ (f_27 = (kcliR L c p a b f t rp M z now).2.2.2.2.1) ∧ (t = (kcliR L c p a b f t rp M z now).2.2.2.2.2.1) ∧ (rp_27 = (kcliR L c p a b f t rp M z now).2.2.2.2.2.2.1) ∧ (M_27 = (kcliR L c p a b f t rp M z now).2.2.2.2.2.2.2) := by
        subst w27_4
        subst w27_3
        subst w27_2
        subst w27_1
        subst w27_0
        subst w1_0
        first | (simp only [kcliR, c4, c17, ↓reduceIte, and_self]; done) | (simp only [kcliR, c4, c17, ↓reduceIte, and_self]; exact ⟨rfl, rfl, rfl, rfl, rfl, rfl, rfl, rfl⟩) | exact ⟨rfl, rfl, rfl, rfl, rfl, rfl, rfl, rfl⟩
      exact kRv F hr hlocks hS28 dX0_receive_94 ⟨c_27, p_27, a, b, f_27, t, rp_27, M_27⟩ q29 (hP28.sub [2, 3, 0, 1, 5, 6, 4, 7, 8, 9, 10, 11, 12, 13, 14, 15, 16, 17, 18, 19, 20, 21, 22, 23, 24, 25, 26] rfl) (hD28.sub [2, 3, 0, 1, 5, 6, 4, 7, 8, 9, 10, 11, 12, 13, 14, 15, 16, 17, 18, 19, 20, 21, 22, 23, 24, 25, 26] (by decide) rfl)
