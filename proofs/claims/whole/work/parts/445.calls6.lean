set_option maxHeartbeats 1000000 in
set_option maxRecDepth 100000 in
theorem c_X8_settingsN (l : Launch) (G : kG) (Z : kZs) (h : Nat) (cl : Nat) (se : Nat) (rc : Nat) (rs : Nat) (ar : Nat) (co : Nat) (cz : Nat) (tx : Nat) (nw : Nat → Int32) (yl : Nat) (yk : Nat) (yf : Nat) (ys : Nat) (x : Nat → Int32) (xl : Nat → Int32) (fk : Nat → Int32) (ff : Nat → Int32) (fs : Nat → Int32) (L : Nat) (hL : x 1 = nI L) (lL : L ≤ 200) (hno : ¬ (krd xl L x fk ff fs).1 = -1) : kMz Z G l yX8_settings wsX8_settings ({ frames := 8, cells := 0, slots := 0, locals := 172 }) [.ref h] ([oTo h cl se rc rs ar co cz tx nw, oTx tx yl yk yf ys x, aI G yl 200 xl, aI G yk 24 fk, aI G yf 24 ff, aI G ys 24 fs]) (kQi G (fun (rr : Int32) (uu : (Nat → Int32) × (Nat → Int32) × (Nat → Int32) × (Nat → Int32)) => (rr = (-4 : Int32)) ∧ (uu.1 = (krd xl L x fk ff fs).2.1) ∧ (uu.2.1 = (krd xl L x fk ff fs).2.2.1) ∧ (uu.2.2.1 = (krd xl L x fk ff fs).2.2.2.1) ∧ (uu.2.2.2 = (krd xl L x fk ff fs).2.2.2.2)) (fun (uu : (Nat → Int32) × (Nat → Int32) × (Nat → Int32) × (Nat → Int32)) => [oTo h cl se rc rs ar co cz tx nw, oTx tx yl yk yf ys uu.1, aI G yl 200 xl, aI G yk 24 uu.2.1, aI G yf 24 uu.2.2.1, aI G ys 24 uu.2.2.2])) := by
  refine kzStart (cc := cX8_settings) (maxL := 3) (ret := (some .int)) (by decide) rfl (Nat.le_of_ble_eq_true rfl) (fun pg ev st mi bl mt cd A ls0 F hr hlocks hin hK hP0 hD0 hA hS0 hl0 hZ => ?_)
  obtain ⟨hx, hb, hml, hown, hts⟩ := id F
  have hl0 : lv_has ls0 3 [(0, .ref h)] := hl0
  have iX8 : ∀ w ∈ u_ws RX8 TX8 9, w ∈ wsX8_settings := fun w h => List.mem_cons_of_mem _ (List.mem_append_left _ (List.mem_append_left _ (List.mem_append_left _ (List.mem_append_left _ (List.mem_append_right _ h)))))
  refine lv_aload_n hx hb dX8_settings_0 rfl (lv_at hl0 0 rfl) ?_
  refine kget F hK hP0 8 0 7 iX8 rfl rfl (by decide) (List.mem_of_getElem? (i := 1) rfl) rfl dX8_settings_1 ?_
  refine kzVi (wr := [oTo h cl se rc rs ar co cz tx nw]) F hK hP0 hD0 hS0 hA hl0.1 hZ (c_X6_read l G Z tx yl yk yf ys x xl fk ff fs L hL lL) [1, 2, 3, 4, 5] [0] 6 0 gX8_settings_X6_read rfl 0 rfl (by decide +kernel) ⟨Nat.le_of_ble_eq_true rfl, Nat.le_of_ble_eq_true rfl⟩ ⟨Nat.zero_le _, Nat.zero_le _⟩ rfl rfl rfl rfl (by decide) (by decide) (by decide) (Nat.le_of_ble_eq_true rfl) rfl dX8_settings_4 (fun r1 u1 H2 locs2 hw1 hP2 hD2 hS2 => ?_)
  obtain ⟨x_1, fk_1, ff_1, fs_1⟩ := u1
  have hP2 : va_P G.1 vwCl ([oTo h cl se rc rs ar co cz tx nw, oTx tx yl yk yf ys x_1, aI G yl 200 xl, aI G yk 24 fk_1, aI G yf 24 ff_1, aI G ys 24 fs_1]) H2 := hP2
  have hD2 : va_D A ([oTo h cl se rc rs ar co cz tx nw, oTx tx yl yk yf ys x_1, aI G yl 200 xl, aI G yk 24 fk_1, aI G yf 24 ff_1, aI G ys 24 fs_1]) := hD2
  clear hP0 hD0 hS0
  have w1_0 : r1 = (krd xl L x fk ff fs).1 := hw1.1
  have w1_1 : x_1 = (krd xl L x fk ff fs).2.1 := hw1.2.1
  have w1_2 : fk_1 = (krd xl L x fk ff fs).2.2.1 := hw1.2.2.1
  have w1_3 : ff_1 = (krd xl L x fk ff fs).2.2.2.1 := hw1.2.2.2.1
  have w1_4 : fs_1 = (krd xl L x fk ff fs).2.2.2.2 := hw1.2.2.2.2
  refine lv_iconst (v := (-1)) hx hb dX8_settings_7 (by decide) ?_
  refine lv_icmp_eq (tgt := 14) hx hb dX8_settings_8 (by decide) (fun c3 => ?_) (fun c3 => ?_)
  · exact absurd (w1_0.symm.trans c3) hno
  · refine lv_bipush (v := (-4)) hx hb dX8_settings_11 (by decide) ?_
    have q4 : ((-4) = (-4 : Int32)) ∧ (x_1 = (krd xl L x fk ff fs).2.1) ∧ (fk_1 = (krd xl L x fk ff fs).2.2.1) ∧ (ff_1 = (krd xl L x fk ff fs).2.2.2.1) ∧ (fs_1 = (krd xl L x fk ff fs).2.2.2.2) := by
      subst w1_4
      subst w1_3
      subst w1_2
      subst w1_1
      subst w1_0
      and_intros <;> rfl
    exact kRi F hr hlocks hS2 dX8_settings_13 ⟨x_1, fk_1, ff_1, fs_1⟩ q4 hP2 hD2
set_option maxHeartbeats 1000000 in
set_option maxRecDepth 100000 in
theorem c_X8_settingsA (l : Launch) (G : kG) (Z : kZs) (h : Nat) (cl : Nat) (se : Nat) (rc : Nat) (rs : Nat) (ar : Nat) (co : Nat) (cz : Nat) (tx : Nat) (nw : Nat → Int32) (yl : Nat) (yk : Nat) (yf : Nat) (ys : Nat) (x : Nat → Int32) (xl : Nat → Int32) (fk : Nat → Int32) (ff : Nat → Int32) (fs : Nat → Int32) (pe : Nat) (ti : Nat) (ta : Nat) (sn : Nat) (sb : Nat) (pr : Nat) (lc : Nat) (ls : Nat) (dr : Nat) (mc : Nat) (ms : Nat) (er : Nat) (c : Nat → Int32) (p : Nat → Int32) (s : Nat → Int32) (r : Nat → Int32) (L : Nat) (N : Nat) (hL : x 1 = nI L) (lL : L ≤ 200) (hyes : (krd xl L x fk ff fs).1 = -1) (hN : (krd xl L x fk ff fs).2.1 5 = nI N) (lN : N ≤ 24) (h2 : ∀ k, k < N → (krd xl L x fk ff fs).2.2.1 k = 2 → (krd xl L x fk ff fs).2.2.2.1 k = 0 ∨ (krd xl L x fk ff fs).2.2.2.1 k = 1) : kMz Z G l yX8_settings wsX8_settings ({ frames := 8, cells := 0, slots := 0, locals := 172 }) [.ref h] ([oTo h cl se rc rs ar co cz tx nw, oTx tx yl yk yf ys x, aI G yl 200 xl, aI G yk 24 fk, aI G yf 24 ff, aI G ys 24 fs, oCl cl pe ti c, oPe pe lc ls lc ls dr p, oSe se pr ta sn sb s, oPe pr mc ms ms mc er r]) (kQi G (fun (rr : Int32) (uu : (Nat → Int32) × (Nat → Int32) × (Nat → Int32) × (Nat → Int32) × (Nat → Int32) × (Nat → Int32) × (Nat → Int32)) => (rr = nI N) ∧ (uu.1 = upd (krd xl L x fk ff fs).2.1 1 0) ∧ (uu.2.1 = (krd xl L x fk ff fs).2.2.1) ∧ (uu.2.2.1 = (krd xl L x fk ff fs).2.2.2.1) ∧ (uu.2.2.2.1 = (krd xl L x fk ff fs).2.2.2.2) ∧ (uu.2.2.2.2.1 = (kappls (krd xl L x fk ff fs).2.2.1 (krd xl L x fk ff fs).2.2.2.1 (krd xl L x fk ff fs).2.2.2.2 N (c, p, r)).1) ∧ (uu.2.2.2.2.2.1 = (kappls (krd xl L x fk ff fs).2.2.1 (krd xl L x fk ff fs).2.2.2.1 (krd xl L x fk ff fs).2.2.2.2 N (c, p, r)).2.1) ∧ (uu.2.2.2.2.2.2 = (kappls (krd xl L x fk ff fs).2.2.1 (krd xl L x fk ff fs).2.2.2.1 (krd xl L x fk ff fs).2.2.2.2 N (c, p, r)).2.2)) (fun (uu : (Nat → Int32) × (Nat → Int32) × (Nat → Int32) × (Nat → Int32) × (Nat → Int32) × (Nat → Int32) × (Nat → Int32)) => [oTo h cl se rc rs ar co cz tx nw, oTx tx yl yk yf ys uu.1, aI G yl 200 xl, aI G yk 24 uu.2.1, aI G yf 24 uu.2.2.1, aI G ys 24 uu.2.2.2.1, oCl cl pe ti uu.2.2.2.2.1, oPe pe lc ls lc ls dr uu.2.2.2.2.2.1, oSe se pr ta sn sb s, oPe pr mc ms ms mc er uu.2.2.2.2.2.2])) := by
  refine kzStart (cc := cX8_settings) (maxL := 3) (ret := (some .int)) (by decide) rfl (Nat.le_of_ble_eq_true rfl) (fun pg ev st mi bl mt cd A ls0 F hr hlocks hin hK hP0 hD0 hA hS0 hl0 hZ => ?_)
  obtain ⟨hx, hb, hml, hown, hts⟩ := id F
  have hl0 : lv_has ls0 3 [(0, .ref h)] := hl0
  have iX6 : ∀ w ∈ u_ws RX6 TX6 8, w ∈ wsX8_settings := fun w h => List.mem_cons_of_mem _ (List.mem_append_left _ (List.mem_append_left _ (List.mem_append_left _ (List.mem_append_right _ h))))
  have iX8 : ∀ w ∈ u_ws RX8 TX8 9, w ∈ wsX8_settings := fun w h => List.mem_cons_of_mem _ (List.mem_append_left _ (List.mem_append_left _ (List.mem_append_left _ (List.mem_append_left _ (List.mem_append_right _ h)))))
  refine lv_aload_n hx hb dX8_settings_0 rfl (lv_at hl0 0 rfl) ?_
  refine kget F hK hP0 8 0 7 iX8 rfl rfl (by decide) (List.mem_of_getElem? (i := 1) rfl) rfl dX8_settings_1 ?_
  refine kzVi (wr := [oTo h cl se rc rs ar co cz tx nw, oCl cl pe ti c, oPe pe lc ls lc ls dr p, oSe se pr ta sn sb s, oPe pr mc ms ms mc er r]) F hK hP0 hD0 hS0 hA hl0.1 hZ (c_X6_read l G Z tx yl yk yf ys x xl fk ff fs L hL lL) [1, 2, 3, 4, 5] [0, 6, 7, 8, 9] 6 0 gX8_settings_X6_read rfl 0 rfl (by decide +kernel) ⟨Nat.le_of_ble_eq_true rfl, Nat.le_of_ble_eq_true rfl⟩ ⟨Nat.zero_le _, Nat.zero_le _⟩ rfl rfl rfl rfl (by decide) (by decide) (by decide) (Nat.le_of_ble_eq_true rfl) rfl dX8_settings_4 (fun r1 u1 H2 locs2 hw1 hP2 hD2 hS2 => ?_)
  obtain ⟨x_1, fk_1, ff_1, fs_1⟩ := u1
  have hP2 : va_P G.1 vwCl ([oTo h cl se rc rs ar co cz tx nw, oCl cl pe ti c, oPe pe lc ls lc ls dr p, oSe se pr ta sn sb s, oPe pr mc ms ms mc er r, oTx tx yl yk yf ys x_1, aI G yl 200 xl, aI G yk 24 fk_1, aI G yf 24 ff_1, aI G ys 24 fs_1]) H2 := hP2
  have hD2 : va_D A ([oTo h cl se rc rs ar co cz tx nw, oCl cl pe ti c, oPe pe lc ls lc ls dr p, oSe se pr ta sn sb s, oPe pr mc ms ms mc er r, oTx tx yl yk yf ys x_1, aI G yl 200 xl, aI G yk 24 fk_1, aI G yf 24 ff_1, aI G ys 24 fs_1]) := hD2
  clear hP0 hD0 hS0
  have w1_0 : r1 = (krd xl L x fk ff fs).1 := hw1.1
  have w1_1 : x_1 = (krd xl L x fk ff fs).2.1 := hw1.2.1
  have w1_2 : fk_1 = (krd xl L x fk ff fs).2.2.1 := hw1.2.2.1
  have w1_3 : ff_1 = (krd xl L x fk ff fs).2.2.2.1 := hw1.2.2.2.1
  have w1_4 : fs_1 = (krd xl L x fk ff fs).2.2.2.2 := hw1.2.2.2.2
  have g1 : r1 = (-1) := w1_0.trans hyes
  clear w1_0
  subst g1
  have hN2 : x_1 5 = nI N := by rw [w1_1]; exact hN
  refine lv_iconst (v := (-1)) hx hb dX8_settings_7 (by decide) ?_
  refine lv_icmp_eq (tgt := 14) hx hb dX8_settings_8 (by decide) (fun c3 => ?_) (fun c3 => ?_)
  · refine lv_aload_n hx hb dX8_settings_14 rfl (lv_at hl0 0 rfl) ?_
    refine kget F hK hP2 8 0 7 iX8 rfl rfl (by decide) (List.mem_of_getElem? (i := 1) rfl) rfl dX8_settings_15 ?_
    refine kget F hK hP2 6 5 5 iX6 rfl rfl (by decide) (List.mem_of_getElem? (i := 2) rfl) rfl dX8_settings_18 ?_
    refine lv_istore_n (lv' := [(1, .int (x_1 5)), (0, .ref h)]) hx hb dX8_settings_21 rfl hl0 (by decide) rfl (fun ls4 hl4 => ?_)
    clear hl0
    refine lv_iconst (v := 0) hx hb dX8_settings_22 (by decide) ?_
    refine lv_istore_n (lv' := [(2, .int 0), (1, .int (x_1 5)), (0, .ref h)]) hx hb dX8_settings_23 rfl hl4 (by decide) rfl (fun ls5 hl5 => ?_)
    clear hl4
    have LOOP6 : ∀ (fu k : Nat), k ≤ N → N + 1 ≤ k + fu → ∀ c6 : Nat → Int32, c6 = (kappls (krd xl L x fk ff fs).2.2.1 (krd xl L x fk ff fs).2.2.2.1 (krd xl L x fk ff fs).2.2.2.2 k (c, p, r)).1 → ∀ p6 : Nat → Int32, p6 = (kappls (krd xl L x fk ff fs).2.2.1 (krd xl L x fk ff fs).2.2.2.1 (krd xl L x fk ff fs).2.2.2.2 k (c, p, r)).2.1 → ∀ r6 : Nat → Int32, r6 = (kappls (krd xl L x fk ff fs).2.2.1 (krd xl L x fk ff fs).2.2.2.1 (krd xl L x fk ff fs).2.2.2.2 k (c, p, r)).2.2 → ∀ (H6 : Heap) (locs6 : List Loc) (ls6 : Array Slot), lv_has ls6 3 [(2, .int (nI k)), (1, .int (x_1 5)), (0, .ref h)] → va_P G.1 vwCl ([oTo h cl se rc rs ar co cz tx nw, oCl cl pe ti c6, oPe pe lc ls lc ls dr p6, oSe se pr ta sn sb s, oPe pr mc ms ms mc er r6, oTx tx yl yk yf ys x_1, aI G yl 200 xl, aI G yk 24 fk_1, aI G yf 24 ff_1, aI G ys 24 fs_1]) H6 → va_D A ([oTo h cl se rc rs ar co cz tx nw, oCl cl pe ti c6, oPe pe lc ls lc ls dr p6, oSe se pr ta sn sb s, oPe pr mc ms ms mc er r6, oTx tx yl yk yf ys x_1, aI G yl 200 xl, aI G yk 24 fk_1, aI G yf 24 ff_1, aI G ys 24 fs_1]) → va_S A st.heap H6 locs6 → W pg l ev ({ frames := 8, cells := 0, slots := 0, locals := 172 }) st mi ([.ref h] : List Value).toArray bl mt cd H6 locs6 0 0 (MQ bl (kQi G (fun (rr : Int32) (uu : (Nat → Int32) × (Nat → Int32) × (Nat → Int32) × (Nat → Int32) × (Nat → Int32) × (Nat → Int32) × (Nat → Int32)) => (rr = nI N) ∧ (uu.1 = upd (krd xl L x fk ff fs).2.1 1 0) ∧ (uu.2.1 = (krd xl L x fk ff fs).2.2.1) ∧ (uu.2.2.1 = (krd xl L x fk ff fs).2.2.2.1) ∧ (uu.2.2.2.1 = (krd xl L x fk ff fs).2.2.2.2) ∧ (uu.2.2.2.2.1 = (kappls (krd xl L x fk ff fs).2.2.1 (krd xl L x fk ff fs).2.2.2.1 (krd xl L x fk ff fs).2.2.2.2 N (c, p, r)).1) ∧ (uu.2.2.2.2.2.1 = (kappls (krd xl L x fk ff fs).2.2.1 (krd xl L x fk ff fs).2.2.2.1 (krd xl L x fk ff fs).2.2.2.2 N (c, p, r)).2.1) ∧ (uu.2.2.2.2.2.2 = (kappls (krd xl L x fk ff fs).2.2.1 (krd xl L x fk ff fs).2.2.2.1 (krd xl L x fk ff fs).2.2.2.2 N (c, p, r)).2.2)) (fun (uu : (Nat → Int32) × (Nat → Int32) × (Nat → Int32) × (Nat → Int32) × (Nat → Int32) × (Nat → Int32) × (Nat → Int32)) => [oTo h cl se rc rs ar co cz tx nw, oTx tx yl yk yf ys uu.1, aI G yl 200 xl, aI G yk 24 uu.2.1, aI G yf 24 uu.2.2.1, aI G ys 24 uu.2.2.2.1, oCl cl pe ti uu.2.2.2.2.1, oPe pe lc ls lc ls dr uu.2.2.2.2.2.1, oSe se pr ta sn sb s, oPe pr mc ms ms mc er uu.2.2.2.2.2.2]) A) ([.ref h] : List Value).toArray st 0 0 A) (F0 mi 24 ls6 []) := by
      intro fu
      induction fu with
      | zero => intro k h1 h2; exact absurd h2 (by omega)
      | succ fu ih =>
        intro k hk hnk c6 ec6 p6 ep6 r6 er6 H6 locs6 ls6 hl6 hP6 hD6 hS6
        refine lv_iload_n hx hb dX8_settings_24 rfl (lv_at hl6 0 rfl) ?_
        refine lv_iload_n hx hb dX8_settings_25 rfl (lv_at hl6 1 rfl) ?_
        refine lv_icmp_ge (tgt := 63) hx hb dX8_settings_26 (by decide) (fun c7 => ?_) (fun c7 => ?_)
        · have xk : N ≤ k := (nI_leI (a := N) (b := k) (by omega) (by omega)).mp (by rw [← hN2]; exact c7)
          have xk : N = k := by omega
          subst xk
          refine lv_aload_n hx hb dX8_settings_63 rfl (lv_at hl6 2 rfl) ?_
          refine kget F hK hP6 8 0 7 iX8 rfl rfl (by decide) (List.mem_of_getElem? (i := 1) rfl) rfl dX8_settings_64 ?_
          refine lv_iconst (v := 0) hx hb dX8_settings_67 (by decide) ?_
          refine kput F hK hP6 hD6 hS6 (ty0 := tyX6) 6 5 1 iX6 rfl tyX6_ok nmX6 (fun zz => [oTo h cl se rc rs ar co cz tx nw, oCl cl pe ti c6, oPe pe lc ls lc ls dr p6, oSe se pr ta sn sb s, oPe pr mc ms ms mc er r6, oTx tx yl yk yf ys zz, aI G yl 200 xl, aI G yk 24 fk_1, aI G yf 24 ff_1, aI G ys 24 fs_1]) x_1 rfl (by decide) (List.mem_of_getElem? (i := 3) rfl) rfl rfl rfl (Nat.le_of_ble_eq_true rfl) rfl dX8_settings_68 (fun H8 locs8 x8 ex8 (hP8 : va_P G.1 vwCl ([oTo h cl se rc rs ar co cz tx nw, oCl cl pe ti c6, oPe pe lc ls lc ls dr p6, oSe se pr ta sn sb s, oPe pr mc ms ms mc er r6, oTx tx yl yk yf ys x8, aI G yl 200 xl, aI G yk 24 fk_1, aI G yf 24 ff_1, aI G ys 24 fs_1]) H8) (hD8 : va_D A ([oTo h cl se rc rs ar co cz tx nw, oCl cl pe ti c6, oPe pe lc ls lc ls dr p6, oSe se pr ta sn sb s, oPe pr mc ms ms mc er r6, oTx tx yl yk yf ys x8, aI G yl 200 xl, aI G yk 24 fk_1, aI G yf 24 ff_1, aI G ys 24 fs_1])) hS8 => ?_)
          clear hP6 hD6 hS6
          refine lv_iload_n hx hb dX8_settings_71 rfl (lv_at hl6 1 rfl) ?_
          have q9 : ((x_1 5) = nI N) ∧ (x8 = upd (krd xl L x fk ff fs).2.1 1 0) ∧ (fk_1 = (krd xl L x fk ff fs).2.2.1) ∧ (ff_1 = (krd xl L x fk ff fs).2.2.2.1) ∧ (fs_1 = (krd xl L x fk ff fs).2.2.2.2) ∧ (c6 = (kappls (krd xl L x fk ff fs).2.2.1 (krd xl L x fk ff fs).2.2.2.1 (krd xl L x fk ff fs).2.2.2.2 N (c, p, r)).1) ∧ (p6 = (kappls (krd xl L x fk ff fs).2.2.1 (krd xl L x fk ff fs).2.2.2.1 (krd xl L x fk ff fs).2.2.2.2 N (c, p, r)).2.1) ∧ (r6 = (kappls (krd xl L x fk ff fs).2.2.1 (krd xl L x fk ff fs).2.2.2.1 (krd xl L x fk ff fs).2.2.2.2 N (c, p, r)).2.2) := by
            subst ex8
            subst er6
            subst ep6
            subst ec6
            subst w1_4
            subst w1_3
            subst w1_2
            subst w1_1
            refine ⟨hN, ?_⟩
            and_intros <;> rfl
          exact kRi F hr hlocks hS8 dX8_settings_72 ⟨x8, fk_1, ff_1, fs_1, c6, p6, r6⟩ q9 (hP8.sub [0, 5, 6, 7, 8, 9, 1, 2, 3, 4] rfl) (hD8.sub [0, 5, 6, 7, 8, 9, 1, 2, 3, 4] (by decide) rfl)
        · have lk : k < N := Nat.lt_of_not_le (fun q => c7 (by rw [hN2]; exact (nI_leI (a := N) (b := k) (by omega) (by omega)).mpr q))
          refine lv_aload_n hx hb dX8_settings_29 rfl (lv_at hl6 2 rfl) ?_
          refine lv_aload_n hx hb dX8_settings_30 rfl (lv_at hl6 2 rfl) ?_
          refine kget F hK hP6 8 0 7 iX8 rfl rfl (by decide) (List.mem_of_getElem? (i := 1) rfl) rfl dX8_settings_31 ?_
          refine lv_iload_n hx hb dX8_settings_34 rfl (lv_at hl6 0 rfl) ?_
          refine kVi (wr := [oTo h cl se rc rs ar co cz tx nw, oCl cl pe ti c6, oPe pe lc ls lc ls dr p6, oSe se pr ta sn sb s, oPe pr mc ms ms mc er r6, aI G yl 200 xl, aI G yf 24 ff_1, aI G ys 24 fs_1]) F hK hP6 hD6 hS6 hA hl6.1 (c_X6_kindOfA l G tx yl yk yf ys x_1 fk_1 k (by omega)) [5, 7] [0, 1, 2, 3, 4, 6, 8, 9] 6 0 gX8_settings_X6_kindOf rfl 1 rfl (by decide +kernel) ⟨Nat.le_of_ble_eq_true rfl, Nat.le_of_ble_eq_true rfl⟩ ⟨Nat.zero_le _, Nat.zero_le _⟩ rfl rfl rfl rfl (by decide) (by decide) (by decide) (Nat.le_of_ble_eq_true rfl) rfl dX8_settings_35 (fun r10 u10 H11 locs11 hw10 (hP11 : va_P G.1 vwCl ([oTo h cl se rc rs ar co cz tx nw, oCl cl pe ti c6, oPe pe lc ls lc ls dr p6, oSe se pr ta sn sb s, oPe pr mc ms ms mc er r6, aI G yl 200 xl, aI G yf 24 ff_1, aI G ys 24 fs_1, oTx tx yl yk yf ys x_1, aI G yk 24 fk_1]) H11) (hD11 : va_D A ([oTo h cl se rc rs ar co cz tx nw, oCl cl pe ti c6, oPe pe lc ls lc ls dr p6, oSe se pr ta sn sb s, oPe pr mc ms ms mc er r6, aI G yl 200 xl, aI G yf 24 ff_1, aI G ys 24 fs_1, oTx tx yl yk yf ys x_1, aI G yk 24 fk_1])) hS11 => ?_)
          clear hP6 hD6 hS6
          have w10_0 : r10 = fk_1 k := hw10
          refine lv_aload_n hx hb dX8_settings_38 rfl (lv_at hl6 2 rfl) ?_
          refine kget F hK hP11 8 0 7 iX8 rfl rfl (by decide) (List.mem_of_getElem? (i := 1) rfl) rfl dX8_settings_39 ?_
          refine lv_iload_n hx hb dX8_settings_42 rfl (lv_at hl6 0 rfl) ?_
          refine kVi (wr := [oTo h cl se rc rs ar co cz tx nw, oCl cl pe ti c6, oPe pe lc ls lc ls dr p6, oSe se pr ta sn sb s, oPe pr mc ms ms mc er r6, aI G yl 200 xl, aI G ys 24 fs_1, aI G yk 24 fk_1]) F hK hP11 hD11 hS11 hA hl6.1 (c_X6_firstOfA l G tx yl yk yf ys x_1 ff_1 k (by omega)) [8, 6] [0, 1, 2, 3, 4, 5, 7, 9] 6 0 gX8_settings_X6_firstOf rfl 1 rfl (by decide +kernel) ⟨Nat.le_of_ble_eq_true rfl, Nat.le_of_ble_eq_true rfl⟩ ⟨Nat.zero_le _, Nat.zero_le _⟩ rfl rfl rfl rfl (by decide) (by decide) (by decide) (Nat.le_of_ble_eq_true rfl) rfl dX8_settings_43 (fun r12 u12 H13 locs13 hw12 (hP13 : va_P G.1 vwCl ([oTo h cl se rc rs ar co cz tx nw, oCl cl pe ti c6, oPe pe lc ls lc ls dr p6, oSe se pr ta sn sb s, oPe pr mc ms ms mc er r6, aI G yl 200 xl, aI G ys 24 fs_1, aI G yk 24 fk_1, oTx tx yl yk yf ys x_1, aI G yf 24 ff_1]) H13) (hD13 : va_D A ([oTo h cl se rc rs ar co cz tx nw, oCl cl pe ti c6, oPe pe lc ls lc ls dr p6, oSe se pr ta sn sb s, oPe pr mc ms ms mc er r6, aI G yl 200 xl, aI G ys 24 fs_1, aI G yk 24 fk_1, oTx tx yl yk yf ys x_1, aI G yf 24 ff_1])) hS13 => ?_)
          clear hP11 hD11 hS11
          have w12_0 : r12 = ff_1 k := hw12
          refine lv_aload_n hx hb dX8_settings_46 rfl (lv_at hl6 2 rfl) ?_
          refine kget F hK hP13 8 0 7 iX8 rfl rfl (by decide) (List.mem_of_getElem? (i := 1) rfl) rfl dX8_settings_47 ?_
          refine lv_iload_n hx hb dX8_settings_50 rfl (lv_at hl6 0 rfl) ?_
          refine kVi (wr := [oTo h cl se rc rs ar co cz tx nw, oCl cl pe ti c6, oPe pe lc ls lc ls dr p6, oSe se pr ta sn sb s, oPe pr mc ms ms mc er r6, aI G yl 200 xl, aI G yk 24 fk_1, aI G yf 24 ff_1]) F hK hP13 hD13 hS13 hA hl6.1 (c_X6_secondOfA l G tx yl yk yf ys x_1 fs_1 k (by omega)) [8, 6] [0, 1, 2, 3, 4, 5, 7, 9] 6 0 gX8_settings_X6_secondOf rfl 1 rfl (by decide +kernel) ⟨Nat.le_of_ble_eq_true rfl, Nat.le_of_ble_eq_true rfl⟩ ⟨Nat.zero_le _, Nat.zero_le _⟩ rfl rfl rfl rfl (by decide) (by decide) (by decide) (Nat.le_of_ble_eq_true rfl) rfl dX8_settings_51 (fun r14 u14 H15 locs15 hw14 (hP15 : va_P G.1 vwCl ([oTo h cl se rc rs ar co cz tx nw, oCl cl pe ti c6, oPe pe lc ls lc ls dr p6, oSe se pr ta sn sb s, oPe pr mc ms ms mc er r6, aI G yl 200 xl, aI G yk 24 fk_1, aI G yf 24 ff_1, oTx tx yl yk yf ys x_1, aI G ys 24 fs_1]) H15) (hD15 : va_D A ([oTo h cl se rc rs ar co cz tx nw, oCl cl pe ti c6, oPe pe lc ls lc ls dr p6, oSe se pr ta sn sb s, oPe pr mc ms ms mc er r6, aI G yl 200 xl, aI G yk 24 fk_1, aI G yf 24 ff_1, oTx tx yl yk yf ys x_1, aI G ys 24 fs_1])) hS15 => ?_)
          clear hP13 hD13 hS13
          have w14_0 : r14 = fs_1 k := hw14
          refine kVv (wr := [aI G yl 200 xl, aI G yk 24 fk_1, aI G yf 24 ff_1, oTx tx yl yk yf ys x_1, aI G ys 24 fs_1]) F hK hP15 hD15 hS15 hA hl6.1 (c_X8_apply l G h cl se rc rs ar co cz tx nw pe ti ta sn sb pr lc ls dr mc ms er c6 p6 s r6 r10 r12 r14 (by subst w14_0; subst w12_0; subst w10_0; subst er6; subst ep6; subst ec6; subst w1_4; subst w1_3; subst w1_2; subst w1_1; exact h2 k lk)) [0, 1, 2, 3, 4] [5, 6, 7, 8, 9] 8 0 gX8_settings_X8_apply rfl 3 rfl (by decide +kernel) ⟨Nat.le_of_ble_eq_true rfl, Nat.le_of_ble_eq_true rfl⟩ ⟨Nat.zero_le _, Nat.zero_le _⟩ rfl rfl rfl rfl (by decide) (by decide) (by decide) (Nat.le_of_ble_eq_true rfl) rfl dX8_settings_54 (fun u16 H17 locs17 hw16 hP17 hD17 hS17 => ?_)
          obtain ⟨c_16, p_16, r_16⟩ := u16
          have hP17 : va_P G.1 vwCl ([aI G yl 200 xl, aI G yk 24 fk_1, aI G yf 24 ff_1, oTx tx yl yk yf ys x_1, aI G ys 24 fs_1, oTo h cl se rc rs ar co cz tx nw, oCl cl pe ti c_16, oPe pe lc ls lc ls dr p_16, oSe se pr ta sn sb s, oPe pr mc ms ms mc er r_16]) H17 := hP17
          have hD17 : va_D A ([aI G yl 200 xl, aI G yk 24 fk_1, aI G yf 24 ff_1, oTx tx yl yk yf ys x_1, aI G ys 24 fs_1, oTo h cl se rc rs ar co cz tx nw, oCl cl pe ti c_16, oPe pe lc ls lc ls dr p_16, oSe se pr ta sn sb s, oPe pr mc ms ms mc er r_16]) := hD17
          clear hP15 hD15 hS15
          have w16_0 : c_16 = (kapply r10 r12 r14 c6 p6 r6).1 := hw16.1
          have w16_1 : p_16 = (kapply r10 r12 r14 c6 p6 r6).2.1 := hw16.2.1
          have w16_2 : r_16 = (kapply r10 r12 r14 c6 p6 r6).2.2 := hw16.2.2
          refine lv_iinc (v := nI (k + 1)) (lv' := [(2, .int (nI (k + 1))), (1, .int (x_1 5)), (0, .ref h)]) hx hb dX8_settings_57 hl6 (k := 0) rfl (nI_1 _) (by decide) rfl (fun ls18 hl18 => ?_)
          clear hl6
          refine lv_goto (tgt := 24) hx hb dX8_settings_60 (by decide) ?_
          exact ih (k + 1) (by omega) (by omega) c_16 (by subst w16_2; subst w16_1; subst w16_0; subst w14_0; subst w12_0; subst w10_0; subst er6; subst ep6; subst ec6; subst w1_4; subst w1_3; subst w1_2; subst w1_1; rfl) p_16 (by subst w16_2; subst w16_1; subst w16_0; subst w14_0; subst w12_0; subst w10_0; subst er6; subst ep6; subst ec6; subst w1_4; subst w1_3; subst w1_2; subst w1_1; rfl) r_16 (by subst w16_2; subst w16_1; subst w16_0; subst w14_0; subst w12_0; subst w10_0; subst er6; subst ep6; subst ec6; subst w1_4; subst w1_3; subst w1_2; subst w1_1; rfl)  _ _ _ hl18 (hP17.sub [5, 6, 7, 8, 9, 3, 0, 1, 2, 4] rfl) (hD17.sub [5, 6, 7, 8, 9, 3, 0, 1, 2, 4] (by decide) rfl) hS17
    exact LOOP6 (N + 1) 0 (by omega) (by omega) c (by subst w1_4; subst w1_3; subst w1_2; subst w1_1; rfl) p (by subst w1_4; subst w1_3; subst w1_2; subst w1_1; rfl) r (by subst w1_4; subst w1_3; subst w1_2; subst w1_1; rfl)  _ _ _ hl5 hP2 hD2 hS2
  · exact absurd (by decide) c3
