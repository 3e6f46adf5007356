set_option maxHeartbeats 4000000 in
set_option maxRecDepth 100000 in
theorem c_X6_isWord (l : Launch) (G : kG) (Z : kZs) (lit : Nat) (tx : Nat) (yl : Nat) (yk : Nat) (yf : Nat) (ys : Nat) (x : Nat → Int32) (xl : Nat → Int32) (L : Nat) (S : Nat) (E : Nat) (hi : lit < 5) (hL : x 1 = nI L) (lL : L ≤ 200) (hS6 : x 6 = nI S) (hE : x 7 = nI E) (hSE : S ≤ E) (hEL : E ≤ L) : kMz Z G l yX6_isWord wsX6_isWord ({ frames := 4, cells := 0, slots := 0, locals := 85 }) [.ref tx, .ref (Z.1 lit)] ([oTx tx yl yk yf ys x, aI G yl 200 xl]) (kQi G (fun (rr : Int32) (uu : Unit) => rr = bI (kwd lit xl S E)) (fun (uu : Unit) => [oTx tx yl yk yf ys x, aI G yl 200 xl])) := by
  refine kzStart (cc := cX6_isWord) (maxL := 3) (ret := (some .boolean)) (by decide) rfl (Nat.le_of_ble_eq_true rfl) (fun pg ev st mi bl mt cd A ls0 F hr hlocks hin hK hP0 hD0 hA hS0 hl0 hZ => ?_)
  obtain ⟨hx, hb, hml, hown, hts⟩ := id F
  have hl0 : lv_has ls0 3 [(0, .ref tx), (1, .ref (Z.1 lit))] := hl0
  have iX6 : ∀ w ∈ u_ws RX6 TX6 8, w ∈ wsX6_isWord := fun w h => List.mem_cons_of_mem _ (List.mem_append_right _ h)
  have h6 := klen_le lit
  refine lv_aload_n hx hb dX6_isWord_0 rfl (lv_at hl0 0 rfl) ?_
  refine kget F hK hP0 6 0 7 iX6 rfl rfl (by decide) (List.mem_of_getElem? (i := 1) rfl) rfl dX6_isWord_1 ?_
  refine lv_aload_n hx hb dX6_isWord_4 rfl (lv_at hl0 0 rfl) ?_
  refine kget F hK hP0 6 0 6 iX6 rfl rfl (by decide) (List.mem_of_getElem? (i := 2) rfl) rfl dX6_isWord_5 ?_
  refine lv_isub hx hb dX6_isWord_8 ?_
  refine lv_aload_n hx hb dX6_isWord_9 rfl (lv_at hl0 1 rfl) ?_
  refine kzPUi F hK hP0 hD0 hS0 hA hl0.1 lit hi hZ (c_J0_length l G Z lit (by first | assumption | decide | omega)) (fun _ => rfl) gX6_isWord_J0_length_8abf5 rfl 0 rfl (by decide +kernel) ⟨Nat.le_of_ble_eq_true rfl, Nat.le_of_ble_eq_true rfl⟩ ⟨Nat.zero_le _, Nat.zero_le _⟩ (Nat.le_of_ble_eq_true rfl) rfl dX6_isWord_10 (fun r1 u1 H2 locs2 hw1 (hP2 : va_P G.1 vwCl ([oTx tx yl yk yf ys x, aI G yl 200 xl]) H2) (hD2 : va_D A ([oTx tx yl yk yf ys x, aI G yl 200 xl])) hS2 => ?_)
  clear hP0 hD0 hS0
  have w1_0 : r1 = nI (klen.getD lit 0) := hw1
  have g1 : r1 = (nI (klen.getD lit 0)) := w1_0
  clear w1_0
  subst g1
  refine lv_icmp_eq (tgt := 18) hx hb dX6_isWord_13 (by decide) (fun c3 => ?_) (fun c3 => ?_)
  · have hlE : E - S = klen.getD lit 0 := (nI_eq (a := E - S) (b := klen.getD lit 0) (by omega) (by omega)).mp (by rw [← nI_sub (by omega), ← hE, ← hS6]; exact c3)
    refine lv_iconst (v := 0) hx hb dX6_isWord_18 (by decide) ?_
    refine lv_istore_n (lv' := [(2, .int 0), (0, .ref tx), (1, .ref (Z.1 lit))]) hx hb dX6_isWord_19 rfl hl0 (by decide) rfl (fun ls4 hl4 => ?_)
    clear hl0
    have LOOP5 : ∀ (fu j : Nat), j ≤ (klen.getD lit 0) → (klen.getD lit 0) + 1 ≤ j + fu → (kwdG xl ((kbyt.getD lit []).drop j) (S + j) = kwdG xl (kbyt.getD lit []) S) → ∀ (H5 : Heap) (locs5 : List Loc) (ls5 : Array Slot), lv_has ls5 3 [(2, .int (nI j)), (0, .ref tx), (1, .ref (Z.1 lit))] → va_P G.1 vwCl ([oTx tx yl yk yf ys x, aI G yl 200 xl]) H5 → va_D A ([oTx tx yl yk yf ys x, aI G yl 200 xl]) → va_S A st.heap H5 locs5 → W pg l ev ({ frames := 4, cells := 0, slots := 0, locals := 85 }) st mi ([.ref tx, .ref (Z.1 lit)] : List Value).toArray bl mt cd H5 locs5 0 0 (MQ bl (kQi G (fun (rr : Int32) (uu : Unit) => rr = bI (kwd lit xl S E)) (fun (uu : Unit) => [oTx tx yl yk yf ys x, aI G yl 200 xl]) A) ([.ref tx, .ref (Z.1 lit)] : List Value).toArray st 0 0 A) (F0 mi 20 ls5 []) := by
      intro fu
      induction fu with
      | zero => intro j h1 h2; exact absurd h2 (by omega)
      | succ fu ih =>
        intro j hj hnj hw H5 locs5 ls5 hl5 hP5 hD5 hS5
        refine lv_iload_n hx hb dX6_isWord_20 rfl (lv_at hl5 0 rfl) ?_
        refine lv_aload_n hx hb dX6_isWord_21 rfl (lv_at hl5 2 rfl) ?_
        refine kzPUi F hK hP5 hD5 hS5 hA hl5.1 lit hi hZ (c_J0_length l G Z lit (by first | assumption | decide | omega)) (fun _ => rfl) gX6_isWord_J0_length_8abf5 rfl 0 rfl (by decide +kernel) ⟨Nat.le_of_ble_eq_true rfl, Nat.le_of_ble_eq_true rfl⟩ ⟨Nat.zero_le _, Nat.zero_le _⟩ (Nat.le_of_ble_eq_true rfl) rfl dX6_isWord_22 (fun r6 u6 H7 locs7 hw6 (hP7 : va_P G.1 vwCl ([oTx tx yl yk yf ys x, aI G yl 200 xl]) H7) (hD7 : va_D A ([oTx tx yl yk yf ys x, aI G yl 200 xl])) hS7 => ?_)
        clear hP5 hD5 hS5
        have w6_0 : r6 = nI (klen.getD lit 0) := hw6
        have g6 : r6 = (nI (klen.getD lit 0)) := w6_0
        clear w6_0
        subst g6
        refine lv_icmp_ge (tgt := 54) hx hb dX6_isWord_25 (by decide) (fun c8 => ?_) (fun c8 => ?_)
        · have hj : klen.getD lit 0 ≤ j := (nI_leI (a := klen.getD lit 0) (b := j) (by omega) (by omega)).mp c8
          refine lv_iconst (v := 1) hx hb dX6_isWord_54 (by decide) ?_
          have q9 : 1 = bI (kwd lit xl S E) := by
            symm
            exact kwd_yes hi hlE hw hj
          exact kRz F hr hlocks hS7 dX6_isWord_55 rfl () q9 hP7 hD7
        · have hj : j < klen.getD lit 0 := Nat.lt_of_not_le (fun q => c8 ((nI_leI (a := klen.getD lit 0) (b := j) (by omega) (by omega)).mpr q))
          refine lv_aload_n hx hb dX6_isWord_28 rfl (lv_at hl5 1 rfl) ?_
          refine lv_aload_n hx hb dX6_isWord_29 rfl (lv_at hl5 1 rfl) ?_
          refine kget F hK hP7 6 0 6 iX6 rfl rfl (by decide) (List.mem_of_getElem? (i := 2) rfl) rfl dX6_isWord_30 ?_
          refine lv_iload_n hx hb dX6_isWord_33 rfl (lv_at hl5 0 rfl) ?_
          refine lv_iadd hx hb dX6_isWord_34 ?_
          rw [show ((x 6) + nI j) = nI (S + j) from by rw [hS6, nI_add]]
          refine kVi (wr := []) F hK hP7 hD7 hS7 hA hl5.1 (c_X6_letterAt l G tx yl yk yf ys x xl L (S + j) hL lL (by omega)) [0, 1] [] 6 0 gX6_isWord_X6_letterAt rfl 1 rfl (by decide +kernel) ⟨Nat.le_of_ble_eq_true rfl, Nat.le_of_ble_eq_true rfl⟩ ⟨Nat.zero_le _, Nat.zero_le _⟩ rfl rfl rfl rfl (by decide) (by decide) (by decide) (Nat.le_of_ble_eq_true rfl) rfl dX6_isWord_35 (fun r10 u10 H11 locs11 hw10 (hP11 : va_P G.1 vwCl ([oTx tx yl yk yf ys x, aI G yl 200 xl]) H11) (hD11 : va_D A ([oTx tx yl yk yf ys x, aI G yl 200 xl])) hS11 => ?_)
          clear hP7 hD7 hS7
          have w10_0 : r10 = if (S + j) < L then xl (S + j) else -1 := hw10
          have g10 : r10 = (xl (S + j)) := w10_0.trans (if_pos (by omega))
          clear w10_0
          subst g10
          refine lv_aload_n hx hb dX6_isWord_38 rfl (lv_at hl5 2 rfl) ?_
          refine lv_iload_n hx hb dX6_isWord_39 rfl (lv_at hl5 0 rfl) ?_
          refine kzPUi F hK hP11 hD11 hS11 hA hl5.1 lit hi hZ (c_J0_charAt l G Z lit j hi hj) (fun _ => rfl) gX6_isWord_J0_charAt_5068e rfl 1 rfl (by decide +kernel) ⟨Nat.le_of_ble_eq_true rfl, Nat.le_of_ble_eq_true rfl⟩ ⟨Nat.zero_le _, Nat.zero_le _⟩ (Nat.le_of_ble_eq_true rfl) rfl dX6_isWord_40 (fun r12 u12 H13 locs13 hw12 (hP13 : va_P G.1 vwCl ([oTx tx yl yk yf ys x, aI G yl 200 xl]) H13) (hD13 : va_D A ([oTx tx yl yk yf ys x, aI G yl 200 xl])) hS13 => ?_)
          clear hP11 hD11 hS11
          have w12_0 : r12 = ((kbyt.getD lit []).getD j 0) := hw12
          have g12 : r12 = ((kbyt.getD lit []).getD j 0) := w12_0
          clear w12_0
          subst g12
          refine lv_icmp_eq (tgt := 48) hx hb dX6_isWord_43 (by decide) (fun c14 => ?_) (fun c14 => ?_)
          · have hx1 := c14
            refine lv_iinc (v := nI (j + 1)) (lv' := [(2, .int (nI (j + 1))), (0, .ref tx), (1, .ref (Z.1 lit))]) hx hb dX6_isWord_48 hl5 (k := 0) rfl (nI_1 _) (by decide) rfl (fun ls15 hl15 => ?_)
            clear hl5
            refine lv_goto (tgt := 20) hx hb dX6_isWord_51 (by decide) ?_
            exact ih (j + 1) (by omega) (by omega)  (kwd_step hi hw hj hx1) _ _ _ hl15 hP13 hD13 hS13
          · refine lv_iconst (v := 0) hx hb dX6_isWord_46 (by decide) ?_
            have q16 : 0 = bI (kwd lit xl S E) := by
              symm
              exact kwd_no hi hw hj c14
            exact kRz F hr hlocks hS13 dX6_isWord_47 rfl () q16 hP13 hD13
    exact LOOP5 ((klen.getD lit 0) + 1) 0 (by omega) (by omega)  kwd_0 _ _ _ hl4 hP2 hD2 hS2
  · have hlE : ¬ E - S = klen.getD lit 0 := fun q => c3 (by rw [hE, hS6, nI_sub (by omega), q])
    refine lv_iconst (v := 0) hx hb dX6_isWord_16 (by decide) ?_
    have q17 : 0 = bI (kwd lit xl S E) := by
      symm
      exact kwd_len hlE
    exact kRz F hr hlocks hS2 dX6_isWord_17 rfl () q17 hP2 hD2
set_option maxHeartbeats 1000000 in
set_option maxRecDepth 100000 in
theorem c_X6_clauseKind (l : Launch) (G : kG) (Z : kZs) (tx : Nat) (yl : Nat) (yk : Nat) (yf : Nat) (ys : Nat) (x : Nat → Int32) (xl : Nat → Int32) (L : Nat) (S : Nat) (E : Nat) (hL : x 1 = nI L) (lL : L ≤ 200) (hS6 : x 6 = nI S) (hE : x 7 = nI E) (hSE : S ≤ E) (hEL : E ≤ L) : kMz Z G l yX6_clauseKind wsX6_clauseKind ({ frames := 5, cells := 0, slots := 0, locals := 107 }) [.ref tx] ([oTx tx yl yk yf ys x, aI G yl 200 xl]) (kQi G (fun (rr : Int32) (uu : Unit) => rr = kckind xl S E) (fun (uu : Unit) => [oTx tx yl yk yf ys x, aI G yl 200 xl])) := by
  refine kzStart (cc := cX6_clauseKind) (maxL := 1) (ret := (some .int)) (by decide) rfl (Nat.le_of_ble_eq_true rfl) (fun pg ev st mi bl mt cd A ls0 F hr hlocks hin hK hP0 hD0 hA hS0 hl0 hZ => ?_)
  obtain ⟨hx, hb, hml, hown, hts⟩ := id F
  have hl0 : lv_has ls0 1 [(0, .ref tx)] := hl0
  refine lv_aload_n hx hb dX6_clauseKind_0 rfl (lv_at hl0 0 rfl) ?_
  refine kzlit F hZ 0 rfl dX6_clauseKind_1 ?_
  refine kzVi (wr := []) F hK hP0 hD0 hS0 hA hl0.1 hZ (c_X6_isWord l G Z 0 tx yl yk yf ys x xl L S E (by decide) hL lL hS6 hE hSE hEL) [0, 1] [] 6 0 gX6_clauseKind_X6_isWord rfl 1 rfl (by decide +kernel) ⟨Nat.le_of_ble_eq_true rfl, Nat.le_of_ble_eq_true rfl⟩ ⟨Nat.zero_le _, Nat.zero_le _⟩ rfl rfl rfl rfl (by decide) (by decide) (by decide) (Nat.le_of_ble_eq_true rfl) rfl dX6_clauseKind_3 (fun r1 u1 H2 locs2 hw1 (hP2 : va_P G.1 vwCl ([oTx tx yl yk yf ys x, aI G yl 200 xl]) H2) (hD2 : va_D A ([oTx tx yl yk yf ys x, aI G yl 200 xl])) hS2 => ?_)
  clear hP0 hD0 hS0
  have w1_0 : r1 = bI (kwd 0 xl S E) := hw1
  refine lv_if_eq (tgt := 11) hx hb dX6_clauseKind_6 (by decide) (fun c3 => ?_) (fun c3 => ?_)
  · refine lv_aload_n hx hb dX6_clauseKind_11 rfl (lv_at hl0 0 rfl) ?_
    refine kzlit F hZ 1 rfl dX6_clauseKind_12 ?_
    refine kzVi (wr := []) F hK hP2 hD2 hS2 hA hl0.1 hZ (c_X6_isWord l G Z 1 tx yl yk yf ys x xl L S E (by decide) hL lL hS6 hE hSE hEL) [0, 1] [] 6 0 gX6_clauseKind_X6_isWord rfl 1 rfl (by decide +kernel) ⟨Nat.le_of_ble_eq_true rfl, Nat.le_of_ble_eq_true rfl⟩ ⟨Nat.zero_le _, Nat.zero_le _⟩ rfl rfl rfl rfl (by decide) (by decide) (by decide) (Nat.le_of_ble_eq_true rfl) rfl dX6_clauseKind_14 (fun r4 u4 H5 locs5 hw4 (hP5 : va_P G.1 vwCl ([oTx tx yl yk yf ys x, aI G yl 200 xl]) H5) (hD5 : va_D A ([oTx tx yl yk yf ys x, aI G yl 200 xl])) hS5 => ?_)
    clear hP2 hD2 hS2
    have w4_0 : r4 = bI (kwd 1 xl S E) := hw4
    refine lv_if_eq (tgt := 22) hx hb dX6_clauseKind_17 (by decide) (fun c6 => ?_) (fun c6 => ?_)
    · refine lv_aload_n hx hb dX6_clauseKind_22 rfl (lv_at hl0 0 rfl) ?_
      refine kzlit F hZ 2 rfl dX6_clauseKind_23 ?_
      refine kzVi (wr := []) F hK hP5 hD5 hS5 hA hl0.1 hZ (c_X6_isWord l G Z 2 tx yl yk yf ys x xl L S E (by decide) hL lL hS6 hE hSE hEL) [0, 1] [] 6 0 gX6_clauseKind_X6_isWord rfl 1 rfl (by decide +kernel) ⟨Nat.le_of_ble_eq_true rfl, Nat.le_of_ble_eq_true rfl⟩ ⟨Nat.zero_le _, Nat.zero_le _⟩ rfl rfl rfl rfl (by decide) (by decide) (by decide) (Nat.le_of_ble_eq_true rfl) rfl dX6_clauseKind_25 (fun r7 u7 H8 locs8 hw7 (hP8 : va_P G.1 vwCl ([oTx tx yl yk yf ys x, aI G yl 200 xl]) H8) (hD8 : va_D A ([oTx tx yl yk yf ys x, aI G yl 200 xl])) hS8 => ?_)
      clear hP5 hD5 hS5
      have w7_0 : r7 = bI (kwd 2 xl S E) := hw7
      refine lv_if_eq (tgt := 33) hx hb dX6_clauseKind_28 (by decide) (fun c9 => ?_) (fun c9 => ?_)
      · refine lv_aload_n hx hb dX6_clauseKind_33 rfl (lv_at hl0 0 rfl) ?_
        refine kzlit F hZ 3 rfl dX6_clauseKind_34 ?_
        refine kzVi (wr := []) F hK hP8 hD8 hS8 hA hl0.1 hZ (c_X6_isWord l G Z 3 tx yl yk yf ys x xl L S E (by decide) hL lL hS6 hE hSE hEL) [0, 1] [] 6 0 gX6_clauseKind_X6_isWord rfl 1 rfl (by decide +kernel) ⟨Nat.le_of_ble_eq_true rfl, Nat.le_of_ble_eq_true rfl⟩ ⟨Nat.zero_le _, Nat.zero_le _⟩ rfl rfl rfl rfl (by decide) (by decide) (by decide) (Nat.le_of_ble_eq_true rfl) rfl dX6_clauseKind_36 (fun r10 u10 H11 locs11 hw10 (hP11 : va_P G.1 vwCl ([oTx tx yl yk yf ys x, aI G yl 200 xl]) H11) (hD11 : va_D A ([oTx tx yl yk yf ys x, aI G yl 200 xl])) hS11 => ?_)
        clear hP8 hD8 hS8
        have w10_0 : r10 = bI (kwd 3 xl S E) := hw10
        refine lv_if_eq (tgt := 44) hx hb dX6_clauseKind_39 (by decide) (fun c12 => ?_) (fun c12 => ?_)
        · refine lv_aload_n hx hb dX6_clauseKind_44 rfl (lv_at hl0 0 rfl) ?_
          refine kzlit F hZ 4 rfl dX6_clauseKind_45 ?_
          refine kzVi (wr := []) F hK hP11 hD11 hS11 hA hl0.1 hZ (c_X6_isWord l G Z 4 tx yl yk yf ys x xl L S E (by decide) hL lL hS6 hE hSE hEL) [0, 1] [] 6 0 gX6_clauseKind_X6_isWord rfl 1 rfl (by decide +kernel) ⟨Nat.le_of_ble_eq_true rfl, Nat.le_of_ble_eq_true rfl⟩ ⟨Nat.zero_le _, Nat.zero_le _⟩ rfl rfl rfl rfl (by decide) (by decide) (by decide) (Nat.le_of_ble_eq_true rfl) rfl dX6_clauseKind_47 (fun r13 u13 H14 locs14 hw13 (hP14 : va_P G.1 vwCl ([oTx tx yl yk yf ys x, aI G yl 200 xl]) H14) (hD14 : va_D A ([oTx tx yl yk yf ys x, aI G yl 200 xl])) hS14 => ?_)
          clear hP11 hD11 hS11
          have w13_0 : r13 = bI (kwd 4 xl S E) := hw13
          refine lv_if_eq (tgt := 57) hx hb dX6_clauseKind_50 (by decide) (fun c15 => ?_) (fun c15 => ?_)
          · refine lv_iconst (v := (-1)) hx hb dX6_clauseKind_57 (by decide) ?_
            have q16 : (-1) = kckind xl S E := by
              subst w13_0
              subst w10_0
              subst w7_0
              subst w4_0
              subst w1_0
              first | (simp only [kckind, eq_true c3, eq_true c6, eq_true c9, eq_true c12, eq_true c15, eq_self, ↓reduceIte, and_self, and_true, true_and]; done) | (simp only [kckind, eq_true c3, eq_true c6, eq_true c9, eq_true c12, eq_true c15, eq_self, ↓reduceIte, and_self, and_true, true_and]; (try and_intros) <;> rfl)
            exact kRi F hr hlocks hS14 dX6_clauseKind_58 () q16 hP14 hD14
          · refine lv_iconst (v := 4) hx hb dX6_clauseKind_53 (by decide) ?_
            refine lv_goto (tgt := 58) hx hb dX6_clauseKind_54 (by decide) ?_
            have q17 : 4 = kckind xl S E := by
              subst w13_0
              subst w10_0
              subst w7_0
              subst w4_0
              subst w1_0
              first | (simp only [kckind, eq_true c3, eq_true c6, eq_true c9, eq_true c12, c15, eq_self, ↓reduceIte, and_self, and_true, true_and]; done) | (simp only [kckind, eq_true c3, eq_true c6, eq_true c9, eq_true c12, c15, eq_self, ↓reduceIte, and_self, and_true, true_and]; (try and_intros) <;> rfl)
            exact kRi F hr hlocks hS14 dX6_clauseKind_58 () q17 hP14 hD14
        · refine lv_iconst (v := 3) hx hb dX6_clauseKind_42 (by decide) ?_
          have q18 : 3 = kckind xl S E := by
            subst w10_0
            subst w7_0
            subst w4_0
            subst w1_0
            first | (simp only [kckind, eq_true c3, eq_true c6, eq_true c9, c12, eq_self, ↓reduceIte, and_self, and_true, true_and]; done) | (simp only [kckind, eq_true c3, eq_true c6, eq_true c9, c12, eq_self, ↓reduceIte, and_self, and_true, true_and]; (try and_intros) <;> rfl)
          exact kRi F hr hlocks hS11 dX6_clauseKind_43 () q18 hP11 hD11
      · refine lv_iconst (v := 2) hx hb dX6_clauseKind_31 (by decide) ?_
        have q19 : 2 = kckind xl S E := by
          subst w7_0
          subst w4_0
          subst w1_0
          first | (simp only [kckind, eq_true c3, eq_true c6, c9, eq_self, ↓reduceIte, and_self, and_true, true_and]; done) | (simp only [kckind, eq_true c3, eq_true c6, c9, eq_self, ↓reduceIte, and_self, and_true, true_and]; (try and_intros) <;> rfl)
        exact kRi F hr hlocks hS8 dX6_clauseKind_32 () q19 hP8 hD8
    · refine lv_iconst (v := 1) hx hb dX6_clauseKind_20 (by decide) ?_
      have q20 : 1 = kckind xl S E := by
        subst w4_0
        subst w1_0
        first | (simp only [kckind, eq_true c3, c6, eq_self, ↓reduceIte, and_self, and_true, true_and]; done) | (simp only [kckind, eq_true c3, c6, eq_self, ↓reduceIte, and_self, and_true, true_and]; (try and_intros) <;> rfl)
      exact kRi F hr hlocks hS5 dX6_clauseKind_21 () q20 hP5 hD5
  · refine lv_iconst (v := 0) hx hb dX6_clauseKind_9 (by decide) ?_
    have q21 : 0 = kckind xl S E := by
      subst w1_0
      first | (simp only [kckind, c3, eq_self, ↓reduceIte, and_self, and_true, true_and]; done) | (simp only [kckind, c3, eq_self, ↓reduceIte, and_self, and_true, true_and]; (try and_intros) <;> rfl)
    exact kRi F hr hlocks hS2 dX6_clauseKind_10 () q21 hP2 hD2
set_option maxHeartbeats 4000000 in
set_option maxRecDepth 100000 in
theorem c_X6_readClause (l : Launch) (G : kG) (Z : kZs) (tx : Nat) (yl : Nat) (yk : Nat) (yf : Nat) (ys : Nat) (x : Nat → Int32) (xl : Nat → Int32) (fk : Nat → Int32) (ff : Nat → Int32) (fs : Nat → Int32) (L : Nat) (E : Nat) (n : Nat) (hL : x 1 = nI L) (lL : L ≤ 200) (hE : x 7 = nI E) (hEL : E ≤ L) (hn : n < 24) : kMz Z G l yX6_readClause wsX6_readClause ({ frames := 6, cells := 0, slots := 0, locals := 127 }) [.ref tx, .int (nI n)] ([oTx tx yl yk yf ys x, aI G yl 200 xl, aI G yk 24 fk, aI G yf 24 ff, aI G ys 24 fs]) (kQi G (fun (rr : Int32) (uu : (Nat → Int32) × (Nat → Int32) × (Nat → Int32) × (Nat → Int32)) => (rr = kcR xl L E) ∧ (uu.1 = kset x (kcT xl L E)) ∧ (uu.2.1 = kcP fk n (kcK xl L E) xl L E) ∧ (uu.2.2.1 = kcP ff n (kcV xl L E) xl L E) ∧ (uu.2.2.2 = kcP fs n (kcS xl L E) xl L E)) (fun (uu : (Nat → Int32) × (Nat → Int32) × (Nat → Int32) × (Nat → Int32)) => [oTx tx yl yk yf ys uu.1, aI G yl 200 xl, aI G yk 24 uu.2.1, aI G yf 24 uu.2.2.1, aI G ys 24 uu.2.2.2])) := by
  refine kzStart (cc := cX6_readClause) (maxL := 5) (ret := (some .boolean)) (by decide) rfl (Nat.le_of_ble_eq_true rfl) (fun pg ev st mi bl mt cd A ls0 F hr hlocks hin hK hP0 hD0 hA hS0 hl0 hZ => ?_)
  obtain ⟨hx, hb, hml, hown, hts⟩ := id F
  have hl0 : lv_has ls0 5 [(0, .ref tx), (1, .int (nI n))] := hl0
  have iX6 : ∀ w ∈ u_ws RX6 TX6 8, w ∈ wsX6_readClause := fun w h => List.mem_cons_of_mem _ (List.mem_append_right _ h)
  refine lv_aload_n hx hb dX6_readClause_0 rfl (lv_at hl0 0 rfl) ?_
  refine kVv (wr := [aI G yk 24 fk, aI G yf 24 ff, aI G ys 24 fs]) F hK hP0 hD0 hS0 hA hl0.1 (c_X6_nextToken l G tx yl yk yf ys x xl L E (by exact hL) lL (by first | exact hE | rfl) (by first | exact hEL | exact (ktok_le hEL).2 | exact (ktok_le (ktok_le hEL).2).2)) [0, 1] [2, 3, 4] 6 0 gX6_readClause_X6_nextToken rfl 0 rfl (by decide +kernel) ⟨Nat.le_of_ble_eq_true rfl, Nat.le_of_ble_eq_true rfl⟩ ⟨Nat.zero_le _, Nat.zero_le _⟩ rfl rfl rfl rfl (by decide) (by decide) (by decide) (Nat.le_of_ble_eq_true rfl) rfl dX6_readClause_1 (fun x_1 H2 locs2 hw1 (hP2 : va_P G.1 vwCl ([aI G yk 24 fk, aI G yf 24 ff, aI G ys 24 fs, oTx tx yl yk yf ys x_1, aI G yl 200 xl]) H2) (hD2 : va_D A ([aI G yk 24 fk, aI G yf 24 ff, aI G ys 24 fs, oTx tx yl yk yf ys x_1, aI G yl 200 xl])) hS2 => ?_)
  clear hP0 hD0 hS0
  have w1_0 : x_1 = upd (upd x 6 (nI (ktok xl L E).1)) 7 (nI (ktok xl L E).2) := hw1
  have g1 : x_1 = kset x (ktok xl L E) := w1_0
  clear w1_0
  refine lv_aload_n hx hb dX6_readClause_4 rfl (lv_at hl0 0 rfl) ?_
  refine kzVi (wr := [aI G yk 24 fk, aI G yf 24 ff, aI G ys 24 fs]) F hK hP2 hD2 hS2 hA hl0.1 hZ (c_X6_clauseKind l G Z tx yl yk yf ys x_1 xl L ((ktok xl L E).1) ((ktok xl L E).2) (by subst g1; exact hL) lL (by subst g1; rfl) (by subst g1; rfl) (ktok_le (by first | exact hEL | exact (ktok_le hEL).2 | exact (ktok_le (ktok_le hEL).2).2)).1 (ktok_le (by first | exact hEL | exact (ktok_le hEL).2 | exact (ktok_le (ktok_le hEL).2).2)).2) [3, 4] [0, 1, 2] 6 0 gX6_readClause_X6_clauseKind rfl 0 rfl (by decide +kernel) ⟨Nat.le_of_ble_eq_true rfl, Nat.le_of_ble_eq_true rfl⟩ ⟨Nat.zero_le _, Nat.zero_le _⟩ rfl rfl rfl rfl (by decide) (by decide) (by decide) (Nat.le_of_ble_eq_true rfl) rfl dX6_readClause_5 (fun r3 u3 H4 locs4 hw3 (hP4 : va_P G.1 vwCl ([aI G yk 24 fk, aI G yf 24 ff, aI G ys 24 fs, oTx tx yl yk yf ys x_1, aI G yl 200 xl]) H4) (hD4 : va_D A ([aI G yk 24 fk, aI G yf 24 ff, aI G ys 24 fs, oTx tx yl yk yf ys x_1, aI G yl 200 xl])) hS4 => ?_)
  clear hP2 hD2 hS2
  have w3_0 : r3 = kckind xl ((ktok xl L E).1) ((ktok xl L E).2) := hw3
  have g3 : r3 = (kcK xl L E) := w3_0
  clear w3_0
  subst g3
  refine lv_istore_n (lv' := [(2, .int (kcK xl L E)), (0, .ref tx), (1, .int (nI n))]) hx hb dX6_readClause_8 rfl hl0 (by decide) rfl (fun ls5 hl5 => ?_)
  clear hl0
  refine lv_iload_n hx hb dX6_readClause_9 rfl (lv_at hl5 0 rfl) ?_
  refine lv_iconst (v := (-1)) hx hb dX6_readClause_10 (by decide) ?_
  refine lv_icmp_ne (tgt := 16) hx hb dX6_readClause_11 (by decide) (fun c6 => ?_) (fun c6 => ?_)
  · have hkcA : kcA xl L E = false := decide_eq_false c6
    refine lv_aload_n hx hb dX6_readClause_16 rfl (lv_at hl5 1 rfl) ?_
    refine kVv (wr := [aI G yk 24 fk, aI G yf 24 ff, aI G ys 24 fs]) F hK hP4 hD4 hS4 hA hl5.1 (c_X6_nextToken l G tx yl yk yf ys x_1 xl L ((ktok xl L E).2) (by subst g1; exact hL) lL (by subst g1; first | exact hE | rfl) (by first | exact hEL | exact (ktok_le hEL).2 | exact (ktok_le (ktok_le hEL).2).2)) [3, 4] [0, 1, 2] 6 0 gX6_readClause_X6_nextToken rfl 0 rfl (by decide +kernel) ⟨Nat.le_of_ble_eq_true rfl, Nat.le_of_ble_eq_true rfl⟩ ⟨Nat.zero_le _, Nat.zero_le _⟩ rfl rfl rfl rfl (by decide) (by decide) (by decide) (Nat.le_of_ble_eq_true rfl) rfl dX6_readClause_17 (fun x_7 H8 locs8 hw7 (hP8 : va_P G.1 vwCl ([aI G yk 24 fk, aI G yf 24 ff, aI G ys 24 fs, oTx tx yl yk yf ys x_7, aI G yl 200 xl]) H8) (hD8 : va_D A ([aI G yk 24 fk, aI G yf 24 ff, aI G ys 24 fs, oTx tx yl yk yf ys x_7, aI G yl 200 xl])) hS8 => ?_)
    clear hP4 hD4 hS4
    have w7_0 : x_7 = upd (upd x_1 6 (nI (ktok xl L ((ktok xl L E).2)).1)) 7 (nI (ktok xl L ((ktok xl L E).2)).2) := hw7
    have g7 : x_7 = kset x (ktok xl L (ktok xl L E).2) := w7_0.trans (by rw [g1]; exact kset_set _ _ _)
    clear w7_0
    refine lv_aload_n hx hb dX6_readClause_20 rfl (lv_at hl5 1 rfl) ?_
    refine lv_iload_n hx hb dX6_readClause_21 rfl (lv_at hl5 0 rfl) ?_
    refine lv_if_eq (tgt := 30) hx hb dX6_readClause_22 (by decide) (fun c9 => ?_) (fun c9 => ?_)
    · refine lv_iconst (v := 1) hx hb dX6_readClause_30 (by decide) ?_
      refine lv_goto (tgt := 35) hx hb dX6_readClause_31 (by decide) ?_
      refine lv_iload_n hx hb dX6_readClause_35 rfl (lv_at hl5 0 rfl) ?_
      refine kPSi F hK hP8 hD8 hS8 hA hl5.1 (c_X6_mostFirst l G (kcK xl L E)) (fun _ => rfl) gX6_readClause_X6_mostFirst rfl 1 rfl (by decide +kernel) ⟨Nat.le_of_ble_eq_true rfl, Nat.le_of_ble_eq_true rfl⟩ ⟨Nat.zero_le _, Nat.zero_le _⟩ (Nat.le_of_ble_eq_true rfl) rfl dX6_readClause_36 (fun r10 u10 H11 locs11 hw10 (hP11 : va_P G.1 vwCl ([aI G yk 24 fk, aI G yf 24 ff, aI G ys 24 fs, oTx tx yl yk yf ys x_7, aI G yl 200 xl]) H11) (hD11 : va_D A ([aI G yk 24 fk, aI G yf 24 ff, aI G ys 24 fs, oTx tx yl yk yf ys x_7, aI G yl 200 xl])) hS11 => ?_)
      clear hP8 hD8 hS8
      have w10_0 : r10 = kmost (kcK xl L E) := hw10
      have g10 : r10 = (kmost (kcK xl L E)) := w10_0
      clear w10_0
      subst g10
      refine kVi (wr := [aI G yk 24 fk, aI G yf 24 ff, aI G ys 24 fs]) F hK hP11 hD11 hS11 hA hl5.1 (c_X6_number l G tx yl yk yf ys x_7 xl L ((ktok xl L (ktok xl L E).2).1) ((ktok xl L (ktok xl L E).2).2) 1 (kmost (kcK xl L E)) (by subst g7; subst g1; exact hL) lL (by subst g7; subst g1; rfl) (by subst g7; subst g1; rfl) (ktok_le (by first | exact hEL | exact (ktok_le hEL).2 | exact (ktok_le (ktok_le hEL).2).2)).1 (ktok_le (by first | exact hEL | exact (ktok_le hEL).2 | exact (ktok_le (ktok_le hEL).2).2)).2) [3, 4] [0, 1, 2] 6 0 gX6_readClause_X6_number rfl 2 rfl (by decide +kernel) ⟨Nat.le_of_ble_eq_true rfl, Nat.le_of_ble_eq_true rfl⟩ ⟨Nat.zero_le _, Nat.zero_le _⟩ rfl rfl rfl rfl (by decide) (by decide) (by decide) (Nat.le_of_ble_eq_true rfl) rfl dX6_readClause_39 (fun r12 u12 H13 locs13 hw12 (hP13 : va_P G.1 vwCl ([aI G yk 24 fk, aI G yf 24 ff, aI G ys 24 fs, oTx tx yl yk yf ys x_7, aI G yl 200 xl]) H13) (hD13 : va_D A ([aI G yk 24 fk, aI G yf 24 ff, aI G ys 24 fs, oTx tx yl yk yf ys x_7, aI G yl 200 xl])) hS13 => ?_)
      clear hP11 hD11 hS11
      have w12_0 : r12 = knum xl ((ktok xl L (ktok xl L E).2).1) ((ktok xl L (ktok xl L E).2).2) 1 (kmost (kcK xl L E)) := hw12
      have g12 : r12 = kcV xl L E := w12_0.trans (by simp only [kcV, kc2, eq_true c9, ↓reduceIte])
      clear w12_0
      subst g12
      refine lv_istore_n (lv' := [(3, .int (kcV xl L E)), (2, .int (kcK xl L E)), (0, .ref tx), (1, .int (nI n))]) hx hb dX6_readClause_42 rfl hl5 (by decide) rfl (fun ls14 hl14 => ?_)
      clear hl5
      refine lv_iload_n hx hb dX6_readClause_43 rfl (lv_at hl14 0 rfl) ?_
      refine lv_iconst (v := (-1)) hx hb dX6_readClause_44 (by decide) ?_
      refine lv_icmp_ne (tgt := 50) hx hb dX6_readClause_45 (by decide) (fun c15 => ?_) (fun c15 => ?_)
      · have hkcB : kcB xl L E = false := decide_eq_false c15
        refine lv_iconst (v := 0) hx hb dX6_readClause_50 (by decide) ?_
        refine lv_istore (lv' := [(4, .int 0), (3, .int (kcV xl L E)), (2, .int (kcK xl L E)), (0, .ref tx), (1, .int (nI n))]) hx hb dX6_readClause_51 hl14 (by decide) rfl (fun ls16 hl16 => ?_)
        clear hl14
        refine lv_iload_n hx hb dX6_readClause_53 rfl (lv_at hl16 2 rfl) ?_
        refine lv_iconst (v := 3) hx hb dX6_readClause_54 (by decide) ?_
        refine lv_icmp_eq (tgt := 87) hx hb dX6_readClause_55 (by decide) (fun c17 => ?_) (fun c17 => ?_)
        · exact absurd (c9.symm.trans c17) (by decide)
        · refine lv_iload_n hx hb dX6_readClause_58 rfl (lv_at hl16 2 rfl) ?_
          refine lv_iconst (v := 4) hx hb dX6_readClause_59 (by decide) ?_
          refine lv_icmp_eq (tgt := 87) hx hb dX6_readClause_60 (by decide) (fun c18 => ?_) (fun c18 => ?_)
          · exact absurd (c9.symm.trans c18) (by decide)
          · refine lv_aload_n hx hb dX6_readClause_63 rfl (lv_at hl16 3 rfl) ?_
            refine kVv (wr := [aI G yk 24 fk, aI G yf 24 ff, aI G ys 24 fs]) F hK hP13 hD13 hS13 hA hl16.1 (c_X6_nextToken l G tx yl yk yf ys x_7 xl L ((ktok xl L (ktok xl L E).2).2) (by subst g7; subst g1; exact hL) lL (by subst g7; subst g1; first | exact hE | rfl) (by first | exact hEL | exact (ktok_le hEL).2 | exact (ktok_le (ktok_le hEL).2).2)) [3, 4] [0, 1, 2] 6 0 gX6_readClause_X6_nextToken rfl 0 rfl (by decide +kernel) ⟨Nat.le_of_ble_eq_true rfl, Nat.le_of_ble_eq_true rfl⟩ ⟨Nat.zero_le _, Nat.zero_le _⟩ rfl rfl rfl rfl (by decide) (by decide) (by decide) (Nat.le_of_ble_eq_true rfl) rfl dX6_readClause_64 (fun x_19 H20 locs20 hw19 (hP20 : va_P G.1 vwCl ([aI G yk 24 fk, aI G yf 24 ff, aI G ys 24 fs, oTx tx yl yk yf ys x_19, aI G yl 200 xl]) H20) (hD20 : va_D A ([aI G yk 24 fk, aI G yf 24 ff, aI G ys 24 fs, oTx tx yl yk yf ys x_19, aI G yl 200 xl])) hS20 => ?_)
            clear hP13 hD13 hS13
            have w19_0 : x_19 = upd (upd x_7 6 (nI (ktok xl L ((ktok xl L (ktok xl L E).2).2)).1)) 7 (nI (ktok xl L ((ktok xl L (ktok xl L E).2).2)).2) := hw19
            have g19 : x_19 = kset x (ktok xl L (ktok xl L (ktok xl L E).2).2) := w19_0.trans (by rw [g7]; exact kset_set _ _ _)
            clear w19_0
            refine lv_aload_n hx hb dX6_readClause_67 rfl (lv_at hl16 3 rfl) ?_
            refine lv_iconst (v := 1) hx hb dX6_readClause_68 (by decide) ?_
            refine lv_iload_n hx hb dX6_readClause_69 rfl (lv_at hl16 2 rfl) ?_
            refine lv_iconst (v := 2) hx hb dX6_readClause_70 (by decide) ?_
            refine lv_icmp_ne (tgt := 80) hx hb dX6_readClause_71 (by decide) (fun c21 => ?_) (fun c21 => ?_)
            · refine lv_bipush (v := 15) hx hb dX6_readClause_80 (by decide) ?_
              refine kVi (wr := [aI G yk 24 fk, aI G yf 24 ff, aI G ys 24 fs]) F hK hP20 hD20 hS20 hA hl16.1 (c_X6_number l G tx yl yk yf ys x_19 xl L ((ktok xl L (ktok xl L (ktok xl L E).2).2).1) ((ktok xl L (ktok xl L (ktok xl L E).2).2).2) 1 15 (by subst g19; subst g7; subst g1; exact hL) lL (by subst g19; subst g7; subst g1; rfl) (by subst g19; subst g7; subst g1; rfl) (ktok_le (by first | exact hEL | exact (ktok_le hEL).2 | exact (ktok_le (ktok_le hEL).2).2)).1 (ktok_le (by first | exact hEL | exact (ktok_le hEL).2 | exact (ktok_le (ktok_le hEL).2).2)).2) [3, 4] [0, 1, 2] 6 0 gX6_readClause_X6_number rfl 2 rfl (by decide +kernel) ⟨Nat.le_of_ble_eq_true rfl, Nat.le_of_ble_eq_true rfl⟩ ⟨Nat.zero_le _, Nat.zero_le _⟩ rfl rfl rfl rfl (by decide) (by decide) (by decide) (Nat.le_of_ble_eq_true rfl) rfl dX6_readClause_82 (fun r22 u22 H23 locs23 hw22 (hP23 : va_P G.1 vwCl ([aI G yk 24 fk, aI G yf 24 ff, aI G ys 24 fs, oTx tx yl yk yf ys x_19, aI G yl 200 xl]) H23) (hD23 : va_D A ([aI G yk 24 fk, aI G yf 24 ff, aI G ys 24 fs, oTx tx yl yk yf ys x_19, aI G yl 200 xl])) hS23 => ?_)
              clear hP20 hD20 hS20
              have w22_0 : r22 = knum xl ((ktok xl L (ktok xl L (ktok xl L E).2).2).1) ((ktok xl L (ktok xl L (ktok xl L E).2).2).2) 1 15 := hw22
              have g22 : r22 = kcW xl L E := w22_0.trans (by simp only [kcW, kc3, kc2, eq_true c9, c17, c18, c21, ↓reduceIte])
              clear w22_0
              subst g22
              refine lv_istore (lv' := [(4, .int (kcW xl L E)), (3, .int (kcV xl L E)), (2, .int (kcK xl L E)), (0, .ref tx), (1, .int (nI n))]) hx hb dX6_readClause_85 hl16 (by decide) rfl (fun ls24 hl24 => ?_)
              clear hl16
              refine lv_aload_n hx hb dX6_readClause_87 rfl (lv_at hl24 3 rfl) ?_
              refine kget F hK hP23 6 3 2 iX6 rfl rfl (by decide) (List.mem_of_getElem? (i := 1) rfl) rfl dX6_readClause_88 ?_
              refine lv_iload_n hx hb dX6_readClause_91 rfl (lv_at hl24 4 rfl) ?_
              refine lv_iload_n hx hb dX6_readClause_92 rfl (lv_at hl24 2 rfl) ?_
              refine kist F hK hP23 hD23 hS23 0 n (fun zz => [aI G yk 24 zz, aI G yf 24 ff, aI G ys 24 fs, oTx tx yl yk yf ys x_19, aI G yl 200 xl]) rfl rfl hn (Nat.le_of_ble_eq_true rfl) rfl dX6_readClause_93 (fun H25 locs25 fk25 efk25 (hP25 : va_P G.1 vwCl ([aI G yk 24 fk25, aI G yf 24 ff, aI G ys 24 fs, oTx tx yl yk yf ys x_19, aI G yl 200 xl]) H25) (hD25 : va_D A ([aI G yk 24 fk25, aI G yf 24 ff, aI G ys 24 fs, oTx tx yl yk yf ys x_19, aI G yl 200 xl])) hS25 => ?_)
              clear hP23 hD23 hS23
              refine lv_aload_n hx hb dX6_readClause_94 rfl (lv_at hl24 3 rfl) ?_
              refine kget F hK hP25 6 3 3 iX6 rfl rfl (by decide) (List.mem_of_getElem? (i := 2) rfl) rfl dX6_readClause_95 ?_
              refine lv_iload_n hx hb dX6_readClause_98 rfl (lv_at hl24 4 rfl) ?_
              refine lv_iload_n hx hb dX6_readClause_99 rfl (lv_at hl24 1 rfl) ?_
              refine kist F hK hP25 hD25 hS25 1 n (fun zz => [aI G yk 24 fk25, aI G yf 24 zz, aI G ys 24 fs, oTx tx yl yk yf ys x_19, aI G yl 200 xl]) rfl rfl hn (Nat.le_of_ble_eq_true rfl) rfl dX6_readClause_100 (fun H26 locs26 ff26 eff26 (hP26 : va_P G.1 vwCl ([aI G yk 24 fk25, aI G yf 24 ff26, aI G ys 24 fs, oTx tx yl yk yf ys x_19, aI G yl 200 xl]) H26) (hD26 : va_D A ([aI G yk 24 fk25, aI G yf 24 ff26, aI G ys 24 fs, oTx tx yl yk yf ys x_19, aI G yl 200 xl])) hS26 => ?_)
              clear hP25 hD25 hS25
              refine lv_aload_n hx hb dX6_readClause_101 rfl (lv_at hl24 3 rfl) ?_
              refine kget F hK hP26 6 3 4 iX6 rfl rfl (by decide) (List.mem_of_getElem? (i := 3) rfl) rfl dX6_readClause_102 ?_
              refine lv_iload_n hx hb dX6_readClause_105 rfl (lv_at hl24 4 rfl) ?_
              refine lv_iload hx hb dX6_readClause_106 (lv_at hl24 0 rfl) ?_
              refine kist F hK hP26 hD26 hS26 2 n (fun zz => [aI G yk 24 fk25, aI G yf 24 ff26, aI G ys 24 zz, oTx tx yl yk yf ys x_19, aI G yl 200 xl]) rfl rfl hn (Nat.le_of_ble_eq_true rfl) rfl dX6_readClause_108 (fun H27 locs27 fs27 efs27 (hP27 : va_P G.1 vwCl ([aI G yk 24 fk25, aI G yf 24 ff26, aI G ys 24 fs27, oTx tx yl yk yf ys x_19, aI G yl 200 xl]) H27) (hD27 : va_D A ([aI G yk 24 fk25, aI G yf 24 ff26, aI G ys 24 fs27, oTx tx yl yk yf ys x_19, aI G yl 200 xl])) hS27 => ?_)
              clear hP26 hD26 hS26
              refine lv_iload hx hb dX6_readClause_109 (lv_at hl24 0 rfl) ?_
              refine lv_iconst (v := (-1)) hx hb dX6_readClause_111 (by decide) ?_
              refine lv_icmp_eq (tgt := 119) hx hb dX6_readClause_112 (by decide) (fun c28 => ?_) (fun c28 => ?_)
              · refine lv_iconst (v := 0) hx hb dX6_readClause_119 (by decide) ?_
                have q29 : (0 = kcR xl L E) ∧ (x_19 = kset x (kcT xl L E)) ∧ (fk25 = kcP fk n (kcK xl L E) xl L E) ∧ (ff26 = kcP ff n (kcV xl L E) xl L E) ∧ (fs27 = kcP fs n (kcS xl L E) xl L E) := by
                  subst efs27
                  subst eff26
                  subst efk25
                  subst g19
                  subst g7
                  subst g1
                  have hC : kcC xl L E = false := by simp only [kcC, c17, c18, decide_false, Bool.or_self]
                  and_intros <;> first | (simp only [kcR, kcT, kcP, kcS, kc1, kc2, kc3, hkcA, hkcB, hC, eq_true c28, ↓reduceIte, Bool.false_eq_true]; done) | (simp only [kcR, kcT, kcP, kcS, kc1, kc2, kc3, hkcA, hkcB, hC, eq_true c28, ↓reduceIte, Bool.false_eq_true]; rfl)
                exact kRz F hr hlocks hS27 dX6_readClause_120 rfl ⟨x_19, fk25, ff26, fs27⟩ q29 (hP27.sub [3, 4, 0, 1, 2] rfl) (hD27.sub [3, 4, 0, 1, 2] (by decide) rfl)
              · refine lv_iconst (v := 1) hx hb dX6_readClause_115 (by decide) ?_
                refine lv_goto (tgt := 120) hx hb dX6_readClause_116 (by decide) ?_
                have q30 : (1 = kcR xl L E) ∧ (x_19 = kset x (kcT xl L E)) ∧ (fk25 = kcP fk n (kcK xl L E) xl L E) ∧ (ff26 = kcP ff n (kcV xl L E) xl L E) ∧ (fs27 = kcP fs n (kcS xl L E) xl L E) := by
                  subst efs27
                  subst eff26
                  subst efk25
                  subst g19
                  subst g7
                  subst g1
                  have hC : kcC xl L E = false := by simp only [kcC, c17, c18, decide_false, Bool.or_self]
                  and_intros <;> first | (simp only [kcR, kcT, kcP, kcS, kc1, kc2, kc3, hkcA, hkcB, hC, c28, ↓reduceIte, Bool.false_eq_true]; done) | (simp only [kcR, kcT, kcP, kcS, kc1, kc2, kc3, hkcA, hkcB, hC, c28, ↓reduceIte, Bool.false_eq_true]; rfl)
                exact kRz F hr hlocks hS27 dX6_readClause_120 rfl ⟨x_19, fk25, ff26, fs27⟩ q30 (hP27.sub [3, 4, 0, 1, 2] rfl) (hD27.sub [3, 4, 0, 1, 2] (by decide) rfl)
            · exact absurd (c9.symm.trans c21) (by decide)
      · have hkcB : kcB xl L E = true := decide_eq_true c15
        refine lv_iconst (v := 0) hx hb dX6_readClause_48 (by decide) ?_
        have q31 : (0 = kcR xl L E) ∧ (x_7 = kset x (kcT xl L E)) ∧ (fk = kcP fk n (kcK xl L E) xl L E) ∧ (ff = kcP ff n (kcV xl L E) xl L E) ∧ (fs = kcP fs n (kcS xl L E) xl L E) := by
          subst g7
          subst g1
          and_intros <;> first | (simp only [kcR, kcT, kcP, kcS, kc1, kc2, kc3, hkcA, hkcB, ↓reduceIte, Bool.false_eq_true]; done) | (simp only [kcR, kcT, kcP, kcS, kc1, kc2, kc3, hkcA, hkcB, ↓reduceIte, Bool.false_eq_true]; rfl)
        exact kRz F hr hlocks hS13 dX6_readClause_49 rfl ⟨x_7, fk, ff, fs⟩ q31 (hP13.sub [3, 4, 0, 1, 2] rfl) (hD13.sub [3, 4, 0, 1, 2] (by decide) rfl)
    · refine lv_iload_n hx hb dX6_readClause_25 rfl (lv_at hl5 0 rfl) ?_
      refine lv_iconst (v := 1) hx hb dX6_readClause_26 (by decide) ?_
      refine lv_icmp_ne (tgt := 34) hx hb dX6_readClause_27 (by decide) (fun c32 => ?_) (fun c32 => ?_)
      · refine lv_iconst (v := 0) hx hb dX6_readClause_34 (by decide) ?_
        refine lv_iload_n hx hb dX6_readClause_35 rfl (lv_at hl5 0 rfl) ?_
        refine kPSi F hK hP8 hD8 hS8 hA hl5.1 (c_X6_mostFirst l G (kcK xl L E)) (fun _ => rfl) gX6_readClause_X6_mostFirst rfl 1 rfl (by decide +kernel) ⟨Nat.le_of_ble_eq_true rfl, Nat.le_of_ble_eq_true rfl⟩ ⟨Nat.zero_le _, Nat.zero_le _⟩ (Nat.le_of_ble_eq_true rfl) rfl dX6_readClause_36 (fun r33 u33 H34 locs34 hw33 (hP34 : va_P G.1 vwCl ([aI G yk 24 fk, aI G yf 24 ff, aI G ys 24 fs, oTx tx yl yk yf ys x_7, aI G yl 200 xl]) H34) (hD34 : va_D A ([aI G yk 24 fk, aI G yf 24 ff, aI G ys 24 fs, oTx tx yl yk yf ys x_7, aI G yl 200 xl])) hS34 => ?_)
        clear hP8 hD8 hS8
        have w33_0 : r33 = kmost (kcK xl L E) := hw33
        have g33 : r33 = (kmost (kcK xl L E)) := w33_0
        clear w33_0
        subst g33
        refine kVi (wr := [aI G yk 24 fk, aI G yf 24 ff, aI G ys 24 fs]) F hK hP34 hD34 hS34 hA hl5.1 (c_X6_number l G tx yl yk yf ys x_7 xl L ((ktok xl L (ktok xl L E).2).1) ((ktok xl L (ktok xl L E).2).2) 0 (kmost (kcK xl L E)) (by subst g7; subst g1; exact hL) lL (by subst g7; subst g1; rfl) (by subst g7; subst g1; rfl) (ktok_le (by first | exact hEL | exact (ktok_le hEL).2 | exact (ktok_le (ktok_le hEL).2).2)).1 (ktok_le (by first | exact hEL | exact (ktok_le hEL).2 | exact (ktok_le (ktok_le hEL).2).2)).2) [3, 4] [0, 1, 2] 6 0 gX6_readClause_X6_number rfl 2 rfl (by decide +kernel) ⟨Nat.le_of_ble_eq_true rfl, Nat.le_of_ble_eq_true rfl⟩ ⟨Nat.zero_le _, Nat.zero_le _⟩ rfl rfl rfl rfl (by decide) (by decide) (by decide) (Nat.le_of_ble_eq_true rfl) rfl dX6_readClause_39 (fun r35 u35 H36 locs36 hw35 (hP36 : va_P G.1 vwCl ([aI G yk 24 fk, aI G yf 24 ff, aI G ys 24 fs, oTx tx yl yk yf ys x_7, aI G yl 200 xl]) H36) (hD36 : va_D A ([aI G yk 24 fk, aI G yf 24 ff, aI G ys 24 fs, oTx tx yl yk yf ys x_7, aI G yl 200 xl])) hS36 => ?_)
        clear hP34 hD34 hS34
        have w35_0 : r35 = knum xl ((ktok xl L (ktok xl L E).2).1) ((ktok xl L (ktok xl L E).2).2) 0 (kmost (kcK xl L E)) := hw35
        have g35 : r35 = kcV xl L E := w35_0.trans (by simp only [kcV, kc2, c9, c32, ↓reduceIte])
        clear w35_0
        subst g35
        refine lv_istore_n (lv' := [(3, .int (kcV xl L E)), (2, .int (kcK xl L E)), (0, .ref tx), (1, .int (nI n))]) hx hb dX6_readClause_42 rfl hl5 (by decide) rfl (fun ls37 hl37 => ?_)
        clear hl5
        refine lv_iload_n hx hb dX6_readClause_43 rfl (lv_at hl37 0 rfl) ?_
        refine lv_iconst (v := (-1)) hx hb dX6_readClause_44 (by decide) ?_
        refine lv_icmp_ne (tgt := 50) hx hb dX6_readClause_45 (by decide) (fun c38 => ?_) (fun c38 => ?_)
        · have hkcB : kcB xl L E = false := decide_eq_false c38
          refine lv_iconst (v := 0) hx hb dX6_readClause_50 (by decide) ?_
          refine lv_istore (lv' := [(4, .int 0), (3, .int (kcV xl L E)), (2, .int (kcK xl L E)), (0, .ref tx), (1, .int (nI n))]) hx hb dX6_readClause_51 hl37 (by decide) rfl (fun ls39 hl39 => ?_)
          clear hl37
          refine lv_iload_n hx hb dX6_readClause_53 rfl (lv_at hl39 2 rfl) ?_
          refine lv_iconst (v := 3) hx hb dX6_readClause_54 (by decide) ?_
          refine lv_icmp_eq (tgt := 87) hx hb dX6_readClause_55 (by decide) (fun c40 => ?_) (fun c40 => ?_)
          · refine lv_aload_n hx hb dX6_readClause_87 rfl (lv_at hl39 3 rfl) ?_
            refine kget F hK hP36 6 3 2 iX6 rfl rfl (by decide) (List.mem_of_getElem? (i := 1) rfl) rfl dX6_readClause_88 ?_
            refine lv_iload_n hx hb dX6_readClause_91 rfl (lv_at hl39 4 rfl) ?_
            refine lv_iload_n hx hb dX6_readClause_92 rfl (lv_at hl39 2 rfl) ?_
            refine kist F hK hP36 hD36 hS36 0 n (fun zz => [aI G yk 24 zz, aI G yf 24 ff, aI G ys 24 fs, oTx tx yl yk yf ys x_7, aI G yl 200 xl]) rfl rfl hn (Nat.le_of_ble_eq_true rfl) rfl dX6_readClause_93 (fun H41 locs41 fk41 efk41 (hP41 : va_P G.1 vwCl ([aI G yk 24 fk41, aI G yf 24 ff, aI G ys 24 fs, oTx tx yl yk yf ys x_7, aI G yl 200 xl]) H41) (hD41 : va_D A ([aI G yk 24 fk41, aI G yf 24 ff, aI G ys 24 fs, oTx tx yl yk yf ys x_7, aI G yl 200 xl])) hS41 => ?_)
            clear hP36 hD36 hS36
            refine lv_aload_n hx hb dX6_readClause_94 rfl (lv_at hl39 3 rfl) ?_
            refine kget F hK hP41 6 3 3 iX6 rfl rfl (by decide) (List.mem_of_getElem? (i := 2) rfl) rfl dX6_readClause_95 ?_
            refine lv_iload_n hx hb dX6_readClause_98 rfl (lv_at hl39 4 rfl) ?_
            refine lv_iload_n hx hb dX6_readClause_99 rfl (lv_at hl39 1 rfl) ?_
            refine kist F hK hP41 hD41 hS41 1 n (fun zz => [aI G yk 24 fk41, aI G yf 24 zz, aI G ys 24 fs, oTx tx yl yk yf ys x_7, aI G yl 200 xl]) rfl rfl hn (Nat.le_of_ble_eq_true rfl) rfl dX6_readClause_100 (fun H42 locs42 ff42 eff42 (hP42 : va_P G.1 vwCl ([aI G yk 24 fk41, aI G yf 24 ff42, aI G ys 24 fs, oTx tx yl yk yf ys x_7, aI G yl 200 xl]) H42) (hD42 : va_D A ([aI G yk 24 fk41, aI G yf 24 ff42, aI G ys 24 fs, oTx tx yl yk yf ys x_7, aI G yl 200 xl])) hS42 => ?_)
            clear hP41 hD41 hS41
            refine lv_aload_n hx hb dX6_readClause_101 rfl (lv_at hl39 3 rfl) ?_
            refine kget F hK hP42 6 3 4 iX6 rfl rfl (by decide) (List.mem_of_getElem? (i := 3) rfl) rfl dX6_readClause_102 ?_
            refine lv_iload_n hx hb dX6_readClause_105 rfl (lv_at hl39 4 rfl) ?_
            refine lv_iload hx hb dX6_readClause_106 (lv_at hl39 0 rfl) ?_
            refine kist F hK hP42 hD42 hS42 2 n (fun zz => [aI G yk 24 fk41, aI G yf 24 ff42, aI G ys 24 zz, oTx tx yl yk yf ys x_7, aI G yl 200 xl]) rfl rfl hn (Nat.le_of_ble_eq_true rfl) rfl dX6_readClause_108 (fun H43 locs43 fs43 efs43 (hP43 : va_P G.1 vwCl ([aI G yk 24 fk41, aI G yf 24 ff42, aI G ys 24 fs43, oTx tx yl yk yf ys x_7, aI G yl 200 xl]) H43) (hD43 : va_D A ([aI G yk 24 fk41, aI G yf 24 ff42, aI G ys 24 fs43, oTx tx yl yk yf ys x_7, aI G yl 200 xl])) hS43 => ?_)
            clear hP42 hD42 hS42
            refine lv_iload hx hb dX6_readClause_109 (lv_at hl39 0 rfl) ?_
            refine lv_iconst (v := (-1)) hx hb dX6_readClause_111 (by decide) ?_
            refine lv_icmp_eq (tgt := 119) hx hb dX6_readClause_112 (by decide) (fun c44 => ?_) (fun c44 => ?_)
            · exact absurd c44 (by decide)
            · refine lv_iconst (v := 1) hx hb dX6_readClause_115 (by decide) ?_
              refine lv_goto (tgt := 120) hx hb dX6_readClause_116 (by decide) ?_
              have q45 : (1 = kcR xl L E) ∧ (x_7 = kset x (kcT xl L E)) ∧ (fk41 = kcP fk n (kcK xl L E) xl L E) ∧ (ff42 = kcP ff n (kcV xl L E) xl L E) ∧ (fs43 = kcP fs n (kcS xl L E) xl L E) := by
                subst efs43
                subst eff42
                subst efk41
                subst g7
                subst g1
                have hC : kcC xl L E = true := by unfold kcC; rw [c40]; decide
                and_intros <;> first | (simp only [kcR, kcT, kcP, kcS, kc1, kc2, kc3, hkcA, hkcB, hC, ↓reduceIte, Bool.false_eq_true]; done) | (simp only [kcR, kcT, kcP, kcS, kc1, kc2, kc3, hkcA, hkcB, hC, ↓reduceIte, Bool.false_eq_true]; rfl)
              exact kRz F hr hlocks hS43 dX6_readClause_120 rfl ⟨x_7, fk41, ff42, fs43⟩ q45 (hP43.sub [3, 4, 0, 1, 2] rfl) (hD43.sub [3, 4, 0, 1, 2] (by decide) rfl)
          · refine lv_iload_n hx hb dX6_readClause_58 rfl (lv_at hl39 2 rfl) ?_
            refine lv_iconst (v := 4) hx hb dX6_readClause_59 (by decide) ?_
            refine lv_icmp_eq (tgt := 87) hx hb dX6_readClause_60 (by decide) (fun c46 => ?_) (fun c46 => ?_)
            · refine lv_aload_n hx hb dX6_readClause_87 rfl (lv_at hl39 3 rfl) ?_
              refine kget F hK hP36 6 3 2 iX6 rfl rfl (by decide) (List.mem_of_getElem? (i := 1) rfl) rfl dX6_readClause_88 ?_
              refine lv_iload_n hx hb dX6_readClause_91 rfl (lv_at hl39 4 rfl) ?_
              refine lv_iload_n hx hb dX6_readClause_92 rfl (lv_at hl39 2 rfl) ?_
              refine kist F hK hP36 hD36 hS36 0 n (fun zz => [aI G yk 24 zz, aI G yf 24 ff, aI G ys 24 fs, oTx tx yl yk yf ys x_7, aI G yl 200 xl]) rfl rfl hn (Nat.le_of_ble_eq_true rfl) rfl dX6_readClause_93 (fun H47 locs47 fk47 efk47 (hP47 : va_P G.1 vwCl ([aI G yk 24 fk47, aI G yf 24 ff, aI G ys 24 fs, oTx tx yl yk yf ys x_7, aI G yl 200 xl]) H47) (hD47 : va_D A ([aI G yk 24 fk47, aI G yf 24 ff, aI G ys 24 fs, oTx tx yl yk yf ys x_7, aI G yl 200 xl])) hS47 => ?_)
              clear hP36 hD36 hS36
              refine lv_aload_n hx hb dX6_readClause_94 rfl (lv_at hl39 3 rfl) ?_
              refine kget F hK hP47 6 3 3 iX6 rfl rfl (by decide) (List.mem_of_getElem? (i := 2) rfl) rfl dX6_readClause_95 ?_
              refine lv_iload_n hx hb dX6_readClause_98 rfl (lv_at hl39 4 rfl) ?_
              refine lv_iload_n hx hb dX6_readClause_99 rfl (lv_at hl39 1 rfl) ?_
              refine kist F hK hP47 hD47 hS47 1 n (fun zz => [aI G yk 24 fk47, aI G yf 24 zz, aI G ys 24 fs, oTx tx yl yk yf ys x_7, aI G yl 200 xl]) rfl rfl hn (Nat.le_of_ble_eq_true rfl) rfl dX6_readClause_100 (fun H48 locs48 ff48 eff48 (hP48 : va_P G.1 vwCl ([aI G yk 24 fk47, aI G yf 24 ff48, aI G ys 24 fs, oTx tx yl yk yf ys x_7, aI G yl 200 xl]) H48) (hD48 : va_D A ([aI G yk 24 fk47, aI G yf 24 ff48, aI G ys 24 fs, oTx tx yl yk yf ys x_7, aI G yl 200 xl])) hS48 => ?_)
              clear hP47 hD47 hS47
              refine lv_aload_n hx hb dX6_readClause_101 rfl (lv_at hl39 3 rfl) ?_
              refine kget F hK hP48 6 3 4 iX6 rfl rfl (by decide) (List.mem_of_getElem? (i := 3) rfl) rfl dX6_readClause_102 ?_
              refine lv_iload_n hx hb dX6_readClause_105 rfl (lv_at hl39 4 rfl) ?_
              refine lv_iload hx hb dX6_readClause_106 (lv_at hl39 0 rfl) ?_
              refine kist F hK hP48 hD48 hS48 2 n (fun zz => [aI G yk 24 fk47, aI G yf 24 ff48, aI G ys 24 zz, oTx tx yl yk yf ys x_7, aI G yl 200 xl]) rfl rfl hn (Nat.le_of_ble_eq_true rfl) rfl dX6_readClause_108 (fun H49 locs49 fs49 efs49 (hP49 : va_P G.1 vwCl ([aI G yk 24 fk47, aI G yf 24 ff48, aI G ys 24 fs49, oTx tx yl yk yf ys x_7, aI G yl 200 xl]) H49) (hD49 : va_D A ([aI G yk 24 fk47, aI G yf 24 ff48, aI G ys 24 fs49, oTx tx yl yk yf ys x_7, aI G yl 200 xl])) hS49 => ?_)
              clear hP48 hD48 hS48
              refine lv_iload hx hb dX6_readClause_109 (lv_at hl39 0 rfl) ?_
              refine lv_iconst (v := (-1)) hx hb dX6_readClause_111 (by decide) ?_
              refine lv_icmp_eq (tgt := 119) hx hb dX6_readClause_112 (by decide) (fun c50 => ?_) (fun c50 => ?_)
              · exact absurd c50 (by decide)
              · refine lv_iconst (v := 1) hx hb dX6_readClause_115 (by decide) ?_
                refine lv_goto (tgt := 120) hx hb dX6_readClause_116 (by decide) ?_
                have q51 : (1 = kcR xl L E) ∧ (x_7 = kset x (kcT xl L E)) ∧ (fk47 = kcP fk n (kcK xl L E) xl L E) ∧ (ff48 = kcP ff n (kcV xl L E) xl L E) ∧ (fs49 = kcP fs n (kcS xl L E) xl L E) := by
                  subst efs49
                  subst eff48
                  subst efk47
                  subst g7
                  subst g1
                  have hC : kcC xl L E = true := by unfold kcC; rw [c46]; decide
                  and_intros <;> first | (simp only [kcR, kcT, kcP, kcS, kc1, kc2, kc3, hkcA, hkcB, hC, ↓reduceIte, Bool.false_eq_true]; done) | (simp only [kcR, kcT, kcP, kcS, kc1, kc2, kc3, hkcA, hkcB, hC, ↓reduceIte, Bool.false_eq_true]; rfl)
                exact kRz F hr hlocks hS49 dX6_readClause_120 rfl ⟨x_7, fk47, ff48, fs49⟩ q51 (hP49.sub [3, 4, 0, 1, 2] rfl) (hD49.sub [3, 4, 0, 1, 2] (by decide) rfl)
            · refine lv_aload_n hx hb dX6_readClause_63 rfl (lv_at hl39 3 rfl) ?_
              refine kVv (wr := [aI G yk 24 fk, aI G yf 24 ff, aI G ys 24 fs]) F hK hP36 hD36 hS36 hA hl39.1 (c_X6_nextToken l G tx yl yk yf ys x_7 xl L ((ktok xl L (ktok xl L E).2).2) (by subst g7; subst g1; exact hL) lL (by subst g7; subst g1; first | exact hE | rfl) (by first | exact hEL | exact (ktok_le hEL).2 | exact (ktok_le (ktok_le hEL).2).2)) [3, 4] [0, 1, 2] 6 0 gX6_readClause_X6_nextToken rfl 0 rfl (by decide +kernel) ⟨Nat.le_of_ble_eq_true rfl, Nat.le_of_ble_eq_true rfl⟩ ⟨Nat.zero_le _, Nat.zero_le _⟩ rfl rfl rfl rfl (by decide) (by decide) (by decide) (Nat.le_of_ble_eq_true rfl) rfl dX6_readClause_64 (fun x_52 H53 locs53 hw52 (hP53 : va_P G.1 vwCl ([aI G yk 24 fk, aI G yf 24 ff, aI G ys 24 fs, oTx tx yl yk yf ys x_52, aI G yl 200 xl]) H53) (hD53 : va_D A ([aI G yk 24 fk, aI G yf 24 ff, aI G ys 24 fs, oTx tx yl yk yf ys x_52, aI G yl 200 xl])) hS53 => ?_)
              clear hP36 hD36 hS36
              have w52_0 : x_52 = upd (upd x_7 6 (nI (ktok xl L ((ktok xl L (ktok xl L E).2).2)).1)) 7 (nI (ktok xl L ((ktok xl L (ktok xl L E).2).2)).2) := hw52
              have g52 : x_52 = kset x (ktok xl L (ktok xl L (ktok xl L E).2).2) := w52_0.trans (by rw [g7]; exact kset_set _ _ _)
              clear w52_0
              refine lv_aload_n hx hb dX6_readClause_67 rfl (lv_at hl39 3 rfl) ?_
              refine lv_iconst (v := 1) hx hb dX6_readClause_68 (by decide) ?_
              refine lv_iload_n hx hb dX6_readClause_69 rfl (lv_at hl39 2 rfl) ?_
              refine lv_iconst (v := 2) hx hb dX6_readClause_70 (by decide) ?_
              refine lv_icmp_ne (tgt := 80) hx hb dX6_readClause_71 (by decide) (fun c54 => ?_) (fun c54 => ?_)
              · refine lv_bipush (v := 15) hx hb dX6_readClause_80 (by decide) ?_
                refine kVi (wr := [aI G yk 24 fk, aI G yf 24 ff, aI G ys 24 fs]) F hK hP53 hD53 hS53 hA hl39.1 (c_X6_number l G tx yl yk yf ys x_52 xl L ((ktok xl L (ktok xl L (ktok xl L E).2).2).1) ((ktok xl L (ktok xl L (ktok xl L E).2).2).2) 1 15 (by subst g52; subst g7; subst g1; exact hL) lL (by subst g52; subst g7; subst g1; rfl) (by subst g52; subst g7; subst g1; rfl) (ktok_le (by first | exact hEL | exact (ktok_le hEL).2 | exact (ktok_le (ktok_le hEL).2).2)).1 (ktok_le (by first | exact hEL | exact (ktok_le hEL).2 | exact (ktok_le (ktok_le hEL).2).2)).2) [3, 4] [0, 1, 2] 6 0 gX6_readClause_X6_number rfl 2 rfl (by decide +kernel) ⟨Nat.le_of_ble_eq_true rfl, Nat.le_of_ble_eq_true rfl⟩ ⟨Nat.zero_le _, Nat.zero_le _⟩ rfl rfl rfl rfl (by decide) (by decide) (by decide) (Nat.le_of_ble_eq_true rfl) rfl dX6_readClause_82 (fun r55 u55 H56 locs56 hw55 (hP56 : va_P G.1 vwCl ([aI G yk 24 fk, aI G yf 24 ff, aI G ys 24 fs, oTx tx yl yk yf ys x_52, aI G yl 200 xl]) H56) (hD56 : va_D A ([aI G yk 24 fk, aI G yf 24 ff, aI G ys 24 fs, oTx tx yl yk yf ys x_52, aI G yl 200 xl])) hS56 => ?_)
                clear hP53 hD53 hS53
                have w55_0 : r55 = knum xl ((ktok xl L (ktok xl L (ktok xl L E).2).2).1) ((ktok xl L (ktok xl L (ktok xl L E).2).2).2) 1 15 := hw55
                have g55 : r55 = kcW xl L E := w55_0.trans (by simp only [kcW, kc3, kc2, c9, c32, c40, c46, c54, ↓reduceIte])
                clear w55_0
                subst g55
                refine lv_istore (lv' := [(4, .int (kcW xl L E)), (3, .int (kcV xl L E)), (2, .int (kcK xl L E)), (0, .ref tx), (1, .int (nI n))]) hx hb dX6_readClause_85 hl39 (by decide) rfl (fun ls57 hl57 => ?_)
                clear hl39
                refine lv_aload_n hx hb dX6_readClause_87 rfl (lv_at hl57 3 rfl) ?_
                refine kget F hK hP56 6 3 2 iX6 rfl rfl (by decide) (List.mem_of_getElem? (i := 1) rfl) rfl dX6_readClause_88 ?_
                refine lv_iload_n hx hb dX6_readClause_91 rfl (lv_at hl57 4 rfl) ?_
                refine lv_iload_n hx hb dX6_readClause_92 rfl (lv_at hl57 2 rfl) ?_
                refine kist F hK hP56 hD56 hS56 0 n (fun zz => [aI G yk 24 zz, aI G yf 24 ff, aI G ys 24 fs, oTx tx yl yk yf ys x_52, aI G yl 200 xl]) rfl rfl hn (Nat.le_of_ble_eq_true rfl) rfl dX6_readClause_93 (fun H58 locs58 fk58 efk58 (hP58 : va_P G.1 vwCl ([aI G yk 24 fk58, aI G yf 24 ff, aI G ys 24 fs, oTx tx yl yk yf ys x_52, aI G yl 200 xl]) H58) (hD58 : va_D A ([aI G yk 24 fk58, aI G yf 24 ff, aI G ys 24 fs, oTx tx yl yk yf ys x_52, aI G yl 200 xl])) hS58 => ?_)
                clear hP56 hD56 hS56
                refine lv_aload_n hx hb dX6_readClause_94 rfl (lv_at hl57 3 rfl) ?_
                refine kget F hK hP58 6 3 3 iX6 rfl rfl (by decide) (List.mem_of_getElem? (i := 2) rfl) rfl dX6_readClause_95 ?_
                refine lv_iload_n hx hb dX6_readClause_98 rfl (lv_at hl57 4 rfl) ?_
                refine lv_iload_n hx hb dX6_readClause_99 rfl (lv_at hl57 1 rfl) ?_
                refine kist F hK hP58 hD58 hS58 1 n (fun zz => [aI G yk 24 fk58, aI G yf 24 zz, aI G ys 24 fs, oTx tx yl yk yf ys x_52, aI G yl 200 xl]) rfl rfl hn (Nat.le_of_ble_eq_true rfl) rfl dX6_readClause_100 (fun H59 locs59 ff59 eff59 (hP59 : va_P G.1 vwCl ([aI G yk 24 fk58, aI G yf 24 ff59, aI G ys 24 fs, oTx tx yl yk yf ys x_52, aI G yl 200 xl]) H59) (hD59 : va_D A ([aI G yk 24 fk58, aI G yf 24 ff59, aI G ys 24 fs, oTx tx yl yk yf ys x_52, aI G yl 200 xl])) hS59 => ?_)
                clear hP58 hD58 hS58
                refine lv_aload_n hx hb dX6_readClause_101 rfl (lv_at hl57 3 rfl) ?_
                refine kget F hK hP59 6 3 4 iX6 rfl rfl (by decide) (List.mem_of_getElem? (i := 3) rfl) rfl dX6_readClause_102 ?_
                refine lv_iload_n hx hb dX6_readClause_105 rfl (lv_at hl57 4 rfl) ?_
                refine lv_iload hx hb dX6_readClause_106 (lv_at hl57 0 rfl) ?_
                refine kist F hK hP59 hD59 hS59 2 n (fun zz => [aI G yk 24 fk58, aI G yf 24 ff59, aI G ys 24 zz, oTx tx yl yk yf ys x_52, aI G yl 200 xl]) rfl rfl hn (Nat.le_of_ble_eq_true rfl) rfl dX6_readClause_108 (fun H60 locs60 fs60 efs60 (hP60 : va_P G.1 vwCl ([aI G yk 24 fk58, aI G yf 24 ff59, aI G ys 24 fs60, oTx tx yl yk yf ys x_52, aI G yl 200 xl]) H60) (hD60 : va_D A ([aI G yk 24 fk58, aI G yf 24 ff59, aI G ys 24 fs60, oTx tx yl yk yf ys x_52, aI G yl 200 xl])) hS60 => ?_)
                clear hP59 hD59 hS59
                refine lv_iload hx hb dX6_readClause_109 (lv_at hl57 0 rfl) ?_
                refine lv_iconst (v := (-1)) hx hb dX6_readClause_111 (by decide) ?_
                refine lv_icmp_eq (tgt := 119) hx hb dX6_readClause_112 (by decide) (fun c61 => ?_) (fun c61 => ?_)
                · refine lv_iconst (v := 0) hx hb dX6_readClause_119 (by decide) ?_
                  have q62 : (0 = kcR xl L E) ∧ (x_52 = kset x (kcT xl L E)) ∧ (fk58 = kcP fk n (kcK xl L E) xl L E) ∧ (ff59 = kcP ff n (kcV xl L E) xl L E) ∧ (fs60 = kcP fs n (kcS xl L E) xl L E) := by
                    subst efs60
                    subst eff59
                    subst efk58
                    subst g52
                    subst g7
                    subst g1
                    have hC : kcC xl L E = false := by simp only [kcC, c40, c46, decide_false, Bool.or_self]
                    and_intros <;> first | (simp only [kcR, kcT, kcP, kcS, kc1, kc2, kc3, hkcA, hkcB, hC, eq_true c61, ↓reduceIte, Bool.false_eq_true]; done) | (simp only [kcR, kcT, kcP, kcS, kc1, kc2, kc3, hkcA, hkcB, hC, eq_true c61, ↓reduceIte, Bool.false_eq_true]; rfl)
                  exact kRz F hr hlocks hS60 dX6_readClause_120 rfl ⟨x_52, fk58, ff59, fs60⟩ q62 (hP60.sub [3, 4, 0, 1, 2] rfl) (hD60.sub [3, 4, 0, 1, 2] (by decide) rfl)
                · refine lv_iconst (v := 1) hx hb dX6_readClause_115 (by decide) ?_
                  refine lv_goto (tgt := 120) hx hb dX6_readClause_116 (by decide) ?_
                  have q63 : (1 = kcR xl L E) ∧ (x_52 = kset x (kcT xl L E)) ∧ (fk58 = kcP fk n (kcK xl L E) xl L E) ∧ (ff59 = kcP ff n (kcV xl L E) xl L E) ∧ (fs60 = kcP fs n (kcS xl L E) xl L E) := by
                    subst efs60
                    subst eff59
                    subst efk58
                    subst g52
                    subst g7
                    subst g1
                    have hC : kcC xl L E = false := by simp only [kcC, c40, c46, decide_false, Bool.or_self]
                    and_intros <;> first | (simp only [kcR, kcT, kcP, kcS, kc1, kc2, kc3, hkcA, hkcB, hC, c61, ↓reduceIte, Bool.false_eq_true]; done) | (simp only [kcR, kcT, kcP, kcS, kc1, kc2, kc3, hkcA, hkcB, hC, c61, ↓reduceIte, Bool.false_eq_true]; rfl)
                  exact kRz F hr hlocks hS60 dX6_readClause_120 rfl ⟨x_52, fk58, ff59, fs60⟩ q63 (hP60.sub [3, 4, 0, 1, 2] rfl) (hD60.sub [3, 4, 0, 1, 2] (by decide) rfl)
              · refine lv_sipush (v := 999) hx hb dX6_readClause_74 (by decide) ?_
                refine lv_goto (tgt := 82) hx hb dX6_readClause_77 (by decide) ?_
                refine kVi (wr := [aI G yk 24 fk, aI G yf 24 ff, aI G ys 24 fs]) F hK hP53 hD53 hS53 hA hl39.1 (c_X6_number l G tx yl yk yf ys x_52 xl L ((ktok xl L (ktok xl L (ktok xl L E).2).2).1) ((ktok xl L (ktok xl L (ktok xl L E).2).2).2) 1 999 (by subst g52; subst g7; subst g1; exact hL) lL (by subst g52; subst g7; subst g1; rfl) (by subst g52; subst g7; subst g1; rfl) (ktok_le (by first | exact hEL | exact (ktok_le hEL).2 | exact (ktok_le (ktok_le hEL).2).2)).1 (ktok_le (by first | exact hEL | exact (ktok_le hEL).2 | exact (ktok_le (ktok_le hEL).2).2)).2) [3, 4] [0, 1, 2] 6 0 gX6_readClause_X6_number rfl 2 rfl (by decide +kernel) ⟨Nat.le_of_ble_eq_true rfl, Nat.le_of_ble_eq_true rfl⟩ ⟨Nat.zero_le _, Nat.zero_le _⟩ rfl rfl rfl rfl (by decide) (by decide) (by decide) (Nat.le_of_ble_eq_true rfl) rfl dX6_readClause_82 (fun r64 u64 H65 locs65 hw64 (hP65 : va_P G.1 vwCl ([aI G yk 24 fk, aI G yf 24 ff, aI G ys 24 fs, oTx tx yl yk yf ys x_52, aI G yl 200 xl]) H65) (hD65 : va_D A ([aI G yk 24 fk, aI G yf 24 ff, aI G ys 24 fs, oTx tx yl yk yf ys x_52, aI G yl 200 xl])) hS65 => ?_)
                clear hP53 hD53 hS53
                have w64_0 : r64 = knum xl ((ktok xl L (ktok xl L (ktok xl L E).2).2).1) ((ktok xl L (ktok xl L (ktok xl L E).2).2).2) 1 999 := hw64
                have g64 : r64 = kcW xl L E := w64_0.trans (by simp only [kcW, kc3, kc2, c9, c32, c40, c46, eq_true c54, ↓reduceIte])
                clear w64_0
                subst g64
                refine lv_istore (lv' := [(4, .int (kcW xl L E)), (3, .int (kcV xl L E)), (2, .int (kcK xl L E)), (0, .ref tx), (1, .int (nI n))]) hx hb dX6_readClause_85 hl39 (by decide) rfl (fun ls66 hl66 => ?_)
                clear hl39
                refine lv_aload_n hx hb dX6_readClause_87 rfl (lv_at hl66 3 rfl) ?_
                refine kget F hK hP65 6 3 2 iX6 rfl rfl (by decide) (List.mem_of_getElem? (i := 1) rfl) rfl dX6_readClause_88 ?_
                refine lv_iload_n hx hb dX6_readClause_91 rfl (lv_at hl66 4 rfl) ?_
                refine lv_iload_n hx hb dX6_readClause_92 rfl (lv_at hl66 2 rfl) ?_
                refine kist F hK hP65 hD65 hS65 0 n (fun zz => [aI G yk 24 zz, aI G yf 24 ff, aI G ys 24 fs, oTx tx yl yk yf ys x_52, aI G yl 200 xl]) rfl rfl hn (Nat.le_of_ble_eq_true rfl) rfl dX6_readClause_93 (fun H67 locs67 fk67 efk67 (hP67 : va_P G.1 vwCl ([aI G yk 24 fk67, aI G yf 24 ff, aI G ys 24 fs, oTx tx yl yk yf ys x_52, aI G yl 200 xl]) H67) (hD67 : va_D A ([aI G yk 24 fk67, aI G yf 24 ff, aI G ys 24 fs, oTx tx yl yk yf ys x_52, aI G yl 200 xl])) hS67 => ?_)
                clear hP65 hD65 hS65
                refine lv_aload_n hx hb dX6_readClause_94 rfl (lv_at hl66 3 rfl) ?_
                refine kget F hK hP67 6 3 3 iX6 rfl rfl (by decide) (List.mem_of_getElem? (i := 2) rfl) rfl dX6_readClause_95 ?_
                refine lv_iload_n hx hb dX6_readClause_98 rfl (lv_at hl66 4 rfl) ?_
                refine lv_iload_n hx hb dX6_readClause_99 rfl (lv_at hl66 1 rfl) ?_
                refine kist F hK hP67 hD67 hS67 1 n (fun zz => [aI G yk 24 fk67, aI G yf 24 zz, aI G ys 24 fs, oTx tx yl yk yf ys x_52, aI G yl 200 xl]) rfl rfl hn (Nat.le_of_ble_eq_true rfl) rfl dX6_readClause_100 (fun H68 locs68 ff68 eff68 (hP68 : va_P G.1 vwCl ([aI G yk 24 fk67, aI G yf 24 ff68, aI G ys 24 fs, oTx tx yl yk yf ys x_52, aI G yl 200 xl]) H68) (hD68 : va_D A ([aI G yk 24 fk67, aI G yf 24 ff68, aI G ys 24 fs, oTx tx yl yk yf ys x_52, aI G yl 200 xl])) hS68 => ?_)
                clear hP67 hD67 hS67
                refine lv_aload_n hx hb dX6_readClause_101 rfl (lv_at hl66 3 rfl) ?_
                refine kget F hK hP68 6 3 4 iX6 rfl rfl (by decide) (List.mem_of_getElem? (i := 3) rfl) rfl dX6_readClause_102 ?_
                refine lv_iload_n hx hb dX6_readClause_105 rfl (lv_at hl66 4 rfl) ?_
                refine lv_iload hx hb dX6_readClause_106 (lv_at hl66 0 rfl) ?_
                refine kist F hK hP68 hD68 hS68 2 n (fun zz => [aI G yk 24 fk67, aI G yf 24 ff68, aI G ys 24 zz, oTx tx yl yk yf ys x_52, aI G yl 200 xl]) rfl rfl hn (Nat.le_of_ble_eq_true rfl) rfl dX6_readClause_108 (fun H69 locs69 fs69 efs69 (hP69 : va_P G.1 vwCl ([aI G yk 24 fk67, aI G yf 24 ff68, aI G ys 24 fs69, oTx tx yl yk yf ys x_52, aI G yl 200 xl]) H69) (hD69 : va_D A ([aI G yk 24 fk67, aI G yf 24 ff68, aI G ys 24 fs69, oTx tx yl yk yf ys x_52, aI G yl 200 xl])) hS69 => ?_)
                clear hP68 hD68 hS68
                refine lv_iload hx hb dX6_readClause_109 (lv_at hl66 0 rfl) ?_
                refine lv_iconst (v := (-1)) hx hb dX6_readClause_111 (by decide) ?_
                refine lv_icmp_eq (tgt := 119) hx hb dX6_readClause_112 (by decide) (fun c70 => ?_) (fun c70 => ?_)
                · refine lv_iconst (v := 0) hx hb dX6_readClause_119 (by decide) ?_
                  have q71 : (0 = kcR xl L E) ∧ (x_52 = kset x (kcT xl L E)) ∧ (fk67 = kcP fk n (kcK xl L E) xl L E) ∧ (ff68 = kcP ff n (kcV xl L E) xl L E) ∧ (fs69 = kcP fs n (kcS xl L E) xl L E) := by
                    subst efs69
                    subst eff68
                    subst efk67
                    subst g52
                    subst g7
                    subst g1
                    have hC : kcC xl L E = false := by simp only [kcC, c40, c46, decide_false, Bool.or_self]
                    and_intros <;> first | (simp only [kcR, kcT, kcP, kcS, kc1, kc2, kc3, hkcA, hkcB, hC, eq_true c70, ↓reduceIte, Bool.false_eq_true]; done) | (simp only [kcR, kcT, kcP, kcS, kc1, kc2, kc3, hkcA, hkcB, hC, eq_true c70, ↓reduceIte, Bool.false_eq_true]; rfl)
                  exact kRz F hr hlocks hS69 dX6_readClause_120 rfl ⟨x_52, fk67, ff68, fs69⟩ q71 (hP69.sub [3, 4, 0, 1, 2] rfl) (hD69.sub [3, 4, 0, 1, 2] (by decide) rfl)
                · refine lv_iconst (v := 1) hx hb dX6_readClause_115 (by decide) ?_
                  refine lv_goto (tgt := 120) hx hb dX6_readClause_116 (by decide) ?_
                  have q72 : (1 = kcR xl L E) ∧ (x_52 = kset x (kcT xl L E)) ∧ (fk67 = kcP fk n (kcK xl L E) xl L E) ∧ (ff68 = kcP ff n (kcV xl L E) xl L E) ∧ (fs69 = kcP fs n (kcS xl L E) xl L E) := by
                    subst efs69
                    subst eff68
                    subst efk67
                    subst g52
                    subst g7
                    subst g1
                    have hC : kcC xl L E = false := by simp only [kcC, c40, c46, decide_false, Bool.or_self]
                    and_intros <;> first | (simp only [kcR, kcT, kcP, kcS, kc1, kc2, kc3, hkcA, hkcB, hC, c70, ↓reduceIte, Bool.false_eq_true]; done) | (simp only [kcR, kcT, kcP, kcS, kc1, kc2, kc3, hkcA, hkcB, hC, c70, ↓reduceIte, Bool.false_eq_true]; rfl)
                  exact kRz F hr hlocks hS69 dX6_readClause_120 rfl ⟨x_52, fk67, ff68, fs69⟩ q72 (hP69.sub [3, 4, 0, 1, 2] rfl) (hD69.sub [3, 4, 0, 1, 2] (by decide) rfl)
        · have hkcB : kcB xl L E = true := decide_eq_true c38
          refine lv_iconst (v := 0) hx hb dX6_readClause_48 (by decide) ?_
          have q73 : (0 = kcR xl L E) ∧ (x_7 = kset x (kcT xl L E)) ∧ (fk = kcP fk n (kcK xl L E) xl L E) ∧ (ff = kcP ff n (kcV xl L E) xl L E) ∧ (fs = kcP fs n (kcS xl L E) xl L E) := by
            subst g7
            subst g1
            and_intros <;> first | (simp only [kcR, kcT, kcP, kcS, kc1, kc2, kc3, hkcA, hkcB, ↓reduceIte, Bool.false_eq_true]; done) | (simp only [kcR, kcT, kcP, kcS, kc1, kc2, kc3, hkcA, hkcB, ↓reduceIte, Bool.false_eq_true]; rfl)
          exact kRz F hr hlocks hS36 dX6_readClause_49 rfl ⟨x_7, fk, ff, fs⟩ q73 (hP36.sub [3, 4, 0, 1, 2] rfl) (hD36.sub [3, 4, 0, 1, 2] (by decide) rfl)
      · refine lv_iconst (v := 1) hx hb dX6_readClause_30 (by decide) ?_
        refine lv_goto (tgt := 35) hx hb dX6_readClause_31 (by decide) ?_
        refine lv_iload_n hx hb dX6_readClause_35 rfl (lv_at hl5 0 rfl) ?_
        refine kPSi F hK hP8 hD8 hS8 hA hl5.1 (c_X6_mostFirst l G (kcK xl L E)) (fun _ => rfl) gX6_readClause_X6_mostFirst rfl 1 rfl (by decide +kernel) ⟨Nat.le_of_ble_eq_true rfl, Nat.le_of_ble_eq_true rfl⟩ ⟨Nat.zero_le _, Nat.zero_le _⟩ (Nat.le_of_ble_eq_true rfl) rfl dX6_readClause_36 (fun r74 u74 H75 locs75 hw74 (hP75 : va_P G.1 vwCl ([aI G yk 24 fk, aI G yf 24 ff, aI G ys 24 fs, oTx tx yl yk yf ys x_7, aI G yl 200 xl]) H75) (hD75 : va_D A ([aI G yk 24 fk, aI G yf 24 ff, aI G ys 24 fs, oTx tx yl yk yf ys x_7, aI G yl 200 xl])) hS75 => ?_)
        clear hP8 hD8 hS8
        have w74_0 : r74 = kmost (kcK xl L E) := hw74
        have g74 : r74 = (kmost (kcK xl L E)) := w74_0
        clear w74_0
        subst g74
        refine kVi (wr := [aI G yk 24 fk, aI G yf 24 ff, aI G ys 24 fs]) F hK hP75 hD75 hS75 hA hl5.1 (c_X6_number l G tx yl yk yf ys x_7 xl L ((ktok xl L (ktok xl L E).2).1) ((ktok xl L (ktok xl L E).2).2) 1 (kmost (kcK xl L E)) (by subst g7; subst g1; exact hL) lL (by subst g7; subst g1; rfl) (by subst g7; subst g1; rfl) (ktok_le (by first | exact hEL | exact (ktok_le hEL).2 | exact (ktok_le (ktok_le hEL).2).2)).1 (ktok_le (by first | exact hEL | exact (ktok_le hEL).2 | exact (ktok_le (ktok_le hEL).2).2)).2) [3, 4] [0, 1, 2] 6 0 gX6_readClause_X6_number rfl 2 rfl (by decide +kernel) ⟨Nat.le_of_ble_eq_true rfl, Nat.le_of_ble_eq_true rfl⟩ ⟨Nat.zero_le _, Nat.zero_le _⟩ rfl rfl rfl rfl (by decide) (by decide) (by decide) (Nat.le_of_ble_eq_true rfl) rfl dX6_readClause_39 (fun r76 u76 H77 locs77 hw76 (hP77 : va_P G.1 vwCl ([aI G yk 24 fk, aI G yf 24 ff, aI G ys 24 fs, oTx tx yl yk yf ys x_7, aI G yl 200 xl]) H77) (hD77 : va_D A ([aI G yk 24 fk, aI G yf 24 ff, aI G ys 24 fs, oTx tx yl yk yf ys x_7, aI G yl 200 xl])) hS77 => ?_)
        clear hP75 hD75 hS75
        have w76_0 : r76 = knum xl ((ktok xl L (ktok xl L E).2).1) ((ktok xl L (ktok xl L E).2).2) 1 (kmost (kcK xl L E)) := hw76
        have g76 : r76 = kcV xl L E := w76_0.trans (by simp only [kcV, kc2, c9, eq_true c32, ↓reduceIte])
        clear w76_0
        subst g76
        refine lv_istore_n (lv' := [(3, .int (kcV xl L E)), (2, .int (kcK xl L E)), (0, .ref tx), (1, .int (nI n))]) hx hb dX6_readClause_42 rfl hl5 (by decide) rfl (fun ls78 hl78 => ?_)
        clear hl5
        refine lv_iload_n hx hb dX6_readClause_43 rfl (lv_at hl78 0 rfl) ?_
        refine lv_iconst (v := (-1)) hx hb dX6_readClause_44 (by decide) ?_
        refine lv_icmp_ne (tgt := 50) hx hb dX6_readClause_45 (by decide) (fun c79 => ?_) (fun c79 => ?_)
        · have hkcB : kcB xl L E = false := decide_eq_false c79
          refine lv_iconst (v := 0) hx hb dX6_readClause_50 (by decide) ?_
          refine lv_istore (lv' := [(4, .int 0), (3, .int (kcV xl L E)), (2, .int (kcK xl L E)), (0, .ref tx), (1, .int (nI n))]) hx hb dX6_readClause_51 hl78 (by decide) rfl (fun ls80 hl80 => ?_)
          clear hl78
          refine lv_iload_n hx hb dX6_readClause_53 rfl (lv_at hl80 2 rfl) ?_
          refine lv_iconst (v := 3) hx hb dX6_readClause_54 (by decide) ?_
          refine lv_icmp_eq (tgt := 87) hx hb dX6_readClause_55 (by decide) (fun c81 => ?_) (fun c81 => ?_)
          · exact absurd (c32.symm.trans c81) (by decide)
          · refine lv_iload_n hx hb dX6_readClause_58 rfl (lv_at hl80 2 rfl) ?_
            refine lv_iconst (v := 4) hx hb dX6_readClause_59 (by decide) ?_
            refine lv_icmp_eq (tgt := 87) hx hb dX6_readClause_60 (by decide) (fun c82 => ?_) (fun c82 => ?_)
            · exact absurd (c32.symm.trans c82) (by decide)
            · refine lv_aload_n hx hb dX6_readClause_63 rfl (lv_at hl80 3 rfl) ?_
              refine kVv (wr := [aI G yk 24 fk, aI G yf 24 ff, aI G ys 24 fs]) F hK hP77 hD77 hS77 hA hl80.1 (c_X6_nextToken l G tx yl yk yf ys x_7 xl L ((ktok xl L (ktok xl L E).2).2) (by subst g7; subst g1; exact hL) lL (by subst g7; subst g1; first | exact hE | rfl) (by first | exact hEL | exact (ktok_le hEL).2 | exact (ktok_le (ktok_le hEL).2).2)) [3, 4] [0, 1, 2] 6 0 gX6_readClause_X6_nextToken rfl 0 rfl (by decide +kernel) ⟨Nat.le_of_ble_eq_true rfl, Nat.le_of_ble_eq_true rfl⟩ ⟨Nat.zero_le _, Nat.zero_le _⟩ rfl rfl rfl rfl (by decide) (by decide) (by decide) (Nat.le_of_ble_eq_true rfl) rfl dX6_readClause_64 (fun x_83 H84 locs84 hw83 (hP84 : va_P G.1 vwCl ([aI G yk 24 fk, aI G yf 24 ff, aI G ys 24 fs, oTx tx yl yk yf ys x_83, aI G yl 200 xl]) H84) (hD84 : va_D A ([aI G yk 24 fk, aI G yf 24 ff, aI G ys 24 fs, oTx tx yl yk yf ys x_83, aI G yl 200 xl])) hS84 => ?_)
              clear hP77 hD77 hS77
              have w83_0 : x_83 = upd (upd x_7 6 (nI (ktok xl L ((ktok xl L (ktok xl L E).2).2)).1)) 7 (nI (ktok xl L ((ktok xl L (ktok xl L E).2).2)).2) := hw83
              have g83 : x_83 = kset x (ktok xl L (ktok xl L (ktok xl L E).2).2) := w83_0.trans (by rw [g7]; exact kset_set _ _ _)
              clear w83_0
              refine lv_aload_n hx hb dX6_readClause_67 rfl (lv_at hl80 3 rfl) ?_
              refine lv_iconst (v := 1) hx hb dX6_readClause_68 (by decide) ?_
              refine lv_iload_n hx hb dX6_readClause_69 rfl (lv_at hl80 2 rfl) ?_
              refine lv_iconst (v := 2) hx hb dX6_readClause_70 (by decide) ?_
              refine lv_icmp_ne (tgt := 80) hx hb dX6_readClause_71 (by decide) (fun c85 => ?_) (fun c85 => ?_)
              · refine lv_bipush (v := 15) hx hb dX6_readClause_80 (by decide) ?_
                refine kVi (wr := [aI G yk 24 fk, aI G yf 24 ff, aI G ys 24 fs]) F hK hP84 hD84 hS84 hA hl80.1 (c_X6_number l G tx yl yk yf ys x_83 xl L ((ktok xl L (ktok xl L (ktok xl L E).2).2).1) ((ktok xl L (ktok xl L (ktok xl L E).2).2).2) 1 15 (by subst g83; subst g7; subst g1; exact hL) lL (by subst g83; subst g7; subst g1; rfl) (by subst g83; subst g7; subst g1; rfl) (ktok_le (by first | exact hEL | exact (ktok_le hEL).2 | exact (ktok_le (ktok_le hEL).2).2)).1 (ktok_le (by first | exact hEL | exact (ktok_le hEL).2 | exact (ktok_le (ktok_le hEL).2).2)).2) [3, 4] [0, 1, 2] 6 0 gX6_readClause_X6_number rfl 2 rfl (by decide +kernel) ⟨Nat.le_of_ble_eq_true rfl, Nat.le_of_ble_eq_true rfl⟩ ⟨Nat.zero_le _, Nat.zero_le _⟩ rfl rfl rfl rfl (by decide) (by decide) (by decide) (Nat.le_of_ble_eq_true rfl) rfl dX6_readClause_82 (fun r86 u86 H87 locs87 hw86 (hP87 : va_P G.1 vwCl ([aI G yk 24 fk, aI G yf 24 ff, aI G ys 24 fs, oTx tx yl yk yf ys x_83, aI G yl 200 xl]) H87) (hD87 : va_D A ([aI G yk 24 fk, aI G yf 24 ff, aI G ys 24 fs, oTx tx yl yk yf ys x_83, aI G yl 200 xl])) hS87 => ?_)
                clear hP84 hD84 hS84
                have w86_0 : r86 = knum xl ((ktok xl L (ktok xl L (ktok xl L E).2).2).1) ((ktok xl L (ktok xl L (ktok xl L E).2).2).2) 1 15 := hw86
                have g86 : r86 = kcW xl L E := w86_0.trans (by simp only [kcW, kc3, kc2, c9, eq_true c32, c81, c82, c85, ↓reduceIte])
                clear w86_0
                subst g86
                refine lv_istore (lv' := [(4, .int (kcW xl L E)), (3, .int (kcV xl L E)), (2, .int (kcK xl L E)), (0, .ref tx), (1, .int (nI n))]) hx hb dX6_readClause_85 hl80 (by decide) rfl (fun ls88 hl88 => ?_)
                clear hl80
                refine lv_aload_n hx hb dX6_readClause_87 rfl (lv_at hl88 3 rfl) ?_
                refine kget F hK hP87 6 3 2 iX6 rfl rfl (by decide) (List.mem_of_getElem? (i := 1) rfl) rfl dX6_readClause_88 ?_
                refine lv_iload_n hx hb dX6_readClause_91 rfl (lv_at hl88 4 rfl) ?_
                refine lv_iload_n hx hb dX6_readClause_92 rfl (lv_at hl88 2 rfl) ?_
                refine kist F hK hP87 hD87 hS87 0 n (fun zz => [aI G yk 24 zz, aI G yf 24 ff, aI G ys 24 fs, oTx tx yl yk yf ys x_83, aI G yl 200 xl]) rfl rfl hn (Nat.le_of_ble_eq_true rfl) rfl dX6_readClause_93 (fun H89 locs89 fk89 efk89 (hP89 : va_P G.1 vwCl ([aI G yk 24 fk89, aI G yf 24 ff, aI G ys 24 fs, oTx tx yl yk yf ys x_83, aI G yl 200 xl]) H89) (hD89 : va_D A ([aI G yk 24 fk89, aI G yf 24 ff, aI G ys 24 fs, oTx tx yl yk yf ys x_83, aI G yl 200 xl])) hS89 => ?_)
                clear hP87 hD87 hS87
                refine lv_aload_n hx hb dX6_readClause_94 rfl (lv_at hl88 3 rfl) ?_
                refine kget F hK hP89 6 3 3 iX6 rfl rfl (by decide) (List.mem_of_getElem? (i := 2) rfl) rfl dX6_readClause_95 ?_
                refine lv_iload_n hx hb dX6_readClause_98 rfl (lv_at hl88 4 rfl) ?_
                refine lv_iload_n hx hb dX6_readClause_99 rfl (lv_at hl88 1 rfl) ?_
                refine kist F hK hP89 hD89 hS89 1 n (fun zz => [aI G yk 24 fk89, aI G yf 24 zz, aI G ys 24 fs, oTx tx yl yk yf ys x_83, aI G yl 200 xl]) rfl rfl hn (Nat.le_of_ble_eq_true rfl) rfl dX6_readClause_100 (fun H90 locs90 ff90 eff90 (hP90 : va_P G.1 vwCl ([aI G yk 24 fk89, aI G yf 24 ff90, aI G ys 24 fs, oTx tx yl yk yf ys x_83, aI G yl 200 xl]) H90) (hD90 : va_D A ([aI G yk 24 fk89, aI G yf 24 ff90, aI G ys 24 fs, oTx tx yl yk yf ys x_83, aI G yl 200 xl])) hS90 => ?_)
                clear hP89 hD89 hS89
                refine lv_aload_n hx hb dX6_readClause_101 rfl (lv_at hl88 3 rfl) ?_
                refine kget F hK hP90 6 3 4 iX6 rfl rfl (by decide) (List.mem_of_getElem? (i := 3) rfl) rfl dX6_readClause_102 ?_
                refine lv_iload_n hx hb dX6_readClause_105 rfl (lv_at hl88 4 rfl) ?_
                refine lv_iload hx hb dX6_readClause_106 (lv_at hl88 0 rfl) ?_
                refine kist F hK hP90 hD90 hS90 2 n (fun zz => [aI G yk 24 fk89, aI G yf 24 ff90, aI G ys 24 zz, oTx tx yl yk yf ys x_83, aI G yl 200 xl]) rfl rfl hn (Nat.le_of_ble_eq_true rfl) rfl dX6_readClause_108 (fun H91 locs91 fs91 efs91 (hP91 : va_P G.1 vwCl ([aI G yk 24 fk89, aI G yf 24 ff90, aI G ys 24 fs91, oTx tx yl yk yf ys x_83, aI G yl 200 xl]) H91) (hD91 : va_D A ([aI G yk 24 fk89, aI G yf 24 ff90, aI G ys 24 fs91, oTx tx yl yk yf ys x_83, aI G yl 200 xl])) hS91 => ?_)
                clear hP90 hD90 hS90
                refine lv_iload hx hb dX6_readClause_109 (lv_at hl88 0 rfl) ?_
                refine lv_iconst (v := (-1)) hx hb dX6_readClause_111 (by decide) ?_
                refine lv_icmp_eq (tgt := 119) hx hb dX6_readClause_112 (by decide) (fun c92 => ?_) (fun c92 => ?_)
                · refine lv_iconst (v := 0) hx hb dX6_readClause_119 (by decide) ?_
                  have q93 : (0 = kcR xl L E) ∧ (x_83 = kset x (kcT xl L E)) ∧ (fk89 = kcP fk n (kcK xl L E) xl L E) ∧ (ff90 = kcP ff n (kcV xl L E) xl L E) ∧ (fs91 = kcP fs n (kcS xl L E) xl L E) := by
                    subst efs91
                    subst eff90
                    subst efk89
                    subst g83
                    subst g7
                    subst g1
                    have hC : kcC xl L E = false := by simp only [kcC, c81, c82, decide_false, Bool.or_self]
                    and_intros <;> first | (simp only [kcR, kcT, kcP, kcS, kc1, kc2, kc3, hkcA, hkcB, hC, eq_true c92, ↓reduceIte, Bool.false_eq_true]; done) | (simp only [kcR, kcT, kcP, kcS, kc1, kc2, kc3, hkcA, hkcB, hC, eq_true c92, ↓reduceIte, Bool.false_eq_true]; rfl)
                  exact kRz F hr hlocks hS91 dX6_readClause_120 rfl ⟨x_83, fk89, ff90, fs91⟩ q93 (hP91.sub [3, 4, 0, 1, 2] rfl) (hD91.sub [3, 4, 0, 1, 2] (by decide) rfl)
                · refine lv_iconst (v := 1) hx hb dX6_readClause_115 (by decide) ?_
                  refine lv_goto (tgt := 120) hx hb dX6_readClause_116 (by decide) ?_
                  have q94 : (1 = kcR xl L E) ∧ (x_83 = kset x (kcT xl L E)) ∧ (fk89 = kcP fk n (kcK xl L E) xl L E) ∧ (ff90 = kcP ff n (kcV xl L E) xl L E) ∧ (fs91 = kcP fs n (kcS xl L E) xl L E) := by
                    subst efs91
                    subst eff90
                    subst efk89
                    subst g83
                    subst g7
                    subst g1
                    have hC : kcC xl L E = false := by simp only [kcC, c81, c82, decide_false, Bool.or_self]
                    and_intros <;> first | (simp only [kcR, kcT, kcP, kcS, kc1, kc2, kc3, hkcA, hkcB, hC, c92, ↓reduceIte, Bool.false_eq_true]; done) | (simp only [kcR, kcT, kcP, kcS, kc1, kc2, kc3, hkcA, hkcB, hC, c92, ↓reduceIte, Bool.false_eq_true]; rfl)
                  exact kRz F hr hlocks hS91 dX6_readClause_120 rfl ⟨x_83, fk89, ff90, fs91⟩ q94 (hP91.sub [3, 4, 0, 1, 2] rfl) (hD91.sub [3, 4, 0, 1, 2] (by decide) rfl)
              · exact absurd (c32.symm.trans c85) (by decide)
        · have hkcB : kcB xl L E = true := decide_eq_true c79
          refine lv_iconst (v := 0) hx hb dX6_readClause_48 (by decide) ?_
          have q95 : (0 = kcR xl L E) ∧ (x_7 = kset x (kcT xl L E)) ∧ (fk = kcP fk n (kcK xl L E) xl L E) ∧ (ff = kcP ff n (kcV xl L E) xl L E) ∧ (fs = kcP fs n (kcS xl L E) xl L E) := by
            subst g7
            subst g1
            and_intros <;> first | (simp only [kcR, kcT, kcP, kcS, kc1, kc2, kc3, hkcA, hkcB, ↓reduceIte, Bool.false_eq_true]; done) | (simp only [kcR, kcT, kcP, kcS, kc1, kc2, kc3, hkcA, hkcB, ↓reduceIte, Bool.false_eq_true]; rfl)
          exact kRz F hr hlocks hS77 dX6_readClause_49 rfl ⟨x_7, fk, ff, fs⟩ q95 (hP77.sub [3, 4, 0, 1, 2] rfl) (hD77.sub [3, 4, 0, 1, 2] (by decide) rfl)
  · have hkcA : kcA xl L E = true := decide_eq_true c6
    refine lv_iconst (v := 0) hx hb dX6_readClause_14 (by decide) ?_
    have q96 : (0 = kcR xl L E) ∧ (x_1 = kset x (kcT xl L E)) ∧ (fk = kcP fk n (kcK xl L E) xl L E) ∧ (ff = kcP ff n (kcV xl L E) xl L E) ∧ (fs = kcP fs n (kcS xl L E) xl L E) := by
      subst g1
      and_intros <;> first | (simp only [kcR, kcT, kcP, kcS, kc1, kc2, kc3, hkcA, ↓reduceIte, Bool.false_eq_true]; done) | (simp only [kcR, kcT, kcP, kcS, kc1, kc2, kc3, hkcA, ↓reduceIte, Bool.false_eq_true]; rfl)
    exact kRz F hr hlocks hS4 dX6_readClause_15 rfl ⟨x_1, fk, ff, fs⟩ q96 (hP4.sub [3, 4, 0, 1, 2] rfl) (hD4.sub [3, 4, 0, 1, 2] (by decide) rfl)
