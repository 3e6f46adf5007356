set_option maxHeartbeats 1000000 in
set_option maxRecDepth 100000 in
theorem c_X6_isSmall (l : Launch) (G : kG) (v : Int32) : kM G l yX6_isSmall wsX6_isSmall ({ frames := 0, cells := 0, slots := 0, locals := 0 }) [.int v] ([]) (kQi G (fun (rr : Int32) (uu : Unit) => rr = ksmall v) (fun (uu : Unit) => [])) := by
  refine kStart (cc := cX6_isSmall) (maxL := 1) (ret := (some .boolean)) (by decide) rfl (Nat.le_of_ble_eq_true rfl) (fun pg ev st mi bl mt cd A ls0 F hr hlocks hin hK hP0 hD0 hA hS0 hl0 => ?_)
  obtain ⟨hx, hb, hml, hown, hts⟩ := id F
  have hl0 : lv_has ls0 1 [(0, .int v)] := hl0
  refine lv_iload_n hx hb dX6_isSmall_0 rfl (lv_at hl0 0 rfl) ?_
  refine lv_bipush (v := 97) hx hb dX6_isSmall_1 (by decide) ?_
  refine lv_icmp_lt (tgt := 16) hx hb dX6_isSmall_3 (by decide) (fun c1 => ?_) (fun c1 => ?_)
  · refine lv_iconst (v := 0) hx hb dX6_isSmall_16 (by decide) ?_
    have q2 : 0 = ksmall v := by
      first | (simp only [ksmall, c1, ↓reduceIte]; done) | (simp [ksmall, c1]; done) | rfl
    exact kRz F hr hlocks hS0 dX6_isSmall_17 rfl () q2 hP0 hD0
  · refine lv_iload_n hx hb dX6_isSmall_6 rfl (lv_at hl0 0 rfl) ?_
    refine lv_bipush (v := 122) hx hb dX6_isSmall_7 (by decide) ?_
    refine lv_icmp_gt (tgt := 16) hx hb dX6_isSmall_9 (by decide) (fun c3 => ?_) (fun c3 => ?_)
    · refine lv_iconst (v := 0) hx hb dX6_isSmall_16 (by decide) ?_
      have q4 : 0 = ksmall v := by
        first | (simp only [ksmall, c1, c3, ↓reduceIte]; done) | (simp [ksmall, c1, c3]; done) | rfl
      exact kRz F hr hlocks hS0 dX6_isSmall_17 rfl () q4 hP0 hD0
    · refine lv_iconst (v := 1) hx hb dX6_isSmall_12 (by decide) ?_
      refine lv_goto (tgt := 17) hx hb dX6_isSmall_13 (by decide) ?_
      have q5 : 1 = ksmall v := by
        first | (simp only [ksmall, c1, c3, ↓reduceIte]; done) | (simp [ksmall, c1, c3]; done) | rfl
      exact kRz F hr hlocks hS0 dX6_isSmall_17 rfl () q5 hP0 hD0
set_option maxHeartbeats 1000000 in
set_option maxRecDepth 100000 in
theorem c_X6_isDigit (l : Launch) (G : kG) (v : Int32) : kM G l yX6_isDigit wsX6_isDigit ({ frames := 0, cells := 0, slots := 0, locals := 0 }) [.int v] ([]) (kQi G (fun (rr : Int32) (uu : Unit) => rr = kdigit v) (fun (uu : Unit) => [])) := by
  refine kStart (cc := cX6_isDigit) (maxL := 1) (ret := (some .boolean)) (by decide) rfl (Nat.le_of_ble_eq_true rfl) (fun pg ev st mi bl mt cd A ls0 F hr hlocks hin hK hP0 hD0 hA hS0 hl0 => ?_)
  obtain ⟨hx, hb, hml, hown, hts⟩ := id F
  have hl0 : lv_has ls0 1 [(0, .int v)] := hl0
  refine lv_iload_n hx hb dX6_isDigit_0 rfl (lv_at hl0 0 rfl) ?_
  refine lv_bipush (v := 48) hx hb dX6_isDigit_1 (by decide) ?_
  refine lv_icmp_lt (tgt := 16) hx hb dX6_isDigit_3 (by decide) (fun c1 => ?_) (fun c1 => ?_)
  · refine lv_iconst (v := 0) hx hb dX6_isDigit_16 (by decide) ?_
    have q2 : 0 = kdigit v := by
      first | (simp only [kdigit, c1, ↓reduceIte]; done) | (simp [kdigit, c1]; done) | rfl
    exact kRz F hr hlocks hS0 dX6_isDigit_17 rfl () q2 hP0 hD0
  · refine lv_iload_n hx hb dX6_isDigit_6 rfl (lv_at hl0 0 rfl) ?_
    refine lv_bipush (v := 57) hx hb dX6_isDigit_7 (by decide) ?_
    refine lv_icmp_gt (tgt := 16) hx hb dX6_isDigit_9 (by decide) (fun c3 => ?_) (fun c3 => ?_)
    · refine lv_iconst (v := 0) hx hb dX6_isDigit_16 (by decide) ?_
      have q4 : 0 = kdigit v := by
        first | (simp only [kdigit, c1, c3, ↓reduceIte]; done) | (simp [kdigit, c1, c3]; done) | rfl
      exact kRz F hr hlocks hS0 dX6_isDigit_17 rfl () q4 hP0 hD0
    · refine lv_iconst (v := 1) hx hb dX6_isDigit_12 (by decide) ?_
      refine lv_goto (tgt := 17) hx hb dX6_isDigit_13 (by decide) ?_
      have q5 : 1 = kdigit v := by
        first | (simp only [kdigit, c1, c3, ↓reduceIte]; done) | (simp [kdigit, c1, c3]; done) | rfl
      exact kRz F hr hlocks hS0 dX6_isDigit_17 rfl () q5 hP0 hD0
set_option maxHeartbeats 1000000 in
set_option maxRecDepth 100000 in
theorem c_X6_addA (l : Launch) (G : kG) (tx : Nat) (yl : Nat) (yk : Nat) (yf : Nat) (ys : Nat) (x : Nat → Int32) (xl : Nat → Int32) (v : Int32) (L : Nat) (hL : x 1 = nI L) (lL : L < 200) : kM G l yX6_add wsX6_add ({ frames := 0, cells := 0, slots := 0, locals := 0 }) [.ref tx, .int v] ([oTx tx yl yk yf ys x, aI G yl 200 xl]) (kQi G (fun (rr : Int32) (uu : (Nat → Int32) × (Nat → Int32)) => (rr = (1 : Int32)) ∧ (uu.1 = upd x 1 (x 1 + 1)) ∧ (uu.2 = upd xl L v)) (fun (uu : (Nat → Int32) × (Nat → Int32)) => [oTx tx yl yk yf ys uu.1, aI G yl 200 uu.2])) := by
  refine kStart (cc := cX6_add) (maxL := 2) (ret := (some .boolean)) (by decide) rfl (Nat.le_of_ble_eq_true rfl) (fun pg ev st mi bl mt cd A ls0 F hr hlocks hin hK hP0 hD0 hA hS0 hl0 => ?_)
  obtain ⟨hx, hb, hml, hown, hts⟩ := id F
  have hl0 : lv_has ls0 2 [(0, .ref tx), (1, .int v)] := hl0
  have iX6 : ∀ w ∈ u_ws RX6 TX6 8, w ∈ wsX6_add := fun w h => List.mem_cons_of_mem _ (List.mem_append_right _ h)
  refine lv_aload_n hx hb dX6_add_0 rfl (lv_at hl0 0 rfl) ?_
  refine kget F hK hP0 6 0 1 iX6 rfl rfl (by decide) (List.mem_of_getElem? (i := 1) rfl) rfl dX6_add_1 ?_
  refine lv_sipush (v := 200) hx hb dX6_add_4 (by decide) ?_
  refine lv_icmp_lt (tgt := 12) hx hb dX6_add_7 (by decide) (fun c1 => ?_) (fun c1 => ?_)
  · refine lv_aload_n hx hb dX6_add_12 rfl (lv_at hl0 0 rfl) ?_
    refine kget F hK hP0 6 0 0 iX6 rfl rfl (by decide) (List.mem_of_getElem? (i := 2) rfl) rfl dX6_add_13 ?_
    refine lv_aload_n hx hb dX6_add_16 rfl (lv_at hl0 0 rfl) ?_
    refine kget F hK hP0 6 0 1 iX6 rfl rfl (by decide) (List.mem_of_getElem? (i := 1) rfl) rfl dX6_add_17 ?_
    refine lv_iload_n hx hb dX6_add_20 rfl (lv_at hl0 1 rfl) ?_
    refine kist F hK hP0 hD0 hS0 1 L (fun zz => [oTx tx yl yk yf ys x, aI G yl 200 zz]) rfl hL lL (Nat.le_of_ble_eq_true rfl) rfl dX6_add_21 (fun H2 locs2 xl2 exl2 (hP2 : va_P G.1 vwCl ([oTx tx yl yk yf ys x, aI G yl 200 xl2]) H2) (hD2 : va_D A ([oTx tx yl yk yf ys x, aI G yl 200 xl2])) hS2 => ?_)
    clear hP0 hD0 hS0
    refine lv_aload_n hx hb dX6_add_22 rfl (lv_at hl0 0 rfl) ?_
    refine lv_dup hx hb dX6_add_23 rfl ?_
    refine kget F hK hP2 6 0 1 iX6 rfl rfl (by decide) (List.mem_of_getElem? (i := 1) rfl) rfl dX6_add_24 ?_
    refine lv_iconst (v := 1) hx hb dX6_add_27 (by decide) ?_
    refine lv_iadd hx hb dX6_add_28 ?_
    refine kput F hK hP2 hD2 hS2 (ty0 := tyX6) 6 0 1 iX6 rfl tyX6_ok nmX6 (fun zz => [oTx tx yl yk yf ys zz, aI G yl 200 xl2]) x rfl (by decide) (List.mem_of_getElem? (i := 1) rfl) rfl rfl rfl (Nat.le_of_ble_eq_true rfl) rfl dX6_add_29 (fun H3 locs3 x3 ex3 (hP3 : va_P G.1 vwCl ([oTx tx yl yk yf ys x3, aI G yl 200 xl2]) H3) (hD3 : va_D A ([oTx tx yl yk yf ys x3, aI G yl 200 xl2])) hS3 => ?_)
    clear hP2 hD2 hS2
    refine lv_iconst (v := 1) hx hb dX6_add_32 (by decide) ?_
    have q4 : (1 = (1 : Int32)) ∧ (x3 = upd x 1 (x 1 + 1)) ∧ (xl2 = upd xl L v) := by
      subst ex3
      subst exl2
      first | (simp only [eq_true c1, eq_self, ↓reduceIte, and_self, and_true, true_and]; done) | (simp only [eq_true c1, eq_self, ↓reduceIte, and_self, and_true, true_and]; (try and_intros) <;> rfl) | exact ⟨rfl, rfl, rfl⟩
    exact kRz F hr hlocks hS3 dX6_add_33 rfl ⟨x3, xl2⟩ q4 hP3 hD3
  · exact absurd (by rw [hL]; exact (nI_ltI (a := L) (b := 200) (by omega) (by omega)).mpr lL) c1
set_option maxHeartbeats 1000000 in
set_option maxRecDepth 100000 in
theorem c_X6_addB (l : Launch) (G : kG) (tx : Nat) (yl : Nat) (yk : Nat) (yf : Nat) (ys : Nat) (x : Nat → Int32) (xl : Nat → Int32) (v : Int32) (hL : x 1 = 200) : kM G l yX6_add wsX6_add ({ frames := 0, cells := 0, slots := 0, locals := 0 }) [.ref tx, .int v] ([oTx tx yl yk yf ys x, aI G yl 200 xl]) (kQi G (fun (rr : Int32) (uu : Unit) => rr = (0 : Int32)) (fun (uu : Unit) => [oTx tx yl yk yf ys x, aI G yl 200 xl])) := by
  refine kStart (cc := cX6_add) (maxL := 2) (ret := (some .boolean)) (by decide) rfl (Nat.le_of_ble_eq_true rfl) (fun pg ev st mi bl mt cd A ls0 F hr hlocks hin hK hP0 hD0 hA hS0 hl0 => ?_)
  obtain ⟨hx, hb, hml, hown, hts⟩ := id F
  have hl0 : lv_has ls0 2 [(0, .ref tx), (1, .int v)] := hl0
  have iX6 : ∀ w ∈ u_ws RX6 TX6 8, w ∈ wsX6_add := fun w h => List.mem_cons_of_mem _ (List.mem_append_right _ h)
  refine lv_aload_n hx hb dX6_add_0 rfl (lv_at hl0 0 rfl) ?_
  refine kget F hK hP0 6 0 1 iX6 rfl rfl (by decide) (List.mem_of_getElem? (i := 1) rfl) rfl dX6_add_1 ?_
  refine lv_sipush (v := 200) hx hb dX6_add_4 (by decide) ?_
  refine lv_icmp_lt (tgt := 12) hx hb dX6_add_7 (by decide) (fun c1 => ?_) (fun c1 => ?_)
  · exact absurd c1 (by rw [hL]; decide)
  · refine lv_iconst (v := 0) hx hb dX6_add_10 (by decide) ?_
    have q2 : 0 = (0 : Int32) := by
      first | (simp only [c1, eq_self, ↓reduceIte, and_self, and_true, true_and]; done) | (simp only [c1, eq_self, ↓reduceIte, and_self, and_true, true_and]; (try and_intros) <;> rfl) | exact rfl
    exact kRz F hr hlocks hS0 dX6_add_11 rfl () q2 hP0 hD0
set_option maxHeartbeats 1000000 in
set_option maxRecDepth 100000 in
theorem c_X8_typeA (l : Launch) (G : kG) (h : Nat) (cl : Nat) (se : Nat) (rc : Nat) (rs : Nat) (ar : Nat) (co : Nat) (cz : Nat) (tx : Nat) (nw : Nat → Int32) (yl : Nat) (yk : Nat) (yf : Nat) (ys : Nat) (x : Nat → Int32) (xl : Nat → Int32) (v : Int32) (L : Nat) (hL : x 1 = nI L) (lL : L < 200) : kM G l yX8_type wsX8_type ({ frames := 1, cells := 0, slots := 0, locals := 21 }) [.ref h, .int v] ([oTo h cl se rc rs ar co cz tx nw, oTx tx yl yk yf ys x, aI G yl 200 xl]) (kQi G (fun (rr : Int32) (uu : (Nat → Int32) × (Nat → Int32)) => (rr = (ktypeA L x xl v).1) ∧ (uu.1 = (ktypeA L x xl v).2.1) ∧ (uu.2 = (ktypeA L x xl v).2.2)) (fun (uu : (Nat → Int32) × (Nat → Int32)) => [oTo h cl se rc rs ar co cz tx nw, oTx tx yl yk yf ys uu.1, aI G yl 200 uu.2])) := by
  refine kStart (cc := cX8_type) (maxL := 2) (ret := (some .int)) (by decide) rfl (Nat.le_of_ble_eq_true rfl) (fun pg ev st mi bl mt cd A ls0 F hr hlocks hin hK hP0 hD0 hA hS0 hl0 => ?_)
  obtain ⟨hx, hb, hml, hown, hts⟩ := id F
  have hl0 : lv_has ls0 2 [(0, .ref h), (1, .int v)] := hl0
  have iX6 : ∀ w ∈ u_ws RX6 TX6 8, w ∈ wsX8_type := fun w h => List.mem_cons_of_mem _ (List.mem_append_right _ h)
  have iX8 : ∀ w ∈ u_ws RX8 TX8 9, w ∈ wsX8_type := fun w h => List.mem_cons_of_mem _ (List.mem_append_left _ (List.mem_append_right _ h))
  refine lv_iload_n hx hb dX8_type_0 rfl (lv_at hl0 1 rfl) ?_
  refine lv_if_lt (tgt := 11) hx hb dX8_type_1 (by decide) (fun c1 => ?_) (fun c1 => ?_)
  · refine lv_bipush (v := (-3)) hx hb dX8_type_11 (by decide) ?_
    have q2 : ((-3) = (ktypeA L x xl v).1) ∧ (x = (ktypeA L x xl v).2.1) ∧ (xl = (ktypeA L x xl v).2.2) := by
      first | (simp only [ktypeA, eq_true c1, eq_self, ↓reduceIte, and_self, and_true, true_and]; done) | (simp only [ktypeA, eq_true c1, eq_self, ↓reduceIte, and_self, and_true, true_and]; (try and_intros) <;> rfl)
    exact kRi F hr hlocks hS0 dX8_type_13 ⟨x, xl⟩ q2 hP0 hD0
  · refine lv_iload_n hx hb dX8_type_4 rfl (lv_at hl0 1 rfl) ?_
    refine lv_sipush (v := 255) hx hb dX8_type_5 (by decide) ?_
    refine lv_icmp_le (tgt := 14) hx hb dX8_type_8 (by decide) (fun c3 => ?_) (fun c3 => ?_)
    · refine lv_aload_n hx hb dX8_type_14 rfl (lv_at hl0 0 rfl) ?_
      refine kget F hK hP0 8 0 7 iX8 rfl rfl (by decide) (List.mem_of_getElem? (i := 1) rfl) rfl dX8_type_15 ?_
      refine lv_iload_n hx hb dX8_type_18 rfl (lv_at hl0 1 rfl) ?_
      refine kVi (wr := [oTo h cl se rc rs ar co cz tx nw]) F hK hP0 hD0 hS0 hA hl0.1 (c_X6_addA l G tx yl yk yf ys x xl v L hL lL) [1, 2] [0] 6 0 gX8_type_X6_add rfl 1 rfl (by decide +kernel) ⟨Nat.le_of_ble_eq_true rfl, Nat.le_of_ble_eq_true rfl⟩ ⟨Nat.zero_le _, Nat.zero_le _⟩ rfl rfl rfl rfl (by decide) (by decide) (by decide) (Nat.le_of_ble_eq_true rfl) rfl dX8_type_19 (fun r4 u4 H5 locs5 hw4 hP5 hD5 hS5 => ?_)
      obtain ⟨x_4, xl_4⟩ := u4
      have hP5 : va_P G.1 vwCl ([oTo h cl se rc rs ar co cz tx nw, oTx tx yl yk yf ys x_4, aI G yl 200 xl_4]) H5 := hP5
      have hD5 : va_D A ([oTo h cl se rc rs ar co cz tx nw, oTx tx yl yk yf ys x_4, aI G yl 200 xl_4]) := hD5
      clear hP0 hD0 hS0
      have w4_0 : r4 = (1 : Int32) := hw4.1
      have w4_1 : x_4 = upd x 1 (x 1 + 1) := hw4.2.1
      have w4_2 : xl_4 = upd xl L v := hw4.2.2
      have g4 : r4 = 1 := w4_0
      clear w4_0
      subst g4
      refine lv_if_eq (tgt := 35) hx hb dX8_type_22 (by decide) (fun c6 => ?_) (fun c6 => ?_)
      · exact absurd c6 (by decide)
      · refine lv_aload_n hx hb dX8_type_25 rfl (lv_at hl0 0 rfl) ?_
        refine kget F hK hP5 8 0 7 iX8 rfl rfl (by decide) (List.mem_of_getElem? (i := 1) rfl) rfl dX8_type_26 ?_
        refine kget F hK hP5 6 1 1 iX6 rfl rfl (by decide) (List.mem_of_getElem? (i := 2) rfl) rfl dX8_type_29 ?_
        refine lv_goto (tgt := 37) hx hb dX8_type_32 (by decide) ?_
        have q7 : ((x_4 1) = (ktypeA L x xl v).1) ∧ (x_4 = (ktypeA L x xl v).2.1) ∧ (xl_4 = (ktypeA L x xl v).2.2) := by
          subst w4_2
          subst w4_1
          first | (simp only [ktypeA, c1, eq_true c3, c6, eq_self, ↓reduceIte, and_self, and_true, true_and]; done) | (simp only [ktypeA, c1, eq_true c3, c6, eq_self, ↓reduceIte, and_self, and_true, true_and]; (try and_intros) <;> rfl)
        exact kRi F hr hlocks hS5 dX8_type_37 ⟨x_4, xl_4⟩ q7 hP5 hD5
    · refine lv_bipush (v := (-3)) hx hb dX8_type_11 (by decide) ?_
      have q8 : ((-3) = (ktypeA L x xl v).1) ∧ (x = (ktypeA L x xl v).2.1) ∧ (xl = (ktypeA L x xl v).2.2) := by
        first | (simp only [ktypeA, c1, c3, eq_self, ↓reduceIte, and_self, and_true, true_and]; done) | (simp only [ktypeA, c1, c3, eq_self, ↓reduceIte, and_self, and_true, true_and]; (try and_intros) <;> rfl)
      exact kRi F hr hlocks hS0 dX8_type_13 ⟨x, xl⟩ q8 hP0 hD0
set_option maxHeartbeats 1000000 in
set_option maxRecDepth 100000 in
theorem c_X8_typeB (l : Launch) (G : kG) (h : Nat) (cl : Nat) (se : Nat) (rc : Nat) (rs : Nat) (ar : Nat) (co : Nat) (cz : Nat) (tx : Nat) (nw : Nat → Int32) (yl : Nat) (yk : Nat) (yf : Nat) (ys : Nat) (x : Nat → Int32) (xl : Nat → Int32) (v : Int32) (hL : x 1 = 200) : kM G l yX8_type wsX8_type ({ frames := 1, cells := 0, slots := 0, locals := 21 }) [.ref h, .int v] ([oTo h cl se rc rs ar co cz tx nw, oTx tx yl yk yf ys x, aI G yl 200 xl]) (kQi G (fun (rr : Int32) (uu : Unit) => rr = ktypeB v) (fun (uu : Unit) => [oTo h cl se rc rs ar co cz tx nw, oTx tx yl yk yf ys x, aI G yl 200 xl])) := by
  refine kStart (cc := cX8_type) (maxL := 2) (ret := (some .int)) (by decide) rfl (Nat.le_of_ble_eq_true rfl) (fun pg ev st mi bl mt cd A ls0 F hr hlocks hin hK hP0 hD0 hA hS0 hl0 => ?_)
  obtain ⟨hx, hb, hml, hown, hts⟩ := id F
  have hl0 : lv_has ls0 2 [(0, .ref h), (1, .int v)] := hl0
  have iX8 : ∀ w ∈ u_ws RX8 TX8 9, w ∈ wsX8_type := fun w h => List.mem_cons_of_mem _ (List.mem_append_left _ (List.mem_append_right _ h))
  refine lv_iload_n hx hb dX8_type_0 rfl (lv_at hl0 1 rfl) ?_
  refine lv_if_lt (tgt := 11) hx hb dX8_type_1 (by decide) (fun c1 => ?_) (fun c1 => ?_)
  · refine lv_bipush (v := (-3)) hx hb dX8_type_11 (by decide) ?_
    have q2 : (-3) = ktypeB v := by
      first | (simp only [ktypeB, eq_true c1, eq_self, ↓reduceIte, and_self, and_true, true_and]; done) | (simp only [ktypeB, eq_true c1, eq_self, ↓reduceIte, and_self, and_true, true_and]; (try and_intros) <;> rfl)
    exact kRi F hr hlocks hS0 dX8_type_13 () q2 hP0 hD0
  · refine lv_iload_n hx hb dX8_type_4 rfl (lv_at hl0 1 rfl) ?_
    refine lv_sipush (v := 255) hx hb dX8_type_5 (by decide) ?_
    refine lv_icmp_le (tgt := 14) hx hb dX8_type_8 (by decide) (fun c3 => ?_) (fun c3 => ?_)
    · refine lv_aload_n hx hb dX8_type_14 rfl (lv_at hl0 0 rfl) ?_
      refine kget F hK hP0 8 0 7 iX8 rfl rfl (by decide) (List.mem_of_getElem? (i := 1) rfl) rfl dX8_type_15 ?_
      refine lv_iload_n hx hb dX8_type_18 rfl (lv_at hl0 1 rfl) ?_
      refine kVi (wr := [oTo h cl se rc rs ar co cz tx nw]) F hK hP0 hD0 hS0 hA hl0.1 (c_X6_addB l G tx yl yk yf ys x xl v hL) [1, 2] [0] 6 0 gX8_type_X6_add rfl 1 rfl (by decide +kernel) ⟨Nat.le_of_ble_eq_true rfl, Nat.le_of_ble_eq_true rfl⟩ ⟨Nat.zero_le _, Nat.zero_le _⟩ rfl rfl rfl rfl (by decide) (by decide) (by decide) (Nat.le_of_ble_eq_true rfl) rfl dX8_type_19 (fun r4 u4 H5 locs5 hw4 (hP5 : va_P G.1 vwCl ([oTo h cl se rc rs ar co cz tx nw, oTx tx yl yk yf ys x, aI G yl 200 xl]) H5) (hD5 : va_D A ([oTo h cl se rc rs ar co cz tx nw, oTx tx yl yk yf ys x, aI G yl 200 xl])) hS5 => ?_)
      clear hP0 hD0 hS0
      have w4_0 : r4 = (0 : Int32) := hw4
      have g4 : r4 = 0 := w4_0
      clear w4_0
      subst g4
      refine lv_if_eq (tgt := 35) hx hb dX8_type_22 (by decide) (fun c6 => ?_) (fun c6 => ?_)
      · refine lv_bipush (v := (-5)) hx hb dX8_type_35 (by decide) ?_
        have q7 : (-5) = ktypeB v := by
          first | (simp only [ktypeB, c1, eq_true c3, eq_true c6, eq_self, ↓reduceIte, and_self, and_true, true_and]; done) | (simp only [ktypeB, c1, eq_true c3, eq_true c6, eq_self, ↓reduceIte, and_self, and_true, true_and]; (try and_intros) <;> rfl)
        exact kRi F hr hlocks hS5 dX8_type_37 () q7 hP5 hD5
      · exact absurd (by decide) c6
    · refine lv_bipush (v := (-3)) hx hb dX8_type_11 (by decide) ?_
      have q8 : (-3) = ktypeB v := by
        first | (simp only [ktypeB, c1, c3, eq_self, ↓reduceIte, and_self, and_true, true_and]; done) | (simp only [ktypeB, c1, c3, eq_self, ↓reduceIte, and_self, and_true, true_and]; (try and_intros) <;> rfl)
      exact kRi F hr hlocks hS0 dX8_type_13 () q8 hP0 hD0
set_option maxHeartbeats 1000000 in
set_option maxRecDepth 100000 in
theorem c_X8_erase (l : Launch) (G : kG) (h : Nat) (cl : Nat) (se : Nat) (rc : Nat) (rs : Nat) (ar : Nat) (co : Nat) (cz : Nat) (tx : Nat) (nw : Nat → Int32) (yl : Nat) (yk : Nat) (yf : Nat) (ys : Nat) (x : Nat → Int32) : kM G l yX8_erase wsX8_erase ({ frames := 0, cells := 0, slots := 0, locals := 0 }) [.ref h] ([oTo h cl se rc rs ar co cz tx nw, oTx tx yl yk yf ys x]) (kQi G (fun (rr : Int32) (uu : (Nat → Int32)) => (rr = x 1) ∧ (uu = upd x 1 0)) (fun (uu : (Nat → Int32)) => [oTo h cl se rc rs ar co cz tx nw, oTx tx yl yk yf ys uu])) := by
  refine kStart (cc := cX8_erase) (maxL := 2) (ret := (some .int)) (by decide) rfl (Nat.le_of_ble_eq_true rfl) (fun pg ev st mi bl mt cd A ls0 F hr hlocks hin hK hP0 hD0 hA hS0 hl0 => ?_)
  obtain ⟨hx, hb, hml, hown, hts⟩ := id F
  have hl0 : lv_has ls0 2 [(0, .ref h)] := hl0
  have iX6 : ∀ w ∈ u_ws RX6 TX6 8, w ∈ wsX8_erase := fun w h => List.mem_cons_of_mem _ (List.mem_append_right _ h)
  have iX8 : ∀ w ∈ u_ws RX8 TX8 9, w ∈ wsX8_erase := fun w h => List.mem_cons_of_mem _ (List.mem_append_left _ (List.mem_append_right _ h))
  refine lv_aload_n hx hb dX8_erase_0 rfl (lv_at hl0 0 rfl) ?_
  refine kget F hK hP0 8 0 7 iX8 rfl rfl (by decide) (List.mem_of_getElem? (i := 1) rfl) rfl dX8_erase_1 ?_
  refine kget F hK hP0 6 1 1 iX6 rfl rfl (by decide) (List.mem_of_getElem? (i := 2) rfl) rfl dX8_erase_4 ?_
  refine lv_istore_n (lv' := [(1, .int (x 1)), (0, .ref h)]) hx hb dX8_erase_7 rfl hl0 (by decide) rfl (fun ls1 hl1 => ?_)
  clear hl0
  refine lv_aload_n hx hb dX8_erase_8 rfl (lv_at hl1 1 rfl) ?_
  refine kget F hK hP0 8 0 7 iX8 rfl rfl (by decide) (List.mem_of_getElem? (i := 1) rfl) rfl dX8_erase_9 ?_
  refine lv_iconst (v := 0) hx hb dX8_erase_12 (by decide) ?_
  refine kput F hK hP0 hD0 hS0 (ty0 := tyX6) 6 1 1 iX6 rfl tyX6_ok nmX6 (fun zz => [oTo h cl se rc rs ar co cz tx nw, oTx tx yl yk yf ys zz]) x rfl (by decide) (List.mem_of_getElem? (i := 2) rfl) rfl rfl rfl (Nat.le_of_ble_eq_true rfl) rfl dX8_erase_13 (fun H2 locs2 x2 ex2 (hP2 : va_P G.1 vwCl ([oTo h cl se rc rs ar co cz tx nw, oTx tx yl yk yf ys x2]) H2) (hD2 : va_D A ([oTo h cl se rc rs ar co cz tx nw, oTx tx yl yk yf ys x2])) hS2 => ?_)
  clear hP0 hD0 hS0
  refine lv_iload_n hx hb dX8_erase_16 rfl (lv_at hl1 0 rfl) ?_
  have q3 : ((x 1) = x 1) ∧ (x2 = upd x 1 0) := by
    subst ex2
    first | (simp only [eq_self, ↓reduceIte, and_self, and_true, true_and]; done) | (simp only [eq_self, ↓reduceIte, and_self, and_true, true_and]; (try and_intros) <;> rfl) | exact ⟨rfl, rfl⟩
  exact kRi F hr hlocks hS2 dX8_erase_17 x2 q3 hP2 hD2
