set_option maxHeartbeats 1000000 in
set_option maxRecDepth 100000 in
theorem c_X6_letterAt (l : Launch) (G : kG) (tx : Nat) (yl : Nat) (yk : Nat) (yf : Nat) (ys : Nat) (x : Nat → Int32) (xl : Nat → Int32) (L : Nat) (n : Nat) (hL : x 1 = nI L) (lL : L ≤ 200) (hn : n ≤ 1000) : kM G l yX6_letterAt wsX6_letterAt ({ frames := 0, cells := 0, slots := 0, locals := 0 }) [.ref tx, .int (nI n)] ([oTx tx yl yk yf ys x, aI G yl 200 xl]) (kQi G (fun (rr : Int32) (uu : Unit) => rr = if n < L then xl n else -1) (fun (uu : Unit) => [oTx tx yl yk yf ys x, aI G yl 200 xl])) := by
  refine kStart (cc := cX6_letterAt) (maxL := 2) (ret := (some .int)) (by decide) rfl (Nat.le_of_ble_eq_true rfl) (fun pg ev st mi bl mt cd A ls0 F hr hlocks hin hK hP0 hD0 hA hS0 hl0 => ?_)
  obtain ⟨hx, hb, hml, hown, hts⟩ := id F
  have hl0 : lv_has ls0 2 [(0, .ref tx), (1, .int (nI n))] := hl0
  have iX6 : ∀ w ∈ u_ws RX6 TX6 8, w ∈ wsX6_letterAt := fun w h => List.mem_cons_of_mem _ (List.mem_append_right _ h)
  refine lv_iload_n hx hb dX6_letterAt_0 rfl (lv_at hl0 1 rfl) ?_
  refine lv_if_lt (tgt := 21) hx hb dX6_letterAt_1 (by decide) (fun c1 => ?_) (fun c1 => ?_)
  · exact absurd c1 (nI_nlt (a := n) (b := 0) (by omega) (by omega))
  · refine lv_iload_n hx hb dX6_letterAt_4 rfl (lv_at hl0 1 rfl) ?_
    refine lv_aload_n hx hb dX6_letterAt_5 rfl (lv_at hl0 0 rfl) ?_
    refine kget F hK hP0 6 0 1 iX6 rfl rfl (by decide) (List.mem_of_getElem? (i := 1) rfl) rfl dX6_letterAt_6 ?_
    refine lv_icmp_ge (tgt := 21) hx hb dX6_letterAt_9 (by decide) (fun c2 => ?_) (fun c2 => ?_)
    · rw [hL] at c2
      have lE : ¬ n < L := Nat.not_lt.mpr ((nI_leI (a := L) (b := n) (by omega) (by omega)).mp c2)
      refine lv_iconst (v := (-1)) hx hb dX6_letterAt_21 (by decide) ?_
      have q3 : (-1) = if n < L then xl n else -1 := by
        simp only [lE, ↓reduceIte]
      exact kRi F hr hlocks hS0 dX6_letterAt_22 () q3 hP0 hD0
    · rw [hL] at c2
      have lE : n < L := Nat.lt_of_not_le (fun z => c2 ((nI_leI (a := L) (b := n) (by omega) (by omega)).mpr z))
      refine lv_aload_n hx hb dX6_letterAt_12 rfl (lv_at hl0 0 rfl) ?_
      refine kget F hK hP0 6 0 0 iX6 rfl rfl (by decide) (List.mem_of_getElem? (i := 2) rfl) rfl dX6_letterAt_13 ?_
      refine lv_iload_n hx hb dX6_letterAt_16 rfl (lv_at hl0 1 rfl) ?_
      refine kild F hK hP0 1 n rfl rfl (by omega) (Nat.le_of_ble_eq_true rfl) dX6_letterAt_17 ?_
      refine lv_goto (tgt := 22) hx hb dX6_letterAt_18 (by decide) ?_
      have q4 : (xl n) = if n < L then xl n else -1 := by
        simp only [lE, ↓reduceIte]
      exact kRi F hr hlocks hS0 dX6_letterAt_22 () q4 hP0 hD0
set_option maxHeartbeats 1000000 in
set_option maxRecDepth 100000 in
theorem c_X6_mostFirst (l : Launch) (G : kG) (i : Int32) : kM G l yX6_mostFirst wsX6_mostFirst ({ frames := 0, cells := 0, slots := 0, locals := 0 }) [.int i] ([]) (kQi G (fun (rr : Int32) (uu : Unit) => rr = kmost i) (fun (uu : Unit) => [])) := by
  refine kStart (cc := cX6_mostFirst) (maxL := 1) (ret := (some .int)) (by decide) rfl (Nat.le_of_ble_eq_true rfl) (fun pg ev st mi bl mt cd A ls0 F hr hlocks hin hK hP0 hD0 hA hS0 hl0 => ?_)
  obtain ⟨hx, hb, hml, hown, hts⟩ := id F
  have hl0 : lv_has ls0 1 [(0, .int i)] := hl0
  refine lv_iload_n hx hb dX6_mostFirst_0 rfl (lv_at hl0 0 rfl) ?_
  rcases ksw i 2 4 with c1 | c1
  · refine lv_tableOut (tgt := 36) hx hb dX6_mostFirst_1 c1 (by decide) ?_
    refine lv_bipush (v := 7) hx hb dX6_mostFirst_36 (by decide) ?_
    have q2 : 7 = kmost i := by
      have z2 : ¬ i = 2 := by intro z; rw [z] at c1; revert c1; decide
      have z3 : ¬ i = 3 := by intro z; rw [z] at c1; revert c1; decide
      have z4 : ¬ i = 4 := by intro z; rw [z] at c1; revert c1; decide
      simp only [kmost, z2, z3, z4, ↓reduceIte]
    exact kRi F hr hlocks hS0 dX6_mostFirst_38 () q2 hP0 hD0
  · obtain ⟨c1a, c1b⟩ := c1
    rcases kswE i 2 (v := 2) (by decide) with c1_0 | c1_0
    · refine lv_tableIn (off := 27) (tgt := 28) hx hb dX6_mostFirst_1 c1a c1b (by rw [c1_0]; rfl) (by decide) ?_
      refine lv_iconst (v := 1) hx hb dX6_mostFirst_28 (by decide) ?_
      have q3 : 1 = kmost i := by
        first | (subst c1_0; rfl) | (subst c1_0; simp only [kmost, show ¬ ((2 : Int32) = 3) from by decide, show ¬ ((2 : Int32) = 4) from by decide, eq_self, ↓reduceIte]; done) | (simp only [kmost, c1_0, ↓reduceIte]) | (simp only [kmost, c1_0, ↓reduceIte]; simp; done)
      exact kRi F hr hlocks hS0 dX6_mostFirst_29 () q3 hP0 hD0
    rcases kswE i 3 (v := 3) (by decide) with c1_1 | c1_1
    · refine lv_tableIn (off := 29) (tgt := 30) hx hb dX6_mostFirst_1 c1a c1b (by rw [c1_1]; rfl) (by decide) ?_
      refine lv_iconst (v := 3) hx hb dX6_mostFirst_30 (by decide) ?_
      have q4 : 3 = kmost i := by
        first | (subst c1_1; rfl) | (subst c1_1; simp only [kmost, show ¬ ((3 : Int32) = 2) from by decide, show ¬ ((3 : Int32) = 4) from by decide, eq_self, ↓reduceIte]; done) | (simp only [kmost, c1_1, ↓reduceIte]) | (simp only [kmost, c1_1, ↓reduceIte]; simp; done)
      exact kRi F hr hlocks hS0 dX6_mostFirst_31 () q4 hP0 hD0
    rcases kswE i 4 (v := 4) (by decide) with c1_2 | c1_2
    · refine lv_tableIn (off := 31) (tgt := 32) hx hb dX6_mostFirst_1 c1a c1b (by rw [c1_2]; rfl) (by decide) ?_
      refine lv_sipush (v := 999) hx hb dX6_mostFirst_32 (by decide) ?_
      have q5 : 999 = kmost i := by
        first | (subst c1_2; rfl) | (subst c1_2; simp only [kmost, show ¬ ((4 : Int32) = 2) from by decide, show ¬ ((4 : Int32) = 3) from by decide, eq_self, ↓reduceIte]; done) | (simp only [kmost, c1_2, ↓reduceIte]) | (simp only [kmost, c1_2, ↓reduceIte]; simp; done)
      exact kRi F hr hlocks hS0 dX6_mostFirst_35 () q5 hP0 hD0
    omega
set_option maxHeartbeats 1000000 in
set_option maxRecDepth 100000 in
theorem c_X6_kindOfA (l : Launch) (G : kG) (tx : Nat) (yl : Nat) (yk : Nat) (yf : Nat) (ys : Nat) (x : Nat → Int32) (fk : Nat → Int32) (n : Nat) (hn : n < 24) : kM G l yX6_kindOf wsX6_kindOf ({ frames := 0, cells := 0, slots := 0, locals := 0 }) [.ref tx, .int (nI n)] ([oTx tx yl yk yf ys x, aI G yk 24 fk]) (kQi G (fun (rr : Int32) (uu : Unit) => rr = fk n) (fun (uu : Unit) => [oTx tx yl yk yf ys x, aI G yk 24 fk])) := by
  refine kStart (cc := cX6_kindOf) (maxL := 2) (ret := (some .int)) (by decide) rfl (Nat.le_of_ble_eq_true rfl) (fun pg ev st mi bl mt cd A ls0 F hr hlocks hin hK hP0 hD0 hA hS0 hl0 => ?_)
  obtain ⟨hx, hb, hml, hown, hts⟩ := id F
  have hl0 : lv_has ls0 2 [(0, .ref tx), (1, .int (nI n))] := hl0
  have iX6 : ∀ w ∈ u_ws RX6 TX6 8, w ∈ wsX6_kindOf := fun w h => List.mem_cons_of_mem _ (List.mem_append_right _ h)
  refine lv_iload_n hx hb dX6_kindOf_0 rfl (lv_at hl0 1 rfl) ?_
  refine lv_if_lt (tgt := 19) hx hb dX6_kindOf_1 (by decide) (fun c1 => ?_) (fun c1 => ?_)
  · exact absurd c1 (nI_nlt (a := n) (b := 0) (by omega) (by omega))
  · refine lv_iload_n hx hb dX6_kindOf_4 rfl (lv_at hl0 1 rfl) ?_
    refine lv_bipush (v := 24) hx hb dX6_kindOf_5 (by decide) ?_
    refine lv_icmp_ge (tgt := 19) hx hb dX6_kindOf_7 (by decide) (fun c2 => ?_) (fun c2 => ?_)
    · exact absurd ((nI_leI (a := 24) (b := n) (by omega) (by omega)).mp c2) (by omega)
    · refine lv_aload_n hx hb dX6_kindOf_10 rfl (lv_at hl0 0 rfl) ?_
      refine kget F hK hP0 6 0 2 iX6 rfl rfl (by decide) (List.mem_of_getElem? (i := 1) rfl) rfl dX6_kindOf_11 ?_
      refine lv_iload_n hx hb dX6_kindOf_14 rfl (lv_at hl0 1 rfl) ?_
      refine kild F hK hP0 1 n rfl rfl hn (Nat.le_of_ble_eq_true rfl) dX6_kindOf_15 ?_
      refine lv_goto (tgt := 20) hx hb dX6_kindOf_16 (by decide) ?_
      have q3 : (fk n) = fk n := by
        first | (simp only [c1, c2, eq_self, ↓reduceIte, and_self, and_true, true_and]; done) | (simp only [c1, c2, eq_self, ↓reduceIte, and_self, and_true, true_and]; (try and_intros) <;> rfl) | exact rfl
      exact kRi F hr hlocks hS0 dX6_kindOf_20 () q3 hP0 hD0
set_option maxHeartbeats 1000000 in
set_option maxRecDepth 100000 in
theorem c_X6_kindOfB (l : Launch) (G : kG) (tx : Nat) (yl : Nat) (yk : Nat) (yf : Nat) (ys : Nat) (x : Nat → Int32) (i : Int32) (hno : i < 0 ∨ 24 ≤ i) : kM G l yX6_kindOf wsX6_kindOf ({ frames := 0, cells := 0, slots := 0, locals := 0 }) [.ref tx, .int i] ([oTx tx yl yk yf ys x]) (kQi G (fun (rr : Int32) (uu : Unit) => rr = (-1 : Int32)) (fun (uu : Unit) => [oTx tx yl yk yf ys x])) := by
  refine kStart (cc := cX6_kindOf) (maxL := 2) (ret := (some .int)) (by decide) rfl (Nat.le_of_ble_eq_true rfl) (fun pg ev st mi bl mt cd A ls0 F hr hlocks hin hK hP0 hD0 hA hS0 hl0 => ?_)
  obtain ⟨hx, hb, hml, hown, hts⟩ := id F
  have hl0 : lv_has ls0 2 [(0, .ref tx), (1, .int i)] := hl0
  refine lv_iload_n hx hb dX6_kindOf_0 rfl (lv_at hl0 1 rfl) ?_
  refine lv_if_lt (tgt := 19) hx hb dX6_kindOf_1 (by decide) (fun c1 => ?_) (fun c1 => ?_)
  · refine lv_iconst (v := (-1)) hx hb dX6_kindOf_19 (by decide) ?_
    have q2 : (-1) = (-1 : Int32) := by
      first | (simp only [eq_true c1, eq_self, ↓reduceIte, and_self, and_true, true_and]; done) | (simp only [eq_true c1, eq_self, ↓reduceIte, and_self, and_true, true_and]; (try and_intros) <;> rfl) | exact rfl
    exact kRi F hr hlocks hS0 dX6_kindOf_20 () q2 hP0 hD0
  · refine lv_iload_n hx hb dX6_kindOf_4 rfl (lv_at hl0 1 rfl) ?_
    refine lv_bipush (v := 24) hx hb dX6_kindOf_5 (by decide) ?_
    refine lv_icmp_ge (tgt := 19) hx hb dX6_kindOf_7 (by decide) (fun c3 => ?_) (fun c3 => ?_)
    · refine lv_iconst (v := (-1)) hx hb dX6_kindOf_19 (by decide) ?_
      have q4 : (-1) = (-1 : Int32) := by
        first | (simp only [c1, eq_true c3, eq_self, ↓reduceIte, and_self, and_true, true_and]; done) | (simp only [c1, eq_true c3, eq_self, ↓reduceIte, and_self, and_true, true_and]; (try and_intros) <;> rfl) | exact rfl
      exact kRi F hr hlocks hS0 dX6_kindOf_20 () q4 hP0 hD0
    · exact hno.elim (fun q => absurd q c1) (fun q => absurd q c3)
set_option maxHeartbeats 1000000 in
set_option maxRecDepth 100000 in
theorem c_X6_firstOfA (l : Launch) (G : kG) (tx : Nat) (yl : Nat) (yk : Nat) (yf : Nat) (ys : Nat) (x : Nat → Int32) (ff : Nat → Int32) (n : Nat) (hn : n < 24) : kM G l yX6_firstOf wsX6_firstOf ({ frames := 0, cells := 0, slots := 0, locals := 0 }) [.ref tx, .int (nI n)] ([oTx tx yl yk yf ys x, aI G yf 24 ff]) (kQi G (fun (rr : Int32) (uu : Unit) => rr = ff n) (fun (uu : Unit) => [oTx tx yl yk yf ys x, aI G yf 24 ff])) := by
  refine kStart (cc := cX6_firstOf) (maxL := 2) (ret := (some .int)) (by decide) rfl (Nat.le_of_ble_eq_true rfl) (fun pg ev st mi bl mt cd A ls0 F hr hlocks hin hK hP0 hD0 hA hS0 hl0 => ?_)
  obtain ⟨hx, hb, hml, hown, hts⟩ := id F
  have hl0 : lv_has ls0 2 [(0, .ref tx), (1, .int (nI n))] := hl0
  have iX6 : ∀ w ∈ u_ws RX6 TX6 8, w ∈ wsX6_firstOf := fun w h => List.mem_cons_of_mem _ (List.mem_append_right _ h)
  refine lv_iload_n hx hb dX6_firstOf_0 rfl (lv_at hl0 1 rfl) ?_
  refine lv_if_lt (tgt := 19) hx hb dX6_firstOf_1 (by decide) (fun c1 => ?_) (fun c1 => ?_)
  · exact absurd c1 (nI_nlt (a := n) (b := 0) (by omega) (by omega))
  · refine lv_iload_n hx hb dX6_firstOf_4 rfl (lv_at hl0 1 rfl) ?_
    refine lv_bipush (v := 24) hx hb dX6_firstOf_5 (by decide) ?_
    refine lv_icmp_ge (tgt := 19) hx hb dX6_firstOf_7 (by decide) (fun c2 => ?_) (fun c2 => ?_)
    · exact absurd ((nI_leI (a := 24) (b := n) (by omega) (by omega)).mp c2) (by omega)
    · refine lv_aload_n hx hb dX6_firstOf_10 rfl (lv_at hl0 0 rfl) ?_
      refine kget F hK hP0 6 0 3 iX6 rfl rfl (by decide) (List.mem_of_getElem? (i := 1) rfl) rfl dX6_firstOf_11 ?_
      refine lv_iload_n hx hb dX6_firstOf_14 rfl (lv_at hl0 1 rfl) ?_
      refine kild F hK hP0 1 n rfl rfl hn (Nat.le_of_ble_eq_true rfl) dX6_firstOf_15 ?_
      refine lv_goto (tgt := 20) hx hb dX6_firstOf_16 (by decide) ?_
      have q3 : (ff n) = ff n := by
        first | (simp only [c1, c2, eq_self, ↓reduceIte, and_self, and_true, true_and]; done) | (simp only [c1, c2, eq_self, ↓reduceIte, and_self, and_true, true_and]; (try and_intros) <;> rfl) | exact rfl
      exact kRi F hr hlocks hS0 dX6_firstOf_20 () q3 hP0 hD0
set_option maxHeartbeats 1000000 in
set_option maxRecDepth 100000 in
theorem c_X6_firstOfB (l : Launch) (G : kG) (tx : Nat) (yl : Nat) (yk : Nat) (yf : Nat) (ys : Nat) (x : Nat → Int32) (i : Int32) (hno : i < 0 ∨ 24 ≤ i) : kM G l yX6_firstOf wsX6_firstOf ({ frames := 0, cells := 0, slots := 0, locals := 0 }) [.ref tx, .int i] ([oTx tx yl yk yf ys x]) (kQi G (fun (rr : Int32) (uu : Unit) => rr = (-1 : Int32)) (fun (uu : Unit) => [oTx tx yl yk yf ys x])) := by
  refine kStart (cc := cX6_firstOf) (maxL := 2) (ret := (some .int)) (by decide) rfl (Nat.le_of_ble_eq_true rfl) (fun pg ev st mi bl mt cd A ls0 F hr hlocks hin hK hP0 hD0 hA hS0 hl0 => ?_)
  obtain ⟨hx, hb, hml, hown, hts⟩ := id F
  have hl0 : lv_has ls0 2 [(0, .ref tx), (1, .int i)] := hl0
  refine lv_iload_n hx hb dX6_firstOf_0 rfl (lv_at hl0 1 rfl) ?_
  refine lv_if_lt (tgt := 19) hx hb dX6_firstOf_1 (by decide) (fun c1 => ?_) (fun c1 => ?_)
  · refine lv_iconst (v := (-1)) hx hb dX6_firstOf_19 (by decide) ?_
    have q2 : (-1) = (-1 : Int32) := by
      first | (simp only [eq_true c1, eq_self, ↓reduceIte, and_self, and_true, true_and]; done) | (simp only [eq_true c1, eq_self, ↓reduceIte, and_self, and_true, true_and]; (try and_intros) <;> rfl) | exact rfl
    exact kRi F hr hlocks hS0 dX6_firstOf_20 () q2 hP0 hD0
  · refine lv_iload_n hx hb dX6_firstOf_4 rfl (lv_at hl0 1 rfl) ?_
    refine lv_bipush (v := 24) hx hb dX6_firstOf_5 (by decide) ?_
    refine lv_icmp_ge (tgt := 19) hx hb dX6_firstOf_7 (by decide) (fun c3 => ?_) (fun c3 => ?_)
    · refine lv_iconst (v := (-1)) hx hb dX6_firstOf_19 (by decide) ?_
      have q4 : (-1) = (-1 : Int32) := by
        first | (simp only [c1, eq_true c3, eq_self, ↓reduceIte, and_self, and_true, true_and]; done) | (simp only [c1, eq_true c3, eq_self, ↓reduceIte, and_self, and_true, true_and]; (try and_intros) <;> rfl) | exact rfl
      exact kRi F hr hlocks hS0 dX6_firstOf_20 () q4 hP0 hD0
    · exact hno.elim (fun q => absurd q c1) (fun q => absurd q c3)
set_option maxHeartbeats 1000000 in
set_option maxRecDepth 100000 in
theorem c_X6_secondOfA (l : Launch) (G : kG) (tx : Nat) (yl : Nat) (yk : Nat) (yf : Nat) (ys : Nat) (x : Nat → Int32) (fs : Nat → Int32) (n : Nat) (hn : n < 24) : kM G l yX6_secondOf wsX6_secondOf ({ frames := 0, cells := 0, slots := 0, locals := 0 }) [.ref tx, .int (nI n)] ([oTx tx yl yk yf ys x, aI G ys 24 fs]) (kQi G (fun (rr : Int32) (uu : Unit) => rr = fs n) (fun (uu : Unit) => [oTx tx yl yk yf ys x, aI G ys 24 fs])) := by
  refine kStart (cc := cX6_secondOf) (maxL := 2) (ret := (some .int)) (by decide) rfl (Nat.le_of_ble_eq_true rfl) (fun pg ev st mi bl mt cd A ls0 F hr hlocks hin hK hP0 hD0 hA hS0 hl0 => ?_)
  obtain ⟨hx, hb, hml, hown, hts⟩ := id F
  have hl0 : lv_has ls0 2 [(0, .ref tx), (1, .int (nI n))] := hl0
  have iX6 : ∀ w ∈ u_ws RX6 TX6 8, w ∈ wsX6_secondOf := fun w h => List.mem_cons_of_mem _ (List.mem_append_right _ h)
  refine lv_iload_n hx hb dX6_secondOf_0 rfl (lv_at hl0 1 rfl) ?_
  refine lv_if_lt (tgt := 19) hx hb dX6_secondOf_1 (by decide) (fun c1 => ?_) (fun c1 => ?_)
  · exact absurd c1 (nI_nlt (a := n) (b := 0) (by omega) (by omega))
  · refine lv_iload_n hx hb dX6_secondOf_4 rfl (lv_at hl0 1 rfl) ?_
    refine lv_bipush (v := 24) hx hb dX6_secondOf_5 (by decide) ?_
    refine lv_icmp_ge (tgt := 19) hx hb dX6_secondOf_7 (by decide) (fun c2 => ?_) (fun c2 => ?_)
    · exact absurd ((nI_leI (a := 24) (b := n) (by omega) (by omega)).mp c2) (by omega)
    · refine lv_aload_n hx hb dX6_secondOf_10 rfl (lv_at hl0 0 rfl) ?_
      refine kget F hK hP0 6 0 4 iX6 rfl rfl (by decide) (List.mem_of_getElem? (i := 1) rfl) rfl dX6_secondOf_11 ?_
      refine lv_iload_n hx hb dX6_secondOf_14 rfl (lv_at hl0 1 rfl) ?_
      refine kild F hK hP0 1 n rfl rfl hn (Nat.le_of_ble_eq_true rfl) dX6_secondOf_15 ?_
      refine lv_goto (tgt := 20) hx hb dX6_secondOf_16 (by decide) ?_
      have q3 : (fs n) = fs n := by
        first | (simp only [c1, c2, eq_self, ↓reduceIte, and_self, and_true, true_and]; done) | (simp only [c1, c2, eq_self, ↓reduceIte, and_self, and_true, true_and]; (try and_intros) <;> rfl) | exact rfl
      exact kRi F hr hlocks hS0 dX6_secondOf_20 () q3 hP0 hD0
set_option maxHeartbeats 1000000 in
set_option maxRecDepth 100000 in
theorem c_X6_secondOfB (l : Launch) (G : kG) (tx : Nat) (yl : Nat) (yk : Nat) (yf : Nat) (ys : Nat) (x : Nat → Int32) (i : Int32) (hno : i < 0 ∨ 24 ≤ i) : kM G l yX6_secondOf wsX6_secondOf ({ frames := 0, cells := 0, slots := 0, locals := 0 }) [.ref tx, .int i] ([oTx tx yl yk yf ys x]) (kQi G (fun (rr : Int32) (uu : Unit) => rr = (-1 : Int32)) (fun (uu : Unit) => [oTx tx yl yk yf ys x])) := by
  refine kStart (cc := cX6_secondOf) (maxL := 2) (ret := (some .int)) (by decide) rfl (Nat.le_of_ble_eq_true rfl) (fun pg ev st mi bl mt cd A ls0 F hr hlocks hin hK hP0 hD0 hA hS0 hl0 => ?_)
  obtain ⟨hx, hb, hml, hown, hts⟩ := id F
  have hl0 : lv_has ls0 2 [(0, .ref tx), (1, .int i)] := hl0
  refine lv_iload_n hx hb dX6_secondOf_0 rfl (lv_at hl0 1 rfl) ?_
  refine lv_if_lt (tgt := 19) hx hb dX6_secondOf_1 (by decide) (fun c1 => ?_) (fun c1 => ?_)
  · refine lv_iconst (v := (-1)) hx hb dX6_secondOf_19 (by decide) ?_
    have q2 : (-1) = (-1 : Int32) := by
      first | (simp only [eq_true c1, eq_self, ↓reduceIte, and_self, and_true, true_and]; done) | (simp only [eq_true c1, eq_self, ↓reduceIte, and_self, and_true, true_and]; (try and_intros) <;> rfl) | exact rfl
    exact kRi F hr hlocks hS0 dX6_secondOf_20 () q2 hP0 hD0
  · refine lv_iload_n hx hb dX6_secondOf_4 rfl (lv_at hl0 1 rfl) ?_
    refine lv_bipush (v := 24) hx hb dX6_secondOf_5 (by decide) ?_
    refine lv_icmp_ge (tgt := 19) hx hb dX6_secondOf_7 (by decide) (fun c3 => ?_) (fun c3 => ?_)
    · refine lv_iconst (v := (-1)) hx hb dX6_secondOf_19 (by decide) ?_
      have q4 : (-1) = (-1 : Int32) := by
        first | (simp only [c1, eq_true c3, eq_self, ↓reduceIte, and_self, and_true, true_and]; done) | (simp only [c1, eq_true c3, eq_self, ↓reduceIte, and_self, and_true, true_and]; (try and_intros) <;> rfl) | exact rfl
      exact kRi F hr hlocks hS0 dX6_secondOf_20 () q4 hP0 hD0
    · exact hno.elim (fun q => absurd q c1) (fun q => absurd q c3)
