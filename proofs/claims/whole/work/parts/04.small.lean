set_option maxHeartbeats 1000000 in
set_option maxRecDepth 100000 in
theorem c_X8_mix (l : Launch) (G : kG) (x : Int32) (y : Int32) : kM G l yX8_mix wsX8_mix ({ frames := 0, cells := 0, slots := 0, locals := 0 }) [.int x, .int y] ([]) (kQi G (fun (rr : Int32) (uu : Unit) => rr = kmix x y) (fun (uu : Unit) => [])) := by
  refine kStart (cc := cX8_mix) (maxL := 3) (ret := (some .int)) (by decide) rfl (Nat.le_of_ble_eq_true rfl) (fun pg ev st mi bl mt cd A ls0 F hr hlocks hin hK hP0 hD0 hA hS0 hl0 => ?_)
  obtain ⟨hx, hb, hml, hown, hts⟩ := id F
  have hl0 : lv_has ls0 3 [(0, .int x), (1, .int y)] := hl0
  refine lv_iload_n hx hb dX8_mix_0 rfl (lv_at hl0 0 rfl) ?_
  refine lv_iload_n hx hb dX8_mix_1 rfl (lv_at hl0 1 rfl) ?_
  refine lv_ixor hx hb dX8_mix_2 ?_
  refine lv_ldc (v := 16777619) hx hb hown (hts _ (List.mem_of_getElem? (i := 1) rfl)) dX8_mix_3 ?_
  refine lv_imul hx hb dX8_mix_5 ?_
  refine lv_istore_n (lv' := [(2, .int ((x ^^^ y) * 16777619)), (0, .int x), (1, .int y)]) hx hb dX8_mix_6 rfl hl0 (by decide) rfl (fun ls1 hl1 => ?_)
  clear hl0
  refine lv_iload_n hx hb dX8_mix_7 rfl (lv_at hl1 0 rfl) ?_
  refine lv_iload_n hx hb dX8_mix_8 rfl (lv_at hl1 0 rfl) ?_
  refine lv_bipush (v := 15) hx hb dX8_mix_9 (by decide) ?_
  refine lv_iushr (v := (kushr ((x ^^^ y) * 16777619) 15)) hx hb dX8_mix_11 rfl ?_
  refine lv_ixor hx hb dX8_mix_12 ?_
  have q2 : (((x ^^^ y) * 16777619) ^^^ (kushr ((x ^^^ y) * 16777619) 15)) = kmix x y := by
    first | rfl | (simp only [↓reduceIte]; done) | (simp []; done)
  exact kRi F hr hlocks hS0 dX8_mix_13 () q2 hP0 hD0
set_option maxHeartbeats 1000000 in
set_option maxRecDepth 100000 in
theorem c_X2_hasNumber (l : Launch) (G : kG) (i : Int32) : kM G l yX2_hasNumber wsX2_hasNumber ({ frames := 0, cells := 0, slots := 0, locals := 0 }) [.int i] ([]) (kQi G (fun (rr : Int32) (uu : Unit) => rr = kin9 i) (fun (uu : Unit) => [])) := by
  refine kStart (cc := cX2_hasNumber) (maxL := 1) (ret := (some .boolean)) (by decide) rfl (Nat.le_of_ble_eq_true rfl) (fun pg ev st mi bl mt cd A ls0 F hr hlocks hin hK hP0 hD0 hA hS0 hl0 => ?_)
  obtain ⟨hx, hb, hml, hown, hts⟩ := id F
  have hl0 : lv_has ls0 1 [(0, .int i)] := hl0
  refine lv_iload_n hx hb dX2_hasNumber_0 rfl (lv_at hl0 0 rfl) ?_
  refine lv_if_lt (tgt := 14) hx hb dX2_hasNumber_1 (by decide) (fun c1 => ?_) (fun c1 => ?_)
  · refine lv_iconst (v := 0) hx hb dX2_hasNumber_14 (by decide) ?_
    have q2 : 0 = kin9 i := by
      first | (simp only [kin9, c1, ↓reduceIte]; done) | (simp [kin9, c1]; done) | rfl
    exact kRz F hr hlocks hS0 dX2_hasNumber_15 rfl () q2 hP0 hD0
  · refine lv_iload_n hx hb dX2_hasNumber_4 rfl (lv_at hl0 0 rfl) ?_
    refine lv_bipush (v := 8) hx hb dX2_hasNumber_5 (by decide) ?_
    refine lv_icmp_gt (tgt := 14) hx hb dX2_hasNumber_7 (by decide) (fun c3 => ?_) (fun c3 => ?_)
    · refine lv_iconst (v := 0) hx hb dX2_hasNumber_14 (by decide) ?_
      have q4 : 0 = kin9 i := by
        first | (simp only [kin9, c1, c3, ↓reduceIte]; done) | (simp [kin9, c1, c3]; done) | rfl
      exact kRz F hr hlocks hS0 dX2_hasNumber_15 rfl () q4 hP0 hD0
    · refine lv_iconst (v := 1) hx hb dX2_hasNumber_10 (by decide) ?_
      refine lv_goto (tgt := 15) hx hb dX2_hasNumber_11 (by decide) ?_
      have q5 : 1 = kin9 i := by
        first | (simp only [kin9, c1, c3, ↓reduceIte]; done) | (simp [kin9, c1, c3]; done) | rfl
      exact kRz F hr hlocks hS0 dX2_hasNumber_15 rfl () q5 hP0 hD0
set_option maxHeartbeats 1000000 in
set_option maxRecDepth 100000 in
theorem c_X2_at (l : Launch) (G : kG) (h : Nat) (a : Nat) (f : Nat → Int32) (k : Nat) (hk : k < 9) : kM G l yX2_at wsX2_at ({ frames := 1, cells := 0, slots := 0, locals := 20 }) [.ref h, .int (nI k)] ([oMs h a, aI G a 9 f]) (kQi G (fun (rr : Int32) (uu : Unit) => rr = f k) (fun (uu : Unit) => [oMs h a, aI G a 9 f])) := by
  refine kStart (cc := cX2_at) (maxL := 2) (ret := (some .int)) (by decide) rfl (Nat.le_of_ble_eq_true rfl) (fun pg ev st mi bl mt cd A ls0 F hr hlocks hin hK hP0 hD0 hA hS0 hl0 => ?_)
  obtain ⟨hx, hb, hml, hown, hts⟩ := id F
  have hl0 : lv_has ls0 2 [(0, .ref h), (1, .int (nI k))] := hl0
  have iX2 : ∀ w ∈ u_ws RX2 TX2 1, w ∈ wsX2_at := fun w h => List.mem_cons_of_mem _ (List.mem_append_right _ h)
  refine lv_iload_n hx hb dX2_at_0 rfl (lv_at hl0 1 rfl) ?_
  refine kPSi F hK hP0 hD0 hS0 hA hl0.1 (c_X2_hasNumber l G (nI k)) (fun _ => rfl) gX2_at_X2_hasNumber rfl 1 rfl (by decide +kernel) ⟨Nat.le_of_ble_eq_true rfl, Nat.le_of_ble_eq_true rfl⟩ ⟨Nat.zero_le _, Nat.zero_le _⟩ (Nat.le_of_ble_eq_true rfl) rfl dX2_at_1 (fun r1 u1 H2 locs2 hw1 (hP2 : va_P G.1 vwCl ([oMs h a, aI G a 9 f]) H2) (hD2 : va_D A ([oMs h a, aI G a 9 f])) hS2 => ?_)
  clear hP0 hD0 hS0
  have w1_0 : r1 = kin9 (nI k) := hw1
  have g1 : r1 = 1 := w1_0.trans (kin9_k hk)
  clear w1_0
  subst g1
  refine lv_if_eq (tgt := 16) hx hb dX2_at_4 (by decide) (fun c3 => ?_) (fun c3 => ?_)
  · exact absurd c3 (by decide)
  · refine lv_aload_n hx hb dX2_at_7 rfl (lv_at hl0 0 rfl) ?_
    refine kget F hK hP2 2 0 0 iX2 rfl rfl (by decide) (List.mem_of_getElem? (i := 1) rfl) rfl dX2_at_8 ?_
    refine lv_iload_n hx hb dX2_at_11 rfl (lv_at hl0 1 rfl) ?_
    refine kild F hK hP2 1 k rfl rfl hk (Nat.le_of_ble_eq_true rfl) dX2_at_12 ?_
    refine lv_goto (tgt := 17) hx hb dX2_at_13 (by decide) ?_
    have q4 : (f k) = f k := by
      first | rfl | (simp only [c3, ↓reduceIte]; done) | (simp [c3]; done)
    exact kRi F hr hlocks hS2 dX2_at_17 () q4 hP2 hD2
set_option maxHeartbeats 1000000 in
set_option maxRecDepth 100000 in
theorem c_X2_put (l : Launch) (G : kG) (h : Nat) (a : Nat) (f : Nat → Int32) (k : Nat) (v : Int32) (hk : k < 9) : kM G l yX2_put wsX2_put ({ frames := 1, cells := 0, slots := 0, locals := 20 }) [.ref h, .int (nI k), .int v] ([oMs h a, aI G a 9 f]) (kQv G (fun (uu : (Nat → Int32)) => uu = upd f k v) (fun (uu : (Nat → Int32)) => [oMs h a, aI G a 9 uu])) := by
  refine kStart (cc := cX2_put) (maxL := 3) (ret := none) (by decide) rfl (Nat.le_of_ble_eq_true rfl) (fun pg ev st mi bl mt cd A ls0 F hr hlocks hin hK hP0 hD0 hA hS0 hl0 => ?_)
  obtain ⟨hx, hb, hml, hown, hts⟩ := id F
  have hl0 : lv_has ls0 3 [(0, .ref h), (1, .int (nI k)), (2, .int v)] := hl0
  have iX2 : ∀ w ∈ u_ws RX2 TX2 1, w ∈ wsX2_put := fun w h => List.mem_cons_of_mem _ (List.mem_append_right _ h)
  refine lv_iload_n hx hb dX2_put_0 rfl (lv_at hl0 1 rfl) ?_
  refine kPSi F hK hP0 hD0 hS0 hA hl0.1 (c_X2_hasNumber l G (nI k)) (fun _ => rfl) gX2_put_X2_hasNumber rfl 1 rfl (by decide +kernel) ⟨Nat.le_of_ble_eq_true rfl, Nat.le_of_ble_eq_true rfl⟩ ⟨Nat.zero_le _, Nat.zero_le _⟩ (Nat.le_of_ble_eq_true rfl) rfl dX2_put_1 (fun r1 u1 H2 locs2 hw1 (hP2 : va_P G.1 vwCl ([oMs h a, aI G a 9 f]) H2) (hD2 : va_D A ([oMs h a, aI G a 9 f])) hS2 => ?_)
  clear hP0 hD0 hS0
  have w1_0 : r1 = kin9 (nI k) := hw1
  have g1 : r1 = 1 := w1_0.trans (kin9_k hk)
  clear w1_0
  subst g1
  refine lv_if_eq (tgt := 14) hx hb dX2_put_4 (by decide) (fun c3 => ?_) (fun c3 => ?_)
  · exact absurd c3 (by decide)
  · refine lv_aload_n hx hb dX2_put_7 rfl (lv_at hl0 0 rfl) ?_
    refine kget F hK hP2 2 0 0 iX2 rfl rfl (by decide) (List.mem_of_getElem? (i := 1) rfl) rfl dX2_put_8 ?_
    refine lv_iload_n hx hb dX2_put_11 rfl (lv_at hl0 1 rfl) ?_
    refine lv_iload_n hx hb dX2_put_12 rfl (lv_at hl0 2 rfl) ?_
    refine kist F hK hP2 hD2 hS2 1 k (fun zz => [oMs h a, aI G a 9 zz]) rfl rfl hk (Nat.le_of_ble_eq_true rfl) rfl dX2_put_13 (fun H4 locs4 f4 ef4 (hP4 : va_P G.1 vwCl ([oMs h a, aI G a 9 f4]) H4) (hD4 : va_D A ([oMs h a, aI G a 9 f4])) hS4 => ?_)
    clear hP2 hD2 hS2
    have q5 : f4 = upd f k v := by
      subst ef4
      first | rfl | (simp only [c3, ↓reduceIte]; done) | (simp [c3]; done)
    exact kRv F hr hlocks hS4 dX2_put_14 f4 q5 hP4 hD4
set_option maxHeartbeats 1000000 in
set_option maxRecDepth 100000 in
theorem c_X2_begin (l : Launch) (G : kG) (h : Nat) (a : Nat) (f : Nat → Int32) (v : Int32) : kM G l yX2_begin wsX2_begin ({ frames := 0, cells := 0, slots := 0, locals := 0 }) [.ref h, .int v] ([oMs h a, aI G a 9 f]) (kQv G (fun (uu : (Nat → Int32)) => uu = kbeg f v) (fun (uu : (Nat → Int32)) => [oMs h a, aI G a 9 uu])) := by
  refine kStart (cc := cX2_begin) (maxL := 3) (ret := none) (by decide) rfl (Nat.le_of_ble_eq_true rfl) (fun pg ev st mi bl mt cd A ls0 F hr hlocks hin hK hP0 hD0 hA hS0 hl0 => ?_)
  obtain ⟨hx, hb, hml, hown, hts⟩ := id F
  have hl0 : lv_has ls0 3 [(0, .ref h), (1, .int v)] := hl0
  have iX2 : ∀ w ∈ u_ws RX2 TX2 1, w ∈ wsX2_begin := fun w h => List.mem_cons_of_mem _ (List.mem_append_right _ h)
  refine lv_iconst (v := 0) hx hb dX2_begin_0 (by decide) ?_
  refine lv_istore_n (lv' := [(2, .int 0), (0, .ref h), (1, .int v)]) hx hb dX2_begin_1 rfl hl0 (by decide) rfl (fun ls1 hl1 => ?_)
  clear hl0
  have LOOP2 : ∀ (fu k : Nat), k ≤ 9 → 9 + 1 ≤ k + fu → ∀ f2 : Nat → Int32, f2 = kclr f k → ∀ (H2 : Heap) (locs2 : List Loc) (ls2 : Array Slot), lv_has ls2 3 [(2, .int (nI k)), (0, .ref h), (1, .int v)] → va_P G.1 vwCl ([oMs h a, aI G a 9 f2]) H2 → va_D A ([oMs h a, aI G a 9 f2]) → va_S A st.heap H2 locs2 → W pg l ev ({ frames := 0, cells := 0, slots := 0, locals := 0 }) st mi ([.ref h, .int v] : List Value).toArray bl mt cd H2 locs2 0 0 (MQ bl (kQv G (fun (uu : (Nat → Int32)) => uu = kbeg f v) (fun (uu : (Nat → Int32)) => [oMs h a, aI G a 9 uu]) A) ([.ref h, .int v] : List Value).toArray st 0 0 A) (F0 mi 2 ls2 []) := by
    intro fu
    induction fu with
    | zero => intro k h1 h2; exact absurd h2 (by omega)
    | succ fu ih =>
      intro k hk hnk f2 ef2 H2 locs2 ls2 hl2 hP2 hD2 hS2
      refine lv_iload_n hx hb dX2_begin_2 rfl (lv_at hl2 0 rfl) ?_
      refine lv_bipush (v := 8) hx hb dX2_begin_3 (by decide) ?_
      refine lv_icmp_gt (tgt := 21) hx hb dX2_begin_5 (by decide) (fun c3 => ?_) (fun c3 => ?_)
      · have xk : k = 9 := k_exit1 (M := 8) hk (by decide) c3
        subst xk
        clear c3
        refine lv_aload_n hx hb dX2_begin_21 rfl (lv_at hl2 1 rfl) ?_
        refine kget F hK hP2 2 0 0 iX2 rfl rfl (by decide) (List.mem_of_getElem? (i := 1) rfl) rfl dX2_begin_22 ?_
        refine lv_iconst (v := 0) hx hb dX2_begin_25 (by decide) ?_
        refine lv_iload_n hx hb dX2_begin_26 rfl (lv_at hl2 2 rfl) ?_
        refine kist F hK hP2 hD2 hS2 1 0 (fun zz => [oMs h a, aI G a 9 zz]) rfl rfl (by decide) (Nat.le_of_ble_eq_true rfl) rfl dX2_begin_27 (fun H4 locs4 f4 ef4 (hP4 : va_P G.1 vwCl ([oMs h a, aI G a 9 f4]) H4) (hD4 : va_D A ([oMs h a, aI G a 9 f4])) hS4 => ?_)
        clear hP2 hD2 hS2
        have q5 : f4 = kbeg f v := by
          subst ef4
          subst ef2
          first | rfl | (simp only [↓reduceIte]; done) | (simp []; done)
        exact kRv F hr hlocks hS4 dX2_begin_28 f4 q5 hP4 hD4
      · have lk : k < 9 := k_body1 (M := 8) hk (by decide) c3
        refine lv_aload_n hx hb dX2_begin_8 rfl (lv_at hl2 1 rfl) ?_
        refine kget F hK hP2 2 0 0 iX2 rfl rfl (by decide) (List.mem_of_getElem? (i := 1) rfl) rfl dX2_begin_9 ?_
        refine lv_iload_n hx hb dX2_begin_12 rfl (lv_at hl2 0 rfl) ?_
        refine lv_iconst (v := 0) hx hb dX2_begin_13 (by decide) ?_
        refine kist F hK hP2 hD2 hS2 1 k (fun zz => [oMs h a, aI G a 9 zz]) rfl rfl lk (Nat.le_of_ble_eq_true rfl) rfl dX2_begin_14 (fun H6 locs6 f6 ef6 (hP6 : va_P G.1 vwCl ([oMs h a, aI G a 9 f6]) H6) (hD6 : va_D A ([oMs h a, aI G a 9 f6])) hS6 => ?_)
        clear hP2 hD2 hS2
        refine lv_iinc (v := nI (k + 1)) (lv' := [(2, .int (nI (k + 1))), (0, .ref h), (1, .int v)]) hx hb dX2_begin_15 hl2 (k := 0) rfl (nI_1 _) (by decide) rfl (fun ls7 hl7 => ?_)
        clear hl2
        refine lv_goto (tgt := 2) hx hb dX2_begin_18 (by decide) ?_
        exact ih (k + 1) (by omega) (by omega) f6 (by subst ef6; subst ef2; rfl)  _ _ _ hl7 hP6 hD6 hS6
  exact LOOP2 (9 + 1) 0 (by omega) (by omega) f rfl  _ _ _ hl1 hP0 hD0 hS0
set_option maxHeartbeats 1000000 in
set_option maxRecDepth 100000 in
theorem c_X2_become (l : Launch) (G : kG) (h : Nat) (a : Nat) (f : Nat → Int32) (h2 : Nat) (a2 : Nat) (g : Nat → Int32) : kM G l yX2_become wsX2_become ({ frames := 0, cells := 0, slots := 0, locals := 0 }) [.ref h, .ref h2] ([oMs h a, aI G a 9 f, oMs h2 a2, aI G a2 9 g]) (kQv G (fun (uu : (Nat → Int32)) => uu = kcpy f g 9) (fun (uu : (Nat → Int32)) => [oMs h a, aI G a 9 uu, oMs h2 a2, aI G a2 9 g])) := by
  refine kStart (cc := cX2_become) (maxL := 3) (ret := none) (by decide) rfl (Nat.le_of_ble_eq_true rfl) (fun pg ev st mi bl mt cd A ls0 F hr hlocks hin hK hP0 hD0 hA hS0 hl0 => ?_)
  obtain ⟨hx, hb, hml, hown, hts⟩ := id F
  have hl0 : lv_has ls0 3 [(0, .ref h), (1, .ref h2)] := hl0
  have iX2 : ∀ w ∈ u_ws RX2 TX2 1, w ∈ wsX2_become := fun w h => List.mem_cons_of_mem _ (List.mem_append_right _ h)
  refine lv_iconst (v := 0) hx hb dX2_become_0 (by decide) ?_
  refine lv_istore_n (lv' := [(2, .int 0), (0, .ref h), (1, .ref h2)]) hx hb dX2_become_1 rfl hl0 (by decide) rfl (fun ls1 hl1 => ?_)
  clear hl0
  have LOOP2 : ∀ (fu k : Nat), k ≤ 9 → 9 + 1 ≤ k + fu → ∀ f2 : Nat → Int32, f2 = kcpy f g k → ∀ (H2 : Heap) (locs2 : List Loc) (ls2 : Array Slot), lv_has ls2 3 [(2, .int (nI k)), (0, .ref h), (1, .ref h2)] → va_P G.1 vwCl ([oMs h a, aI G a 9 f2, oMs h2 a2, aI G a2 9 g]) H2 → va_D A ([oMs h a, aI G a 9 f2, oMs h2 a2, aI G a2 9 g]) → va_S A st.heap H2 locs2 → W pg l ev ({ frames := 0, cells := 0, slots := 0, locals := 0 }) st mi ([.ref h, .ref h2] : List Value).toArray bl mt cd H2 locs2 0 0 (MQ bl (kQv G (fun (uu : (Nat → Int32)) => uu = kcpy f g 9) (fun (uu : (Nat → Int32)) => [oMs h a, aI G a 9 uu, oMs h2 a2, aI G a2 9 g]) A) ([.ref h, .ref h2] : List Value).toArray st 0 0 A) (F0 mi 2 ls2 []) := by
    intro fu
    induction fu with
    | zero => intro k h1 h2; exact absurd h2 (by omega)
    | succ fu ih =>
      intro k hk hnk f2 ef2 H2 locs2 ls2 hl2 hP2 hD2 hS2
      refine lv_iload_n hx hb dX2_become_2 rfl (lv_at hl2 0 rfl) ?_
      refine lv_bipush (v := 8) hx hb dX2_become_3 (by decide) ?_
      refine lv_icmp_gt (tgt := 26) hx hb dX2_become_5 (by decide) (fun c3 => ?_) (fun c3 => ?_)
      · have xk : k = 9 := k_exit1 (M := 8) hk (by decide) c3
        subst xk
        clear c3
        have q4 : f2 = kcpy f g 9 := by
          subst ef2
          first | rfl | (simp only [↓reduceIte]; done) | (simp []; done)
        exact kRv F hr hlocks hS2 dX2_become_26 f2 q4 hP2 hD2
      · have lk : k < 9 := k_body1 (M := 8) hk (by decide) c3
        refine lv_aload_n hx hb dX2_become_8 rfl (lv_at hl2 1 rfl) ?_
        refine kget F hK hP2 2 0 0 iX2 rfl rfl (by decide) (List.mem_of_getElem? (i := 1) rfl) rfl dX2_become_9 ?_
        refine lv_iload_n hx hb dX2_become_12 rfl (lv_at hl2 0 rfl) ?_
        refine lv_aload_n hx hb dX2_become_13 rfl (lv_at hl2 2 rfl) ?_
        refine kget F hK hP2 2 2 0 iX2 rfl rfl (by decide) (List.mem_of_getElem? (i := 1) rfl) rfl dX2_become_14 ?_
        refine lv_iload_n hx hb dX2_become_17 rfl (lv_at hl2 0 rfl) ?_
        refine kild F hK hP2 3 k rfl rfl lk (Nat.le_of_ble_eq_true rfl) dX2_become_18 ?_
        refine kist F hK hP2 hD2 hS2 1 k (fun zz => [oMs h a, aI G a 9 zz, oMs h2 a2, aI G a2 9 g]) rfl rfl lk (Nat.le_of_ble_eq_true rfl) rfl dX2_become_19 (fun H5 locs5 f5 ef5 (hP5 : va_P G.1 vwCl ([oMs h a, aI G a 9 f5, oMs h2 a2, aI G a2 9 g]) H5) (hD5 : va_D A ([oMs h a, aI G a 9 f5, oMs h2 a2, aI G a2 9 g])) hS5 => ?_)
        clear hP2 hD2 hS2
        refine lv_iinc (v := nI (k + 1)) (lv' := [(2, .int (nI (k + 1))), (0, .ref h), (1, .ref h2)]) hx hb dX2_become_20 hl2 (k := 0) rfl (nI_1 _) (by decide) rfl (fun ls6 hl6 => ?_)
        clear hl2
        refine lv_goto (tgt := 2) hx hb dX2_become_23 (by decide) ?_
        exact ih (k + 1) (by omega) (by omega) f5 (by subst ef5; subst ef2; rfl)  _ _ _ hl6 hP5 hD5 hS5
  exact LOOP2 (9 + 1) 0 (by omega) (by omega) f rfl  _ _ _ hl1 hP0 hD0 hS0
set_option maxHeartbeats 1000000 in
set_option maxRecDepth 100000 in
theorem c_X2_mixInto (l : Launch) (G : kG) (h : Nat) (a : Nat) (f : Nat → Int32) (x : Int32) (n : Nat) (hn : n < 9) : kM G l yX2_mixInto wsX2_mixInto ({ frames := 1, cells := 0, slots := 0, locals := 22 }) [.ref h, .int x, .int (nI n)] ([oMs h a, aI G a 9 f]) (kQi G (fun (rr : Int32) (uu : Unit) => rr = kmixN f x (n + 1)) (fun (uu : Unit) => [oMs h a, aI G a 9 f])) := by
  refine kStart (cc := cX2_mixInto) (maxL := 5) (ret := (some .int)) (by decide) rfl (Nat.le_of_ble_eq_true rfl) (fun pg ev st mi bl mt cd A ls0 F hr hlocks hin hK hP0 hD0 hA hS0 hl0 => ?_)
  obtain ⟨hx, hb, hml, hown, hts⟩ := id F
  have hl0 : lv_has ls0 5 [(0, .ref h), (1, .int x), (2, .int (nI n))] := hl0
  have iX2 : ∀ w ∈ u_ws RX2 TX2 1, w ∈ wsX2_mixInto := fun w h => List.mem_cons_of_mem _ (List.mem_append_right _ h)
  refine lv_iload_n hx hb dX2_mixInto_0 rfl (lv_at hl0 1 rfl) ?_
  refine lv_istore_n (lv' := [(3, .int x), (0, .ref h), (1, .int x), (2, .int (nI n))]) hx hb dX2_mixInto_1 rfl hl0 (by decide) rfl (fun ls1 hl1 => ?_)
  clear hl0
  refine lv_iconst (v := 0) hx hb dX2_mixInto_2 (by decide) ?_
  refine lv_istore (lv' := [(4, .int 0), (3, .int x), (0, .ref h), (1, .int x), (2, .int (nI n))]) hx hb dX2_mixInto_3 hl1 (by decide) rfl (fun ls2 hl2 => ?_)
  clear hl1
  have LOOP3 : ∀ (fu k : Nat), k ≤ (n + 1) → (n + 1) + 1 ≤ k + fu → ∀ y3 : Int32, y3 = kmixN f x k → ∀ (H3 : Heap) (locs3 : List Loc) (ls3 : Array Slot), lv_has ls3 5 [(4, .int (nI k)), (3, .int y3), (0, .ref h), (1, .int x), (2, .int (nI n))] → va_P G.1 vwCl ([oMs h a, aI G a 9 f]) H3 → va_D A ([oMs h a, aI G a 9 f]) → va_S A st.heap H3 locs3 → W pg l ev ({ frames := 1, cells := 0, slots := 0, locals := 22 }) st mi ([.ref h, .int x, .int (nI n)] : List Value).toArray bl mt cd H3 locs3 0 0 (MQ bl (kQi G (fun (rr : Int32) (uu : Unit) => rr = kmixN f x (n + 1)) (fun (uu : Unit) => [oMs h a, aI G a 9 f]) A) ([.ref h, .int x, .int (nI n)] : List Value).toArray st 0 0 A) (F0 mi 5 ls3 []) := by
    intro fu
    induction fu with
    | zero => intro k h1 h2; exact absurd h2 (by omega)
    | succ fu ih =>
      intro k hk hnk y3 ey3 H3 locs3 ls3 hl3 hP3 hD3 hS3
      refine lv_iload hx hb dX2_mixInto_5 (lv_at hl3 0 rfl) ?_
      refine lv_iload_n hx hb dX2_mixInto_7 rfl (lv_at hl3 4 rfl) ?_
      refine lv_icmp_gt (tgt := 36) hx hb dX2_mixInto_8 (by decide) (fun c4 => ?_) (fun c4 => ?_)
      · have xk : k = n + 1 := k_exit1 hk (by omega) c4
        subst xk
        refine lv_iload_n hx hb dX2_mixInto_36 rfl (lv_at hl3 1 rfl) ?_
        have q5 : y3 = kmixN f x (n + 1) := by
          subst ey3
          first | rfl | (simp only [c4, ↓reduceIte]; done) | (simp [c4]; done)
        exact kRi F hr hlocks hS3 dX2_mixInto_37 () q5 hP3 hD3
      · have lk : k < n + 1 := k_body1 hk (by omega) c4
        refine lv_iload hx hb dX2_mixInto_11 (lv_at hl3 0 rfl) ?_
        refine lv_bipush (v := 8) hx hb dX2_mixInto_13 (by decide) ?_
        refine lv_icmp_gt (tgt := 36) hx hb dX2_mixInto_15 (by decide) (fun c6 => ?_) (fun c6 => ?_)
        · exact absurd c6 (nI_nlt (a := 8) (b := k) (by omega) (by omega))
        · refine lv_iload_n hx hb dX2_mixInto_18 rfl (lv_at hl3 1 rfl) ?_
          refine lv_aload_n hx hb dX2_mixInto_19 rfl (lv_at hl3 2 rfl) ?_
          refine kget F hK hP3 2 0 0 iX2 rfl rfl (by decide) (List.mem_of_getElem? (i := 1) rfl) rfl dX2_mixInto_20 ?_
          refine lv_iload hx hb dX2_mixInto_23 (lv_at hl3 0 rfl) ?_
          refine kild F hK hP3 1 k rfl rfl (by omega) (Nat.le_of_ble_eq_true rfl) dX2_mixInto_25 ?_
          refine kPNi F hK hP3 hD3 hS3 hA hl3.1 (c_X8_mix l G y3 (f k)) (fun _ => rfl) 1 rfl gX2_mixInto_X8_mix_n17 (List.mem_of_getElem? (i := 2) rfl) (List.mem_of_getElem? (i := 3) rfl) rfl 2 rfl (by decide +kernel) ⟨Nat.le_of_ble_eq_true rfl, Nat.le_of_ble_eq_true rfl⟩ ⟨Nat.zero_le _, Nat.zero_le _⟩ (Nat.le_of_ble_eq_true rfl) rfl dX2_mixInto_26 (fun r7 u7 H8 locs8 hw7 (hP8 : va_P G.1 vwCl ([oMs h a, aI G a 9 f]) H8) (hD8 : va_D A ([oMs h a, aI G a 9 f])) hS8 => ?_)
          clear hP3 hD3 hS3
          have w7_0 : r7 = kmix y3 (f k) := hw7
          refine lv_istore_n (lv' := [(3, .int r7), (4, .int (nI k)), (0, .ref h), (1, .int x), (2, .int (nI n))]) hx hb dX2_mixInto_29 rfl hl3 (by decide) rfl (fun ls9 hl9 => ?_)
          clear hl3
          refine lv_iinc (v := nI (k + 1)) (lv' := [(4, .int (nI (k + 1))), (3, .int r7), (0, .ref h), (1, .int x), (2, .int (nI n))]) hx hb dX2_mixInto_30 hl9 (k := 1) rfl (nI_1 _) (by decide) rfl (fun ls10 hl10 => ?_)
          clear hl9
          refine lv_goto (tgt := 5) hx hb dX2_mixInto_33 (by decide) ?_
          exact ih (k + 1) (by omega) (by omega) r7 (by subst w7_0; subst ey3; rfl)  _ _ _ hl10 hP8 hD8 hS8
  exact LOOP3 ((n + 1) + 1) 0 (by omega) (by omega) x rfl  _ _ _ hl2 hP0 hD0 hS0
set_option maxHeartbeats 1000000 in
set_option maxRecDepth 100000 in
theorem c_X7_tells (l : Launch) (G : kG) (i : Int32) : kM G l yX7_tells wsX7_tells ({ frames := 0, cells := 0, slots := 0, locals := 0 }) [.int i] ([]) (kQi G (fun (rr : Int32) (uu : Unit) => rr = kin5 i) (fun (uu : Unit) => [])) := by
  refine kStart (cc := cX7_tells) (maxL := 1) (ret := (some .boolean)) (by decide) rfl (Nat.le_of_ble_eq_true rfl) (fun pg ev st mi bl mt cd A ls0 F hr hlocks hin hK hP0 hD0 hA hS0 hl0 => ?_)
  obtain ⟨hx, hb, hml, hown, hts⟩ := id F
  have hl0 : lv_has ls0 1 [(0, .int i)] := hl0
  refine lv_iload_n hx hb dX7_tells_0 rfl (lv_at hl0 0 rfl) ?_
  refine lv_if_lt (tgt := 13) hx hb dX7_tells_1 (by decide) (fun c1 => ?_) (fun c1 => ?_)
  · refine lv_iconst (v := 0) hx hb dX7_tells_13 (by decide) ?_
    have q2 : 0 = kin5 i := by
      first | (simp only [kin5, c1, ↓reduceIte]; done) | (simp [kin5, c1]; done) | rfl
    exact kRz F hr hlocks hS0 dX7_tells_14 rfl () q2 hP0 hD0
  · refine lv_iload_n hx hb dX7_tells_4 rfl (lv_at hl0 0 rfl) ?_
    refine lv_iconst (v := 4) hx hb dX7_tells_5 (by decide) ?_
    refine lv_icmp_gt (tgt := 13) hx hb dX7_tells_6 (by decide) (fun c3 => ?_) (fun c3 => ?_)
    · refine lv_iconst (v := 0) hx hb dX7_tells_13 (by decide) ?_
      have q4 : 0 = kin5 i := by
        first | (simp only [kin5, c1, c3, ↓reduceIte]; done) | (simp [kin5, c1, c3]; done) | rfl
      exact kRz F hr hlocks hS0 dX7_tells_14 rfl () q4 hP0 hD0
    · refine lv_iconst (v := 1) hx hb dX7_tells_9 (by decide) ?_
      refine lv_goto (tgt := 14) hx hb dX7_tells_10 (by decide) ?_
      have q5 : 1 = kin5 i := by
        first | (simp only [kin5, c1, c3, ↓reduceIte]; done) | (simp [kin5, c1, c3]; done) | rfl
      exact kRz F hr hlocks hS0 dX7_tells_14 rfl () q5 hP0 hD0
set_option maxHeartbeats 1000000 in
set_option maxRecDepth 100000 in
theorem c_X7_tell (l : Launch) (G : kG) (h : Nat) (p : Nat → Int32) (i : Int32) : kM G l yX7_tell wsX7_tell ({ frames := 0, cells := 0, slots := 0, locals := 0 }) [.ref h, .int i] ([oTi h p]) (kQi G (fun (rr : Int32) (uu : Unit) => rr = ktell p i) (fun (uu : Unit) => [oTi h p])) := by
  refine kStart (cc := cX7_tell) (maxL := 2) (ret := (some .int)) (by decide) rfl (Nat.le_of_ble_eq_true rfl) (fun pg ev st mi bl mt cd A ls0 F hr hlocks hin hK hP0 hD0 hA hS0 hl0 => ?_)
  obtain ⟨hx, hb, hml, hown, hts⟩ := id F
  have hl0 : lv_has ls0 2 [(0, .ref h), (1, .int i)] := hl0
  have iX7 : ∀ w ∈ u_ws RX7 TX7 5, w ∈ wsX7_tell := fun w h => List.mem_cons_of_mem _ (List.mem_append_right _ h)
  refine lv_iload_n hx hb dX7_tell_0 rfl (lv_at hl0 1 rfl) ?_
  rcases ksw i 0 3 with c1 | c1
  · refine lv_tableOut (tgt := 52) hx hb dX7_tell_1 c1 (by decide) ?_
    refine lv_aload_n hx hb dX7_tell_52 rfl (lv_at hl0 0 rfl) ?_
    refine kget F hK hP0 7 0 4 iX7 rfl rfl (by decide) (List.mem_of_getElem? (i := 5) rfl) rfl dX7_tell_53 ?_
    have q2 : (p 4) = ktell p i := by
      have z0 : ¬ i = 0 := by intro z; rw [z] at c1; revert c1; decide
      have z1 : ¬ i = 1 := by intro z; rw [z] at c1; revert c1; decide
      have z2 : ¬ i = 2 := by intro z; rw [z] at c1; revert c1; decide
      have z3 : ¬ i = 3 := by intro z; rw [z] at c1; revert c1; decide
      simp only [ktell, z0, z1, z2, z3, ↓reduceIte]
    exact kRi F hr hlocks hS0 dX7_tell_56 () q2 hP0 hD0
  · obtain ⟨c1a, c1b⟩ := c1
    rcases kswE i 0 (v := 0) (by decide) with c1_0 | c1_0
    · refine lv_tableIn (off := 31) (tgt := 32) hx hb dX7_tell_1 c1a c1b (by rw [c1_0]; rfl) (by decide) ?_
      refine lv_aload_n hx hb dX7_tell_32 rfl (lv_at hl0 0 rfl) ?_
      refine kget F hK hP0 7 0 0 iX7 rfl rfl (by decide) (List.mem_of_getElem? (i := 1) rfl) rfl dX7_tell_33 ?_
      have q3 : (p 0) = ktell p i := by
        first | (subst c1_0; rfl) | (subst c1_0; simp only [ktell, show ¬ ((0 : Int32) = 1) from by decide, show ¬ ((0 : Int32) = 2) from by decide, show ¬ ((0 : Int32) = 3) from by decide, eq_self, ↓reduceIte]; done) | (simp only [ktell, c1_0, ↓reduceIte]) | (simp only [ktell, c1_0, ↓reduceIte]; simp; done)
      exact kRi F hr hlocks hS0 dX7_tell_36 () q3 hP0 hD0
    rcases kswE i 1 (v := 1) (by decide) with c1_1 | c1_1
    · refine lv_tableIn (off := 36) (tgt := 37) hx hb dX7_tell_1 c1a c1b (by rw [c1_1]; rfl) (by decide) ?_
      refine lv_aload_n hx hb dX7_tell_37 rfl (lv_at hl0 0 rfl) ?_
      refine kget F hK hP0 7 0 1 iX7 rfl rfl (by decide) (List.mem_of_getElem? (i := 2) rfl) rfl dX7_tell_38 ?_
      have q4 : (p 1) = ktell p i := by
        first | (subst c1_1; rfl) | (subst c1_1; simp only [ktell, show ¬ ((1 : Int32) = 0) from by decide, show ¬ ((1 : Int32) = 2) from by decide, show ¬ ((1 : Int32) = 3) from by decide, eq_self, ↓reduceIte]; done) | (simp only [ktell, c1_1, ↓reduceIte]) | (simp only [ktell, c1_1, ↓reduceIte]; simp; done)
      exact kRi F hr hlocks hS0 dX7_tell_41 () q4 hP0 hD0
    rcases kswE i 2 (v := 2) (by decide) with c1_2 | c1_2
    · refine lv_tableIn (off := 41) (tgt := 42) hx hb dX7_tell_1 c1a c1b (by rw [c1_2]; rfl) (by decide) ?_
      refine lv_aload_n hx hb dX7_tell_42 rfl (lv_at hl0 0 rfl) ?_
      refine kget F hK hP0 7 0 2 iX7 rfl rfl (by decide) (List.mem_of_getElem? (i := 3) rfl) rfl dX7_tell_43 ?_
      have q5 : (p 2) = ktell p i := by
        first | (subst c1_2; rfl) | (subst c1_2; simp only [ktell, show ¬ ((2 : Int32) = 0) from by decide, show ¬ ((2 : Int32) = 1) from by decide, show ¬ ((2 : Int32) = 3) from by decide, eq_self, ↓reduceIte]; done) | (simp only [ktell, c1_2, ↓reduceIte]) | (simp only [ktell, c1_2, ↓reduceIte]; simp; done)
      exact kRi F hr hlocks hS0 dX7_tell_46 () q5 hP0 hD0
    rcases kswE i 3 (v := 3) (by decide) with c1_3 | c1_3
    · refine lv_tableIn (off := 46) (tgt := 47) hx hb dX7_tell_1 c1a c1b (by rw [c1_3]; rfl) (by decide) ?_
      refine lv_aload_n hx hb dX7_tell_47 rfl (lv_at hl0 0 rfl) ?_
      refine kget F hK hP0 7 0 3 iX7 rfl rfl (by decide) (List.mem_of_getElem? (i := 4) rfl) rfl dX7_tell_48 ?_
      have q6 : (p 3) = ktell p i := by
        first | (subst c1_3; rfl) | (subst c1_3; simp only [ktell, show ¬ ((3 : Int32) = 0) from by decide, show ¬ ((3 : Int32) = 1) from by decide, show ¬ ((3 : Int32) = 2) from by decide, eq_self, ↓reduceIte]; done) | (simp only [ktell, c1_3, ↓reduceIte]) | (simp only [ktell, c1_3, ↓reduceIte]; simp; done)
      exact kRi F hr hlocks hS0 dX7_tell_51 () q6 hP0 hD0
    omega
set_option maxHeartbeats 1000000 in
set_option maxRecDepth 100000 in
theorem c_X1_open (l : Launch) (G : kG) (h : Nat) (p : Nat → Int32) : kM G l yX1_open wsX1_open ({ frames := 0, cells := 0, slots := 0, locals := 0 }) [.ref h] ([oLa h p]) (kQv G (fun (uu : (Nat → Int32)) => uu = upd (upd p 1 0) 2 0) (fun (uu : (Nat → Int32)) => [oLa h uu])) := by
  refine kStart (cc := cX1_open) (maxL := 1) (ret := none) (by decide) rfl (Nat.le_of_ble_eq_true rfl) (fun pg ev st mi bl mt cd A ls0 F hr hlocks hin hK hP0 hD0 hA hS0 hl0 => ?_)
  obtain ⟨hx, hb, hml, hown, hts⟩ := id F
  have hl0 : lv_has ls0 1 [(0, .ref h)] := hl0
  have iX1 : ∀ w ∈ u_ws RX1 TX1 3, w ∈ wsX1_open := fun w h => List.mem_cons_of_mem _ (List.mem_append_right _ h)
  refine lv_aload_n hx hb dX1_open_0 rfl (lv_at hl0 0 rfl) ?_
  refine lv_iconst (v := 0) hx hb dX1_open_1 (by decide) ?_
  refine kput F hK hP0 hD0 hS0 (ty0 := tyX1) 1 0 1 iX1 rfl tyX1_ok nmX1 (fun zz => [oLa h zz]) p rfl (by decide) (List.mem_of_getElem? (i := 1) rfl) rfl rfl rfl (Nat.le_of_ble_eq_true rfl) rfl dX1_open_2 (fun H1 locs1 p1 ep1 (hP1 : va_P G.1 vwCl ([oLa h p1]) H1) (hD1 : va_D A ([oLa h p1])) hS1 => ?_)
  clear hP0 hD0 hS0
  refine lv_aload_n hx hb dX1_open_5 rfl (lv_at hl0 0 rfl) ?_
  refine lv_iconst (v := 0) hx hb dX1_open_6 (by decide) ?_
  refine kput F hK hP1 hD1 hS1 (ty0 := tyX1) 1 0 2 iX1 rfl tyX1_ok nmX1 (fun zz => [oLa h zz]) p1 rfl (by decide) (List.mem_of_getElem? (i := 2) rfl) rfl rfl rfl (Nat.le_of_ble_eq_true rfl) rfl dX1_open_7 (fun H2 locs2 p2 ep2 (hP2 : va_P G.1 vwCl ([oLa h p2]) H2) (hD2 : va_D A ([oLa h p2])) hS2 => ?_)
  clear hP1 hD1 hS1
  have q3 : p2 = upd (upd p 1 0) 2 0 := by
    subst ep2
    subst ep1
    first | rfl | (simp only [↓reduceIte]; done) | (simp []; done)
  exact kRv F hr hlocks hS2 dX1_open_10 p2 q3 hP2 hD2
set_option maxHeartbeats 1000000 in
set_option maxRecDepth 100000 in
theorem c_X1_lockOf (l : Launch) (G : kG) (h : Nat) (p : Nat → Int32) (m : Int32) : kM G l yX1_lockOf wsX1_lockOf ({ frames := 1, cells := 0, slots := 0, locals := 22 }) [.ref h, .int m] ([oLa h p]) (kQi G (fun (rr : Int32) (uu : Unit) => rr = klock p m) (fun (uu : Unit) => [oLa h p])) := by
  refine kStart (cc := cX1_lockOf) (maxL := 2) (ret := (some .int)) (by decide) rfl (Nat.le_of_ble_eq_true rfl) (fun pg ev st mi bl mt cd A ls0 F hr hlocks hin hK hP0 hD0 hA hS0 hl0 => ?_)
  obtain ⟨hx, hb, hml, hown, hts⟩ := id F
  have hl0 : lv_has ls0 2 [(0, .ref h), (1, .int m)] := hl0
  have iX1 : ∀ w ∈ u_ws RX1 TX1 3, w ∈ wsX1_lockOf := fun w h => List.mem_cons_of_mem _ (List.mem_append_right _ h)
  refine lv_iload_n hx hb dX1_lockOf_0 rfl (lv_at hl0 1 rfl) ?_
  refine lv_aload_n hx hb dX1_lockOf_1 rfl (lv_at hl0 0 rfl) ?_
  refine kget F hK hP0 1 0 0 iX1 rfl rfl (by decide) (List.mem_of_getElem? (i := 1) rfl) rfl dX1_lockOf_2 ?_
  refine kPNi F hK hP0 hD0 hS0 hA hl0.1 (c_X8_mix l G m (p 0)) (fun _ => rfl) 0 rfl gX1_lockOf_X8_mix_n19 (List.mem_of_getElem? (i := 3) rfl) (List.mem_of_getElem? (i := 4) rfl) rfl 2 rfl (by decide +kernel) ⟨Nat.le_of_ble_eq_true rfl, Nat.le_of_ble_eq_true rfl⟩ ⟨Nat.zero_le _, Nat.zero_le _⟩ (Nat.le_of_ble_eq_true rfl) rfl dX1_lockOf_5 (fun r1 u1 H2 locs2 hw1 (hP2 : va_P G.1 vwCl ([oLa h p]) H2) (hD2 : va_D A ([oLa h p])) hS2 => ?_)
  clear hP0 hD0 hS0
  have w1_0 : r1 = kmix m (p 0) := hw1
  refine lv_aload_n hx hb dX1_lockOf_8 rfl (lv_at hl0 0 rfl) ?_
  refine kget F hK hP2 1 0 1 iX1 rfl rfl (by decide) (List.mem_of_getElem? (i := 2) rfl) rfl dX1_lockOf_9 ?_
  refine kPNi F hK hP2 hD2 hS2 hA hl0.1 (c_X8_mix l G r1 (p 1)) (fun _ => rfl) 0 rfl gX1_lockOf_X8_mix_n19 (List.mem_of_getElem? (i := 3) rfl) (List.mem_of_getElem? (i := 4) rfl) rfl 2 rfl (by decide +kernel) ⟨Nat.le_of_ble_eq_true rfl, Nat.le_of_ble_eq_true rfl⟩ ⟨Nat.zero_le _, Nat.zero_le _⟩ (Nat.le_of_ble_eq_true rfl) rfl dX1_lockOf_12 (fun r3 u3 H4 locs4 hw3 (hP4 : va_P G.1 vwCl ([oLa h p]) H4) (hD4 : va_D A ([oLa h p])) hS4 => ?_)
  clear hP2 hD2 hS2
  have w3_0 : r3 = kmix r1 (p 1) := hw3
  have q5 : r3 = klock p m := by
    subst w3_0
    subst w1_0
    first | rfl | (simp only [↓reduceIte]; done) | (simp []; done)
  exact kRi F hr hlocks hS4 dX1_lockOf_15 () q5 hP4 hD4
set_option maxHeartbeats 1000000 in
set_option maxRecDepth 100000 in
theorem c_X1_tagOf (l : Launch) (G : kG) (h : Nat) (p : Nat → Int32) (m : Int32) (x : Int32) : kM G l yX1_tagOf wsX1_tagOf ({ frames := 2, cells := 0, slots := 0, locals := 43 }) [.ref h, .int m, .int x] ([oLa h p]) (kQi G (fun (rr : Int32) (uu : Unit) => rr = ktag p m x) (fun (uu : Unit) => [oLa h p])) := by
  refine kStart (cc := cX1_tagOf) (maxL := 3) (ret := (some .int)) (by decide) rfl (Nat.le_of_ble_eq_true rfl) (fun pg ev st mi bl mt cd A ls0 F hr hlocks hin hK hP0 hD0 hA hS0 hl0 => ?_)
  obtain ⟨hx, hb, hml, hown, hts⟩ := id F
  have hl0 : lv_has ls0 3 [(0, .ref h), (1, .int m), (2, .int x)] := hl0
  have iX1 : ∀ w ∈ u_ws RX1 TX1 3, w ∈ wsX1_tagOf := fun w h => List.mem_cons_of_mem _ (List.mem_append_right _ h)
  refine lv_aload_n hx hb dX1_tagOf_0 rfl (lv_at hl0 0 rfl) ?_
  refine lv_iload_n hx hb dX1_tagOf_1 rfl (lv_at hl0 1 rfl) ?_
  refine kVi (wr := []) F hK hP0 hD0 hS0 hA hl0.1 (c_X1_lockOf l G h p m) [0] [] 1 0 gX1_tagOf_X1_lockOf rfl 1 rfl (by decide +kernel) ⟨Nat.le_of_ble_eq_true rfl, Nat.le_of_ble_eq_true rfl⟩ ⟨Nat.zero_le _, Nat.zero_le _⟩ rfl rfl rfl rfl (by decide) (by decide) (by decide) (Nat.le_of_ble_eq_true rfl) rfl dX1_tagOf_2 (fun r1 u1 H2 locs2 hw1 (hP2 : va_P G.1 vwCl ([oLa h p]) H2) (hD2 : va_D A ([oLa h p])) hS2 => ?_)
  clear hP0 hD0 hS0
  have w1_0 : r1 = klock p m := hw1
  refine lv_iload_n hx hb dX1_tagOf_5 rfl (lv_at hl0 2 rfl) ?_
  refine kPNi F hK hP2 hD2 hS2 hA hl0.1 (c_X8_mix l G r1 x) (fun _ => rfl) 0 rfl gX1_tagOf_X8_mix_n19 (List.mem_of_getElem? (i := 9) rfl) (List.mem_of_getElem? (i := 10) rfl) rfl 2 rfl (by decide +kernel) ⟨Nat.le_of_ble_eq_true rfl, Nat.le_of_ble_eq_true rfl⟩ ⟨Nat.zero_le _, Nat.zero_le _⟩ (Nat.le_of_ble_eq_true rfl) rfl dX1_tagOf_6 (fun r3 u3 H4 locs4 hw3 (hP4 : va_P G.1 vwCl ([oLa h p]) H4) (hD4 : va_D A ([oLa h p])) hS4 => ?_)
  clear hP2 hD2 hS2
  have w3_0 : r3 = kmix r1 x := hw3
  refine lv_aload_n hx hb dX1_tagOf_9 rfl (lv_at hl0 0 rfl) ?_
  refine kget F hK hP4 1 0 2 iX1 rfl rfl (by decide) (List.mem_of_getElem? (i := 1) rfl) rfl dX1_tagOf_10 ?_
  refine kPNi F hK hP4 hD4 hS4 hA hl0.1 (c_X8_mix l G r3 (p 2)) (fun _ => rfl) 0 rfl gX1_tagOf_X8_mix_n19 (List.mem_of_getElem? (i := 9) rfl) (List.mem_of_getElem? (i := 10) rfl) rfl 2 rfl (by decide +kernel) ⟨Nat.le_of_ble_eq_true rfl, Nat.le_of_ble_eq_true rfl⟩ ⟨Nat.zero_le _, Nat.zero_le _⟩ (Nat.le_of_ble_eq_true rfl) rfl dX1_tagOf_13 (fun r5 u5 H6 locs6 hw5 (hP6 : va_P G.1 vwCl ([oLa h p]) H6) (hD6 : va_D A ([oLa h p])) hS6 => ?_)
  clear hP4 hD4 hS4
  have w5_0 : r5 = kmix r3 (p 2) := hw5
  have q7 : r5 = ktag p m x := by
    subst w5_0
    subst w3_0
    subst w1_0
    first | rfl | (simp only [↓reduceIte]; done) | (simp []; done)
  exact kRi F hr hlocks hS6 dX1_tagOf_16 () q7 hP6 hD6
set_option maxHeartbeats 1000000 in
set_option maxRecDepth 100000 in
theorem c_X1_veil (l : Launch) (G : kG) (h : Nat) (p : Nat → Int32) (m : Int32) (v : Int32) : kM G l yX1_veil wsX1_veil ({ frames := 2, cells := 0, slots := 0, locals := 43 }) [.ref h, .int m, .int v] ([oLa h p]) (kQi G (fun (rr : Int32) (uu : Unit) => rr = kveil p m v) (fun (uu : Unit) => [oLa h p])) := by
  refine kStart (cc := cX1_veil) (maxL := 3) (ret := (some .int)) (by decide) rfl (Nat.le_of_ble_eq_true rfl) (fun pg ev st mi bl mt cd A ls0 F hr hlocks hin hK hP0 hD0 hA hS0 hl0 => ?_)
  obtain ⟨hx, hb, hml, hown, hts⟩ := id F
  have hl0 : lv_has ls0 3 [(0, .ref h), (1, .int m), (2, .int v)] := hl0
  have iX1 : ∀ w ∈ u_ws RX1 TX1 3, w ∈ wsX1_veil := fun w h => List.mem_cons_of_mem _ (List.mem_append_right _ h)
  refine lv_iload_n hx hb dX1_veil_0 rfl (lv_at hl0 2 rfl) ?_
  refine lv_aload_n hx hb dX1_veil_1 rfl (lv_at hl0 0 rfl) ?_
  refine lv_iload_n hx hb dX1_veil_2 rfl (lv_at hl0 1 rfl) ?_
  refine kVi (wr := []) F hK hP0 hD0 hS0 hA hl0.1 (c_X1_lockOf l G h p m) [0] [] 1 0 gX1_veil_X1_lockOf rfl 1 rfl (by decide +kernel) ⟨Nat.le_of_ble_eq_true rfl, Nat.le_of_ble_eq_true rfl⟩ ⟨Nat.zero_le _, Nat.zero_le _⟩ rfl rfl rfl rfl (by decide) (by decide) (by decide) (Nat.le_of_ble_eq_true rfl) rfl dX1_veil_3 (fun r1 u1 H2 locs2 hw1 (hP2 : va_P G.1 vwCl ([oLa h p]) H2) (hD2 : va_D A ([oLa h p])) hS2 => ?_)
  clear hP0 hD0 hS0
  have w1_0 : r1 = klock p m := hw1
  refine lv_aload_n hx hb dX1_veil_6 rfl (lv_at hl0 0 rfl) ?_
  refine kget F hK hP2 1 0 2 iX1 rfl rfl (by decide) (List.mem_of_getElem? (i := 1) rfl) rfl dX1_veil_7 ?_
  refine kPNi F hK hP2 hD2 hS2 hA hl0.1 (c_X8_mix l G r1 (p 2)) (fun _ => rfl) 0 rfl gX1_veil_X8_mix_n19 (List.mem_of_getElem? (i := 9) rfl) (List.mem_of_getElem? (i := 10) rfl) rfl 2 rfl (by decide +kernel) ⟨Nat.le_of_ble_eq_true rfl, Nat.le_of_ble_eq_true rfl⟩ ⟨Nat.zero_le _, Nat.zero_le _⟩ (Nat.le_of_ble_eq_true rfl) rfl dX1_veil_10 (fun r3 u3 H4 locs4 hw3 (hP4 : va_P G.1 vwCl ([oLa h p]) H4) (hD4 : va_D A ([oLa h p])) hS4 => ?_)
  clear hP2 hD2 hS2
  have w3_0 : r3 = kmix r1 (p 2) := hw3
  refine lv_sipush (v := 1023) hx hb dX1_veil_13 (by decide) ?_
  refine lv_iand hx hb dX1_veil_16 ?_
  refine lv_ixor hx hb dX1_veil_17 ?_
  have q5 : (v ^^^ (r3 &&& 1023)) = kveil p m v := by
    subst w3_0
    subst w1_0
    first | rfl | (simp only [↓reduceIte]; done) | (simp []; done)
  exact kRi F hr hlocks hS4 dX1_veil_18 () q5 hP4 hD4
set_option maxHeartbeats 1000000 in
set_option maxRecDepth 100000 in
theorem c_X4_send (l : Launch) (G : kG) (h : Nat) (w : Nat) (q : Nat → Nat) (d : Nat → Nat) (p : Nat → Int32) (M : Nat → Nat → Int32) (h2 : Nat) (a2 : Nat) (g : Nat → Int32) (L : Nat) (hL : p 1 = nI L) (hL8 : L ≤ 8) : kM G l yX4_send wsX4_send ({ frames := 1, cells := 0, slots := 0, locals := 22 }) [.ref h, .ref h2] ([oRo h w p, aM G w 8 (krow q), oMs (q 0) (d 0), aI G (d 0) 9 (M 0), oMs (q 1) (d 1), aI G (d 1) 9 (M 1), oMs (q 2) (d 2), aI G (d 2) 9 (M 2), oMs (q 3) (d 3), aI G (d 3) 9 (M 3), oMs (q 4) (d 4), aI G (d 4) 9 (M 4), oMs (q 5) (d 5), aI G (d 5) 9 (M 5), oMs (q 6) (d 6), aI G (d 6) 9 (M 6), oMs (q 7) (d 7), aI G (d 7) 9 (M 7), oMs h2 a2, aI G a2 9 g]) (kQv G (fun (uu : (Nat → Int32) × (Nat → Nat → Int32)) => (uu.1 = ksendP L p) ∧ (uu.2 = ksendM L M g)) (fun (uu : (Nat → Int32) × (Nat → Nat → Int32)) => [oRo h w uu.1, aM G w 8 (krow q), oMs (q 0) (d 0), aI G (d 0) 9 (uu.2 0), oMs (q 1) (d 1), aI G (d 1) 9 (uu.2 1), oMs (q 2) (d 2), aI G (d 2) 9 (uu.2 2), oMs (q 3) (d 3), aI G (d 3) 9 (uu.2 3), oMs (q 4) (d 4), aI G (d 4) 9 (uu.2 4), oMs (q 5) (d 5), aI G (d 5) 9 (uu.2 5), oMs (q 6) (d 6), aI G (d 6) 9 (uu.2 6), oMs (q 7) (d 7), aI G (d 7) 9 (uu.2 7), oMs h2 a2, aI G a2 9 g])) := by
  refine kStart (cc := cX4_send) (maxL := 2) (ret := none) (by decide) rfl (Nat.le_of_ble_eq_true rfl) (fun pg ev st mi bl mt cd A ls0 F hr hlocks hin hK hP0 hD0 hA hS0 hl0 => ?_)
  obtain ⟨hx, hb, hml, hown, hts⟩ := id F
  have hl0 : lv_has ls0 2 [(0, .ref h), (1, .ref h2)] := hl0
  have iX4 : ∀ w ∈ u_ws RX4 TX4 3, w ∈ wsX4_send := fun w h => List.mem_cons_of_mem _ (List.mem_append_left _ (List.mem_append_right _ h))
  refine lv_aload_n hx hb dX4_send_0 rfl (lv_at hl0 0 rfl) ?_
  refine kget F hK hP0 4 0 1 iX4 rfl rfl (by decide) (List.mem_of_getElem? (i := 1) rfl) rfl dX4_send_1 ?_
  refine lv_bipush (v := 8) hx hb dX4_send_4 (by decide) ?_
  refine lv_icmp_lt (tgt := 20) hx hb dX4_send_6 (by decide) (fun c1 => ?_) (fun c1 => ?_)
  · rw [hL] at c1
    have lL : L < 8 := (nI_ltI (a := L) (b := 8) (by omega) (by omega)).mp c1
    rcases (show L = 0 ∨ L ≠ 0 by omega) with hj0 | hj0
    · subst hj0
      refine lv_aload_n hx hb dX4_send_20 rfl (lv_at hl0 0 rfl) ?_
      refine kget F hK hP0 4 0 0 iX4 rfl rfl (by decide) (List.mem_of_getElem? (i := 3) rfl) rfl dX4_send_21 ?_
      refine lv_aload_n hx hb dX4_send_24 rfl (lv_at hl0 0 rfl) ?_
      refine kget F hK hP0 4 0 1 iX4 rfl rfl (by decide) (List.mem_of_getElem? (i := 1) rfl) rfl dX4_send_25 ?_
      refine kald F hK hP0 1 2 0 (x := (q 0)) rfl rfl hL (by decide) (Nat.le_of_ble_eq_true rfl) rfl dX4_send_28 ?_
      refine lv_aload_n hx hb dX4_send_29 rfl (lv_at hl0 1 rfl) ?_
      refine kVv (wr := [oRo h w p, aM G w 8 (krow q), oMs (q 1) (d 1), aI G (d 1) 9 (M 1), oMs (q 2) (d 2), aI G (d 2) 9 (M 2), oMs (q 3) (d 3), aI G (d 3) 9 (M 3), oMs (q 4) (d 4), aI G (d 4) 9 (M 4), oMs (q 5) (d 5), aI G (d 5) 9 (M 5), oMs (q 6) (d 6), aI G (d 6) 9 (M 6), oMs (q 7) (d 7), aI G (d 7) 9 (M 7)]) F hK hP0 hD0 hS0 hA hl0.1 (c_X2_become l G (q 0) (d 0) (M 0) h2 a2 g) [2, 3, 18, 19] [0, 1, 4, 5, 6, 7, 8, 9, 10, 11, 12, 13, 14, 15, 16, 17] 2 0 gX4_send_X2_become rfl 1 rfl (by decide +kernel) ⟨Nat.le_of_ble_eq_true rfl, Nat.le_of_ble_eq_true rfl⟩ ⟨Nat.zero_le _, Nat.zero_le _⟩ rfl rfl rfl rfl (by decide) (by decide) (by decide) (Nat.le_of_ble_eq_true rfl) rfl dX4_send_30 (fun f_2 H3 locs3 hw2 (hP3 : va_P G.1 vwCl ([oRo h w p, aM G w 8 (krow q), oMs (q 1) (d 1), aI G (d 1) 9 (M 1), oMs (q 2) (d 2), aI G (d 2) 9 (M 2), oMs (q 3) (d 3), aI G (d 3) 9 (M 3), oMs (q 4) (d 4), aI G (d 4) 9 (M 4), oMs (q 5) (d 5), aI G (d 5) 9 (M 5), oMs (q 6) (d 6), aI G (d 6) 9 (M 6), oMs (q 7) (d 7), aI G (d 7) 9 (M 7), oMs (q 0) (d 0), aI G (d 0) 9 f_2, oMs h2 a2, aI G a2 9 g]) H3) (hD3 : va_D A ([oRo h w p, aM G w 8 (krow q), oMs (q 1) (d 1), aI G (d 1) 9 (M 1), oMs (q 2) (d 2), aI G (d 2) 9 (M 2), oMs (q 3) (d 3), aI G (d 3) 9 (M 3), oMs (q 4) (d 4), aI G (d 4) 9 (M 4), oMs (q 5) (d 5), aI G (d 5) 9 (M 5), oMs (q 6) (d 6), aI G (d 6) 9 (M 6), oMs (q 7) (d 7), aI G (d 7) 9 (M 7), oMs (q 0) (d 0), aI G (d 0) 9 f_2, oMs h2 a2, aI G a2 9 g])) hS3 => ?_)
      clear hP0 hD0 hS0
      have w2_0 : f_2 = kcpy (M 0) g 9 := hw2
      refine lv_aload_n hx hb dX4_send_33 rfl (lv_at hl0 0 rfl) ?_
      refine lv_dup hx hb dX4_send_34 rfl ?_
      refine kget F hK hP3 4 0 1 iX4 rfl rfl (by decide) (List.mem_of_getElem? (i := 1) rfl) rfl dX4_send_35 ?_
      refine lv_iconst (v := 1) hx hb dX4_send_38 (by decide) ?_
      refine lv_iadd hx hb dX4_send_39 ?_
      refine kput F hK hP3 hD3 hS3 (ty0 := tyX4) 4 0 1 iX4 rfl tyX4_ok nmX4 (fun zz => [oRo h w zz, aM G w 8 (krow q), oMs (q 1) (d 1), aI G (d 1) 9 (M 1), oMs (q 2) (d 2), aI G (d 2) 9 (M 2), oMs (q 3) (d 3), aI G (d 3) 9 (M 3), oMs (q 4) (d 4), aI G (d 4) 9 (M 4), oMs (q 5) (d 5), aI G (d 5) 9 (M 5), oMs (q 6) (d 6), aI G (d 6) 9 (M 6), oMs (q 7) (d 7), aI G (d 7) 9 (M 7), oMs (q 0) (d 0), aI G (d 0) 9 f_2, oMs h2 a2, aI G a2 9 g]) p rfl (by decide) (List.mem_of_getElem? (i := 1) rfl) rfl rfl rfl (Nat.le_of_ble_eq_true rfl) rfl dX4_send_40 (fun H4 locs4 p4 ep4 (hP4 : va_P G.1 vwCl ([oRo h w p4, aM G w 8 (krow q), oMs (q 1) (d 1), aI G (d 1) 9 (M 1), oMs (q 2) (d 2), aI G (d 2) 9 (M 2), oMs (q 3) (d 3), aI G (d 3) 9 (M 3), oMs (q 4) (d 4), aI G (d 4) 9 (M 4), oMs (q 5) (d 5), aI G (d 5) 9 (M 5), oMs (q 6) (d 6), aI G (d 6) 9 (M 6), oMs (q 7) (d 7), aI G (d 7) 9 (M 7), oMs (q 0) (d 0), aI G (d 0) 9 f_2, oMs h2 a2, aI G a2 9 g]) H4) (hD4 : va_D A ([oRo h w p4, aM G w 8 (krow q), oMs (q 1) (d 1), aI G (d 1) 9 (M 1), oMs (q 2) (d 2), aI G (d 2) 9 (M 2), oMs (q 3) (d 3), aI G (d 3) 9 (M 3), oMs (q 4) (d 4), aI G (d 4) 9 (M 4), oMs (q 5) (d 5), aI G (d 5) 9 (M 5), oMs (q 6) (d 6), aI G (d 6) 9 (M 6), oMs (q 7) (d 7), aI G (d 7) 9 (M 7), oMs (q 0) (d 0), aI G (d 0) 9 f_2, oMs h2 a2, aI G a2 9 g])) hS4 => ?_)
      clear hP3 hD3 hS3
      have q5 : (p4 = ksendP 0 p) ∧ ((va_up M 0 f_2) = ksendM 0 M g) := by
        subst ep4
        subst w2_0
        exact ⟨rfl, rfl⟩
      exact kRv F hr hlocks hS4 dX4_send_43 ⟨p4, (va_up M 0 f_2)⟩ q5 (hP4.sub [0, 1, 16, 17, 2, 3, 4, 5, 6, 7, 8, 9, 10, 11, 12, 13, 14, 15, 18, 19] rfl) (hD4.sub [0, 1, 16, 17, 2, 3, 4, 5, 6, 7, 8, 9, 10, 11, 12, 13, 14, 15, 18, 19] (by decide) rfl)
    rcases (show L = 1 ∨ L ≠ 1 by omega) with hj1 | hj1
    · subst hj1
      refine lv_aload_n hx hb dX4_send_20 rfl (lv_at hl0 0 rfl) ?_
      refine kget F hK hP0 4 0 0 iX4 rfl rfl (by decide) (List.mem_of_getElem? (i := 3) rfl) rfl dX4_send_21 ?_
      refine lv_aload_n hx hb dX4_send_24 rfl (lv_at hl0 0 rfl) ?_
      refine kget F hK hP0 4 0 1 iX4 rfl rfl (by decide) (List.mem_of_getElem? (i := 1) rfl) rfl dX4_send_25 ?_
      refine kald F hK hP0 1 2 1 (x := (q 1)) rfl rfl hL (by decide) (Nat.le_of_ble_eq_true rfl) rfl dX4_send_28 ?_
      refine lv_aload_n hx hb dX4_send_29 rfl (lv_at hl0 1 rfl) ?_
      refine kVv (wr := [oRo h w p, aM G w 8 (krow q), oMs (q 0) (d 0), aI G (d 0) 9 (M 0), oMs (q 2) (d 2), aI G (d 2) 9 (M 2), oMs (q 3) (d 3), aI G (d 3) 9 (M 3), oMs (q 4) (d 4), aI G (d 4) 9 (M 4), oMs (q 5) (d 5), aI G (d 5) 9 (M 5), oMs (q 6) (d 6), aI G (d 6) 9 (M 6), oMs (q 7) (d 7), aI G (d 7) 9 (M 7)]) F hK hP0 hD0 hS0 hA hl0.1 (c_X2_become l G (q 1) (d 1) (M 1) h2 a2 g) [4, 5, 18, 19] [0, 1, 2, 3, 6, 7, 8, 9, 10, 11, 12, 13, 14, 15, 16, 17] 2 0 gX4_send_X2_become rfl 1 rfl (by decide +kernel) ⟨Nat.le_of_ble_eq_true rfl, Nat.le_of_ble_eq_true rfl⟩ ⟨Nat.zero_le _, Nat.zero_le _⟩ rfl rfl rfl rfl (by decide) (by decide) (by decide) (Nat.le_of_ble_eq_true rfl) rfl dX4_send_30 (fun f_6 H7 locs7 hw6 (hP7 : va_P G.1 vwCl ([oRo h w p, aM G w 8 (krow q), oMs (q 0) (d 0), aI G (d 0) 9 (M 0), oMs (q 2) (d 2), aI G (d 2) 9 (M 2), oMs (q 3) (d 3), aI G (d 3) 9 (M 3), oMs (q 4) (d 4), aI G (d 4) 9 (M 4), oMs (q 5) (d 5), aI G (d 5) 9 (M 5), oMs (q 6) (d 6), aI G (d 6) 9 (M 6), oMs (q 7) (d 7), aI G (d 7) 9 (M 7), oMs (q 1) (d 1), aI G (d 1) 9 f_6, oMs h2 a2, aI G a2 9 g]) H7) (hD7 : va_D A ([oRo h w p, aM G w 8 (krow q), oMs (q 0) (d 0), aI G (d 0) 9 (M 0), oMs (q 2) (d 2), aI G (d 2) 9 (M 2), oMs (q 3) (d 3), aI G (d 3) 9 (M 3), oMs (q 4) (d 4), aI G (d 4) 9 (M 4), oMs (q 5) (d 5), aI G (d 5) 9 (M 5), oMs (q 6) (d 6), aI G (d 6) 9 (M 6), oMs (q 7) (d 7), aI G (d 7) 9 (M 7), oMs (q 1) (d 1), aI G (d 1) 9 f_6, oMs h2 a2, aI G a2 9 g])) hS7 => ?_)
      clear hP0 hD0 hS0
      have w6_0 : f_6 = kcpy (M 1) g 9 := hw6
      refine lv_aload_n hx hb dX4_send_33 rfl (lv_at hl0 0 rfl) ?_
      refine lv_dup hx hb dX4_send_34 rfl ?_
      refine kget F hK hP7 4 0 1 iX4 rfl rfl (by decide) (List.mem_of_getElem? (i := 1) rfl) rfl dX4_send_35 ?_
      refine lv_iconst (v := 1) hx hb dX4_send_38 (by decide) ?_
      refine lv_iadd hx hb dX4_send_39 ?_
      refine kput F hK hP7 hD7 hS7 (ty0 := tyX4) 4 0 1 iX4 rfl tyX4_ok nmX4 (fun zz => [oRo h w zz, aM G w 8 (krow q), oMs (q 0) (d 0), aI G (d 0) 9 (M 0), oMs (q 2) (d 2), aI G (d 2) 9 (M 2), oMs (q 3) (d 3), aI G (d 3) 9 (M 3), oMs (q 4) (d 4), aI G (d 4) 9 (M 4), oMs (q 5) (d 5), aI G (d 5) 9 (M 5), oMs (q 6) (d 6), aI G (d 6) 9 (M 6), oMs (q 7) (d 7), aI G (d 7) 9 (M 7), oMs (q 1) (d 1), aI G (d 1) 9 f_6, oMs h2 a2, aI G a2 9 g]) p rfl (by decide) (List.mem_of_getElem? (i := 1) rfl) rfl rfl rfl (Nat.le_of_ble_eq_true rfl) rfl dX4_send_40 (fun H8 locs8 p8 ep8 (hP8 : va_P G.1 vwCl ([oRo h w p8, aM G w 8 (krow q), oMs (q 0) (d 0), aI G (d 0) 9 (M 0), oMs (q 2) (d 2), aI G (d 2) 9 (M 2), oMs (q 3) (d 3), aI G (d 3) 9 (M 3), oMs (q 4) (d 4), aI G (d 4) 9 (M 4), oMs (q 5) (d 5), aI G (d 5) 9 (M 5), oMs (q 6) (d 6), aI G (d 6) 9 (M 6), oMs (q 7) (d 7), aI G (d 7) 9 (M 7), oMs (q 1) (d 1), aI G (d 1) 9 f_6, oMs h2 a2, aI G a2 9 g]) H8) (hD8 : va_D A ([oRo h w p8, aM G w 8 (krow q), oMs (q 0) (d 0), aI G (d 0) 9 (M 0), oMs (q 2) (d 2), aI G (d 2) 9 (M 2), oMs (q 3) (d 3), aI G (d 3) 9 (M 3), oMs (q 4) (d 4), aI G (d 4) 9 (M 4), oMs (q 5) (d 5), aI G (d 5) 9 (M 5), oMs (q 6) (d 6), aI G (d 6) 9 (M 6), oMs (q 7) (d 7), aI G (d 7) 9 (M 7), oMs (q 1) (d 1), aI G (d 1) 9 f_6, oMs h2 a2, aI G a2 9 g])) hS8 => ?_)
      clear hP7 hD7 hS7
      have q9 : (p8 = ksendP 1 p) ∧ ((va_up M 1 f_6) = ksendM 1 M g) := by
        subst ep8
        subst w6_0
        exact ⟨rfl, rfl⟩
      exact kRv F hr hlocks hS8 dX4_send_43 ⟨p8, (va_up M 1 f_6)⟩ q9 (hP8.sub [0, 1, 2, 3, 16, 17, 4, 5, 6, 7, 8, 9, 10, 11, 12, 13, 14, 15, 18, 19] rfl) (hD8.sub [0, 1, 2, 3, 16, 17, 4, 5, 6, 7, 8, 9, 10, 11, 12, 13, 14, 15, 18, 19] (by decide) rfl)
    rcases (show L = 2 ∨ L ≠ 2 by omega) with hj2 | hj2
    · subst hj2
      refine lv_aload_n hx hb dX4_send_20 rfl (lv_at hl0 0 rfl) ?_
      refine kget F hK hP0 4 0 0 iX4 rfl rfl (by decide) (List.mem_of_getElem? (i := 3) rfl) rfl dX4_send_21 ?_
      refine lv_aload_n hx hb dX4_send_24 rfl (lv_at hl0 0 rfl) ?_
      refine kget F hK hP0 4 0 1 iX4 rfl rfl (by decide) (List.mem_of_getElem? (i := 1) rfl) rfl dX4_send_25 ?_
      refine kald F hK hP0 1 2 2 (x := (q 2)) rfl rfl hL (by decide) (Nat.le_of_ble_eq_true rfl) rfl dX4_send_28 ?_
      refine lv_aload_n hx hb dX4_send_29 rfl (lv_at hl0 1 rfl) ?_
      refine kVv (wr := [oRo h w p, aM G w 8 (krow q), oMs (q 0) (d 0), aI G (d 0) 9 (M 0), oMs (q 1) (d 1), aI G (d 1) 9 (M 1), oMs (q 3) (d 3), aI G (d 3) 9 (M 3), oMs (q 4) (d 4), aI G (d 4) 9 (M 4), oMs (q 5) (d 5), aI G (d 5) 9 (M 5), oMs (q 6) (d 6), aI G (d 6) 9 (M 6), oMs (q 7) (d 7), aI G (d 7) 9 (M 7)]) F hK hP0 hD0 hS0 hA hl0.1 (c_X2_become l G (q 2) (d 2) (M 2) h2 a2 g) [6, 7, 18, 19] [0, 1, 2, 3, 4, 5, 8, 9, 10, 11, 12, 13, 14, 15, 16, 17] 2 0 gX4_send_X2_become rfl 1 rfl (by decide +kernel) ⟨Nat.le_of_ble_eq_true rfl, Nat.le_of_ble_eq_true rfl⟩ ⟨Nat.zero_le _, Nat.zero_le _⟩ rfl rfl rfl rfl (by decide) (by decide) (by decide) (Nat.le_of_ble_eq_true rfl) rfl dX4_send_30 (fun f_10 H11 locs11 hw10 (hP11 : va_P G.1 vwCl ([oRo h w p, aM G w 8 (krow q), oMs (q 0) (d 0), aI G (d 0) 9 (M 0), oMs (q 1) (d 1), aI G (d 1) 9 (M 1), oMs (q 3) (d 3), aI G (d 3) 9 (M 3), oMs (q 4) (d 4), aI G (d 4) 9 (M 4), oMs (q 5) (d 5), aI G (d 5) 9 (M 5), oMs (q 6) (d 6), aI G (d 6) 9 (M 6), oMs (q 7) (d 7), aI G (d 7) 9 (M 7), oMs (q 2) (d 2), aI G (d 2) 9 f_10, oMs h2 a2, aI G a2 9 g]) H11) (hD11 : va_D A ([oRo h w p, aM G w 8 (krow q), oMs (q 0) (d 0), aI G (d 0) 9 (M 0), oMs (q 1) (d 1), aI G (d 1) 9 (M 1), oMs (q 3) (d 3), aI G (d 3) 9 (M 3), oMs (q 4) (d 4), aI G (d 4) 9 (M 4), oMs (q 5) (d 5), aI G (d 5) 9 (M 5), oMs (q 6) (d 6), aI G (d 6) 9 (M 6), oMs (q 7) (d 7), aI G (d 7) 9 (M 7), oMs (q 2) (d 2), aI G (d 2) 9 f_10, oMs h2 a2, aI G a2 9 g])) hS11 => ?_)
      clear hP0 hD0 hS0
      have w10_0 : f_10 = kcpy (M 2) g 9 := hw10
      refine lv_aload_n hx hb dX4_send_33 rfl (lv_at hl0 0 rfl) ?_
      refine lv_dup hx hb dX4_send_34 rfl ?_
      refine kget F hK hP11 4 0 1 iX4 rfl rfl (by decide) (List.mem_of_getElem? (i := 1) rfl) rfl dX4_send_35 ?_
      refine lv_iconst (v := 1) hx hb dX4_send_38 (by decide) ?_
      refine lv_iadd hx hb dX4_send_39 ?_
      refine kput F hK hP11 hD11 hS11 (ty0 := tyX4) 4 0 1 iX4 rfl tyX4_ok nmX4 (fun zz => [oRo h w zz, aM G w 8 (krow q), oMs (q 0) (d 0), aI G (d 0) 9 (M 0), oMs (q 1) (d 1), aI G (d 1) 9 (M 1), oMs (q 3) (d 3), aI G (d 3) 9 (M 3), oMs (q 4) (d 4), aI G (d 4) 9 (M 4), oMs (q 5) (d 5), aI G (d 5) 9 (M 5), oMs (q 6) (d 6), aI G (d 6) 9 (M 6), oMs (q 7) (d 7), aI G (d 7) 9 (M 7), oMs (q 2) (d 2), aI G (d 2) 9 f_10, oMs h2 a2, aI G a2 9 g]) p rfl (by decide) (List.mem_of_getElem? (i := 1) rfl) rfl rfl rfl (Nat.le_of_ble_eq_true rfl) rfl dX4_send_40 (fun H12 locs12 p12 ep12 (hP12 : va_P G.1 vwCl ([oRo h w p12, aM G w 8 (krow q), oMs (q 0) (d 0), aI G (d 0) 9 (M 0), oMs (q 1) (d 1), aI G (d 1) 9 (M 1), oMs (q 3) (d 3), aI G (d 3) 9 (M 3), oMs (q 4) (d 4), aI G (d 4) 9 (M 4), oMs (q 5) (d 5), aI G (d 5) 9 (M 5), oMs (q 6) (d 6), aI G (d 6) 9 (M 6), oMs (q 7) (d 7), aI G (d 7) 9 (M 7), oMs (q 2) (d 2), aI G (d 2) 9 f_10, oMs h2 a2, aI G a2 9 g]) H12) (hD12 : va_D A ([oRo h w p12, aM G w 8 (krow q), oMs (q 0) (d 0), aI G (d 0) 9 (M 0), oMs (q 1) (d 1), aI G (d 1) 9 (M 1), oMs (q 3) (d 3), aI G (d 3) 9 (M 3), oMs (q 4) (d 4), aI G (d 4) 9 (M 4), oMs (q 5) (d 5), aI G (d 5) 9 (M 5), oMs (q 6) (d 6), aI G (d 6) 9 (M 6), oMs (q 7) (d 7), aI G (d 7) 9 (M 7), oMs (q 2) (d 2), aI G (d 2) 9 f_10, oMs h2 a2, aI G a2 9 g])) hS12 => ?_)
      clear hP11 hD11 hS11
      have q13 : (p12 = ksendP 2 p) ∧ ((va_up M 2 f_10) = ksendM 2 M g) := by
        subst ep12
        subst w10_0
        exact ⟨rfl, rfl⟩
      exact kRv F hr hlocks hS12 dX4_send_43 ⟨p12, (va_up M 2 f_10)⟩ q13 (hP12.sub [0, 1, 2, 3, 4, 5, 16, 17, 6, 7, 8, 9, 10, 11, 12, 13, 14, 15, 18, 19] rfl) (hD12.sub [0, 1, 2, 3, 4, 5, 16, 17, 6, 7, 8, 9, 10, 11, 12, 13, 14, 15, 18, 19] (by decide) rfl)
    rcases (show L = 3 ∨ L ≠ 3 by omega) with hj3 | hj3
    · subst hj3
      refine lv_aload_n hx hb dX4_send_20 rfl (lv_at hl0 0 rfl) ?_
      refine kget F hK hP0 4 0 0 iX4 rfl rfl (by decide) (List.mem_of_getElem? (i := 3) rfl) rfl dX4_send_21 ?_
      refine lv_aload_n hx hb dX4_send_24 rfl (lv_at hl0 0 rfl) ?_
      refine kget F hK hP0 4 0 1 iX4 rfl rfl (by decide) (List.mem_of_getElem? (i := 1) rfl) rfl dX4_send_25 ?_
      refine kald F hK hP0 1 2 3 (x := (q 3)) rfl rfl hL (by decide) (Nat.le_of_ble_eq_true rfl) rfl dX4_send_28 ?_
      refine lv_aload_n hx hb dX4_send_29 rfl (lv_at hl0 1 rfl) ?_
      refine kVv (wr := [oRo h w p, aM G w 8 (krow q), oMs (q 0) (d 0), aI G (d 0) 9 (M 0), oMs (q 1) (d 1), aI G (d 1) 9 (M 1), oMs (q 2) (d 2), aI G (d 2) 9 (M 2), oMs (q 4) (d 4), aI G (d 4) 9 (M 4), oMs (q 5) (d 5), aI G (d 5) 9 (M 5), oMs (q 6) (d 6), aI G (d 6) 9 (M 6), oMs (q 7) (d 7), aI G (d 7) 9 (M 7)]) F hK hP0 hD0 hS0 hA hl0.1 (c_X2_become l G (q 3) (d 3) (M 3) h2 a2 g) [8, 9, 18, 19] [0, 1, 2, 3, 4, 5, 6, 7, 10, 11, 12, 13, 14, 15, 16, 17] 2 0 gX4_send_X2_become rfl 1 rfl (by decide +kernel) ⟨Nat.le_of_ble_eq_true rfl, Nat.le_of_ble_eq_true rfl⟩ ⟨Nat.zero_le _, Nat.zero_le _⟩ rfl rfl rfl rfl (by decide) (by decide) (by decide) (Nat.le_of_ble_eq_true rfl) rfl dX4_send_30 (fun f_14 H15 locs15 hw14 (hP15 : va_P G.1 vwCl ([oRo h w p, aM G w 8 (krow q), oMs (q 0) (d 0), aI G (d 0) 9 (M 0), oMs (q 1) (d 1), aI G (d 1) 9 (M 1), oMs (q 2) (d 2), aI G (d 2) 9 (M 2), oMs (q 4) (d 4), aI G (d 4) 9 (M 4), oMs (q 5) (d 5), aI G (d 5) 9 (M 5), oMs (q 6) (d 6), aI G (d 6) 9 (M 6), oMs (q 7) (d 7), aI G (d 7) 9 (M 7), oMs (q 3) (d 3), aI G (d 3) 9 f_14, oMs h2 a2, aI G a2 9 g]) H15) (hD15 : va_D A ([oRo h w p, aM G w 8 (krow q), oMs (q 0) (d 0), aI G (d 0) 9 (M 0), oMs (q 1) (d 1), aI G (d 1) 9 (M 1), oMs (q 2) (d 2), aI G (d 2) 9 (M 2), oMs (q 4) (d 4), aI G (d 4) 9 (M 4), oMs (q 5) (d 5), aI G (d 5) 9 (M 5), oMs (q 6) (d 6), aI G (d 6) 9 (M 6), oMs (q 7) (d 7), aI G (d 7) 9 (M 7), oMs (q 3) (d 3), aI G (d 3) 9 f_14, oMs h2 a2, aI G a2 9 g])) hS15 => ?_)
      clear hP0 hD0 hS0
      have w14_0 : f_14 = kcpy (M 3) g 9 := hw14
      refine lv_aload_n hx hb dX4_send_33 rfl (lv_at hl0 0 rfl) ?_
      refine lv_dup hx hb dX4_send_34 rfl ?_
      refine kget F hK hP15 4 0 1 iX4 rfl rfl (by decide) (List.mem_of_getElem? (i := 1) rfl) rfl dX4_send_35 ?_
      refine lv_iconst (v := 1) hx hb dX4_send_38 (by decide) ?_
      refine lv_iadd hx hb dX4_send_39 ?_
      refine kput F hK hP15 hD15 hS15 (ty0 := tyX4) 4 0 1 iX4 rfl tyX4_ok nmX4 (fun zz => [oRo h w zz, aM G w 8 (krow q), oMs (q 0) (d 0), aI G (d 0) 9 (M 0), oMs (q 1) (d 1), aI G (d 1) 9 (M 1), oMs (q 2) (d 2), aI G (d 2) 9 (M 2), oMs (q 4) (d 4), aI G (d 4) 9 (M 4), oMs (q 5) (d 5), aI G (d 5) 9 (M 5), oMs (q 6) (d 6), aI G (d 6) 9 (M 6), oMs (q 7) (d 7), aI G (d 7) 9 (M 7), oMs (q 3) (d 3), aI G (d 3) 9 f_14, oMs h2 a2, aI G a2 9 g]) p rfl (by decide) (List.mem_of_getElem? (i := 1) rfl) rfl rfl rfl (Nat.le_of_ble_eq_true rfl) rfl dX4_send_40 (fun H16 locs16 p16 ep16 (hP16 : va_P G.1 vwCl ([oRo h w p16, aM G w 8 (krow q), oMs (q 0) (d 0), aI G (d 0) 9 (M 0), oMs (q 1) (d 1), aI G (d 1) 9 (M 1), oMs (q 2) (d 2), aI G (d 2) 9 (M 2), oMs (q 4) (d 4), aI G (d 4) 9 (M 4), oMs (q 5) (d 5), aI G (d 5) 9 (M 5), oMs (q 6) (d 6), aI G (d 6) 9 (M 6), oMs (q 7) (d 7), aI G (d 7) 9 (M 7), oMs (q 3) (d 3), aI G (d 3) 9 f_14, oMs h2 a2, aI G a2 9 g]) H16) (hD16 : va_D A ([oRo h w p16, aM G w 8 (krow q), oMs (q 0) (d 0), aI G (d 0) 9 (M 0), oMs (q 1) (d 1), aI G (d 1) 9 (M 1), oMs (q 2) (d 2), aI G (d 2) 9 (M 2), oMs (q 4) (d 4), aI G (d 4) 9 (M 4), oMs (q 5) (d 5), aI G (d 5) 9 (M 5), oMs (q 6) (d 6), aI G (d 6) 9 (M 6), oMs (q 7) (d 7), aI G (d 7) 9 (M 7), oMs (q 3) (d 3), aI G (d 3) 9 f_14, oMs h2 a2, aI G a2 9 g])) hS16 => ?_)
      clear hP15 hD15 hS15
      have q17 : (p16 = ksendP 3 p) ∧ ((va_up M 3 f_14) = ksendM 3 M g) := by
        subst ep16
        subst w14_0
        exact ⟨rfl, rfl⟩
      exact kRv F hr hlocks hS16 dX4_send_43 ⟨p16, (va_up M 3 f_14)⟩ q17 (hP16.sub [0, 1, 2, 3, 4, 5, 6, 7, 16, 17, 8, 9, 10, 11, 12, 13, 14, 15, 18, 19] rfl) (hD16.sub [0, 1, 2, 3, 4, 5, 6, 7, 16, 17, 8, 9, 10, 11, 12, 13, 14, 15, 18, 19] (by decide) rfl)
    rcases (show L = 4 ∨ L ≠ 4 by omega) with hj4 | hj4
    · subst hj4
      refine lv_aload_n hx hb dX4_send_20 rfl (lv_at hl0 0 rfl) ?_
      refine kget F hK hP0 4 0 0 iX4 rfl rfl (by decide) (List.mem_of_getElem? (i := 3) rfl) rfl dX4_send_21 ?_
      refine lv_aload_n hx hb dX4_send_24 rfl (lv_at hl0 0 rfl) ?_
      refine kget F hK hP0 4 0 1 iX4 rfl rfl (by decide) (List.mem_of_getElem? (i := 1) rfl) rfl dX4_send_25 ?_
      refine kald F hK hP0 1 2 4 (x := (q 4)) rfl rfl hL (by decide) (Nat.le_of_ble_eq_true rfl) rfl dX4_send_28 ?_
      refine lv_aload_n hx hb dX4_send_29 rfl (lv_at hl0 1 rfl) ?_
      refine kVv (wr := [oRo h w p, aM G w 8 (krow q), oMs (q 0) (d 0), aI G (d 0) 9 (M 0), oMs (q 1) (d 1), aI G (d 1) 9 (M 1), oMs (q 2) (d 2), aI G (d 2) 9 (M 2), oMs (q 3) (d 3), aI G (d 3) 9 (M 3), oMs (q 5) (d 5), aI G (d 5) 9 (M 5), oMs (q 6) (d 6), aI G (d 6) 9 (M 6), oMs (q 7) (d 7), aI G (d 7) 9 (M 7)]) F hK hP0 hD0 hS0 hA hl0.1 (c_X2_become l G (q 4) (d 4) (M 4) h2 a2 g) [10, 11, 18, 19] [0, 1, 2, 3, 4, 5, 6, 7, 8, 9, 12, 13, 14, 15, 16, 17] 2 0 gX4_send_X2_become rfl 1 rfl (by decide +kernel) ⟨Nat.le_of_ble_eq_true rfl, Nat.le_of_ble_eq_true rfl⟩ ⟨Nat.zero_le _, Nat.zero_le _⟩ rfl rfl rfl rfl (by decide) (by decide) (by decide) (Nat.le_of_ble_eq_true rfl) rfl dX4_send_30 (fun f_18 H19 locs19 hw18 (hP19 : va_P G.1 vwCl ([oRo h w p, aM G w 8 (krow q), oMs (q 0) (d 0), aI G (d 0) 9 (M 0), oMs (q 1) (d 1), aI G (d 1) 9 (M 1), oMs (q 2) (d 2), aI G (d 2) 9 (M 2), oMs (q 3) (d 3), aI G (d 3) 9 (M 3), oMs (q 5) (d 5), aI G (d 5) 9 (M 5), oMs (q 6) (d 6), aI G (d 6) 9 (M 6), oMs (q 7) (d 7), aI G (d 7) 9 (M 7), oMs (q 4) (d 4), aI G (d 4) 9 f_18, oMs h2 a2, aI G a2 9 g]) H19) (hD19 : va_D A ([oRo h w p, aM G w 8 (krow q), oMs (q 0) (d 0), aI G (d 0) 9 (M 0), oMs (q 1) (d 1), aI G (d 1) 9 (M 1), oMs (q 2) (d 2), aI G (d 2) 9 (M 2), oMs (q 3) (d 3), aI G (d 3) 9 (M 3), oMs (q 5) (d 5), aI G (d 5) 9 (M 5), oMs (q 6) (d 6), aI G (d 6) 9 (M 6), oMs (q 7) (d 7), aI G (d 7) 9 (M 7), oMs (q 4) (d 4), aI G (d 4) 9 f_18, oMs h2 a2, aI G a2 9 g])) hS19 => ?_)
      clear hP0 hD0 hS0
      have w18_0 : f_18 = kcpy (M 4) g 9 := hw18
      refine lv_aload_n hx hb dX4_send_33 rfl (lv_at hl0 0 rfl) ?_
      refine lv_dup hx hb dX4_send_34 rfl ?_
      refine kget F hK hP19 4 0 1 iX4 rfl rfl (by decide) (List.mem_of_getElem? (i := 1) rfl) rfl dX4_send_35 ?_
      refine lv_iconst (v := 1) hx hb dX4_send_38 (by decide) ?_
      refine lv_iadd hx hb dX4_send_39 ?_
      refine kput F hK hP19 hD19 hS19 (ty0 := tyX4) 4 0 1 iX4 rfl tyX4_ok nmX4 (fun zz => [oRo h w zz, aM G w 8 (krow q), oMs (q 0) (d 0), aI G (d 0) 9 (M 0), oMs (q 1) (d 1), aI G (d 1) 9 (M 1), oMs (q 2) (d 2), aI G (d 2) 9 (M 2), oMs (q 3) (d 3), aI G (d 3) 9 (M 3), oMs (q 5) (d 5), aI G (d 5) 9 (M 5), oMs (q 6) (d 6), aI G (d 6) 9 (M 6), oMs (q 7) (d 7), aI G (d 7) 9 (M 7), oMs (q 4) (d 4), aI G (d 4) 9 f_18, oMs h2 a2, aI G a2 9 g]) p rfl (by decide) (List.mem_of_getElem? (i := 1) rfl) rfl rfl rfl (Nat.le_of_ble_eq_true rfl) rfl dX4_send_40 (fun H20 locs20 p20 ep20 (hP20 : va_P G.1 vwCl ([oRo h w p20, aM G w 8 (krow q), oMs (q 0) (d 0), aI G (d 0) 9 (M 0), oMs (q 1) (d 1), aI G (d 1) 9 (M 1), oMs (q 2) (d 2), aI G (d 2) 9 (M 2), oMs (q 3) (d 3), aI G (d 3) 9 (M 3), oMs (q 5) (d 5), aI G (d 5) 9 (M 5), oMs (q 6) (d 6), aI G (d 6) 9 (M 6), oMs (q 7) (d 7), aI G (d 7) 9 (M 7), oMs (q 4) (d 4), aI G (d 4) 9 f_18, oMs h2 a2, aI G a2 9 g]) H20) (hD20 : va_D A ([oRo h w p20, aM G w 8 (krow q), oMs (q 0) (d 0), aI G (d 0) 9 (M 0), oMs (q 1) (d 1), aI G (d 1) 9 (M 1), oMs (q 2) (d 2), aI G (d 2) 9 (M 2), oMs (q 3) (d 3), aI G (d 3) 9 (M 3), oMs (q 5) (d 5), aI G (d 5) 9 (M 5), oMs (q 6) (d 6), aI G (d 6) 9 (M 6), oMs (q 7) (d 7), aI G (d 7) 9 (M 7), oMs (q 4) (d 4), aI G (d 4) 9 f_18, oMs h2 a2, aI G a2 9 g])) hS20 => ?_)
      clear hP19 hD19 hS19
      have q21 : (p20 = ksendP 4 p) ∧ ((va_up M 4 f_18) = ksendM 4 M g) := by
        subst ep20
        subst w18_0
        exact ⟨rfl, rfl⟩
      exact kRv F hr hlocks hS20 dX4_send_43 ⟨p20, (va_up M 4 f_18)⟩ q21 (hP20.sub [0, 1, 2, 3, 4, 5, 6, 7, 8, 9, 16, 17, 10, 11, 12, 13, 14, 15, 18, 19] rfl) (hD20.sub [0, 1, 2, 3, 4, 5, 6, 7, 8, 9, 16, 17, 10, 11, 12, 13, 14, 15, 18, 19] (by decide) rfl)
    rcases (show L = 5 ∨ L ≠ 5 by omega) with hj5 | hj5
    · subst hj5
      refine lv_aload_n hx hb dX4_send_20 rfl (lv_at hl0 0 rfl) ?_
      refine kget F hK hP0 4 0 0 iX4 rfl rfl (by decide) (List.mem_of_getElem? (i := 3) rfl) rfl dX4_send_21 ?_
      refine lv_aload_n hx hb dX4_send_24 rfl (lv_at hl0 0 rfl) ?_
      refine kget F hK hP0 4 0 1 iX4 rfl rfl (by decide) (List.mem_of_getElem? (i := 1) rfl) rfl dX4_send_25 ?_
      refine kald F hK hP0 1 2 5 (x := (q 5)) rfl rfl hL (by decide) (Nat.le_of_ble_eq_true rfl) rfl dX4_send_28 ?_
      refine lv_aload_n hx hb dX4_send_29 rfl (lv_at hl0 1 rfl) ?_
      refine kVv (wr := [oRo h w p, aM G w 8 (krow q), oMs (q 0) (d 0), aI G (d 0) 9 (M 0), oMs (q 1) (d 1), aI G (d 1) 9 (M 1), oMs (q 2) (d 2), aI G (d 2) 9 (M 2), oMs (q 3) (d 3), aI G (d 3) 9 (M 3), oMs (q 4) (d 4), aI G (d 4) 9 (M 4), oMs (q 6) (d 6), aI G (d 6) 9 (M 6), oMs (q 7) (d 7), aI G (d 7) 9 (M 7)]) F hK hP0 hD0 hS0 hA hl0.1 (c_X2_become l G (q 5) (d 5) (M 5) h2 a2 g) [12, 13, 18, 19] [0, 1, 2, 3, 4, 5, 6, 7, 8, 9, 10, 11, 14, 15, 16, 17] 2 0 gX4_send_X2_become rfl 1 rfl (by decide +kernel) ⟨Nat.le_of_ble_eq_true rfl, Nat.le_of_ble_eq_true rfl⟩ ⟨Nat.zero_le _, Nat.zero_le _⟩ rfl rfl rfl rfl (by decide) (by decide) (by decide) (Nat.le_of_ble_eq_true rfl) rfl dX4_send_30 (fun f_22 H23 locs23 hw22 (hP23 : va_P G.1 vwCl ([oRo h w p, aM G w 8 (krow q), oMs (q 0) (d 0), aI G (d 0) 9 (M 0), oMs (q 1) (d 1), aI G (d 1) 9 (M 1), oMs (q 2) (d 2), aI G (d 2) 9 (M 2), oMs (q 3) (d 3), aI G (d 3) 9 (M 3), oMs (q 4) (d 4), aI G (d 4) 9 (M 4), oMs (q 6) (d 6), aI G (d 6) 9 (M 6), oMs (q 7) (d 7), aI G (d 7) 9 (M 7), oMs (q 5) (d 5), aI G (d 5) 9 f_22, oMs h2 a2, aI G a2 9 g]) H23) (hD23 : va_D A ([oRo h w p, aM G w 8 (krow q), oMs (q 0) (d 0), aI G (d 0) 9 (M 0), oMs (q 1) (d 1), aI G (d 1) 9 (M 1), oMs (q 2) (d 2), aI G (d 2) 9 (M 2), oMs (q 3) (d 3), aI G (d 3) 9 (M 3), oMs (q 4) (d 4), aI G (d 4) 9 (M 4), oMs (q 6) (d 6), aI G (d 6) 9 (M 6), oMs (q 7) (d 7), aI G (d 7) 9 (M 7), oMs (q 5) (d 5), aI G (d 5) 9 f_22, oMs h2 a2, aI G a2 9 g])) hS23 => ?_)
      clear hP0 hD0 hS0
      have w22_0 : f_22 = kcpy (M 5) g 9 := hw22
      refine lv_aload_n hx hb dX4_send_33 rfl (lv_at hl0 0 rfl) ?_
      refine lv_dup hx hb dX4_send_34 rfl ?_
      refine kget F hK hP23 4 0 1 iX4 rfl rfl (by decide) (List.mem_of_getElem? (i := 1) rfl) rfl dX4_send_35 ?_
      refine lv_iconst (v := 1) hx hb dX4_send_38 (by decide) ?_
      refine lv_iadd hx hb dX4_send_39 ?_
      refine kput F hK hP23 hD23 hS23 (ty0 := tyX4) 4 0 1 iX4 rfl tyX4_ok nmX4 (fun zz => [oRo h w zz, aM G w 8 (krow q), oMs (q 0) (d 0), aI G (d 0) 9 (M 0), oMs (q 1) (d 1), aI G (d 1) 9 (M 1), oMs (q 2) (d 2), aI G (d 2) 9 (M 2), oMs (q 3) (d 3), aI G (d 3) 9 (M 3), oMs (q 4) (d 4), aI G (d 4) 9 (M 4), oMs (q 6) (d 6), aI G (d 6) 9 (M 6), oMs (q 7) (d 7), aI G (d 7) 9 (M 7), oMs (q 5) (d 5), aI G (d 5) 9 f_22, oMs h2 a2, aI G a2 9 g]) p rfl (by decide) (List.mem_of_getElem? (i := 1) rfl) rfl rfl rfl (Nat.le_of_ble_eq_true rfl) rfl dX4_send_40 (fun H24 locs24 p24 ep24 (hP24 : va_P G.1 vwCl ([oRo h w p24, aM G w 8 (krow q), oMs (q 0) (d 0), aI G (d 0) 9 (M 0), oMs (q 1) (d 1), aI G (d 1) 9 (M 1), oMs (q 2) (d 2), aI G (d 2) 9 (M 2), oMs (q 3) (d 3), aI G (d 3) 9 (M 3), oMs (q 4) (d 4), aI G (d 4) 9 (M 4), oMs (q 6) (d 6), aI G (d 6) 9 (M 6), oMs (q 7) (d 7), aI G (d 7) 9 (M 7), oMs (q 5) (d 5), aI G (d 5) 9 f_22, oMs h2 a2, aI G a2 9 g]) H24) (hD24 : va_D A ([oRo h w p24, aM G w 8 (krow q), oMs (q 0) (d 0), aI G (d 0) 9 (M 0), oMs (q 1) (d 1), aI G (d 1) 9 (M 1), oMs (q 2) (d 2), aI G (d 2) 9 (M 2), oMs (q 3) (d 3), aI G (d 3) 9 (M 3), oMs (q 4) (d 4), aI G (d 4) 9 (M 4), oMs (q 6) (d 6), aI G (d 6) 9 (M 6), oMs (q 7) (d 7), aI G (d 7) 9 (M 7), oMs (q 5) (d 5), aI G (d 5) 9 f_22, oMs h2 a2, aI G a2 9 g])) hS24 => ?_)
      clear hP23 hD23 hS23
      have q25 : (p24 = ksendP 5 p) ∧ ((va_up M 5 f_22) = ksendM 5 M g) := by
        subst ep24
        subst w22_0
        exact ⟨rfl, rfl⟩
      exact kRv F hr hlocks hS24 dX4_send_43 ⟨p24, (va_up M 5 f_22)⟩ q25 (hP24.sub [0, 1, 2, 3, 4, 5, 6, 7, 8, 9, 10, 11, 16, 17, 12, 13, 14, 15, 18, 19] rfl) (hD24.sub [0, 1, 2, 3, 4, 5, 6, 7, 8, 9, 10, 11, 16, 17, 12, 13, 14, 15, 18, 19] (by decide) rfl)
    rcases (show L = 6 ∨ L ≠ 6 by omega) with hj6 | hj6
    · subst hj6
      refine lv_aload_n hx hb dX4_send_20 rfl (lv_at hl0 0 rfl) ?_
      refine kget F hK hP0 4 0 0 iX4 rfl rfl (by decide) (List.mem_of_getElem? (i := 3) rfl) rfl dX4_send_21 ?_
      refine lv_aload_n hx hb dX4_send_24 rfl (lv_at hl0 0 rfl) ?_
      refine kget F hK hP0 4 0 1 iX4 rfl rfl (by decide) (List.mem_of_getElem? (i := 1) rfl) rfl dX4_send_25 ?_
      refine kald F hK hP0 1 2 6 (x := (q 6)) rfl rfl hL (by decide) (Nat.le_of_ble_eq_true rfl) rfl dX4_send_28 ?_
      refine lv_aload_n hx hb dX4_send_29 rfl (lv_at hl0 1 rfl) ?_
      refine kVv (wr := [oRo h w p, aM G w 8 (krow q), oMs (q 0) (d 0), aI G (d 0) 9 (M 0), oMs (q 1) (d 1), aI G (d 1) 9 (M 1), oMs (q 2) (d 2), aI G (d 2) 9 (M 2), oMs (q 3) (d 3), aI G (d 3) 9 (M 3), oMs (q 4) (d 4), aI G (d 4) 9 (M 4), oMs (q 5) (d 5), aI G (d 5) 9 (M 5), oMs (q 7) (d 7), aI G (d 7) 9 (M 7)]) F hK hP0 hD0 hS0 hA hl0.1 (c_X2_become l G (q 6) (d 6) (M 6) h2 a2 g) [14, 15, 18, 19] [0, 1, 2, 3, 4, 5, 6, 7, 8, 9, 10, 11, 12, 13, 16, 17] 2 0 gX4_send_X2_become rfl 1 rfl (by decide +kernel) ⟨Nat.le_of_ble_eq_true rfl, Nat.le_of_ble_eq_true rfl⟩ ⟨Nat.zero_le _, Nat.zero_le _⟩ rfl rfl rfl rfl (by decide) (by decide) (by decide) (Nat.le_of_ble_eq_true rfl) rfl dX4_send_30 (fun f_26 H27 locs27 hw26 (hP27 : va_P G.1 vwCl ([oRo h w p, aM G w 8 (krow q), oMs (q 0) (d 0), aI G (d 0) 9 (M 0), oMs (q 1) (d 1), aI G (d 1) 9 (M 1), oMs (q 2) (d 2), aI G (d 2) 9 (M 2), oMs (q 3) (d 3), aI G (d 3) 9 (M 3), oMs (q 4) (d 4), aI G (d 4) 9 (M 4), oMs (q 5) (d 5), aI G (d 5) 9 (M 5), oMs (q 7) (d 7), aI G (d 7) 9 (M 7), oMs (q 6) (d 6), aI G (d 6) 9 f_26, oMs h2 a2, aI G a2 9 g]) H27) (hD27 : va_D A ([oRo h w p, aM G w 8 (krow q), oMs (q 0) (d 0), aI G (d 0) 9 (M 0), oMs (q 1) (d 1), aI G (d 1) 9 (M 1), oMs (q 2) (d 2), aI G (d 2) 9 (M 2), oMs (q 3) (d 3), aI G (d 3) 9 (M 3), oMs (q 4) (d 4), aI G (d 4) 9 (M 4), oMs (q 5) (d 5), aI G (d 5) 9 (M 5), oMs (q 7) (d 7), aI G (d 7) 9 (M 7), oMs (q 6) (d 6), aI G (d 6) 9 f_26, oMs h2 a2, aI G a2 9 g])) hS27 => ?_)
      clear hP0 hD0 hS0
      have w26_0 : f_26 = kcpy (M 6) g 9 := hw26
      refine lv_aload_n hx hb dX4_send_33 rfl (lv_at hl0 0 rfl) ?_
      refine lv_dup hx hb dX4_send_34 rfl ?_
      refine kget F hK hP27 4 0 1 iX4 rfl rfl (by decide) (List.mem_of_getElem? (i := 1) rfl) rfl dX4_send_35 ?_
      refine lv_iconst (v := 1) hx hb dX4_send_38 (by decide) ?_
      refine lv_iadd hx hb dX4_send_39 ?_
      refine kput F hK hP27 hD27 hS27 (ty0 := tyX4) 4 0 1 iX4 rfl tyX4_ok nmX4 (fun zz => [oRo h w zz, aM G w 8 (krow q), oMs (q 0) (d 0), aI G (d 0) 9 (M 0), oMs (q 1) (d 1), aI G (d 1) 9 (M 1), oMs (q 2) (d 2), aI G (d 2) 9 (M 2), oMs (q 3) (d 3), aI G (d 3) 9 (M 3), oMs (q 4) (d 4), aI G (d 4) 9 (M 4), oMs (q 5) (d 5), aI G (d 5) 9 (M 5), oMs (q 7) (d 7), aI G (d 7) 9 (M 7), oMs (q 6) (d 6), aI G (d 6) 9 f_26, oMs h2 a2, aI G a2 9 g]) p rfl (by decide) (List.mem_of_getElem? (i := 1) rfl) rfl rfl rfl (Nat.le_of_ble_eq_true rfl) rfl dX4_send_40 (fun H28 locs28 p28 ep28 (hP28 : va_P G.1 vwCl ([oRo h w p28, aM G w 8 (krow q), oMs (q 0) (d 0), aI G (d 0) 9 (M 0), oMs (q 1) (d 1), aI G (d 1) 9 (M 1), oMs (q 2) (d 2), aI G (d 2) 9 (M 2), oMs (q 3) (d 3), aI G (d 3) 9 (M 3), oMs (q 4) (d 4), aI G (d 4) 9 (M 4), oMs (q 5) (d 5), aI G (d 5) 9 (M 5), oMs (q 7) (d 7), aI G (d 7) 9 (M 7), oMs (q 6) (d 6), aI G (d 6) 9 f_26, oMs h2 a2, aI G a2 9 g]) H28) (hD28 : va_D A ([oRo h w p28, aM G w 8 (krow q), oMs (q 0) (d 0), aI G (d 0) 9 (M 0), oMs (q 1) (d 1), aI G (d 1) 9 (M 1), oMs (q 2) (d 2), aI G (d 2) 9 (M 2), oMs (q 3) (d 3), aI G (d 3) 9 (M 3), oMs (q 4) (d 4), aI G (d 4) 9 (M 4), oMs (q 5) (d 5), aI G (d 5) 9 (M 5), oMs (q 7) (d 7), aI G (d 7) 9 (M 7), oMs (q 6) (d 6), aI G (d 6) 9 f_26, oMs h2 a2, aI G a2 9 g])) hS28 => ?_)
      clear hP27 hD27 hS27
      have q29 : (p28 = ksendP 6 p) ∧ ((va_up M 6 f_26) = ksendM 6 M g) := by
        subst ep28
        subst w26_0
        exact ⟨rfl, rfl⟩
      exact kRv F hr hlocks hS28 dX4_send_43 ⟨p28, (va_up M 6 f_26)⟩ q29 (hP28.sub [0, 1, 2, 3, 4, 5, 6, 7, 8, 9, 10, 11, 12, 13, 16, 17, 14, 15, 18, 19] rfl) (hD28.sub [0, 1, 2, 3, 4, 5, 6, 7, 8, 9, 10, 11, 12, 13, 16, 17, 14, 15, 18, 19] (by decide) rfl)
    rcases (show L = 7 ∨ L ≠ 7 by omega) with hj7 | hj7
    · subst hj7
      refine lv_aload_n hx hb dX4_send_20 rfl (lv_at hl0 0 rfl) ?_
      refine kget F hK hP0 4 0 0 iX4 rfl rfl (by decide) (List.mem_of_getElem? (i := 3) rfl) rfl dX4_send_21 ?_
      refine lv_aload_n hx hb dX4_send_24 rfl (lv_at hl0 0 rfl) ?_
      refine kget F hK hP0 4 0 1 iX4 rfl rfl (by decide) (List.mem_of_getElem? (i := 1) rfl) rfl dX4_send_25 ?_
      refine kald F hK hP0 1 2 7 (x := (q 7)) rfl rfl hL (by decide) (Nat.le_of_ble_eq_true rfl) rfl dX4_send_28 ?_
      refine lv_aload_n hx hb dX4_send_29 rfl (lv_at hl0 1 rfl) ?_
      refine kVv (wr := [oRo h w p, aM G w 8 (krow q), oMs (q 0) (d 0), aI G (d 0) 9 (M 0), oMs (q 1) (d 1), aI G (d 1) 9 (M 1), oMs (q 2) (d 2), aI G (d 2) 9 (M 2), oMs (q 3) (d 3), aI G (d 3) 9 (M 3), oMs (q 4) (d 4), aI G (d 4) 9 (M 4), oMs (q 5) (d 5), aI G (d 5) 9 (M 5), oMs (q 6) (d 6), aI G (d 6) 9 (M 6)]) F hK hP0 hD0 hS0 hA hl0.1 (c_X2_become l G (q 7) (d 7) (M 7) h2 a2 g) [16, 17, 18, 19] [0, 1, 2, 3, 4, 5, 6, 7, 8, 9, 10, 11, 12, 13, 14, 15] 2 0 gX4_send_X2_become rfl 1 rfl (by decide +kernel) ⟨Nat.le_of_ble_eq_true rfl, Nat.le_of_ble_eq_true rfl⟩ ⟨Nat.zero_le _, Nat.zero_le _⟩ rfl rfl rfl rfl (by decide) (by decide) (by decide) (Nat.le_of_ble_eq_true rfl) rfl dX4_send_30 (fun f_30 H31 locs31 hw30 (hP31 : va_P G.1 vwCl ([oRo h w p, aM G w 8 (krow q), oMs (q 0) (d 0), aI G (d 0) 9 (M 0), oMs (q 1) (d 1), aI G (d 1) 9 (M 1), oMs (q 2) (d 2), aI G (d 2) 9 (M 2), oMs (q 3) (d 3), aI G (d 3) 9 (M 3), oMs (q 4) (d 4), aI G (d 4) 9 (M 4), oMs (q 5) (d 5), aI G (d 5) 9 (M 5), oMs (q 6) (d 6), aI G (d 6) 9 (M 6), oMs (q 7) (d 7), aI G (d 7) 9 f_30, oMs h2 a2, aI G a2 9 g]) H31) (hD31 : va_D A ([oRo h w p, aM G w 8 (krow q), oMs (q 0) (d 0), aI G (d 0) 9 (M 0), oMs (q 1) (d 1), aI G (d 1) 9 (M 1), oMs (q 2) (d 2), aI G (d 2) 9 (M 2), oMs (q 3) (d 3), aI G (d 3) 9 (M 3), oMs (q 4) (d 4), aI G (d 4) 9 (M 4), oMs (q 5) (d 5), aI G (d 5) 9 (M 5), oMs (q 6) (d 6), aI G (d 6) 9 (M 6), oMs (q 7) (d 7), aI G (d 7) 9 f_30, oMs h2 a2, aI G a2 9 g])) hS31 => ?_)
      clear hP0 hD0 hS0
      have w30_0 : f_30 = kcpy (M 7) g 9 := hw30
      refine lv_aload_n hx hb dX4_send_33 rfl (lv_at hl0 0 rfl) ?_
      refine lv_dup hx hb dX4_send_34 rfl ?_
      refine kget F hK hP31 4 0 1 iX4 rfl rfl (by decide) (List.mem_of_getElem? (i := 1) rfl) rfl dX4_send_35 ?_
      refine lv_iconst (v := 1) hx hb dX4_send_38 (by decide) ?_
      refine lv_iadd hx hb dX4_send_39 ?_
      refine kput F hK hP31 hD31 hS31 (ty0 := tyX4) 4 0 1 iX4 rfl tyX4_ok nmX4 (fun zz => [oRo h w zz, aM G w 8 (krow q), oMs (q 0) (d 0), aI G (d 0) 9 (M 0), oMs (q 1) (d 1), aI G (d 1) 9 (M 1), oMs (q 2) (d 2), aI G (d 2) 9 (M 2), oMs (q 3) (d 3), aI G (d 3) 9 (M 3), oMs (q 4) (d 4), aI G (d 4) 9 (M 4), oMs (q 5) (d 5), aI G (d 5) 9 (M 5), oMs (q 6) (d 6), aI G (d 6) 9 (M 6), oMs (q 7) (d 7), aI G (d 7) 9 f_30, oMs h2 a2, aI G a2 9 g]) p rfl (by decide) (List.mem_of_getElem? (i := 1) rfl) rfl rfl rfl (Nat.le_of_ble_eq_true rfl) rfl dX4_send_40 (fun H32 locs32 p32 ep32 (hP32 : va_P G.1 vwCl ([oRo h w p32, aM G w 8 (krow q), oMs (q 0) (d 0), aI G (d 0) 9 (M 0), oMs (q 1) (d 1), aI G (d 1) 9 (M 1), oMs (q 2) (d 2), aI G (d 2) 9 (M 2), oMs (q 3) (d 3), aI G (d 3) 9 (M 3), oMs (q 4) (d 4), aI G (d 4) 9 (M 4), oMs (q 5) (d 5), aI G (d 5) 9 (M 5), oMs (q 6) (d 6), aI G (d 6) 9 (M 6), oMs (q 7) (d 7), aI G (d 7) 9 f_30, oMs h2 a2, aI G a2 9 g]) H32) (hD32 : va_D A ([oRo h w p32, aM G w 8 (krow q), oMs (q 0) (d 0), aI G (d 0) 9 (M 0), oMs (q 1) (d 1), aI G (d 1) 9 (M 1), oMs (q 2) (d 2), aI G (d 2) 9 (M 2), oMs (q 3) (d 3), aI G (d 3) 9 (M 3), oMs (q 4) (d 4), aI G (d 4) 9 (M 4), oMs (q 5) (d 5), aI G (d 5) 9 (M 5), oMs (q 6) (d 6), aI G (d 6) 9 (M 6), oMs (q 7) (d 7), aI G (d 7) 9 f_30, oMs h2 a2, aI G a2 9 g])) hS32 => ?_)
      clear hP31 hD31 hS31
      have q33 : (p32 = ksendP 7 p) ∧ ((va_up M 7 f_30) = ksendM 7 M g) := by
        subst ep32
        subst w30_0
        exact ⟨rfl, rfl⟩
      exact kRv F hr hlocks hS32 dX4_send_43 ⟨p32, (va_up M 7 f_30)⟩ q33 hP32 hD32
    exact absurd lL (by omega)
  · rw [hL] at c1
    have lL : ¬ L < 8 := fun z => c1 ((nI_ltI (a := L) (b := 8) (by omega) (by omega)).mpr z)
    have lL : L = 8 := by omega
    refine lv_aload_n hx hb dX4_send_9 rfl (lv_at hl0 0 rfl) ?_
    refine lv_dup hx hb dX4_send_10 rfl ?_
    refine kget F hK hP0 4 0 2 iX4 rfl rfl (by decide) (List.mem_of_getElem? (i := 2) rfl) rfl dX4_send_11 ?_
    refine lv_iconst (v := 1) hx hb dX4_send_14 (by decide) ?_
    refine lv_iadd hx hb dX4_send_15 ?_
    refine kput F hK hP0 hD0 hS0 (ty0 := tyX4) 4 0 2 iX4 rfl tyX4_ok nmX4 (fun zz => [oRo h w zz, aM G w 8 (krow q), oMs (q 0) (d 0), aI G (d 0) 9 (M 0), oMs (q 1) (d 1), aI G (d 1) 9 (M 1), oMs (q 2) (d 2), aI G (d 2) 9 (M 2), oMs (q 3) (d 3), aI G (d 3) 9 (M 3), oMs (q 4) (d 4), aI G (d 4) 9 (M 4), oMs (q 5) (d 5), aI G (d 5) 9 (M 5), oMs (q 6) (d 6), aI G (d 6) 9 (M 6), oMs (q 7) (d 7), aI G (d 7) 9 (M 7), oMs h2 a2, aI G a2 9 g]) p rfl (by decide) (List.mem_of_getElem? (i := 2) rfl) rfl rfl rfl (Nat.le_of_ble_eq_true rfl) rfl dX4_send_16 (fun H34 locs34 p34 ep34 (hP34 : va_P G.1 vwCl ([oRo h w p34, aM G w 8 (krow q), oMs (q 0) (d 0), aI G (d 0) 9 (M 0), oMs (q 1) (d 1), aI G (d 1) 9 (M 1), oMs (q 2) (d 2), aI G (d 2) 9 (M 2), oMs (q 3) (d 3), aI G (d 3) 9 (M 3), oMs (q 4) (d 4), aI G (d 4) 9 (M 4), oMs (q 5) (d 5), aI G (d 5) 9 (M 5), oMs (q 6) (d 6), aI G (d 6) 9 (M 6), oMs (q 7) (d 7), aI G (d 7) 9 (M 7), oMs h2 a2, aI G a2 9 g]) H34) (hD34 : va_D A ([oRo h w p34, aM G w 8 (krow q), oMs (q 0) (d 0), aI G (d 0) 9 (M 0), oMs (q 1) (d 1), aI G (d 1) 9 (M 1), oMs (q 2) (d 2), aI G (d 2) 9 (M 2), oMs (q 3) (d 3), aI G (d 3) 9 (M 3), oMs (q 4) (d 4), aI G (d 4) 9 (M 4), oMs (q 5) (d 5), aI G (d 5) 9 (M 5), oMs (q 6) (d 6), aI G (d 6) 9 (M 6), oMs (q 7) (d 7), aI G (d 7) 9 (M 7), oMs h2 a2, aI G a2 9 g])) hS34 => ?_)
    clear hP0 hD0 hS0
    have q35 : (p34 = ksendP L p) ∧ (M = ksendM L M g) := by
      subst lL
      subst ep34
      exact ⟨rfl, rfl⟩
    exact kRv F hr hlocks hS34 dX4_send_19 ⟨p34, M⟩ q35 hP34 hD34
set_option maxHeartbeats 1000000 in
set_option maxRecDepth 100000 in
theorem c_X4_first (l : Launch) (G : kG) (h : Nat) (w : Nat) (q : Nat → Nat) (d : Nat → Nat) (p : Nat → Int32) (M : Nat → Nat → Int32) : kM G l yX4_first wsX4_first ({ frames := 0, cells := 0, slots := 0, locals := 0 }) [.ref h] ([oRo h w p, aM G w 8 (krow q), oMs (q 0) (d 0), aI G (d 0) 9 (M 0), oMs (q 1) (d 1), aI G (d 1) 9 (M 1), oMs (q 2) (d 2), aI G (d 2) 9 (M 2), oMs (q 3) (d 3), aI G (d 3) 9 (M 3), oMs (q 4) (d 4), aI G (d 4) 9 (M 4), oMs (q 5) (d 5), aI G (d 5) 9 (M 5), oMs (q 6) (d 6), aI G (d 6) 9 (M 6), oMs (q 7) (d 7), aI G (d 7) 9 (M 7)]) (kQr G (fun (uu : Unit) => True) (fun (uu : Unit) => (q 0)) (fun (uu : Unit) => [oRo h w p, aM G w 8 (krow q), oMs (q 0) (d 0), aI G (d 0) 9 (M 0), oMs (q 1) (d 1), aI G (d 1) 9 (M 1), oMs (q 2) (d 2), aI G (d 2) 9 (M 2), oMs (q 3) (d 3), aI G (d 3) 9 (M 3), oMs (q 4) (d 4), aI G (d 4) 9 (M 4), oMs (q 5) (d 5), aI G (d 5) 9 (M 5), oMs (q 6) (d 6), aI G (d 6) 9 (M 6), oMs (q 7) (d 7), aI G (d 7) 9 (M 7)])) := by
  refine kStart (cc := cX4_first) (maxL := 1) (ret := (some (.object "ToyGreeting$Message"))) (by decide) rfl (Nat.le_of_ble_eq_true rfl) (fun pg ev st mi bl mt cd A ls0 F hr hlocks hin hK hP0 hD0 hA hS0 hl0 => ?_)
  obtain ⟨hx, hb, hml, hown, hts⟩ := id F
  have hl0 : lv_has ls0 1 [(0, .ref h)] := hl0
  have iX4 : ∀ w ∈ u_ws RX4 TX4 3, w ∈ wsX4_first := fun w h => List.mem_cons_of_mem _ (List.mem_append_right _ h)
  refine lv_aload_n hx hb dX4_first_0 rfl (lv_at hl0 0 rfl) ?_
  refine kget F hK hP0 4 0 0 iX4 rfl rfl (by decide) (List.mem_of_getElem? (i := 1) rfl) rfl dX4_first_1 ?_
  refine lv_iconst (v := 0) hx hb dX4_first_4 (by decide) ?_
  refine kald F hK hP0 1 2 0 (x := (q 0)) rfl rfl rfl (by decide) (Nat.le_of_ble_eq_true rfl) rfl dX4_first_5 ?_
  have q1 : True := by
    first | rfl | (simp only [↓reduceIte]; done) | (simp []; done)
  exact kRr F hr hlocks hS0 dX4_first_6 () q1 rfl hP0 hD0
set_option maxHeartbeats 1000000 in
set_option maxRecDepth 100000 in
theorem c_X4_takeFirst (l : Launch) (G : kG) (h : Nat) (w : Nat) (q : Nat → Nat) (d : Nat → Nat) (p : Nat → Int32) (M : Nat → Nat → Int32) (h2 : Nat) (a2 : Nat) (g : Nat → Int32) (L : Nat) (hL : p 1 = nI L) (hL1 : 1 ≤ L) (hL8 : L ≤ 8) : kM G l yX4_takeFirst wsX4_takeFirst ({ frames := 1, cells := 0, slots := 0, locals := 22 }) [.ref h, .ref h2] ([oRo h w p, aM G w 8 (krow q), oMs (q 0) (d 0), aI G (d 0) 9 (M 0), oMs (q 1) (d 1), aI G (d 1) 9 (M 1), oMs (q 2) (d 2), aI G (d 2) 9 (M 2), oMs (q 3) (d 3), aI G (d 3) 9 (M 3), oMs (q 4) (d 4), aI G (d 4) 9 (M 4), oMs (q 5) (d 5), aI G (d 5) 9 (M 5), oMs (q 6) (d 6), aI G (d 6) 9 (M 6), oMs (q 7) (d 7), aI G (d 7) 9 (M 7), oMs h2 a2, aI G a2 9 g]) (kQv G (fun (uu : (Nat → Int32) × (Nat → Int32)) => (uu.1 = upd p 1 (p 1 - 1)) ∧ (uu.2 = kcpy g (M 0) 9)) (fun (uu : (Nat → Int32) × (Nat → Int32)) => [oRo h w uu.1, aM G w 8 (krow (krot q)), oMs (q 1) (d 1), aI G (d 1) 9 (M 1), oMs (q 2) (d 2), aI G (d 2) 9 (M 2), oMs (q 3) (d 3), aI G (d 3) 9 (M 3), oMs (q 4) (d 4), aI G (d 4) 9 (M 4), oMs (q 5) (d 5), aI G (d 5) 9 (M 5), oMs (q 6) (d 6), aI G (d 6) 9 (M 6), oMs (q 7) (d 7), aI G (d 7) 9 (M 7), oMs (q 0) (d 0), aI G (d 0) 9 (M 0), oMs h2 a2, aI G a2 9 uu.2])) := by
  refine kStart (cc := cX4_takeFirst) (maxL := 4) (ret := none) (by decide) rfl (Nat.le_of_ble_eq_true rfl) (fun pg ev st mi bl mt cd A ls0 F hr hlocks hin hK hP0 hD0 hA hS0 hl0 => ?_)
  obtain ⟨hx, hb, hml, hown, hts⟩ := id F
  have hl0 : lv_has ls0 4 [(0, .ref h), (1, .ref h2)] := hl0
  have iX4 : ∀ w ∈ u_ws RX4 TX4 3, w ∈ wsX4_takeFirst := fun w h => List.mem_cons_of_mem _ (List.mem_append_left _ (List.mem_append_right _ h))
  refine lv_aload_n hx hb dX4_takeFirst_0 rfl (lv_at hl0 0 rfl) ?_
  refine kget F hK hP0 4 0 1 iX4 rfl rfl (by decide) (List.mem_of_getElem? (i := 1) rfl) rfl dX4_takeFirst_1 ?_
  refine lv_iconst (v := 1) hx hb dX4_takeFirst_4 (by decide) ?_
  refine lv_icmp_ge (tgt := 9) hx hb dX4_takeFirst_5 (by decide) (fun c1 => ?_) (fun c1 => ?_)
  · refine lv_aload_n hx hb dX4_takeFirst_9 rfl (lv_at hl0 0 rfl) ?_
    refine kget F hK hP0 4 0 0 iX4 rfl rfl (by decide) (List.mem_of_getElem? (i := 2) rfl) rfl dX4_takeFirst_10 ?_
    refine lv_iconst (v := 0) hx hb dX4_takeFirst_13 (by decide) ?_
    refine kald F hK hP0 1 2 0 (x := (q 0)) rfl rfl rfl (by decide) (Nat.le_of_ble_eq_true rfl) rfl dX4_takeFirst_14 ?_
    refine lv_astore_n (lv' := [(2, .ref (q 0)), (0, .ref h), (1, .ref h2)]) hx hb dX4_takeFirst_15 rfl hl0 (by decide) rfl (fun ls2 hl2 => ?_)
    clear hl0
    refine lv_aload_n hx hb dX4_takeFirst_16 rfl (lv_at hl2 2 rfl) ?_
    refine lv_aload_n hx hb dX4_takeFirst_17 rfl (lv_at hl2 0 rfl) ?_
    refine kVv (wr := [oRo h w p, aM G w 8 (krow q), oMs (q 1) (d 1), aI G (d 1) 9 (M 1), oMs (q 2) (d 2), aI G (d 2) 9 (M 2), oMs (q 3) (d 3), aI G (d 3) 9 (M 3), oMs (q 4) (d 4), aI G (d 4) 9 (M 4), oMs (q 5) (d 5), aI G (d 5) 9 (M 5), oMs (q 6) (d 6), aI G (d 6) 9 (M 6), oMs (q 7) (d 7), aI G (d 7) 9 (M 7)]) F hK hP0 hD0 hS0 hA hl2.1 (c_X2_become l G h2 a2 g (q 0) (d 0) (M 0)) [18, 19, 2, 3] [0, 1, 4, 5, 6, 7, 8, 9, 10, 11, 12, 13, 14, 15, 16, 17] 2 0 gX4_takeFirst_X2_become rfl 1 rfl (by decide +kernel) ⟨Nat.le_of_ble_eq_true rfl, Nat.le_of_ble_eq_true rfl⟩ ⟨Nat.zero_le _, Nat.zero_le _⟩ rfl rfl rfl rfl (by decide) (by decide) (by decide) (Nat.le_of_ble_eq_true rfl) rfl dX4_takeFirst_18 (fun f_3 H4 locs4 hw3 (hP4 : va_P G.1 vwCl ([oRo h w p, aM G w 8 (krow q), oMs (q 1) (d 1), aI G (d 1) 9 (M 1), oMs (q 2) (d 2), aI G (d 2) 9 (M 2), oMs (q 3) (d 3), aI G (d 3) 9 (M 3), oMs (q 4) (d 4), aI G (d 4) 9 (M 4), oMs (q 5) (d 5), aI G (d 5) 9 (M 5), oMs (q 6) (d 6), aI G (d 6) 9 (M 6), oMs (q 7) (d 7), aI G (d 7) 9 (M 7), oMs h2 a2, aI G a2 9 f_3, oMs (q 0) (d 0), aI G (d 0) 9 (M 0)]) H4) (hD4 : va_D A ([oRo h w p, aM G w 8 (krow q), oMs (q 1) (d 1), aI G (d 1) 9 (M 1), oMs (q 2) (d 2), aI G (d 2) 9 (M 2), oMs (q 3) (d 3), aI G (d 3) 9 (M 3), oMs (q 4) (d 4), aI G (d 4) 9 (M 4), oMs (q 5) (d 5), aI G (d 5) 9 (M 5), oMs (q 6) (d 6), aI G (d 6) 9 (M 6), oMs (q 7) (d 7), aI G (d 7) 9 (M 7), oMs h2 a2, aI G a2 9 f_3, oMs (q 0) (d 0), aI G (d 0) 9 (M 0)])) hS4 => ?_)
    clear hP0 hD0 hS0
    have w3_0 : f_3 = kcpy g (M 0) 9 := hw3
    refine lv_iconst (v := 1) hx hb dX4_takeFirst_21 (by decide) ?_
    refine lv_istore_n (lv' := [(3, .int 1), (2, .ref (q 0)), (0, .ref h), (1, .ref h2)]) hx hb dX4_takeFirst_22 rfl hl2 (by decide) rfl (fun ls5 hl5 => ?_)
    clear hl2
    refine lv_iload_n hx hb dX4_takeFirst_23 rfl (lv_at hl5 0 rfl) ?_
    refine lv_bipush (v := 8) hx hb dX4_takeFirst_24 (by decide) ?_
    refine lv_icmp_ge (tgt := 49) hx hb dX4_takeFirst_26 (by decide) (fun c6 => ?_) (fun c6 => ?_)
    · exact absurd c6 (by decide)
    · refine lv_aload_n hx hb dX4_takeFirst_29 rfl (lv_at hl5 2 rfl) ?_
      refine kget F hK hP4 4 0 0 iX4 rfl rfl (by decide) (List.mem_of_getElem? (i := 2) rfl) rfl dX4_takeFirst_30 ?_
      refine lv_iload_n hx hb dX4_takeFirst_33 rfl (lv_at hl5 0 rfl) ?_
      refine lv_iconst (v := 1) hx hb dX4_takeFirst_34 (by decide) ?_
      refine lv_isub hx hb dX4_takeFirst_35 ?_
      rw [show (1 - 1 : Int32) = 0 from by decide]
      refine lv_aload_n hx hb dX4_takeFirst_36 rfl (lv_at hl5 2 rfl) ?_
      refine kget F hK hP4 4 0 0 iX4 rfl rfl (by decide) (List.mem_of_getElem? (i := 2) rfl) rfl dX4_takeFirst_37 ?_
      refine lv_iload_n hx hb dX4_takeFirst_40 rfl (lv_at hl5 0 rfl) ?_
      refine kald F hK hP4 1 2 1 (x := (q 1)) rfl rfl rfl (by decide) (Nat.le_of_ble_eq_true rfl) (by rfl) dX4_takeFirst_41 ?_
      refine kast F hK hP4 hD4 hS4 1 2 2 2 0 (fun zz => [oRo h w p, aM G w 8 zz, oMs (q 1) (d 1), aI G (d 1) 9 (M 1), oMs (q 2) (d 2), aI G (d 2) 9 (M 2), oMs (q 3) (d 3), aI G (d 3) 9 (M 3), oMs (q 4) (d 4), aI G (d 4) 9 (M 4), oMs (q 5) (d 5), aI G (d 5) 9 (M 5), oMs (q 6) (d 6), aI G (d 6) 9 (M 6), oMs (q 7) (d 7), aI G (d 7) 9 (M 7), oMs h2 a2, aI G a2 9 f_3, oMs (q 0) (d 0), aI G (d 0) 9 (M 0)]) rfl rfl rfl rfl rfl (by decide) (Nat.le_of_ble_eq_true rfl) rfl dX4_takeFirst_42 (fun H8 locs8 w8 ew8 (hP8 : va_P G.1 vwCl ([oRo h w p, aM G w 8 w8, oMs (q 1) (d 1), aI G (d 1) 9 (M 1), oMs (q 2) (d 2), aI G (d 2) 9 (M 2), oMs (q 3) (d 3), aI G (d 3) 9 (M 3), oMs (q 4) (d 4), aI G (d 4) 9 (M 4), oMs (q 5) (d 5), aI G (d 5) 9 (M 5), oMs (q 6) (d 6), aI G (d 6) 9 (M 6), oMs (q 7) (d 7), aI G (d 7) 9 (M 7), oMs h2 a2, aI G a2 9 f_3, oMs (q 0) (d 0), aI G (d 0) 9 (M 0)]) H8) (hD8 : va_D A ([oRo h w p, aM G w 8 w8, oMs (q 1) (d 1), aI G (d 1) 9 (M 1), oMs (q 2) (d 2), aI G (d 2) 9 (M 2), oMs (q 3) (d 3), aI G (d 3) 9 (M 3), oMs (q 4) (d 4), aI G (d 4) 9 (M 4), oMs (q 5) (d 5), aI G (d 5) 9 (M 5), oMs (q 6) (d 6), aI G (d 6) 9 (M 6), oMs (q 7) (d 7), aI G (d 7) 9 (M 7), oMs h2 a2, aI G a2 9 f_3, oMs (q 0) (d 0), aI G (d 0) 9 (M 0)])) hS8 => ?_)
      clear hP4 hD4 hS4
      refine lv_iinc (v := 2) (lv' := [(3, .int 2), (2, .ref (q 0)), (0, .ref h), (1, .ref h2)]) hx hb dX4_takeFirst_43 hl5 (k := 0) rfl (by decide) (by decide) rfl (fun ls9 hl9 => ?_)
      clear hl5
      refine lv_goto (tgt := 23) hx hb dX4_takeFirst_46 (by decide) ?_
      refine lv_iload_n hx hb dX4_takeFirst_23 rfl (lv_at hl9 0 rfl) ?_
      refine lv_bipush (v := 8) hx hb dX4_takeFirst_24 (by decide) ?_
      refine lv_icmp_ge (tgt := 49) hx hb dX4_takeFirst_26 (by decide) (fun c10 => ?_) (fun c10 => ?_)
      · exact absurd c10 (by decide)
      · refine lv_aload_n hx hb dX4_takeFirst_29 rfl (lv_at hl9 2 rfl) ?_
        refine kget F hK hP8 4 0 0 iX4 rfl rfl (by decide) (List.mem_of_getElem? (i := 2) rfl) rfl dX4_takeFirst_30 ?_
        refine lv_iload_n hx hb dX4_takeFirst_33 rfl (lv_at hl9 0 rfl) ?_
        refine lv_iconst (v := 1) hx hb dX4_takeFirst_34 (by decide) ?_
        refine lv_isub hx hb dX4_takeFirst_35 ?_
        rw [show (2 - 1 : Int32) = 1 from by decide]
        refine lv_aload_n hx hb dX4_takeFirst_36 rfl (lv_at hl9 2 rfl) ?_
        refine kget F hK hP8 4 0 0 iX4 rfl rfl (by decide) (List.mem_of_getElem? (i := 2) rfl) rfl dX4_takeFirst_37 ?_
        refine lv_iload_n hx hb dX4_takeFirst_40 rfl (lv_at hl9 0 rfl) ?_
        refine kald F hK hP8 1 2 2 (x := (q 2)) rfl rfl rfl (by decide) (Nat.le_of_ble_eq_true rfl) (by subst ew8; rfl) dX4_takeFirst_41 ?_
        refine kast F hK hP8 hD8 hS8 1 2 4 2 1 (fun zz => [oRo h w p, aM G w 8 zz, oMs (q 1) (d 1), aI G (d 1) 9 (M 1), oMs (q 2) (d 2), aI G (d 2) 9 (M 2), oMs (q 3) (d 3), aI G (d 3) 9 (M 3), oMs (q 4) (d 4), aI G (d 4) 9 (M 4), oMs (q 5) (d 5), aI G (d 5) 9 (M 5), oMs (q 6) (d 6), aI G (d 6) 9 (M 6), oMs (q 7) (d 7), aI G (d 7) 9 (M 7), oMs h2 a2, aI G a2 9 f_3, oMs (q 0) (d 0), aI G (d 0) 9 (M 0)]) rfl rfl rfl rfl rfl (by decide) (Nat.le_of_ble_eq_true rfl) rfl dX4_takeFirst_42 (fun H12 locs12 w12 ew12 (hP12 : va_P G.1 vwCl ([oRo h w p, aM G w 8 w12, oMs (q 1) (d 1), aI G (d 1) 9 (M 1), oMs (q 2) (d 2), aI G (d 2) 9 (M 2), oMs (q 3) (d 3), aI G (d 3) 9 (M 3), oMs (q 4) (d 4), aI G (d 4) 9 (M 4), oMs (q 5) (d 5), aI G (d 5) 9 (M 5), oMs (q 6) (d 6), aI G (d 6) 9 (M 6), oMs (q 7) (d 7), aI G (d 7) 9 (M 7), oMs h2 a2, aI G a2 9 f_3, oMs (q 0) (d 0), aI G (d 0) 9 (M 0)]) H12) (hD12 : va_D A ([oRo h w p, aM G w 8 w12, oMs (q 1) (d 1), aI G (d 1) 9 (M 1), oMs (q 2) (d 2), aI G (d 2) 9 (M 2), oMs (q 3) (d 3), aI G (d 3) 9 (M 3), oMs (q 4) (d 4), aI G (d 4) 9 (M 4), oMs (q 5) (d 5), aI G (d 5) 9 (M 5), oMs (q 6) (d 6), aI G (d 6) 9 (M 6), oMs (q 7) (d 7), aI G (d 7) 9 (M 7), oMs h2 a2, aI G a2 9 f_3, oMs (q 0) (d 0), aI G (d 0) 9 (M 0)])) hS12 => ?_)
        clear hP8 hD8 hS8
        refine lv_iinc (v := 3) (lv' := [(3, .int 3), (2, .ref (q 0)), (0, .ref h), (1, .ref h2)]) hx hb dX4_takeFirst_43 hl9 (k := 0) rfl (by decide) (by decide) rfl (fun ls13 hl13 => ?_)
        clear hl9
        refine lv_goto (tgt := 23) hx hb dX4_takeFirst_46 (by decide) ?_
        refine lv_iload_n hx hb dX4_takeFirst_23 rfl (lv_at hl13 0 rfl) ?_
        refine lv_bipush (v := 8) hx hb dX4_takeFirst_24 (by decide) ?_
        refine lv_icmp_ge (tgt := 49) hx hb dX4_takeFirst_26 (by decide) (fun c14 => ?_) (fun c14 => ?_)
        · exact absurd c14 (by decide)
        · refine lv_aload_n hx hb dX4_takeFirst_29 rfl (lv_at hl13 2 rfl) ?_
          refine kget F hK hP12 4 0 0 iX4 rfl rfl (by decide) (List.mem_of_getElem? (i := 2) rfl) rfl dX4_takeFirst_30 ?_
          refine lv_iload_n hx hb dX4_takeFirst_33 rfl (lv_at hl13 0 rfl) ?_
          refine lv_iconst (v := 1) hx hb dX4_takeFirst_34 (by decide) ?_
          refine lv_isub hx hb dX4_takeFirst_35 ?_
          rw [show (3 - 1 : Int32) = 2 from by decide]
          refine lv_aload_n hx hb dX4_takeFirst_36 rfl (lv_at hl13 2 rfl) ?_
          refine kget F hK hP12 4 0 0 iX4 rfl rfl (by decide) (List.mem_of_getElem? (i := 2) rfl) rfl dX4_takeFirst_37 ?_
          refine lv_iload_n hx hb dX4_takeFirst_40 rfl (lv_at hl13 0 rfl) ?_
          refine kald F hK hP12 1 2 3 (x := (q 3)) rfl rfl rfl (by decide) (Nat.le_of_ble_eq_true rfl) (by subst ew12; subst ew8; rfl) dX4_takeFirst_41 ?_
          refine kast F hK hP12 hD12 hS12 1 2 6 2 2 (fun zz => [oRo h w p, aM G w 8 zz, oMs (q 1) (d 1), aI G (d 1) 9 (M 1), oMs (q 2) (d 2), aI G (d 2) 9 (M 2), oMs (q 3) (d 3), aI G (d 3) 9 (M 3), oMs (q 4) (d 4), aI G (d 4) 9 (M 4), oMs (q 5) (d 5), aI G (d 5) 9 (M 5), oMs (q 6) (d 6), aI G (d 6) 9 (M 6), oMs (q 7) (d 7), aI G (d 7) 9 (M 7), oMs h2 a2, aI G a2 9 f_3, oMs (q 0) (d 0), aI G (d 0) 9 (M 0)]) rfl rfl rfl rfl rfl (by decide) (Nat.le_of_ble_eq_true rfl) rfl dX4_takeFirst_42 (fun H16 locs16 w16 ew16 (hP16 : va_P G.1 vwCl ([oRo h w p, aM G w 8 w16, oMs (q 1) (d 1), aI G (d 1) 9 (M 1), oMs (q 2) (d 2), aI G (d 2) 9 (M 2), oMs (q 3) (d 3), aI G (d 3) 9 (M 3), oMs (q 4) (d 4), aI G (d 4) 9 (M 4), oMs (q 5) (d 5), aI G (d 5) 9 (M 5), oMs (q 6) (d 6), aI G (d 6) 9 (M 6), oMs (q 7) (d 7), aI G (d 7) 9 (M 7), oMs h2 a2, aI G a2 9 f_3, oMs (q 0) (d 0), aI G (d 0) 9 (M 0)]) H16) (hD16 : va_D A ([oRo h w p, aM G w 8 w16, oMs (q 1) (d 1), aI G (d 1) 9 (M 1), oMs (q 2) (d 2), aI G (d 2) 9 (M 2), oMs (q 3) (d 3), aI G (d 3) 9 (M 3), oMs (q 4) (d 4), aI G (d 4) 9 (M 4), oMs (q 5) (d 5), aI G (d 5) 9 (M 5), oMs (q 6) (d 6), aI G (d 6) 9 (M 6), oMs (q 7) (d 7), aI G (d 7) 9 (M 7), oMs h2 a2, aI G a2 9 f_3, oMs (q 0) (d 0), aI G (d 0) 9 (M 0)])) hS16 => ?_)
          clear hP12 hD12 hS12
          refine lv_iinc (v := 4) (lv' := [(3, .int 4), (2, .ref (q 0)), (0, .ref h), (1, .ref h2)]) hx hb dX4_takeFirst_43 hl13 (k := 0) rfl (by decide) (by decide) rfl (fun ls17 hl17 => ?_)
          clear hl13
          refine lv_goto (tgt := 23) hx hb dX4_takeFirst_46 (by decide) ?_
          refine lv_iload_n hx hb dX4_takeFirst_23 rfl (lv_at hl17 0 rfl) ?_
          refine lv_bipush (v := 8) hx hb dX4_takeFirst_24 (by decide) ?_
          refine lv_icmp_ge (tgt := 49) hx hb dX4_takeFirst_26 (by decide) (fun c18 => ?_) (fun c18 => ?_)
          · exact absurd c18 (by decide)
          · refine lv_aload_n hx hb dX4_takeFirst_29 rfl (lv_at hl17 2 rfl) ?_
            refine kget F hK hP16 4 0 0 iX4 rfl rfl (by decide) (List.mem_of_getElem? (i := 2) rfl) rfl dX4_takeFirst_30 ?_
            refine lv_iload_n hx hb dX4_takeFirst_33 rfl (lv_at hl17 0 rfl) ?_
            refine lv_iconst (v := 1) hx hb dX4_takeFirst_34 (by decide) ?_
            refine lv_isub hx hb dX4_takeFirst_35 ?_
            rw [show (4 - 1 : Int32) = 3 from by decide]
            refine lv_aload_n hx hb dX4_takeFirst_36 rfl (lv_at hl17 2 rfl) ?_
            refine kget F hK hP16 4 0 0 iX4 rfl rfl (by decide) (List.mem_of_getElem? (i := 2) rfl) rfl dX4_takeFirst_37 ?_
            refine lv_iload_n hx hb dX4_takeFirst_40 rfl (lv_at hl17 0 rfl) ?_
            refine kald F hK hP16 1 2 4 (x := (q 4)) rfl rfl rfl (by decide) (Nat.le_of_ble_eq_true rfl) (by subst ew16; subst ew12; subst ew8; rfl) dX4_takeFirst_41 ?_
            refine kast F hK hP16 hD16 hS16 1 2 8 2 3 (fun zz => [oRo h w p, aM G w 8 zz, oMs (q 1) (d 1), aI G (d 1) 9 (M 1), oMs (q 2) (d 2), aI G (d 2) 9 (M 2), oMs (q 3) (d 3), aI G (d 3) 9 (M 3), oMs (q 4) (d 4), aI G (d 4) 9 (M 4), oMs (q 5) (d 5), aI G (d 5) 9 (M 5), oMs (q 6) (d 6), aI G (d 6) 9 (M 6), oMs (q 7) (d 7), aI G (d 7) 9 (M 7), oMs h2 a2, aI G a2 9 f_3, oMs (q 0) (d 0), aI G (d 0) 9 (M 0)]) rfl rfl rfl rfl rfl (by decide) (Nat.le_of_ble_eq_true rfl) rfl dX4_takeFirst_42 (fun H20 locs20 w20 ew20 (hP20 : va_P G.1 vwCl ([oRo h w p, aM G w 8 w20, oMs (q 1) (d 1), aI G (d 1) 9 (M 1), oMs (q 2) (d 2), aI G (d 2) 9 (M 2), oMs (q 3) (d 3), aI G (d 3) 9 (M 3), oMs (q 4) (d 4), aI G (d 4) 9 (M 4), oMs (q 5) (d 5), aI G (d 5) 9 (M 5), oMs (q 6) (d 6), aI G (d 6) 9 (M 6), oMs (q 7) (d 7), aI G (d 7) 9 (M 7), oMs h2 a2, aI G a2 9 f_3, oMs (q 0) (d 0), aI G (d 0) 9 (M 0)]) H20) (hD20 : va_D A ([oRo h w p, aM G w 8 w20, oMs (q 1) (d 1), aI G (d 1) 9 (M 1), oMs (q 2) (d 2), aI G (d 2) 9 (M 2), oMs (q 3) (d 3), aI G (d 3) 9 (M 3), oMs (q 4) (d 4), aI G (d 4) 9 (M 4), oMs (q 5) (d 5), aI G (d 5) 9 (M 5), oMs (q 6) (d 6), aI G (d 6) 9 (M 6), oMs (q 7) (d 7), aI G (d 7) 9 (M 7), oMs h2 a2, aI G a2 9 f_3, oMs (q 0) (d 0), aI G (d 0) 9 (M 0)])) hS20 => ?_)
            clear hP16 hD16 hS16
            refine lv_iinc (v := 5) (lv' := [(3, .int 5), (2, .ref (q 0)), (0, .ref h), (1, .ref h2)]) hx hb dX4_takeFirst_43 hl17 (k := 0) rfl (by decide) (by decide) rfl (fun ls21 hl21 => ?_)
            clear hl17
            refine lv_goto (tgt := 23) hx hb dX4_takeFirst_46 (by decide) ?_
            refine lv_iload_n hx hb dX4_takeFirst_23 rfl (lv_at hl21 0 rfl) ?_
            refine lv_bipush (v := 8) hx hb dX4_takeFirst_24 (by decide) ?_
            refine lv_icmp_ge (tgt := 49) hx hb dX4_takeFirst_26 (by decide) (fun c22 => ?_) (fun c22 => ?_)
            · exact absurd c22 (by decide)
            · refine lv_aload_n hx hb dX4_takeFirst_29 rfl (lv_at hl21 2 rfl) ?_
              refine kget F hK hP20 4 0 0 iX4 rfl rfl (by decide) (List.mem_of_getElem? (i := 2) rfl) rfl dX4_takeFirst_30 ?_
              refine lv_iload_n hx hb dX4_takeFirst_33 rfl (lv_at hl21 0 rfl) ?_
              refine lv_iconst (v := 1) hx hb dX4_takeFirst_34 (by decide) ?_
              refine lv_isub hx hb dX4_takeFirst_35 ?_
              rw [show (5 - 1 : Int32) = 4 from by decide]
              refine lv_aload_n hx hb dX4_takeFirst_36 rfl (lv_at hl21 2 rfl) ?_
              refine kget F hK hP20 4 0 0 iX4 rfl rfl (by decide) (List.mem_of_getElem? (i := 2) rfl) rfl dX4_takeFirst_37 ?_
              refine lv_iload_n hx hb dX4_takeFirst_40 rfl (lv_at hl21 0 rfl) ?_
              refine kald F hK hP20 1 2 5 (x := (q 5)) rfl rfl rfl (by decide) (Nat.le_of_ble_eq_true rfl) (by subst ew20; subst ew16; subst ew12; subst ew8; rfl) dX4_takeFirst_41 ?_
              refine kast F hK hP20 hD20 hS20 1 2 10 2 4 (fun zz => [oRo h w p, aM G w 8 zz, oMs (q 1) (d 1), aI G (d 1) 9 (M 1), oMs (q 2) (d 2), aI G (d 2) 9 (M 2), oMs (q 3) (d 3), aI G (d 3) 9 (M 3), oMs (q 4) (d 4), aI G (d 4) 9 (M 4), oMs (q 5) (d 5), aI G (d 5) 9 (M 5), oMs (q 6) (d 6), aI G (d 6) 9 (M 6), oMs (q 7) (d 7), aI G (d 7) 9 (M 7), oMs h2 a2, aI G a2 9 f_3, oMs (q 0) (d 0), aI G (d 0) 9 (M 0)]) rfl rfl rfl rfl rfl (by decide) (Nat.le_of_ble_eq_true rfl) rfl dX4_takeFirst_42 (fun H24 locs24 w24 ew24 (hP24 : va_P G.1 vwCl ([oRo h w p, aM G w 8 w24, oMs (q 1) (d 1), aI G (d 1) 9 (M 1), oMs (q 2) (d 2), aI G (d 2) 9 (M 2), oMs (q 3) (d 3), aI G (d 3) 9 (M 3), oMs (q 4) (d 4), aI G (d 4) 9 (M 4), oMs (q 5) (d 5), aI G (d 5) 9 (M 5), oMs (q 6) (d 6), aI G (d 6) 9 (M 6), oMs (q 7) (d 7), aI G (d 7) 9 (M 7), oMs h2 a2, aI G a2 9 f_3, oMs (q 0) (d 0), aI G (d 0) 9 (M 0)]) H24) (hD24 : va_D A ([oRo h w p, aM G w 8 w24, oMs (q 1) (d 1), aI G (d 1) 9 (M 1), oMs (q 2) (d 2), aI G (d 2) 9 (M 2), oMs (q 3) (d 3), aI G (d 3) 9 (M 3), oMs (q 4) (d 4), aI G (d 4) 9 (M 4), oMs (q 5) (d 5), aI G (d 5) 9 (M 5), oMs (q 6) (d 6), aI G (d 6) 9 (M 6), oMs (q 7) (d 7), aI G (d 7) 9 (M 7), oMs h2 a2, aI G a2 9 f_3, oMs (q 0) (d 0), aI G (d 0) 9 (M 0)])) hS24 => ?_)
              clear hP20 hD20 hS20
              refine lv_iinc (v := 6) (lv' := [(3, .int 6), (2, .ref (q 0)), (0, .ref h), (1, .ref h2)]) hx hb dX4_takeFirst_43 hl21 (k := 0) rfl (by decide) (by decide) rfl (fun ls25 hl25 => ?_)
              clear hl21
              refine lv_goto (tgt := 23) hx hb dX4_takeFirst_46 (by decide) ?_
              refine lv_iload_n hx hb dX4_takeFirst_23 rfl (lv_at hl25 0 rfl) ?_
              refine lv_bipush (v := 8) hx hb dX4_takeFirst_24 (by decide) ?_
              refine lv_icmp_ge (tgt := 49) hx hb dX4_takeFirst_26 (by decide) (fun c26 => ?_) (fun c26 => ?_)
              · exact absurd c26 (by decide)
              · refine lv_aload_n hx hb dX4_takeFirst_29 rfl (lv_at hl25 2 rfl) ?_
                refine kget F hK hP24 4 0 0 iX4 rfl rfl (by decide) (List.mem_of_getElem? (i := 2) rfl) rfl dX4_takeFirst_30 ?_
                refine lv_iload_n hx hb dX4_takeFirst_33 rfl (lv_at hl25 0 rfl) ?_
                refine lv_iconst (v := 1) hx hb dX4_takeFirst_34 (by decide) ?_
                refine lv_isub hx hb dX4_takeFirst_35 ?_
                rw [show (6 - 1 : Int32) = 5 from by decide]
                refine lv_aload_n hx hb dX4_takeFirst_36 rfl (lv_at hl25 2 rfl) ?_
                refine kget F hK hP24 4 0 0 iX4 rfl rfl (by decide) (List.mem_of_getElem? (i := 2) rfl) rfl dX4_takeFirst_37 ?_
                refine lv_iload_n hx hb dX4_takeFirst_40 rfl (lv_at hl25 0 rfl) ?_
                refine kald F hK hP24 1 2 6 (x := (q 6)) rfl rfl rfl (by decide) (Nat.le_of_ble_eq_true rfl) (by subst ew24; subst ew20; subst ew16; subst ew12; subst ew8; rfl) dX4_takeFirst_41 ?_
                refine kast F hK hP24 hD24 hS24 1 2 12 2 5 (fun zz => [oRo h w p, aM G w 8 zz, oMs (q 1) (d 1), aI G (d 1) 9 (M 1), oMs (q 2) (d 2), aI G (d 2) 9 (M 2), oMs (q 3) (d 3), aI G (d 3) 9 (M 3), oMs (q 4) (d 4), aI G (d 4) 9 (M 4), oMs (q 5) (d 5), aI G (d 5) 9 (M 5), oMs (q 6) (d 6), aI G (d 6) 9 (M 6), oMs (q 7) (d 7), aI G (d 7) 9 (M 7), oMs h2 a2, aI G a2 9 f_3, oMs (q 0) (d 0), aI G (d 0) 9 (M 0)]) rfl rfl rfl rfl rfl (by decide) (Nat.le_of_ble_eq_true rfl) rfl dX4_takeFirst_42 (fun H28 locs28 w28 ew28 (hP28 : va_P G.1 vwCl ([oRo h w p, aM G w 8 w28, oMs (q 1) (d 1), aI G (d 1) 9 (M 1), oMs (q 2) (d 2), aI G (d 2) 9 (M 2), oMs (q 3) (d 3), aI G (d 3) 9 (M 3), oMs (q 4) (d 4), aI G (d 4) 9 (M 4), oMs (q 5) (d 5), aI G (d 5) 9 (M 5), oMs (q 6) (d 6), aI G (d 6) 9 (M 6), oMs (q 7) (d 7), aI G (d 7) 9 (M 7), oMs h2 a2, aI G a2 9 f_3, oMs (q 0) (d 0), aI G (d 0) 9 (M 0)]) H28) (hD28 : va_D A ([oRo h w p, aM G w 8 w28, oMs (q 1) (d 1), aI G (d 1) 9 (M 1), oMs (q 2) (d 2), aI G (d 2) 9 (M 2), oMs (q 3) (d 3), aI G (d 3) 9 (M 3), oMs (q 4) (d 4), aI G (d 4) 9 (M 4), oMs (q 5) (d 5), aI G (d 5) 9 (M 5), oMs (q 6) (d 6), aI G (d 6) 9 (M 6), oMs (q 7) (d 7), aI G (d 7) 9 (M 7), oMs h2 a2, aI G a2 9 f_3, oMs (q 0) (d 0), aI G (d 0) 9 (M 0)])) hS28 => ?_)
                clear hP24 hD24 hS24
                refine lv_iinc (v := 7) (lv' := [(3, .int 7), (2, .ref (q 0)), (0, .ref h), (1, .ref h2)]) hx hb dX4_takeFirst_43 hl25 (k := 0) rfl (by decide) (by decide) rfl (fun ls29 hl29 => ?_)
                clear hl25
                refine lv_goto (tgt := 23) hx hb dX4_takeFirst_46 (by decide) ?_
                refine lv_iload_n hx hb dX4_takeFirst_23 rfl (lv_at hl29 0 rfl) ?_
                refine lv_bipush (v := 8) hx hb dX4_takeFirst_24 (by decide) ?_
                refine lv_icmp_ge (tgt := 49) hx hb dX4_takeFirst_26 (by decide) (fun c30 => ?_) (fun c30 => ?_)
                · exact absurd c30 (by decide)
                · refine lv_aload_n hx hb dX4_takeFirst_29 rfl (lv_at hl29 2 rfl) ?_
                  refine kget F hK hP28 4 0 0 iX4 rfl rfl (by decide) (List.mem_of_getElem? (i := 2) rfl) rfl dX4_takeFirst_30 ?_
                  refine lv_iload_n hx hb dX4_takeFirst_33 rfl (lv_at hl29 0 rfl) ?_
                  refine lv_iconst (v := 1) hx hb dX4_takeFirst_34 (by decide) ?_
                  refine lv_isub hx hb dX4_takeFirst_35 ?_
                  rw [show (7 - 1 : Int32) = 6 from by decide]
                  refine lv_aload_n hx hb dX4_takeFirst_36 rfl (lv_at hl29 2 rfl) ?_
                  refine kget F hK hP28 4 0 0 iX4 rfl rfl (by decide) (List.mem_of_getElem? (i := 2) rfl) rfl dX4_takeFirst_37 ?_
                  refine lv_iload_n hx hb dX4_takeFirst_40 rfl (lv_at hl29 0 rfl) ?_
                  refine kald F hK hP28 1 2 7 (x := (q 7)) rfl rfl rfl (by decide) (Nat.le_of_ble_eq_true rfl) (by subst ew28; subst ew24; subst ew20; subst ew16; subst ew12; subst ew8; rfl) dX4_takeFirst_41 ?_
                  refine kast F hK hP28 hD28 hS28 1 2 14 2 6 (fun zz => [oRo h w p, aM G w 8 zz, oMs (q 1) (d 1), aI G (d 1) 9 (M 1), oMs (q 2) (d 2), aI G (d 2) 9 (M 2), oMs (q 3) (d 3), aI G (d 3) 9 (M 3), oMs (q 4) (d 4), aI G (d 4) 9 (M 4), oMs (q 5) (d 5), aI G (d 5) 9 (M 5), oMs (q 6) (d 6), aI G (d 6) 9 (M 6), oMs (q 7) (d 7), aI G (d 7) 9 (M 7), oMs h2 a2, aI G a2 9 f_3, oMs (q 0) (d 0), aI G (d 0) 9 (M 0)]) rfl rfl rfl rfl rfl (by decide) (Nat.le_of_ble_eq_true rfl) rfl dX4_takeFirst_42 (fun H32 locs32 w32 ew32 (hP32 : va_P G.1 vwCl ([oRo h w p, aM G w 8 w32, oMs (q 1) (d 1), aI G (d 1) 9 (M 1), oMs (q 2) (d 2), aI G (d 2) 9 (M 2), oMs (q 3) (d 3), aI G (d 3) 9 (M 3), oMs (q 4) (d 4), aI G (d 4) 9 (M 4), oMs (q 5) (d 5), aI G (d 5) 9 (M 5), oMs (q 6) (d 6), aI G (d 6) 9 (M 6), oMs (q 7) (d 7), aI G (d 7) 9 (M 7), oMs h2 a2, aI G a2 9 f_3, oMs (q 0) (d 0), aI G (d 0) 9 (M 0)]) H32) (hD32 : va_D A ([oRo h w p, aM G w 8 w32, oMs (q 1) (d 1), aI G (d 1) 9 (M 1), oMs (q 2) (d 2), aI G (d 2) 9 (M 2), oMs (q 3) (d 3), aI G (d 3) 9 (M 3), oMs (q 4) (d 4), aI G (d 4) 9 (M 4), oMs (q 5) (d 5), aI G (d 5) 9 (M 5), oMs (q 6) (d 6), aI G (d 6) 9 (M 6), oMs (q 7) (d 7), aI G (d 7) 9 (M 7), oMs h2 a2, aI G a2 9 f_3, oMs (q 0) (d 0), aI G (d 0) 9 (M 0)])) hS32 => ?_)
                  clear hP28 hD28 hS28
                  refine lv_iinc (v := 8) (lv' := [(3, .int 8), (2, .ref (q 0)), (0, .ref h), (1, .ref h2)]) hx hb dX4_takeFirst_43 hl29 (k := 0) rfl (by decide) (by decide) rfl (fun ls33 hl33 => ?_)
                  clear hl29
                  refine lv_goto (tgt := 23) hx hb dX4_takeFirst_46 (by decide) ?_
                  refine lv_iload_n hx hb dX4_takeFirst_23 rfl (lv_at hl33 0 rfl) ?_
                  refine lv_bipush (v := 8) hx hb dX4_takeFirst_24 (by decide) ?_
                  refine lv_icmp_ge (tgt := 49) hx hb dX4_takeFirst_26 (by decide) (fun c34 => ?_) (fun c34 => ?_)
                  · refine lv_aload_n hx hb dX4_takeFirst_49 rfl (lv_at hl33 2 rfl) ?_
                    refine kget F hK hP32 4 0 0 iX4 rfl rfl (by decide) (List.mem_of_getElem? (i := 2) rfl) rfl dX4_takeFirst_50 ?_
                    refine lv_bipush (v := 7) hx hb dX4_takeFirst_53 (by decide) ?_
                    refine lv_aload_n hx hb dX4_takeFirst_55 rfl (lv_at hl33 1 rfl) ?_
                    refine kast F hK hP32 hD32 hS32 1 2 18 2 7 (fun zz => [oRo h w p, aM G w 8 zz, oMs (q 1) (d 1), aI G (d 1) 9 (M 1), oMs (q 2) (d 2), aI G (d 2) 9 (M 2), oMs (q 3) (d 3), aI G (d 3) 9 (M 3), oMs (q 4) (d 4), aI G (d 4) 9 (M 4), oMs (q 5) (d 5), aI G (d 5) 9 (M 5), oMs (q 6) (d 6), aI G (d 6) 9 (M 6), oMs (q 7) (d 7), aI G (d 7) 9 (M 7), oMs h2 a2, aI G a2 9 f_3, oMs (q 0) (d 0), aI G (d 0) 9 (M 0)]) rfl rfl rfl rfl rfl (by decide) (Nat.le_of_ble_eq_true rfl) rfl dX4_takeFirst_56 (fun H35 locs35 w35 ew35 (hP35 : va_P G.1 vwCl ([oRo h w p, aM G w 8 w35, oMs (q 1) (d 1), aI G (d 1) 9 (M 1), oMs (q 2) (d 2), aI G (d 2) 9 (M 2), oMs (q 3) (d 3), aI G (d 3) 9 (M 3), oMs (q 4) (d 4), aI G (d 4) 9 (M 4), oMs (q 5) (d 5), aI G (d 5) 9 (M 5), oMs (q 6) (d 6), aI G (d 6) 9 (M 6), oMs (q 7) (d 7), aI G (d 7) 9 (M 7), oMs h2 a2, aI G a2 9 f_3, oMs (q 0) (d 0), aI G (d 0) 9 (M 0)]) H35) (hD35 : va_D A ([oRo h w p, aM G w 8 w35, oMs (q 1) (d 1), aI G (d 1) 9 (M 1), oMs (q 2) (d 2), aI G (d 2) 9 (M 2), oMs (q 3) (d 3), aI G (d 3) 9 (M 3), oMs (q 4) (d 4), aI G (d 4) 9 (M 4), oMs (q 5) (d 5), aI G (d 5) 9 (M 5), oMs (q 6) (d 6), aI G (d 6) 9 (M 6), oMs (q 7) (d 7), aI G (d 7) 9 (M 7), oMs h2 a2, aI G a2 9 f_3, oMs (q 0) (d 0), aI G (d 0) 9 (M 0)])) hS35 => ?_)
                    clear hP32 hD32 hS32
                    refine lv_aload_n hx hb dX4_takeFirst_57 rfl (lv_at hl33 2 rfl) ?_
                    refine lv_dup hx hb dX4_takeFirst_58 rfl ?_
                    refine kget F hK hP35 4 0 1 iX4 rfl rfl (by decide) (List.mem_of_getElem? (i := 1) rfl) rfl dX4_takeFirst_59 ?_
                    refine lv_iconst (v := 1) hx hb dX4_takeFirst_62 (by decide) ?_
                    refine lv_isub hx hb dX4_takeFirst_63 ?_
                    refine kput F hK hP35 hD35 hS35 (ty0 := tyX4) 4 0 1 iX4 rfl tyX4_ok nmX4 (fun zz => [oRo h w zz, aM G w 8 w35, oMs (q 1) (d 1), aI G (d 1) 9 (M 1), oMs (q 2) (d 2), aI G (d 2) 9 (M 2), oMs (q 3) (d 3), aI G (d 3) 9 (M 3), oMs (q 4) (d 4), aI G (d 4) 9 (M 4), oMs (q 5) (d 5), aI G (d 5) 9 (M 5), oMs (q 6) (d 6), aI G (d 6) 9 (M 6), oMs (q 7) (d 7), aI G (d 7) 9 (M 7), oMs h2 a2, aI G a2 9 f_3, oMs (q 0) (d 0), aI G (d 0) 9 (M 0)]) p rfl (by decide) (List.mem_of_getElem? (i := 1) rfl) rfl rfl rfl (Nat.le_of_ble_eq_true rfl) rfl dX4_takeFirst_64 (fun H36 locs36 p36 ep36 (hP36 : va_P G.1 vwCl ([oRo h w p36, aM G w 8 w35, oMs (q 1) (d 1), aI G (d 1) 9 (M 1), oMs (q 2) (d 2), aI G (d 2) 9 (M 2), oMs (q 3) (d 3), aI G (d 3) 9 (M 3), oMs (q 4) (d 4), aI G (d 4) 9 (M 4), oMs (q 5) (d 5), aI G (d 5) 9 (M 5), oMs (q 6) (d 6), aI G (d 6) 9 (M 6), oMs (q 7) (d 7), aI G (d 7) 9 (M 7), oMs h2 a2, aI G a2 9 f_3, oMs (q 0) (d 0), aI G (d 0) 9 (M 0)]) H36) (hD36 : va_D A ([oRo h w p36, aM G w 8 w35, oMs (q 1) (d 1), aI G (d 1) 9 (M 1), oMs (q 2) (d 2), aI G (d 2) 9 (M 2), oMs (q 3) (d 3), aI G (d 3) 9 (M 3), oMs (q 4) (d 4), aI G (d 4) 9 (M 4), oMs (q 5) (d 5), aI G (d 5) 9 (M 5), oMs (q 6) (d 6), aI G (d 6) 9 (M 6), oMs (q 7) (d 7), aI G (d 7) 9 (M 7), oMs h2 a2, aI G a2 9 f_3, oMs (q 0) (d 0), aI G (d 0) 9 (M 0)])) hS36 => ?_)
                    clear hP35 hD35 hS35
                    have hrow : w35 = krow (krot q) := by
                      subst ew35
                      subst ew32
                      subst ew28
                      subst ew24
                      subst ew20
                      subst ew16
                      subst ew12
                      subst ew8
                      exact krow_rot q
                    rw [hrow] at hP36 hD36
                    have q37 : (p36 = upd p 1 (p 1 - 1)) ∧ (f_3 = kcpy g (M 0) 9) := by
                      subst ep36
                      subst w3_0
                      exact ⟨rfl, rfl⟩
                    exact kRv F hr hlocks hS36 dX4_takeFirst_67 ⟨p36, f_3⟩ q37 (hP36.sub [0, 1, 2, 3, 4, 5, 6, 7, 8, 9, 10, 11, 12, 13, 14, 15, 18, 19, 16, 17] rfl) (hD36.sub [0, 1, 2, 3, 4, 5, 6, 7, 8, 9, 10, 11, 12, 13, 14, 15, 18, 19, 16, 17] (by decide) rfl)
                  · exact absurd (by decide) c34
  · exact absurd (by rw [hL]; exact nI_le (a := 1) (by omega) (by omega)) c1
set_option maxHeartbeats 1000000 in
set_option maxRecDepth 100000 in
theorem c_X8_isSide (l : Launch) (G : kG) (i : Int32) : kM G l yX8_isSide wsX8_isSide ({ frames := 0, cells := 0, slots := 0, locals := 0 }) [.int i] ([]) (kQi G (fun (rr : Int32) (uu : Unit) => rr = kside i) (fun (uu : Unit) => [])) := by
  refine kStart (cc := cX8_isSide) (maxL := 1) (ret := (some .boolean)) (by decide) rfl (Nat.le_of_ble_eq_true rfl) (fun pg ev st mi bl mt cd A ls0 F hr hlocks hin hK hP0 hD0 hA hS0 hl0 => ?_)
  obtain ⟨hx, hb, hml, hown, hts⟩ := id F
  have hl0 : lv_has ls0 1 [(0, .int i)] := hl0
  refine lv_iload_n hx hb dX8_isSide_0 rfl (lv_at hl0 0 rfl) ?_
  refine lv_if_eq (tgt := 9) hx hb dX8_isSide_1 (by decide) (fun c1 => ?_) (fun c1 => ?_)
  · refine lv_iconst (v := 1) hx hb dX8_isSide_9 (by decide) ?_
    refine lv_goto (tgt := 14) hx hb dX8_isSide_10 (by decide) ?_
    have q2 : 1 = kside i := by
      first | (subst c1; rfl) | (simp only [kside, c1, ↓reduceIte]; done) | (simp [kside, c1]; done) | rfl
    exact kRz F hr hlocks hS0 dX8_isSide_14 rfl () q2 hP0 hD0
  · refine lv_iload_n hx hb dX8_isSide_4 rfl (lv_at hl0 0 rfl) ?_
    refine lv_iconst (v := 1) hx hb dX8_isSide_5 (by decide) ?_
    refine lv_icmp_ne (tgt := 13) hx hb dX8_isSide_6 (by decide) (fun c3 => ?_) (fun c3 => ?_)
    · refine lv_iconst (v := 0) hx hb dX8_isSide_13 (by decide) ?_
      have q4 : 0 = kside i := by
        first | (simp only [kside, c1, c3, ↓reduceIte]; done) | (simp [kside, c1, c3]; done) | rfl
      exact kRz F hr hlocks hS0 dX8_isSide_14 rfl () q4 hP0 hD0
    · refine lv_iconst (v := 1) hx hb dX8_isSide_9 (by decide) ?_
      refine lv_goto (tgt := 14) hx hb dX8_isSide_10 (by decide) ?_
      have q5 : 1 = kside i := by
        first | (subst c3; rfl) | (simp only [kside, c1, c3, ↓reduceIte]; done) | (simp [kside, c1, c3]; done) | rfl
      exact kRz F hr hlocks hS0 dX8_isSide_14 rfl () q5 hP0 hD0
set_option maxHeartbeats 1000000 in
set_option maxRecDepth 100000 in
theorem c_X8_isGroup (l : Launch) (G : kG) (i : Int32) : kM G l yX8_isGroup wsX8_isGroup ({ frames := 0, cells := 0, slots := 0, locals := 0 }) [.int i] ([]) (kQi G (fun (rr : Int32) (uu : Unit) => rr = kgrp i) (fun (uu : Unit) => [])) := by
  refine kStart (cc := cX8_isGroup) (maxL := 1) (ret := (some .boolean)) (by decide) rfl (Nat.le_of_ble_eq_true rfl) (fun pg ev st mi bl mt cd A ls0 F hr hlocks hin hK hP0 hD0 hA hS0 hl0 => ?_)
  obtain ⟨hx, hb, hml, hown, hts⟩ := id F
  have hl0 : lv_has ls0 1 [(0, .int i)] := hl0
  refine lv_iload_n hx hb dX8_isGroup_0 rfl (lv_at hl0 0 rfl) ?_
  refine lv_if_lt (tgt := 13) hx hb dX8_isGroup_1 (by decide) (fun c1 => ?_) (fun c1 => ?_)
  · refine lv_iconst (v := 0) hx hb dX8_isGroup_13 (by decide) ?_
    have q2 : 0 = kgrp i := by
      first | (simp only [kgrp, c1, ↓reduceIte]; done) | (simp [kgrp, c1]; done) | rfl
    exact kRz F hr hlocks hS0 dX8_isGroup_14 rfl () q2 hP0 hD0
  · refine lv_iload_n hx hb dX8_isGroup_4 rfl (lv_at hl0 0 rfl) ?_
    refine lv_iconst (v := 3) hx hb dX8_isGroup_5 (by decide) ?_
    refine lv_icmp_gt (tgt := 13) hx hb dX8_isGroup_6 (by decide) (fun c3 => ?_) (fun c3 => ?_)
    · refine lv_iconst (v := 0) hx hb dX8_isGroup_13 (by decide) ?_
      have q4 : 0 = kgrp i := by
        first | (simp only [kgrp, c1, c3, ↓reduceIte]; done) | (simp [kgrp, c1, c3]; done) | rfl
      exact kRz F hr hlocks hS0 dX8_isGroup_14 rfl () q4 hP0 hD0
    · refine lv_iconst (v := 1) hx hb dX8_isGroup_9 (by decide) ?_
      refine lv_goto (tgt := 14) hx hb dX8_isGroup_10 (by decide) ?_
      have q5 : 1 = kgrp i := by
        first | (simp only [kgrp, c1, c3, ↓reduceIte]; done) | (simp [kgrp, c1, c3]; done) | rfl
      exact kRz F hr hlocks hS0 dX8_isGroup_14 rfl () q5 hP0 hD0
set_option maxHeartbeats 1000000 in
set_option maxRecDepth 100000 in
theorem c_X8_isPlace (l : Launch) (G : kG) (i : Int32) : kM G l yX8_isPlace wsX8_isPlace ({ frames := 0, cells := 0, slots := 0, locals := 0 }) [.int i] ([]) (kQi G (fun (rr : Int32) (uu : Unit) => rr = kplc i) (fun (uu : Unit) => [])) := by
  refine kStart (cc := cX8_isPlace) (maxL := 1) (ret := (some .boolean)) (by decide) rfl (Nat.le_of_ble_eq_true rfl) (fun pg ev st mi bl mt cd A ls0 F hr hlocks hin hK hP0 hD0 hA hS0 hl0 => ?_)
  obtain ⟨hx, hb, hml, hown, hts⟩ := id F
  have hl0 : lv_has ls0 1 [(0, .int i)] := hl0
  refine lv_iload_n hx hb dX8_isPlace_0 rfl (lv_at hl0 0 rfl) ?_
  refine lv_if_lt (tgt := 13) hx hb dX8_isPlace_1 (by decide) (fun c1 => ?_) (fun c1 => ?_)
  · refine lv_iconst (v := 0) hx hb dX8_isPlace_13 (by decide) ?_
    have q2 : 0 = kplc i := by
      first | (simp only [kplc, c1, ↓reduceIte]; done) | (simp [kplc, c1]; done) | rfl
    exact kRz F hr hlocks hS0 dX8_isPlace_14 rfl () q2 hP0 hD0
  · refine lv_iload_n hx hb dX8_isPlace_4 rfl (lv_at hl0 0 rfl) ?_
    refine lv_iconst (v := 4) hx hb dX8_isPlace_5 (by decide) ?_
    refine lv_icmp_ge (tgt := 13) hx hb dX8_isPlace_6 (by decide) (fun c3 => ?_) (fun c3 => ?_)
    · refine lv_iconst (v := 0) hx hb dX8_isPlace_13 (by decide) ?_
      have q4 : 0 = kplc i := by
        first | (simp only [kplc, c1, c3, ↓reduceIte]; done) | (simp [kplc, c1, c3]; done) | rfl
      exact kRz F hr hlocks hS0 dX8_isPlace_14 rfl () q4 hP0 hD0
    · refine lv_iconst (v := 1) hx hb dX8_isPlace_9 (by decide) ?_
      refine lv_goto (tgt := 14) hx hb dX8_isPlace_10 (by decide) ?_
      have q5 : 1 = kplc i := by
        first | (simp only [kplc, c1, c3, ↓reduceIte]; done) | (simp [kplc, c1, c3]; done) | rfl
      exact kRz F hr hlocks hS0 dX8_isPlace_14 rfl () q5 hP0 hD0
set_option maxHeartbeats 1000000 in
set_option maxRecDepth 100000 in
theorem c_X8_otherThan (l : Launch) (G : kG) (i : Int32) : kM G l yX8_otherThan wsX8_otherThan ({ frames := 0, cells := 0, slots := 0, locals := 0 }) [.int i] ([]) (kQi G (fun (rr : Int32) (uu : Unit) => rr = kother i) (fun (uu : Unit) => [])) := by
  refine kStart (cc := cX8_otherThan) (maxL := 1) (ret := (some .int)) (by decide) rfl (Nat.le_of_ble_eq_true rfl) (fun pg ev st mi bl mt cd A ls0 F hr hlocks hin hK hP0 hD0 hA hS0 hl0 => ?_)
  obtain ⟨hx, hb, hml, hown, hts⟩ := id F
  have hl0 : lv_has ls0 1 [(0, .int i)] := hl0
  refine lv_iload_n hx hb dX8_otherThan_0 rfl (lv_at hl0 0 rfl) ?_
  refine lv_if_ne (tgt := 8) hx hb dX8_otherThan_1 (by decide) (fun c1 => ?_) (fun c1 => ?_)
  · refine lv_iconst (v := 0) hx hb dX8_otherThan_8 (by decide) ?_
    have q2 : 0 = kother i := by
      first | (simp only [kother, c1, ↓reduceIte]; done) | (simp [kother, c1]; done) | rfl
    exact kRi F hr hlocks hS0 dX8_otherThan_9 () q2 hP0 hD0
  · refine lv_iconst (v := 1) hx hb dX8_otherThan_4 (by decide) ?_
    refine lv_goto (tgt := 9) hx hb dX8_otherThan_5 (by decide) ?_
    have q3 : 1 = kother i := by
      first | (subst c1; rfl) | (simp only [kother, c1, ↓reduceIte]; done) | (simp [kother, c1]; done) | rfl
    exact kRi F hr hlocks hS0 dX8_otherThan_9 () q3 hP0 hD0
set_option maxHeartbeats 1000000 in
set_option maxRecDepth 100000 in
theorem c_X8_primeOf (l : Launch) (G : kG) (g : Int32) : kM G l yX8_primeOf wsX8_primeOf ({ frames := 0, cells := 0, slots := 0, locals := 0 }) [.int g] ([]) (kQi G (fun (rr : Int32) (uu : Unit) => rr = kprime g) (fun (uu : Unit) => [])) := by
  refine kStart (cc := cX8_primeOf) (maxL := 1) (ret := (some .int)) (by decide) rfl (Nat.le_of_ble_eq_true rfl) (fun pg ev st mi bl mt cd A ls0 F hr hlocks hin hK hP0 hD0 hA hS0 hl0 => ?_)
  obtain ⟨hx, hb, hml, hown, hts⟩ := id F
  have hl0 : lv_has ls0 1 [(0, .int g)] := hl0
  refine lv_iload_n hx hb dX8_primeOf_0 rfl (lv_at hl0 0 rfl) ?_
  rcases ksw g 0 2 with c1 | c1
  · refine lv_tableOut (tgt := 37) hx hb dX8_primeOf_1 c1 (by decide) ?_
    refine lv_bipush (v := 97) hx hb dX8_primeOf_37 (by decide) ?_
    have q2 : 97 = kprime g := by
      have z0 : ¬ g = 0 := by intro z; rw [z] at c1; revert c1; decide
      have z1 : ¬ g = 1 := by intro z; rw [z] at c1; revert c1; decide
      have z2 : ¬ g = 2 := by intro z; rw [z] at c1; revert c1; decide
      simp only [kprime, z0, z1, z2, ↓reduceIte]
    exact kRi F hr hlocks hS0 dX8_primeOf_39 () q2 hP0 hD0
  · obtain ⟨c1a, c1b⟩ := c1
    rcases kswE g 0 (v := 0) (by decide) with c1_0 | c1_0
    · refine lv_tableIn (off := 27) (tgt := 28) hx hb dX8_primeOf_1 c1a c1b (by rw [c1_0]; rfl) (by decide) ?_
      refine lv_bipush (v := 23) hx hb dX8_primeOf_28 (by decide) ?_
      have q3 : 23 = kprime g := by
        first | (subst c1_0; rfl) | (subst c1_0; simp only [kprime, show ¬ ((0 : Int32) = 1) from by decide, show ¬ ((0 : Int32) = 2) from by decide, eq_self, ↓reduceIte]; done) | (simp only [kprime, c1_0, ↓reduceIte]) | (simp only [kprime, c1_0, ↓reduceIte]; simp; done)
      exact kRi F hr hlocks hS0 dX8_primeOf_30 () q3 hP0 hD0
    rcases kswE g 1 (v := 1) (by decide) with c1_1 | c1_1
    · refine lv_tableIn (off := 30) (tgt := 31) hx hb dX8_primeOf_1 c1a c1b (by rw [c1_1]; rfl) (by decide) ?_
      refine lv_bipush (v := 47) hx hb dX8_primeOf_31 (by decide) ?_
      have q4 : 47 = kprime g := by
        first | (subst c1_1; rfl) | (subst c1_1; simp only [kprime, show ¬ ((1 : Int32) = 0) from by decide, show ¬ ((1 : Int32) = 2) from by decide, eq_self, ↓reduceIte]; done) | (simp only [kprime, c1_1, ↓reduceIte]) | (simp only [kprime, c1_1, ↓reduceIte]; simp; done)
      exact kRi F hr hlocks hS0 dX8_primeOf_33 () q4 hP0 hD0
    rcases kswE g 2 (v := 2) (by decide) with c1_2 | c1_2
    · refine lv_tableIn (off := 33) (tgt := 34) hx hb dX8_primeOf_1 c1a c1b (by rw [c1_2]; rfl) (by decide) ?_
      refine lv_bipush (v := 59) hx hb dX8_primeOf_34 (by decide) ?_
      have q5 : 59 = kprime g := by
        first | (subst c1_2; rfl) | (subst c1_2; simp only [kprime, show ¬ ((2 : Int32) = 0) from by decide, show ¬ ((2 : Int32) = 1) from by decide, eq_self, ↓reduceIte]; done) | (simp only [kprime, c1_2, ↓reduceIte]) | (simp only [kprime, c1_2, ↓reduceIte]; simp; done)
      exact kRi F hr hlocks hS0 dX8_primeOf_36 () q5 hP0 hD0
    omega
set_option maxHeartbeats 1000000 in
set_option maxRecDepth 100000 in
theorem c_X8_power (l : Launch) (G : kG) (b : Int32) (t : Int32) (n : Int32) (hp : 1 ≤ n) : kM G l yX8_power wsX8_power ({ frames := 0, cells := 0, slots := 0, locals := 0 }) [.int b, .int t, .int n] ([]) (kQi G (fun (rr : Int32) (uu : Unit) => rr = kpowC b t n) (fun (uu : Unit) => [])) := by
  refine kStart (cc := cX8_power) (maxL := 6) (ret := (some .int)) (by decide) rfl (Nat.le_of_ble_eq_true rfl) (fun pg ev st mi bl mt cd A ls0 F hr hlocks hin hK hP0 hD0 hA hS0 hl0 => ?_)
  obtain ⟨hx, hb, hml, hown, hts⟩ := id F
  have hl0 : lv_has ls0 6 [(0, .int b), (1, .int t), (2, .int n)] := hl0
  refine lv_iload_n hx hb dX8_power_0 rfl (lv_at hl0 2 rfl) ?_
  refine lv_iconst (v := 1) hx hb dX8_power_1 (by decide) ?_
  refine lv_icmp_ge (tgt := 7) hx hb dX8_power_2 (by decide) (fun c1 => ?_) (fun c1 => ?_)
  · refine lv_iconst (v := 1) hx hb dX8_power_7 (by decide) ?_
    refine lv_istore_n (lv' := [(3, .int 1), (0, .int b), (1, .int t), (2, .int n)]) hx hb dX8_power_8 rfl hl0 (by decide) rfl (fun ls2 hl2 => ?_)
    clear hl0
    refine lv_iload_n hx hb dX8_power_9 rfl (lv_at hl2 1 rfl) ?_
    refine lv_iload_n hx hb dX8_power_10 rfl (lv_at hl2 3 rfl) ?_
    refine lv_irem hx hb dX8_power_11 (k_ne0 hp) ?_
    refine lv_istore (lv' := [(4, .int (krem b n)), (3, .int 1), (0, .int b), (1, .int t), (2, .int n)]) hx hb dX8_power_12 hl2 (by decide) rfl (fun ls3 hl3 => ?_)
    clear hl2
    refine lv_iconst (v := 0) hx hb dX8_power_14 (by decide) ?_
    refine lv_istore (lv' := [(5, .int 0), (4, .int (krem b n)), (3, .int 1), (0, .int b), (1, .int t), (2, .int n)]) hx hb dX8_power_15 hl3 (by decide) rfl (fun ls4 hl4 => ?_)
    clear hl3
    have LOOP5 : ∀ (fu k : Nat), k ≤ 10 → 10 + 1 ≤ k + fu → ∀ r5 : Int32, r5 = (kpc b t n k).1 → ∀ q5 : Int32, q5 = (kpc b t n k).2 → ∀ (H5 : Heap) (locs5 : List Loc) (ls5 : Array Slot), lv_has ls5 6 [(5, .int (nI k)), (4, .int q5), (3, .int r5), (0, .int b), (1, .int t), (2, .int n)] → va_P G.1 vwCl ([]) H5 → va_D A ([]) → va_S A st.heap H5 locs5 → W pg l ev ({ frames := 0, cells := 0, slots := 0, locals := 0 }) st mi ([.int b, .int t, .int n] : List Value).toArray bl mt cd H5 locs5 0 0 (MQ bl (kQi G (fun (rr : Int32) (uu : Unit) => rr = kpowC b t n) (fun (uu : Unit) => []) A) ([.int b, .int t, .int n] : List Value).toArray st 0 0 A) (F0 mi 17 ls5 []) := by
      intro fu
      induction fu with
      | zero => intro k h1 h2; exact absurd h2 (by omega)
      | succ fu ih =>
        intro k hk hnk r5 er5 q5 eq5 H5 locs5 ls5 hl5 hP5 hD5 hS5
        refine lv_iload hx hb dX8_power_17 (lv_at hl5 0 rfl) ?_
        refine lv_bipush (v := 10) hx hb dX8_power_19 (by decide) ?_
        refine lv_icmp_ge (tgt := 55) hx hb dX8_power_21 (by decide) (fun c6 => ?_) (fun c6 => ?_)
        · have xk : k = 10 := k_exit (N := 10) hk (by decide) c6
          subst xk
          clear c6
          refine lv_iload_n hx hb dX8_power_55 rfl (lv_at hl5 2 rfl) ?_
          have q7 : r5 = kpowC b t n := by
            subst eq5
            subst er5
            first | rfl | (simp only [c1, ↓reduceIte]; done) | (simp [c1]; done)
          exact kRi F hr hlocks hS5 dX8_power_56 () q7 hP5 hD5
        · have lk : k < 10 := k_body (N := 10) hk (by decide) c6
          refine lv_iload_n hx hb dX8_power_24 rfl (lv_at hl5 4 rfl) ?_
          refine lv_iload hx hb dX8_power_25 (lv_at hl5 0 rfl) ?_
          refine lv_ishr hx hb dX8_power_27 ?_
          refine lv_iconst (v := 1) hx hb dX8_power_28 (by decide) ?_
          refine lv_iand hx hb dX8_power_29 ?_
          refine lv_if_eq (tgt := 40) hx hb dX8_power_30 (by decide) (fun c8 => ?_) (fun c8 => ?_)
          · refine lv_iload hx hb dX8_power_40 (lv_at hl5 1 rfl) ?_
            refine lv_iload hx hb dX8_power_42 (lv_at hl5 1 rfl) ?_
            refine lv_imul hx hb dX8_power_44 ?_
            refine lv_iload_n hx hb dX8_power_45 rfl (lv_at hl5 5 rfl) ?_
            refine lv_irem hx hb dX8_power_46 (k_ne0 hp) ?_
            refine lv_istore (lv' := [(4, .int (krem (q5 * q5) n)), (5, .int (nI k)), (3, .int r5), (0, .int b), (1, .int t), (2, .int n)]) hx hb dX8_power_47 hl5 (by decide) rfl (fun ls9 hl9 => ?_)
            clear hl5
            refine lv_iinc (v := nI (k + 1)) (lv' := [(5, .int (nI (k + 1))), (4, .int (krem (q5 * q5) n)), (3, .int r5), (0, .int b), (1, .int t), (2, .int n)]) hx hb dX8_power_49 hl9 (k := 1) rfl (nI_1 _) (by decide) rfl (fun ls10 hl10 => ?_)
            clear hl9
            refine lv_goto (tgt := 17) hx hb dX8_power_52 (by decide) ?_
            exact ih (k + 1) (by omega) (by omega) r5 (by subst eq5; subst er5; simp only [kpc, c1, c8, ↓reduceIte]) (krem (q5 * q5) n) (by subst eq5; subst er5; rfl)  _ _ _ hl10 hP5 hD5 hS5
          · refine lv_iload_n hx hb dX8_power_33 rfl (lv_at hl5 2 rfl) ?_
            refine lv_iload hx hb dX8_power_34 (lv_at hl5 1 rfl) ?_
            refine lv_imul hx hb dX8_power_36 ?_
            refine lv_iload_n hx hb dX8_power_37 rfl (lv_at hl5 5 rfl) ?_
            refine lv_irem hx hb dX8_power_38 (k_ne0 hp) ?_
            refine lv_istore_n (lv' := [(3, .int (krem (r5 * q5) n)), (5, .int (nI k)), (4, .int q5), (0, .int b), (1, .int t), (2, .int n)]) hx hb dX8_power_39 rfl hl5 (by decide) rfl (fun ls11 hl11 => ?_)
            clear hl5
            refine lv_iload hx hb dX8_power_40 (lv_at hl11 2 rfl) ?_
            refine lv_iload hx hb dX8_power_42 (lv_at hl11 2 rfl) ?_
            refine lv_imul hx hb dX8_power_44 ?_
            refine lv_iload_n hx hb dX8_power_45 rfl (lv_at hl11 5 rfl) ?_
            refine lv_irem hx hb dX8_power_46 (k_ne0 hp) ?_
            refine lv_istore (lv' := [(4, .int (krem (q5 * q5) n)), (3, .int (krem (r5 * q5) n)), (5, .int (nI k)), (0, .int b), (1, .int t), (2, .int n)]) hx hb dX8_power_47 hl11 (by decide) rfl (fun ls12 hl12 => ?_)
            clear hl11
            refine lv_iinc (v := nI (k + 1)) (lv' := [(5, .int (nI (k + 1))), (4, .int (krem (q5 * q5) n)), (3, .int (krem (r5 * q5) n)), (0, .int b), (1, .int t), (2, .int n)]) hx hb dX8_power_49 hl12 (k := 2) rfl (nI_1 _) (by decide) rfl (fun ls13 hl13 => ?_)
            clear hl12
            refine lv_goto (tgt := 17) hx hb dX8_power_52 (by decide) ?_
            exact ih (k + 1) (by omega) (by omega) (krem (r5 * q5) n) (by subst eq5; subst er5; simp only [kpc, c1, c8, ↓reduceIte]) (krem (q5 * q5) n) (by subst eq5; subst er5; rfl)  _ _ _ hl13 hP5 hD5 hS5
    exact LOOP5 (10 + 1) 0 (by omega) (by omega) 1 rfl (krem b n) rfl  _ _ _ hl4 hP0 hD0 hS0
  · exact absurd hp c1
set_option maxHeartbeats 1000000 in
set_option maxRecDepth 100000 in
theorem c_X8_shareOf (l : Launch) (G : kG) (g : Int32) (t : Int32) : kM G l yX8_shareOf wsX8_shareOf ({ frames := 1, cells := 0, slots := 0, locals := 25 }) [.int g, .int t] ([]) (kQi G (fun (rr : Int32) (uu : Unit) => rr = kshareC g t) (fun (uu : Unit) => [])) := by
  refine kStart (cc := cX8_shareOf) (maxL := 2) (ret := (some .int)) (by decide) rfl (Nat.le_of_ble_eq_true rfl) (fun pg ev st mi bl mt cd A ls0 F hr hlocks hin hK hP0 hD0 hA hS0 hl0 => ?_)
  obtain ⟨hx, hb, hml, hown, hts⟩ := id F
  have hl0 : lv_has ls0 2 [(0, .int g), (1, .int t)] := hl0
  refine lv_iload_n hx hb dX8_shareOf_0 rfl (lv_at hl0 0 rfl) ?_
  refine lv_iconst (v := 2) hx hb dX8_shareOf_1 (by decide) ?_
  refine lv_icmp_ne (tgt := 9) hx hb dX8_shareOf_2 (by decide) (fun c1 => ?_) (fun c1 => ?_)
  · refine lv_iconst (v := 5) hx hb dX8_shareOf_9 (by decide) ?_
    refine lv_iload_n hx hb dX8_shareOf_10 rfl (lv_at hl0 1 rfl) ?_
    refine lv_iload_n hx hb dX8_shareOf_11 rfl (lv_at hl0 0 rfl) ?_
    refine kPSi F hK hP0 hD0 hS0 hA hl0.1 (c_X8_primeOf l G g) (fun _ => rfl) gX8_shareOf_X8_primeOf rfl 1 rfl (by decide +kernel) ⟨Nat.le_of_ble_eq_true rfl, Nat.le_of_ble_eq_true rfl⟩ ⟨Nat.zero_le _, Nat.zero_le _⟩ (Nat.le_of_ble_eq_true rfl) rfl dX8_shareOf_12 (fun r2 u2 H3 locs3 hw2 (hP3 : va_P G.1 vwCl ([]) H3) (hD3 : va_D A ([])) hS3 => ?_)
    clear hP0 hD0 hS0
    have w2_0 : r2 = kprime g := hw2
    refine kPSi F hK hP3 hD3 hS3 hA hl0.1 (c_X8_power l G 5 t r2 (by first | (subst_vars; exact kprime_1 _))) (fun _ => rfl) gX8_shareOf_X8_power rfl 3 rfl (by decide +kernel) ⟨Nat.le_of_ble_eq_true rfl, Nat.le_of_ble_eq_true rfl⟩ ⟨Nat.zero_le _, Nat.zero_le _⟩ (Nat.le_of_ble_eq_true rfl) rfl dX8_shareOf_15 (fun r4 u4 H5 locs5 hw4 (hP5 : va_P G.1 vwCl ([]) H5) (hD5 : va_D A ([])) hS5 => ?_)
    clear hP3 hD3 hS3
    have w4_0 : r4 = kpowC 5 t r2 := hw4
    have q6 : r4 = kshareC g t := by
      subst w4_0
      subst w2_0
      first | (simp only [kshareC, c1, ↓reduceIte]; done) | (simp [kshareC, c1]; done) | rfl
    exact kRi F hr hlocks hS5 dX8_shareOf_18 () q6 hP5 hD5
  · refine lv_iconst (v := 2) hx hb dX8_shareOf_5 (by decide) ?_
    refine lv_goto (tgt := 10) hx hb dX8_shareOf_6 (by decide) ?_
    refine lv_iload_n hx hb dX8_shareOf_10 rfl (lv_at hl0 1 rfl) ?_
    refine lv_iload_n hx hb dX8_shareOf_11 rfl (lv_at hl0 0 rfl) ?_
    refine kPSi F hK hP0 hD0 hS0 hA hl0.1 (c_X8_primeOf l G g) (fun _ => rfl) gX8_shareOf_X8_primeOf rfl 1 rfl (by decide +kernel) ⟨Nat.le_of_ble_eq_true rfl, Nat.le_of_ble_eq_true rfl⟩ ⟨Nat.zero_le _, Nat.zero_le _⟩ (Nat.le_of_ble_eq_true rfl) rfl dX8_shareOf_12 (fun r7 u7 H8 locs8 hw7 (hP8 : va_P G.1 vwCl ([]) H8) (hD8 : va_D A ([])) hS8 => ?_)
    clear hP0 hD0 hS0
    have w7_0 : r7 = kprime g := hw7
    refine kPSi F hK hP8 hD8 hS8 hA hl0.1 (c_X8_power l G 2 t r7 (by first | (subst_vars; exact kprime_1 _))) (fun _ => rfl) gX8_shareOf_X8_power rfl 3 rfl (by decide +kernel) ⟨Nat.le_of_ble_eq_true rfl, Nat.le_of_ble_eq_true rfl⟩ ⟨Nat.zero_le _, Nat.zero_le _⟩ (Nat.le_of_ble_eq_true rfl) rfl dX8_shareOf_15 (fun r9 u9 H10 locs10 hw9 (hP10 : va_P G.1 vwCl ([]) H10) (hD10 : va_D A ([])) hS10 => ?_)
    clear hP8 hD8 hS8
    have w9_0 : r9 = kpowC 2 t r7 := hw9
    have q11 : r9 = kshareC g t := by
      subst w9_0
      subst w7_0
      first | (subst c1; rfl) | (simp only [kshareC, c1, ↓reduceIte]; done) | (simp [kshareC, c1]; done) | rfl
    exact kRi F hr hlocks hS10 dX8_shareOf_18 () q11 hP10 hD10
set_option maxHeartbeats 1000000 in
set_option maxRecDepth 100000 in
theorem c_X8_isShare (l : Launch) (G : kG) (t : Int32) (g : Int32) : kM G l yX8_isShare wsX8_isShare ({ frames := 1, cells := 0, slots := 0, locals := 20 }) [.int t, .int g] ([]) (kQi G (fun (rr : Int32) (uu : Unit) => rr = kisShare t g) (fun (uu : Unit) => [])) := by
  refine kStart (cc := cX8_isShare) (maxL := 2) (ret := (some .boolean)) (by decide) rfl (Nat.le_of_ble_eq_true rfl) (fun pg ev st mi bl mt cd A ls0 F hr hlocks hin hK hP0 hD0 hA hS0 hl0 => ?_)
  obtain ⟨hx, hb, hml, hown, hts⟩ := id F
  have hl0 : lv_has ls0 2 [(0, .int t), (1, .int g)] := hl0
  refine lv_iload_n hx hb dX8_isShare_0 rfl (lv_at hl0 0 rfl) ?_
  refine lv_iconst (v := 1) hx hb dX8_isShare_1 (by decide) ?_
  refine lv_icmp_lt (tgt := 17) hx hb dX8_isShare_2 (by decide) (fun c1 => ?_) (fun c1 => ?_)
  · refine lv_iconst (v := 0) hx hb dX8_isShare_17 (by decide) ?_
    have q2 : 0 = kisShare t g := by
      first | (simp only [kisShare, c1, ↓reduceIte]; done) | (simp [kisShare, c1]; done) | rfl
    exact kRz F hr hlocks hS0 dX8_isShare_18 rfl () q2 hP0 hD0
  · refine lv_iload_n hx hb dX8_isShare_5 rfl (lv_at hl0 0 rfl) ?_
    refine lv_iload_n hx hb dX8_isShare_6 rfl (lv_at hl0 1 rfl) ?_
    refine kPSi F hK hP0 hD0 hS0 hA hl0.1 (c_X8_primeOf l G g) (fun _ => rfl) gX8_isShare_X8_primeOf rfl 1 rfl (by decide +kernel) ⟨Nat.le_of_ble_eq_true rfl, Nat.le_of_ble_eq_true rfl⟩ ⟨Nat.zero_le _, Nat.zero_le _⟩ (Nat.le_of_ble_eq_true rfl) rfl dX8_isShare_7 (fun r3 u3 H4 locs4 hw3 (hP4 : va_P G.1 vwCl ([]) H4) (hD4 : va_D A ([])) hS4 => ?_)
    clear hP0 hD0 hS0
    have w3_0 : r3 = kprime g := hw3
    refine lv_icmp_ge (tgt := 17) hx hb dX8_isShare_10 (by decide) (fun c5 => ?_) (fun c5 => ?_)
    · refine lv_iconst (v := 0) hx hb dX8_isShare_17 (by decide) ?_
      have q6 : 0 = kisShare t g := by
        subst w3_0
        first | (simp only [kisShare, c1, c5, ↓reduceIte]; done) | (simp [kisShare, c1, c5]; done) | rfl
      exact kRz F hr hlocks hS4 dX8_isShare_18 rfl () q6 hP4 hD4
    · refine lv_iconst (v := 1) hx hb dX8_isShare_13 (by decide) ?_
      refine lv_goto (tgt := 18) hx hb dX8_isShare_14 (by decide) ?_
      have q7 : 1 = kisShare t g := by
        subst w3_0
        first | (simp only [kisShare, c1, c5, ↓reduceIte]; done) | (simp [kisShare, c1, c5]; done) | rfl
      exact kRz F hr hlocks hS4 dX8_isShare_18 rfl () q7 hP4 hD4
set_option maxHeartbeats 1000000 in
set_option maxRecDepth 100000 in
theorem c_X8_hasGroup (l : Launch) (G : kG) (t : Int32) (g : Int32) : kM G l yX8_hasGroup wsX8_hasGroup ({ frames := 1, cells := 0, slots := 0, locals := 20 }) [.int t, .int g] ([]) (kQi G (fun (rr : Int32) (uu : Unit) => rr = khasG t g) (fun (uu : Unit) => [])) := by
  refine kStart (cc := cX8_hasGroup) (maxL := 2) (ret := (some .boolean)) (by decide) rfl (Nat.le_of_ble_eq_true rfl) (fun pg ev st mi bl mt cd A ls0 F hr hlocks hin hK hP0 hD0 hA hS0 hl0 => ?_)
  obtain ⟨hx, hb, hml, hown, hts⟩ := id F
  have hl0 : lv_has ls0 2 [(0, .int t), (1, .int g)] := hl0
  refine lv_iload_n hx hb dX8_hasGroup_0 rfl (lv_at hl0 1 rfl) ?_
  refine kPSi F hK hP0 hD0 hS0 hA hl0.1 (c_X8_isGroup l G g) (fun _ => rfl) gX8_hasGroup_X8_isGroup rfl 1 rfl (by decide +kernel) ⟨Nat.le_of_ble_eq_true rfl, Nat.le_of_ble_eq_true rfl⟩ ⟨Nat.zero_le _, Nat.zero_le _⟩ (Nat.le_of_ble_eq_true rfl) rfl dX8_hasGroup_1 (fun r1 u1 H2 locs2 hw1 (hP2 : va_P G.1 vwCl ([]) H2) (hD2 : va_D A ([])) hS2 => ?_)
  clear hP0 hD0 hS0
  have w1_0 : r1 = kgrp g := hw1
  refine lv_if_eq (tgt := 19) hx hb dX8_hasGroup_4 (by decide) (fun c3 => ?_) (fun c3 => ?_)
  · refine lv_iconst (v := 0) hx hb dX8_hasGroup_19 (by decide) ?_
    have q4 : 0 = khasG t g := by
      subst w1_0
      first | (subst c3; rfl) | (simp only [khasG, khas, c3, ↓reduceIte]; done) | (simp [khasG, khas, c3]; done) | rfl
    exact kRz F hr hlocks hS2 dX8_hasGroup_20 rfl () q4 hP2 hD2
  · refine lv_iload_n hx hb dX8_hasGroup_7 rfl (lv_at hl0 0 rfl) ?_
    refine lv_iload_n hx hb dX8_hasGroup_8 rfl (lv_at hl0 1 rfl) ?_
    refine lv_ishr hx hb dX8_hasGroup_9 ?_
    refine lv_iconst (v := 1) hx hb dX8_hasGroup_10 (by decide) ?_
    refine lv_iand hx hb dX8_hasGroup_11 ?_
    refine lv_if_eq (tgt := 19) hx hb dX8_hasGroup_12 (by decide) (fun c5 => ?_) (fun c5 => ?_)
    · refine lv_iconst (v := 0) hx hb dX8_hasGroup_19 (by decide) ?_
      have q6 : 0 = khasG t g := by
        subst w1_0
        first | (simp only [khasG, khas, c3, c5, ↓reduceIte]; done) | (simp [khasG, khas, c3, c5]; done) | rfl
      exact kRz F hr hlocks hS2 dX8_hasGroup_20 rfl () q6 hP2 hD2
    · refine lv_iconst (v := 1) hx hb dX8_hasGroup_15 (by decide) ?_
      refine lv_goto (tgt := 20) hx hb dX8_hasGroup_16 (by decide) ?_
      have q7 : 1 = khasG t g := by
        subst w1_0
        first | (simp only [khasG, khas, c3, c5, ↓reduceIte]; done) | (simp [khasG, khas, c3, c5]; done) | rfl
      exact kRz F hr hlocks hS2 dX8_hasGroup_20 rfl () q7 hP2 hD2
set_option maxHeartbeats 1000000 in
set_option maxRecDepth 100000 in
theorem c_X8_hasVersion (l : Launch) (G : kG) (t : Int32) (v : Int32) : kM G l yX8_hasVersion wsX8_hasVersion ({ frames := 0, cells := 0, slots := 0, locals := 0 }) [.int t, .int v] ([]) (kQi G (fun (rr : Int32) (uu : Unit) => rr = khasV t v) (fun (uu : Unit) => [])) := by
  refine kStart (cc := cX8_hasVersion) (maxL := 2) (ret := (some .boolean)) (by decide) rfl (Nat.le_of_ble_eq_true rfl) (fun pg ev st mi bl mt cd A ls0 F hr hlocks hin hK hP0 hD0 hA hS0 hl0 => ?_)
  obtain ⟨hx, hb, hml, hown, hts⟩ := id F
  have hl0 : lv_has ls0 2 [(0, .int t), (1, .int v)] := hl0
  refine lv_iload_n hx hb dX8_hasVersion_0 rfl (lv_at hl0 1 rfl) ?_
  refine lv_iconst (v := 1) hx hb dX8_hasVersion_1 (by decide) ?_
  refine lv_icmp_lt (tgt := 24) hx hb dX8_hasVersion_2 (by decide) (fun c1 => ?_) (fun c1 => ?_)
  · refine lv_iconst (v := 0) hx hb dX8_hasVersion_24 (by decide) ?_
    have q2 : 0 = khasV t v := by
      first | (simp only [khasV, khas, c1, ↓reduceIte]; done) | (simp [khasV, khas, c1]; done) | rfl
    exact kRz F hr hlocks hS0 dX8_hasVersion_25 rfl () q2 hP0 hD0
  · refine lv_iload_n hx hb dX8_hasVersion_5 rfl (lv_at hl0 1 rfl) ?_
    refine lv_iconst (v := 3) hx hb dX8_hasVersion_6 (by decide) ?_
    refine lv_icmp_gt (tgt := 24) hx hb dX8_hasVersion_7 (by decide) (fun c3 => ?_) (fun c3 => ?_)
    · refine lv_iconst (v := 0) hx hb dX8_hasVersion_24 (by decide) ?_
      have q4 : 0 = khasV t v := by
        first | (simp only [khasV, khas, c1, c3, ↓reduceIte]; done) | (simp [khasV, khas, c1, c3]; done) | rfl
      exact kRz F hr hlocks hS0 dX8_hasVersion_25 rfl () q4 hP0 hD0
    · refine lv_iload_n hx hb dX8_hasVersion_10 rfl (lv_at hl0 0 rfl) ?_
      refine lv_iload_n hx hb dX8_hasVersion_11 rfl (lv_at hl0 1 rfl) ?_
      refine lv_iconst (v := 1) hx hb dX8_hasVersion_12 (by decide) ?_
      refine lv_isub hx hb dX8_hasVersion_13 ?_
      refine lv_ishr hx hb dX8_hasVersion_14 ?_
      refine lv_iconst (v := 1) hx hb dX8_hasVersion_15 (by decide) ?_
      refine lv_iand hx hb dX8_hasVersion_16 ?_
      refine lv_if_eq (tgt := 24) hx hb dX8_hasVersion_17 (by decide) (fun c5 => ?_) (fun c5 => ?_)
      · refine lv_iconst (v := 0) hx hb dX8_hasVersion_24 (by decide) ?_
        have q6 : 0 = khasV t v := by
          first | (simp only [khasV, khas, c1, c3, c5, ↓reduceIte]; done) | (simp [khasV, khas, c1, c3, c5]; done) | rfl
        exact kRz F hr hlocks hS0 dX8_hasVersion_25 rfl () q6 hP0 hD0
      · refine lv_iconst (v := 1) hx hb dX8_hasVersion_20 (by decide) ?_
        refine lv_goto (tgt := 25) hx hb dX8_hasVersion_21 (by decide) ?_
        have q7 : 1 = khasV t v := by
          first | (simp only [khasV, khas, c1, c3, c5, ↓reduceIte]; done) | (simp [khasV, khas, c1, c3, c5]; done) | rfl
        exact kRz F hr hlocks hS0 dX8_hasVersion_25 rfl () q7 hP0 hD0
set_option maxHeartbeats 1000000 in
set_option maxRecDepth 100000 in
theorem c_X8_hasVersionAbove (l : Launch) (G : kG) (t : Int32) (v : Int32) : kM G l yX8_hasVersionAbove wsX8_hasVersionAbove ({ frames := 0, cells := 0, slots := 0, locals := 0 }) [.int t, .int v] ([]) (kQi G (fun (rr : Int32) (uu : Unit) => rr = khasA t v) (fun (uu : Unit) => [])) := by
  refine kStart (cc := cX8_hasVersionAbove) (maxL := 2) (ret := (some .boolean)) (by decide) rfl (Nat.le_of_ble_eq_true rfl) (fun pg ev st mi bl mt cd A ls0 F hr hlocks hin hK hP0 hD0 hA hS0 hl0 => ?_)
  obtain ⟨hx, hb, hml, hown, hts⟩ := id F
  have hl0 : lv_has ls0 2 [(0, .int t), (1, .int v)] := hl0
  refine lv_iload_n hx hb dX8_hasVersionAbove_0 rfl (lv_at hl0 0 rfl) ?_
  refine lv_iload_n hx hb dX8_hasVersionAbove_1 rfl (lv_at hl0 1 rfl) ?_
  refine lv_ishr hx hb dX8_hasVersionAbove_2 ?_
  refine lv_if_eq (tgt := 10) hx hb dX8_hasVersionAbove_3 (by decide) (fun c1 => ?_) (fun c1 => ?_)
  · refine lv_iconst (v := 0) hx hb dX8_hasVersionAbove_10 (by decide) ?_
    have q2 : 0 = khasA t v := by
      first | (simp only [khasA, c1, ↓reduceIte]; done) | (simp [khasA, c1]; done) | rfl
    exact kRz F hr hlocks hS0 dX8_hasVersionAbove_11 rfl () q2 hP0 hD0
  · refine lv_iconst (v := 1) hx hb dX8_hasVersionAbove_6 (by decide) ?_
    refine lv_goto (tgt := 11) hx hb dX8_hasVersionAbove_7 (by decide) ?_
    have q3 : 1 = khasA t v := by
      first | (simp only [khasA, c1, ↓reduceIte]; done) | (simp [khasA, c1]; done) | rfl
    exact kRz F hr hlocks hS0 dX8_hasVersionAbove_11 rfl () q3 hP0 hD0
set_option maxHeartbeats 1000000 in
set_option maxRecDepth 100000 in
theorem c_X8_greatestOf (l : Launch) (G : kG) (t : Int32) : kM G l yX8_greatestOf wsX8_greatestOf ({ frames := 0, cells := 0, slots := 0, locals := 0 }) [.int t] ([]) (kQi G (fun (rr : Int32) (uu : Unit) => rr = kgreat t) (fun (uu : Unit) => [])) := by
  refine kStart (cc := cX8_greatestOf) (maxL := 2) (ret := (some .int)) (by decide) rfl (Nat.le_of_ble_eq_true rfl) (fun pg ev st mi bl mt cd A ls0 F hr hlocks hin hK hP0 hD0 hA hS0 hl0 => ?_)
  obtain ⟨hx, hb, hml, hown, hts⟩ := id F
  have hl0 : lv_has ls0 2 [(0, .int t)] := hl0
  refine lv_iconst (v := 3) hx hb dX8_greatestOf_0 (by decide) ?_
  refine lv_istore_n (lv' := [(1, .int 3), (0, .int t)]) hx hb dX8_greatestOf_1 rfl hl0 (by decide) rfl (fun ls1 hl1 => ?_)
  clear hl0
  refine lv_iload_n hx hb dX8_greatestOf_2 rfl (lv_at hl1 0 rfl) ?_
  refine lv_if_lt (tgt := 22) hx hb dX8_greatestOf_3 (by decide) (fun c2 => ?_) (fun c2 => ?_)
  · exact absurd c2 (by decide)
  · refine lv_iload_n hx hb dX8_greatestOf_6 rfl (lv_at hl1 1 rfl) ?_
    refine lv_iload_n hx hb dX8_greatestOf_7 rfl (lv_at hl1 0 rfl) ?_
    refine lv_ishr hx hb dX8_greatestOf_8 ?_
    refine lv_iconst (v := 1) hx hb dX8_greatestOf_9 (by decide) ?_
    refine lv_iand hx hb dX8_greatestOf_10 ?_
    refine lv_if_eq (tgt := 16) hx hb dX8_greatestOf_11 (by decide) (fun c3 => ?_) (fun c3 => ?_)
    · refine lv_iinc (v := 2) (lv' := [(1, .int 2), (0, .int t)]) hx hb dX8_greatestOf_16 hl1 (k := 0) rfl (by decide) (by decide) rfl (fun ls4 hl4 => ?_)
      clear hl1
      refine lv_goto (tgt := 2) hx hb dX8_greatestOf_19 (by decide) ?_
      refine lv_iload_n hx hb dX8_greatestOf_2 rfl (lv_at hl4 0 rfl) ?_
      refine lv_if_lt (tgt := 22) hx hb dX8_greatestOf_3 (by decide) (fun c5 => ?_) (fun c5 => ?_)
      · exact absurd c5 (by decide)
      · refine lv_iload_n hx hb dX8_greatestOf_6 rfl (lv_at hl4 1 rfl) ?_
        refine lv_iload_n hx hb dX8_greatestOf_7 rfl (lv_at hl4 0 rfl) ?_
        refine lv_ishr hx hb dX8_greatestOf_8 ?_
        refine lv_iconst (v := 1) hx hb dX8_greatestOf_9 (by decide) ?_
        refine lv_iand hx hb dX8_greatestOf_10 ?_
        refine lv_if_eq (tgt := 16) hx hb dX8_greatestOf_11 (by decide) (fun c6 => ?_) (fun c6 => ?_)
        · refine lv_iinc (v := 1) (lv' := [(1, .int 1), (0, .int t)]) hx hb dX8_greatestOf_16 hl4 (k := 0) rfl (by decide) (by decide) rfl (fun ls7 hl7 => ?_)
          clear hl4
          refine lv_goto (tgt := 2) hx hb dX8_greatestOf_19 (by decide) ?_
          refine lv_iload_n hx hb dX8_greatestOf_2 rfl (lv_at hl7 0 rfl) ?_
          refine lv_if_lt (tgt := 22) hx hb dX8_greatestOf_3 (by decide) (fun c8 => ?_) (fun c8 => ?_)
          · exact absurd c8 (by decide)
          · refine lv_iload_n hx hb dX8_greatestOf_6 rfl (lv_at hl7 1 rfl) ?_
            refine lv_iload_n hx hb dX8_greatestOf_7 rfl (lv_at hl7 0 rfl) ?_
            refine lv_ishr hx hb dX8_greatestOf_8 ?_
            refine lv_iconst (v := 1) hx hb dX8_greatestOf_9 (by decide) ?_
            refine lv_iand hx hb dX8_greatestOf_10 ?_
            refine lv_if_eq (tgt := 16) hx hb dX8_greatestOf_11 (by decide) (fun c9 => ?_) (fun c9 => ?_)
            · refine lv_iinc (v := 0) (lv' := [(1, .int 0), (0, .int t)]) hx hb dX8_greatestOf_16 hl7 (k := 0) rfl (by decide) (by decide) rfl (fun ls10 hl10 => ?_)
              clear hl7
              refine lv_goto (tgt := 2) hx hb dX8_greatestOf_19 (by decide) ?_
              refine lv_iload_n hx hb dX8_greatestOf_2 rfl (lv_at hl10 0 rfl) ?_
              refine lv_if_lt (tgt := 22) hx hb dX8_greatestOf_3 (by decide) (fun c11 => ?_) (fun c11 => ?_)
              · exact absurd c11 (by decide)
              · refine lv_iload_n hx hb dX8_greatestOf_6 rfl (lv_at hl10 1 rfl) ?_
                refine lv_iload_n hx hb dX8_greatestOf_7 rfl (lv_at hl10 0 rfl) ?_
                refine lv_ishr hx hb dX8_greatestOf_8 ?_
                refine lv_iconst (v := 1) hx hb dX8_greatestOf_9 (by decide) ?_
                refine lv_iand hx hb dX8_greatestOf_10 ?_
                refine lv_if_eq (tgt := 16) hx hb dX8_greatestOf_11 (by decide) (fun c12 => ?_) (fun c12 => ?_)
                · refine lv_iinc (v := (-1)) (lv' := [(1, .int (-1)), (0, .int t)]) hx hb dX8_greatestOf_16 hl10 (k := 0) rfl (by decide) (by decide) rfl (fun ls13 hl13 => ?_)
                  clear hl10
                  refine lv_goto (tgt := 2) hx hb dX8_greatestOf_19 (by decide) ?_
                  refine lv_iload_n hx hb dX8_greatestOf_2 rfl (lv_at hl13 0 rfl) ?_
                  refine lv_if_lt (tgt := 22) hx hb dX8_greatestOf_3 (by decide) (fun c14 => ?_) (fun c14 => ?_)
                  · refine lv_iconst (v := (-1)) hx hb dX8_greatestOf_22 (by decide) ?_
                    have q15 : (-1) = kgreat t := by
                      first | (simp only [kgreat, c2, c3, c5, c6, c8, c9, c11, c12, c14, ↓reduceIte]; done) | (simp [kgreat, c2, c3, c5, c6, c8, c9, c11, c12, c14]; done) | rfl
                    exact kRi F hr hlocks hS0 dX8_greatestOf_23 () q15 hP0 hD0
                  · exact absurd (by decide) c14
                · refine lv_iload_n hx hb dX8_greatestOf_14 rfl (lv_at hl10 0 rfl) ?_
                  have q16 : 0 = kgreat t := by
                    first | (simp only [kgreat, c2, c3, c5, c6, c8, c9, c11, c12, ↓reduceIte]; done) | (simp [kgreat, c2, c3, c5, c6, c8, c9, c11, c12]; done) | rfl
                  exact kRi F hr hlocks hS0 dX8_greatestOf_15 () q16 hP0 hD0
            · refine lv_iload_n hx hb dX8_greatestOf_14 rfl (lv_at hl7 0 rfl) ?_
              have q17 : 1 = kgreat t := by
                first | (simp only [kgreat, c2, c3, c5, c6, c8, c9, ↓reduceIte]; done) | (simp [kgreat, c2, c3, c5, c6, c8, c9]; done) | rfl
              exact kRi F hr hlocks hS0 dX8_greatestOf_15 () q17 hP0 hD0
        · refine lv_iload_n hx hb dX8_greatestOf_14 rfl (lv_at hl4 0 rfl) ?_
          have q18 : 2 = kgreat t := by
            first | (simp only [kgreat, c2, c3, c5, c6, ↓reduceIte]; done) | (simp [kgreat, c2, c3, c5, c6]; done) | rfl
          exact kRi F hr hlocks hS0 dX8_greatestOf_15 () q18 hP0 hD0
    · refine lv_iload_n hx hb dX8_greatestOf_14 rfl (lv_at hl1 0 rfl) ?_
      have q19 : 3 = kgreat t := by
        first | (simp only [kgreat, c2, c3, ↓reduceIte]; done) | (simp [kgreat, c2, c3]; done) | rfl
      exact kRi F hr hlocks hS0 dX8_greatestOf_15 () q19 hP0 hD0
set_option maxHeartbeats 1000000 in
set_option maxRecDepth 100000 in
theorem c_X8_leastOf (l : Launch) (G : kG) (t : Int32) : kM G l yX8_leastOf wsX8_leastOf ({ frames := 0, cells := 0, slots := 0, locals := 0 }) [.int t] ([]) (kQi G (fun (rr : Int32) (uu : Unit) => rr = kleast t) (fun (uu : Unit) => [])) := by
  refine kStart (cc := cX8_leastOf) (maxL := 2) (ret := (some .int)) (by decide) rfl (Nat.le_of_ble_eq_true rfl) (fun pg ev st mi bl mt cd A ls0 F hr hlocks hin hK hP0 hD0 hA hS0 hl0 => ?_)
  obtain ⟨hx, hb, hml, hown, hts⟩ := id F
  have hl0 : lv_has ls0 2 [(0, .int t)] := hl0
  refine lv_iconst (v := 0) hx hb dX8_leastOf_0 (by decide) ?_
  refine lv_istore_n (lv' := [(1, .int 0), (0, .int t)]) hx hb dX8_leastOf_1 rfl hl0 (by decide) rfl (fun ls1 hl1 => ?_)
  clear hl0
  refine lv_iload_n hx hb dX8_leastOf_2 rfl (lv_at hl1 0 rfl) ?_
  refine lv_iconst (v := 3) hx hb dX8_leastOf_3 (by decide) ?_
  refine lv_icmp_gt (tgt := 23) hx hb dX8_leastOf_4 (by decide) (fun c2 => ?_) (fun c2 => ?_)
  · exact absurd c2 (by decide)
  · refine lv_iload_n hx hb dX8_leastOf_7 rfl (lv_at hl1 1 rfl) ?_
    refine lv_iload_n hx hb dX8_leastOf_8 rfl (lv_at hl1 0 rfl) ?_
    refine lv_ishr hx hb dX8_leastOf_9 ?_
    refine lv_iconst (v := 1) hx hb dX8_leastOf_10 (by decide) ?_
    refine lv_iand hx hb dX8_leastOf_11 ?_
    refine lv_if_eq (tgt := 17) hx hb dX8_leastOf_12 (by decide) (fun c3 => ?_) (fun c3 => ?_)
    · refine lv_iinc (v := 1) (lv' := [(1, .int 1), (0, .int t)]) hx hb dX8_leastOf_17 hl1 (k := 0) rfl (by decide) (by decide) rfl (fun ls4 hl4 => ?_)
      clear hl1
      refine lv_goto (tgt := 2) hx hb dX8_leastOf_20 (by decide) ?_
      refine lv_iload_n hx hb dX8_leastOf_2 rfl (lv_at hl4 0 rfl) ?_
      refine lv_iconst (v := 3) hx hb dX8_leastOf_3 (by decide) ?_
      refine lv_icmp_gt (tgt := 23) hx hb dX8_leastOf_4 (by decide) (fun c5 => ?_) (fun c5 => ?_)
      · exact absurd c5 (by decide)
      · refine lv_iload_n hx hb dX8_leastOf_7 rfl (lv_at hl4 1 rfl) ?_
        refine lv_iload_n hx hb dX8_leastOf_8 rfl (lv_at hl4 0 rfl) ?_
        refine lv_ishr hx hb dX8_leastOf_9 ?_
        refine lv_iconst (v := 1) hx hb dX8_leastOf_10 (by decide) ?_
        refine lv_iand hx hb dX8_leastOf_11 ?_
        refine lv_if_eq (tgt := 17) hx hb dX8_leastOf_12 (by decide) (fun c6 => ?_) (fun c6 => ?_)
        · refine lv_iinc (v := 2) (lv' := [(1, .int 2), (0, .int t)]) hx hb dX8_leastOf_17 hl4 (k := 0) rfl (by decide) (by decide) rfl (fun ls7 hl7 => ?_)
          clear hl4
          refine lv_goto (tgt := 2) hx hb dX8_leastOf_20 (by decide) ?_
          refine lv_iload_n hx hb dX8_leastOf_2 rfl (lv_at hl7 0 rfl) ?_
          refine lv_iconst (v := 3) hx hb dX8_leastOf_3 (by decide) ?_
          refine lv_icmp_gt (tgt := 23) hx hb dX8_leastOf_4 (by decide) (fun c8 => ?_) (fun c8 => ?_)
          · exact absurd c8 (by decide)
          · refine lv_iload_n hx hb dX8_leastOf_7 rfl (lv_at hl7 1 rfl) ?_
            refine lv_iload_n hx hb dX8_leastOf_8 rfl (lv_at hl7 0 rfl) ?_
            refine lv_ishr hx hb dX8_leastOf_9 ?_
            refine lv_iconst (v := 1) hx hb dX8_leastOf_10 (by decide) ?_
            refine lv_iand hx hb dX8_leastOf_11 ?_
            refine lv_if_eq (tgt := 17) hx hb dX8_leastOf_12 (by decide) (fun c9 => ?_) (fun c9 => ?_)
            · refine lv_iinc (v := 3) (lv' := [(1, .int 3), (0, .int t)]) hx hb dX8_leastOf_17 hl7 (k := 0) rfl (by decide) (by decide) rfl (fun ls10 hl10 => ?_)
              clear hl7
              refine lv_goto (tgt := 2) hx hb dX8_leastOf_20 (by decide) ?_
              refine lv_iload_n hx hb dX8_leastOf_2 rfl (lv_at hl10 0 rfl) ?_
              refine lv_iconst (v := 3) hx hb dX8_leastOf_3 (by decide) ?_
              refine lv_icmp_gt (tgt := 23) hx hb dX8_leastOf_4 (by decide) (fun c11 => ?_) (fun c11 => ?_)
              · exact absurd c11 (by decide)
              · refine lv_iload_n hx hb dX8_leastOf_7 rfl (lv_at hl10 1 rfl) ?_
                refine lv_iload_n hx hb dX8_leastOf_8 rfl (lv_at hl10 0 rfl) ?_
                refine lv_ishr hx hb dX8_leastOf_9 ?_
                refine lv_iconst (v := 1) hx hb dX8_leastOf_10 (by decide) ?_
                refine lv_iand hx hb dX8_leastOf_11 ?_
                refine lv_if_eq (tgt := 17) hx hb dX8_leastOf_12 (by decide) (fun c12 => ?_) (fun c12 => ?_)
                · refine lv_iinc (v := 4) (lv' := [(1, .int 4), (0, .int t)]) hx hb dX8_leastOf_17 hl10 (k := 0) rfl (by decide) (by decide) rfl (fun ls13 hl13 => ?_)
                  clear hl10
                  refine lv_goto (tgt := 2) hx hb dX8_leastOf_20 (by decide) ?_
                  refine lv_iload_n hx hb dX8_leastOf_2 rfl (lv_at hl13 0 rfl) ?_
                  refine lv_iconst (v := 3) hx hb dX8_leastOf_3 (by decide) ?_
                  refine lv_icmp_gt (tgt := 23) hx hb dX8_leastOf_4 (by decide) (fun c14 => ?_) (fun c14 => ?_)
                  · refine lv_iconst (v := (-1)) hx hb dX8_leastOf_23 (by decide) ?_
                    have q15 : (-1) = kleast t := by
                      first | (simp only [kleast, c2, c3, c5, c6, c8, c9, c11, c12, c14, ↓reduceIte]; done) | (simp [kleast, c2, c3, c5, c6, c8, c9, c11, c12, c14]; done) | rfl
                    exact kRi F hr hlocks hS0 dX8_leastOf_24 () q15 hP0 hD0
                  · exact absurd (by decide) c14
                · refine lv_iload_n hx hb dX8_leastOf_15 rfl (lv_at hl10 0 rfl) ?_
                  have q16 : 3 = kleast t := by
                    first | (simp only [kleast, c2, c3, c5, c6, c8, c9, c11, c12, ↓reduceIte]; done) | (simp [kleast, c2, c3, c5, c6, c8, c9, c11, c12]; done) | rfl
                  exact kRi F hr hlocks hS0 dX8_leastOf_16 () q16 hP0 hD0
            · refine lv_iload_n hx hb dX8_leastOf_15 rfl (lv_at hl7 0 rfl) ?_
              have q17 : 2 = kleast t := by
                first | (simp only [kleast, c2, c3, c5, c6, c8, c9, ↓reduceIte]; done) | (simp [kleast, c2, c3, c5, c6, c8, c9]; done) | rfl
              exact kRi F hr hlocks hS0 dX8_leastOf_16 () q17 hP0 hD0
        · refine lv_iload_n hx hb dX8_leastOf_15 rfl (lv_at hl4 0 rfl) ?_
          have q18 : 1 = kleast t := by
            first | (simp only [kleast, c2, c3, c5, c6, ↓reduceIte]; done) | (simp [kleast, c2, c3, c5, c6]; done) | rfl
          exact kRi F hr hlocks hS0 dX8_leastOf_16 () q18 hP0 hD0
    · refine lv_iload_n hx hb dX8_leastOf_15 rfl (lv_at hl1 0 rfl) ?_
      have q19 : 0 = kleast t := by
        first | (simp only [kleast, c2, c3, ↓reduceIte]; done) | (simp [kleast, c2, c3]; done) | rfl
      exact kRi F hr hlocks hS0 dX8_leastOf_16 () q19 hP0 hD0
set_option maxHeartbeats 1000000 in
set_option maxRecDepth 100000 in
theorem c_X8_keyOf (l : Launch) (G : kG) (t : Int32) (u : Int32) (g : Int32) (v : Int32) : kM G l yX8_keyOf wsX8_keyOf ({ frames := 1, cells := 0, slots := 0, locals := 25 }) [.int t, .int u, .int g, .int v] ([]) (kQi G (fun (rr : Int32) (uu : Unit) => rr = kkey t u g v) (fun (uu : Unit) => [])) := by
  refine kStart (cc := cX8_keyOf) (maxL := 4) (ret := (some .int)) (by decide) rfl (Nat.le_of_ble_eq_true rfl) (fun pg ev st mi bl mt cd A ls0 F hr hlocks hin hK hP0 hD0 hA hS0 hl0 => ?_)
  obtain ⟨hx, hb, hml, hown, hts⟩ := id F
  have hl0 : lv_has ls0 4 [(0, .int t), (1, .int u), (2, .int g), (3, .int v)] := hl0
  refine lv_bipush (v := 7) hx hb dX8_keyOf_0 (by decide) ?_
  refine lv_iload_n hx hb dX8_keyOf_2 rfl (lv_at hl0 0 rfl) ?_
  refine lv_iload_n hx hb dX8_keyOf_3 rfl (lv_at hl0 1 rfl) ?_
  refine lv_iload_n hx hb dX8_keyOf_4 rfl (lv_at hl0 2 rfl) ?_
  refine kPSi F hK hP0 hD0 hS0 hA hl0.1 (c_X8_primeOf l G g) (fun _ => rfl) gX8_keyOf_X8_primeOf rfl 1 rfl (by decide +kernel) ⟨Nat.le_of_ble_eq_true rfl, Nat.le_of_ble_eq_true rfl⟩ ⟨Nat.zero_le _, Nat.zero_le _⟩ (Nat.le_of_ble_eq_true rfl) rfl dX8_keyOf_5 (fun r1 u1 H2 locs2 hw1 (hP2 : va_P G.1 vwCl ([]) H2) (hD2 : va_D A ([])) hS2 => ?_)
  clear hP0 hD0 hS0
  have w1_0 : r1 = kprime g := hw1
  refine kPSi F hK hP2 hD2 hS2 hA hl0.1 (c_X8_power l G t u r1 (by subst_vars; exact kprime_1 _)) (fun _ => rfl) gX8_keyOf_X8_power rfl 3 rfl (by decide +kernel) ⟨Nat.le_of_ble_eq_true rfl, Nat.le_of_ble_eq_true rfl⟩ ⟨Nat.zero_le _, Nat.zero_le _⟩ (Nat.le_of_ble_eq_true rfl) rfl dX8_keyOf_8 (fun r3 u3 H4 locs4 hw3 (hP4 : va_P G.1 vwCl ([]) H4) (hD4 : va_D A ([])) hS4 => ?_)
  clear hP2 hD2 hS2
  have w3_0 : r3 = kpowC t u r1 := hw3
  refine kPSi F hK hP4 hD4 hS4 hA hl0.1 (c_X8_mix l G 7 r3) (fun _ => rfl) gX8_keyOf_X8_mix rfl 2 rfl (by decide +kernel) ⟨Nat.le_of_ble_eq_true rfl, Nat.le_of_ble_eq_true rfl⟩ ⟨Nat.zero_le _, Nat.zero_le _⟩ (Nat.le_of_ble_eq_true rfl) rfl dX8_keyOf_11 (fun r5 u5 H6 locs6 hw5 (hP6 : va_P G.1 vwCl ([]) H6) (hD6 : va_D A ([])) hS6 => ?_)
  clear hP4 hD4 hS4
  have w5_0 : r5 = kmix 7 r3 := hw5
  refine lv_iload_n hx hb dX8_keyOf_14 rfl (lv_at hl0 3 rfl) ?_
  refine kPSi F hK hP6 hD6 hS6 hA hl0.1 (c_X8_mix l G r5 v) (fun _ => rfl) gX8_keyOf_X8_mix rfl 2 rfl (by decide +kernel) ⟨Nat.le_of_ble_eq_true rfl, Nat.le_of_ble_eq_true rfl⟩ ⟨Nat.zero_le _, Nat.zero_le _⟩ (Nat.le_of_ble_eq_true rfl) rfl dX8_keyOf_15 (fun r7 u7 H8 locs8 hw7 (hP8 : va_P G.1 vwCl ([]) H8) (hD8 : va_D A ([])) hS8 => ?_)
  clear hP6 hD6 hS6
  have w7_0 : r7 = kmix r5 v := hw7
  have q9 : r7 = kkey t u g v := by
    subst w7_0
    subst w5_0
    subst w3_0
    subst w1_0
    first | rfl | (simp only [↓reduceIte]; done) | (simp []; done)
  exact kRi F hr hlocks hS8 dX8_keyOf_18 () q9 hP8 hD8
set_option maxHeartbeats 1000000 in
set_option maxRecDepth 100000 in
theorem c_X8_binderOf (l : Launch) (G : kG) (v : Int32) (t : Int32) (h : Nat) (a : Nat) (f : Nat → Int32) : kM G l yX8_binderOf wsX8_binderOf ({ frames := 2, cells := 0, slots := 0, locals := 46 }) [.int v, .int t, .ref h] ([oMs h a, aI G a 9 f]) (kQi G (fun (rr : Int32) (uu : Unit) => rr = kbind v t f) (fun (uu : Unit) => [oMs h a, aI G a 9 f])) := by
  refine kStart (cc := cX8_binderOf) (maxL := 3) (ret := (some .int)) (by decide) rfl (Nat.le_of_ble_eq_true rfl) (fun pg ev st mi bl mt cd A ls0 F hr hlocks hin hK hP0 hD0 hA hS0 hl0 => ?_)
  obtain ⟨hx, hb, hml, hown, hts⟩ := id F
  have hl0 : lv_has ls0 3 [(0, .int v), (1, .int t), (2, .ref h)] := hl0
  refine lv_aload_n hx hb dX8_binderOf_0 rfl (lv_at hl0 2 rfl) ?_
  refine lv_iload_n hx hb dX8_binderOf_1 rfl (lv_at hl0 0 rfl) ?_
  refine lv_iload_n hx hb dX8_binderOf_2 rfl (lv_at hl0 1 rfl) ?_
  refine kPSi F hK hP0 hD0 hS0 hA hl0.1 (c_X8_mix l G v t) (fun _ => rfl) gX8_binderOf_X8_mix rfl 2 rfl (by decide +kernel) ⟨Nat.le_of_ble_eq_true rfl, Nat.le_of_ble_eq_true rfl⟩ ⟨Nat.zero_le _, Nat.zero_le _⟩ (Nat.le_of_ble_eq_true rfl) rfl dX8_binderOf_3 (fun r1 u1 H2 locs2 hw1 (hP2 : va_P G.1 vwCl ([oMs h a, aI G a 9 f]) H2) (hD2 : va_D A ([oMs h a, aI G a 9 f])) hS2 => ?_)
  clear hP0 hD0 hS0
  have w1_0 : r1 = kmix v t := hw1
  refine lv_bipush (v := 6) hx hb dX8_binderOf_6 (by decide) ?_
  refine kVi (wr := []) F hK hP2 hD2 hS2 hA hl0.1 (c_X2_mixInto l G h a f r1 6 (by decide)) [0, 1] [] 2 0 gX8_binderOf_X2_mixInto rfl 2 rfl (by decide +kernel) ⟨Nat.le_of_ble_eq_true rfl, Nat.le_of_ble_eq_true rfl⟩ ⟨Nat.zero_le _, Nat.zero_le _⟩ rfl rfl rfl rfl (by decide) (by decide) (by decide) (Nat.le_of_ble_eq_true rfl) rfl dX8_binderOf_8 (fun r3 u3 H4 locs4 hw3 (hP4 : va_P G.1 vwCl ([oMs h a, aI G a 9 f]) H4) (hD4 : va_D A ([oMs h a, aI G a 9 f])) hS4 => ?_)
  clear hP2 hD2 hS2
  have w3_0 : r3 = kmixN f r1 (6 + 1) := hw3
  have q5 : r3 = kbind v t f := by
    subst w3_0
    subst w1_0
    first | rfl | (simp only [↓reduceIte]; done) | (simp []; done)
  exact kRi F hr hlocks hS4 dX8_binderOf_11 () q5 hP4 hD4
