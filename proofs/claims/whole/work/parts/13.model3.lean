set_option maxHeartbeats 1000000 in
set_option maxRecDepth 100000 in
theorem c_X9_ticketOf (l : Launch) (G : kG) (h : Nat) (a : Nat → Nat) (σ : kS) (n : Int32) (K : Nat) (hKe : σ 20 0 = nI K) (hK3 : K ≤ 3) : kM G l yX9_ticketOf wsX9_ticketOf ({ frames := 0, cells := 0, slots := 0, locals := 0 }) [.ref h, .int n] (mW G h a σ) (kQi G (fun (rr : Int32) (uu : Unit) => rr = mtof σ n K) (fun (uu : Unit) => mW G h a σ)) := by
  refine kStart (cc := cX9_ticketOf) (maxL := 4) (ret := (some .int)) (by decide) rfl (Nat.le_of_ble_eq_true rfl) (fun pg ev st mi bl mt cd A ls0 F hr hlocks hin hK hP0 hD0 hA hS0 hl0 => ?_)
  obtain ⟨hx, hb, hml, hown, hts⟩ := id F
  have hl0 : lv_has ls0 4 [(0, .ref h), (1, .int n)] := hl0
  have iX9 : ∀ w ∈ u_ws RX9 TX9 43, w ∈ wsX9_ticketOf := fun w h => List.mem_cons_of_mem _ (List.mem_append_right _ h)
  refine lv_iconst (v := (-1)) hx hb dX9_ticketOf_0 (by decide) ?_
  refine lv_istore_n (lv' := [(2, .int (-1)), (0, .ref h), (1, .int n)]) hx hb dX9_ticketOf_1 rfl hl0 (by decide) rfl (fun ls1 hl1 => ?_)
  clear hl0
  refine lv_iconst (v := 0) hx hb dX9_ticketOf_2 (by decide) ?_
  refine lv_istore_n (lv' := [(3, .int 0), (2, .int (-1)), (0, .ref h), (1, .int n)]) hx hb dX9_ticketOf_3 rfl hl1 (by decide) rfl (fun ls2 hl2 => ?_)
  clear hl1
  have LOOP3 : ∀ (fu k : Nat), k ≤ K → K + 1 ≤ k + fu → ∀ y3 : Int32, y3 = mtof σ n k → ∀ (H3 : Heap) (locs3 : List Loc) (ls3 : Array Slot), lv_has ls3 4 [(3, .int (nI k)), (2, .int y3), (0, .ref h), (1, .int n)] → va_P G.1 vwCl (mW G h a σ) H3 → va_D A (mW G h a σ) → va_S A st.heap H3 locs3 → W pg l ev ({ frames := 0, cells := 0, slots := 0, locals := 0 }) st mi ([.ref h, .int n] : List Value).toArray bl mt cd H3 locs3 0 0 (MQ bl (kQi G (fun (rr : Int32) (uu : Unit) => rr = mtof σ n K) (fun (uu : Unit) => mW G h a σ) A) ([.ref h, .int n] : List Value).toArray st 0 0 A) (F0 mi 4 ls3 []) := by
    intro fu
    induction fu with
    | zero => intro k h1 h2; exact absurd h2 (by omega)
    | succ fu ih =>
      intro k hk hnk y3 ey3 H3 locs3 ls3 hl3 hP3 hD3 hS3
      refine lv_iload_n hx hb dX9_ticketOf_4 rfl (lv_at hl3 0 rfl) ?_
      refine lv_aload_n hx hb dX9_ticketOf_5 rfl (lv_at hl3 2 rfl) ?_
      refine kget F hK hP3 9 0 20 iX9 rfl rfl (by decide) (List.mem_of_getElem? (i := 1) rfl) rfl dX9_ticketOf_6 ?_
      refine lv_icmp_ge (tgt := 36) hx hb dX9_ticketOf_9 (by decide) (fun c4 => ?_) (fun c4 => ?_)
      · rw [hKe] at c4
        have xk : K = k := (k_exit hk (by omega) c4).symm
        subst xk
        refine lv_iload_n hx hb dX9_ticketOf_36 rfl (lv_at hl3 1 rfl) ?_
        have q5 : y3 = mtof σ n K := by
          subst ey3
          first | rfl | (simp only [c4, ↓reduceIte]; done) | (simp [c4]; done)
        exact kRi F hr hlocks hS3 dX9_ticketOf_37 () q5 hP3 hD3
      · rw [hKe] at c4
        have lk : k < K := k_body hk (by omega) c4
        refine lv_aload_n hx hb dX9_ticketOf_12 rfl (lv_at hl3 2 rfl) ?_
        refine kget F hK hP3 9 0 22 iX9 rfl rfl (by decide) (List.mem_of_getElem? (i := 2) rfl) rfl dX9_ticketOf_13 ?_
        refine lv_iconst (v := 5) hx hb dX9_ticketOf_16 (by decide) ?_
        refine lv_iload_n hx hb dX9_ticketOf_17 rfl (lv_at hl3 0 rfl) ?_
        refine lv_imul hx hb dX9_ticketOf_18 ?_
        refine kild F hK hP3 14 (5 * k) rfl mix_5 (by omega) (Nat.le_of_ble_eq_true rfl) dX9_ticketOf_19 ?_
        refine lv_iload_n hx hb dX9_ticketOf_20 rfl (lv_at hl3 3 rfl) ?_
        refine lv_icmp_ne (tgt := 28) hx hb dX9_ticketOf_21 (by decide) (fun c6 => ?_) (fun c6 => ?_)
        · refine lv_iload_n hx hb dX9_ticketOf_28 rfl (lv_at hl3 1 rfl) ?_
          refine lv_istore_n (lv' := [(2, .int y3), (3, .int (nI k)), (0, .ref h), (1, .int n)]) hx hb dX9_ticketOf_29 rfl hl3 (by decide) rfl (fun ls7 hl7 => ?_)
          clear hl3
          refine lv_iinc (v := nI (k + 1)) (lv' := [(3, .int (nI (k + 1))), (2, .int y3), (0, .ref h), (1, .int n)]) hx hb dX9_ticketOf_30 hl7 (k := 1) rfl (nI_1 _) (by decide) rfl (fun ls8 hl8 => ?_)
          clear hl7
          refine lv_goto (tgt := 4) hx hb dX9_ticketOf_33 (by decide) ?_
          exact ih (k + 1) (by omega) (by omega) y3 (by subst ey3; simp only [mtof, c6, ↓reduceIte])  _ _ _ hl8 hP3 hD3 hS3
        · refine lv_iload_n hx hb dX9_ticketOf_24 rfl (lv_at hl3 0 rfl) ?_
          refine lv_goto (tgt := 29) hx hb dX9_ticketOf_25 (by decide) ?_
          refine lv_istore_n (lv' := [(2, .int (nI k)), (3, .int (nI k)), (0, .ref h), (1, .int n)]) hx hb dX9_ticketOf_29 rfl hl3 (by decide) rfl (fun ls9 hl9 => ?_)
          clear hl3
          refine lv_iinc (v := nI (k + 1)) (lv' := [(3, .int (nI (k + 1))), (2, .int (nI k)), (0, .ref h), (1, .int n)]) hx hb dX9_ticketOf_30 hl9 (k := 1) rfl (nI_1 _) (by decide) rfl (fun ls10 hl10 => ?_)
          clear hl9
          refine lv_goto (tgt := 4) hx hb dX9_ticketOf_33 (by decide) ?_
          exact ih (k + 1) (by omega) (by omega) (nI k) (by subst ey3; simp only [mtof, eq_true c6, ↓reduceIte])  _ _ _ hl10 hP3 hD3 hS3
  exact LOOP3 (K + 1) 0 (by omega) (by omega) (-1) rfl  _ _ _ hl2 hP0 hD0 hS0
set_option maxHeartbeats 1000000 in
set_option maxRecDepth 100000 in
theorem c_X9_isSeen (l : Launch) (G : kG) (h : Nat) (a : Nat → Nat) (σ : kS) (n : Int32) (b : Int32) (E : Nat) (hE : σ 23 0 = nI E) (hE4 : E ≤ 4) : kM G l yX9_isSeen wsX9_isSeen ({ frames := 0, cells := 0, slots := 0, locals := 0 }) [.ref h, .int n, .int b] (mW G h a σ) (kQi G (fun (rr : Int32) (uu : Unit) => rr = bI (kany (msP σ n b) E)) (fun (uu : Unit) => mW G h a σ)) := by
  refine kStart (cc := cX9_isSeen) (maxL := 5) (ret := (some .boolean)) (by decide) rfl (Nat.le_of_ble_eq_true rfl) (fun pg ev st mi bl mt cd A ls0 F hr hlocks hin hK hP0 hD0 hA hS0 hl0 => ?_)
  obtain ⟨hx, hb, hml, hown, hts⟩ := id F
  have hl0 : lv_has ls0 5 [(0, .ref h), (1, .int n), (2, .int b)] := hl0
  have iX9 : ∀ w ∈ u_ws RX9 TX9 43, w ∈ wsX9_isSeen := fun w h => List.mem_cons_of_mem _ (List.mem_append_right _ h)
  refine lv_iconst (v := 0) hx hb dX9_isSeen_0 (by decide) ?_
  refine lv_istore_n (lv' := [(3, .int 0), (0, .ref h), (1, .int n), (2, .int b)]) hx hb dX9_isSeen_1 rfl hl0 (by decide) rfl (fun ls1 hl1 => ?_)
  clear hl0
  refine lv_iconst (v := 0) hx hb dX9_isSeen_2 (by decide) ?_
  refine lv_istore (lv' := [(4, .int 0), (3, .int 0), (0, .ref h), (1, .int n), (2, .int b)]) hx hb dX9_isSeen_3 hl1 (by decide) rfl (fun ls2 hl2 => ?_)
  clear hl1
  have LOOP3 : ∀ (fu k : Nat), k ≤ E → E + 1 ≤ k + fu → ∀ y3 : Int32, y3 = bI (kany (msP σ n b) k) → ∀ (H3 : Heap) (locs3 : List Loc) (ls3 : Array Slot), lv_has ls3 5 [(4, .int (nI k)), (3, .int y3), (0, .ref h), (1, .int n), (2, .int b)] → va_P G.1 vwCl (mW G h a σ) H3 → va_D A (mW G h a σ) → va_S A st.heap H3 locs3 → W pg l ev ({ frames := 0, cells := 0, slots := 0, locals := 0 }) st mi ([.ref h, .int n, .int b] : List Value).toArray bl mt cd H3 locs3 0 0 (MQ bl (kQi G (fun (rr : Int32) (uu : Unit) => rr = bI (kany (msP σ n b) E)) (fun (uu : Unit) => mW G h a σ) A) ([.ref h, .int n, .int b] : List Value).toArray st 0 0 A) (F0 mi 5 ls3 []) := by
    intro fu
    induction fu with
    | zero => intro k h1 h2; exact absurd h2 (by omega)
    | succ fu ih =>
      intro k hk hnk y3 ey3 H3 locs3 ls3 hl3 hP3 hD3 hS3
      refine lv_iload hx hb dX9_isSeen_5 (lv_at hl3 0 rfl) ?_
      refine lv_aload_n hx hb dX9_isSeen_7 rfl (lv_at hl3 2 rfl) ?_
      refine kget F hK hP3 9 0 23 iX9 rfl rfl (by decide) (List.mem_of_getElem? (i := 1) rfl) rfl dX9_isSeen_8 ?_
      refine lv_icmp_ge (tgt := 52) hx hb dX9_isSeen_11 (by decide) (fun c4 => ?_) (fun c4 => ?_)
      · rw [hE] at c4
        have xk : E = k := (k_exit hk (by omega) c4).symm
        subst xk
        refine lv_iload_n hx hb dX9_isSeen_52 rfl (lv_at hl3 1 rfl) ?_
        have q5 : y3 = bI (kany (msP σ n b) E) := by
          subst ey3
          first | rfl | (simp only [c4, ↓reduceIte]; done) | (simp [c4]; done)
        exact kRz F hr hlocks hS3 dX9_isSeen_53 (by subst ey3; exact bI_z _) () q5 hP3 hD3
      · rw [hE] at c4
        have lk : k < E := k_body hk (by omega) c4
        refine lv_iload_n hx hb dX9_isSeen_14 rfl (lv_at hl3 1 rfl) ?_
        refine lv_if_ne (tgt := 40) hx hb dX9_isSeen_15 (by decide) (fun c6 => ?_) (fun c6 => ?_)
        · refine lv_iconst (v := 1) hx hb dX9_isSeen_40 (by decide) ?_
          refine lv_goto (tgt := 45) hx hb dX9_isSeen_41 (by decide) ?_
          refine lv_istore_n (lv' := [(3, .int 1), (4, .int (nI k)), (0, .ref h), (1, .int n), (2, .int b)]) hx hb dX9_isSeen_45 rfl hl3 (by decide) rfl (fun ls7 hl7 => ?_)
          clear hl3
          refine lv_iinc (v := nI (k + 1)) (lv' := [(4, .int (nI (k + 1))), (3, .int 1), (0, .ref h), (1, .int n), (2, .int b)]) hx hb dX9_isSeen_46 hl7 (k := 1) rfl (nI_1 _) (by decide) rfl (fun ls8 hl8 => ?_)
          clear hl7
          refine lv_goto (tgt := 5) hx hb dX9_isSeen_49 (by decide) ?_
          exact ih (k + 1) (by omega) (by omega) 1 (by subst ey3; exact any_a c6)  _ _ _ hl8 hP3 hD3 hS3
        · refine lv_aload_n hx hb dX9_isSeen_18 rfl (lv_at hl3 2 rfl) ?_
          refine kget F hK hP3 9 0 24 iX9 rfl rfl (by decide) (List.mem_of_getElem? (i := 2) rfl) rfl dX9_isSeen_19 ?_
          refine lv_iload hx hb dX9_isSeen_22 (lv_at hl3 0 rfl) ?_
          refine kild F hK hP3 15 k rfl rfl (by omega) (Nat.le_of_ble_eq_true rfl) dX9_isSeen_24 ?_
          refine lv_iload_n hx hb dX9_isSeen_25 rfl (lv_at hl3 3 rfl) ?_
          refine lv_icmp_ne (tgt := 44) hx hb dX9_isSeen_26 (by decide) (fun c9 => ?_) (fun c9 => ?_)
          · refine lv_iconst (v := 0) hx hb dX9_isSeen_44 (by decide) ?_
            refine lv_istore_n (lv' := [(3, .int 0), (4, .int (nI k)), (0, .ref h), (1, .int n), (2, .int b)]) hx hb dX9_isSeen_45 rfl hl3 (by decide) rfl (fun ls10 hl10 => ?_)
            clear hl3
            refine lv_iinc (v := nI (k + 1)) (lv' := [(4, .int (nI (k + 1))), (3, .int 0), (0, .ref h), (1, .int n), (2, .int b)]) hx hb dX9_isSeen_46 hl10 (k := 1) rfl (nI_1 _) (by decide) rfl (fun ls11 hl11 => ?_)
            clear hl10
            refine lv_goto (tgt := 5) hx hb dX9_isSeen_49 (by decide) ?_
            exact ih (k + 1) (by omega) (by omega) 0 (by subst ey3; refine Eq.trans ?_ (any_bc c6); simp [msP, bI, c9])  _ _ _ hl11 hP3 hD3 hS3
          · refine lv_aload_n hx hb dX9_isSeen_29 rfl (lv_at hl3 2 rfl) ?_
            refine kget F hK hP3 9 0 25 iX9 rfl rfl (by decide) (List.mem_of_getElem? (i := 3) rfl) rfl dX9_isSeen_30 ?_
            refine lv_iload hx hb dX9_isSeen_33 (lv_at hl3 0 rfl) ?_
            refine kild F hK hP3 16 k rfl rfl (by omega) (Nat.le_of_ble_eq_true rfl) dX9_isSeen_35 ?_
            refine lv_iload_n hx hb dX9_isSeen_36 rfl (lv_at hl3 4 rfl) ?_
            refine lv_icmp_ne (tgt := 44) hx hb dX9_isSeen_37 (by decide) (fun c12 => ?_) (fun c12 => ?_)
            · refine lv_iconst (v := 0) hx hb dX9_isSeen_44 (by decide) ?_
              refine lv_istore_n (lv' := [(3, .int 0), (4, .int (nI k)), (0, .ref h), (1, .int n), (2, .int b)]) hx hb dX9_isSeen_45 rfl hl3 (by decide) rfl (fun ls13 hl13 => ?_)
              clear hl3
              refine lv_iinc (v := nI (k + 1)) (lv' := [(4, .int (nI (k + 1))), (3, .int 0), (0, .ref h), (1, .int n), (2, .int b)]) hx hb dX9_isSeen_46 hl13 (k := 1) rfl (nI_1 _) (by decide) rfl (fun ls14 hl14 => ?_)
              clear hl13
              refine lv_goto (tgt := 5) hx hb dX9_isSeen_49 (by decide) ?_
              exact ih (k + 1) (by omega) (by omega) 0 (by subst ey3; refine Eq.trans ?_ (any_bc c6); simp [msP, bI, c9, c12])  _ _ _ hl14 hP3 hD3 hS3
            · refine lv_iconst (v := 1) hx hb dX9_isSeen_40 (by decide) ?_
              refine lv_goto (tgt := 45) hx hb dX9_isSeen_41 (by decide) ?_
              refine lv_istore_n (lv' := [(3, .int 1), (4, .int (nI k)), (0, .ref h), (1, .int n), (2, .int b)]) hx hb dX9_isSeen_45 rfl hl3 (by decide) rfl (fun ls15 hl15 => ?_)
              clear hl3
              refine lv_iinc (v := nI (k + 1)) (lv' := [(4, .int (nI (k + 1))), (3, .int 1), (0, .ref h), (1, .int n), (2, .int b)]) hx hb dX9_isSeen_46 hl15 (k := 1) rfl (nI_1 _) (by decide) rfl (fun ls16 hl16 => ?_)
              clear hl15
              refine lv_goto (tgt := 5) hx hb dX9_isSeen_49 (by decide) ?_
              exact ih (k + 1) (by omega) (by omega) 1 (by subst ey3; refine Eq.trans ?_ (any_bc c6); simp [msP, bI, c9, c12])  _ _ _ hl16 hP3 hD3 hS3
  exact LOOP3 (E + 1) 0 (by omega) (by omega) 0 rfl  _ _ _ hl2 hP0 hD0 hS0
set_option maxHeartbeats 1000000 in
set_option maxRecDepth 100000 in
theorem c_X9_sees (l : Launch) (G : kG) (h : Nat) (a : Nat → Nat) (σ : kS) (n : Int32) (b : Int32) (E : Nat) (hE : σ 23 0 = nI E) (hE4 : E ≤ 4) : kM G l yX9_sees wsX9_sees ({ frames := 0, cells := 0, slots := 0, locals := 0 }) [.ref h, .int n, .int b] (mW G h a σ) (kQv G (fun (uu : kS) => uu = msees σ E n b) (fun (uu : kS) => mW G h a uu)) := by
  refine kStart (cc := cX9_sees) (maxL := 4) (ret := none) (by decide) rfl (Nat.le_of_ble_eq_true rfl) (fun pg ev st mi bl mt cd A ls0 F hr hlocks hin hK hP0 hD0 hA hS0 hl0 => ?_)
  obtain ⟨hx, hb, hml, hown, hts⟩ := id F
  have hl0 : lv_has ls0 4 [(0, .ref h), (1, .int n), (2, .int b)] := hl0
  have iX9 : ∀ w ∈ u_ws RX9 TX9 43, w ∈ wsX9_sees := fun w h => List.mem_cons_of_mem _ (List.mem_append_right _ h)
  refine lv_aload_n hx hb dX9_sees_0 rfl (lv_at hl0 0 rfl) ?_
  refine kget F hK hP0 9 0 23 iX9 rfl rfl (by decide) (List.mem_of_getElem? (i := 1) rfl) rfl dX9_sees_1 ?_
  refine lv_iconst (v := 4) hx hb dX9_sees_4 (by decide) ?_
  refine lv_icmp_ne (tgt := 59) hx hb dX9_sees_5 (by decide) (fun c1 => ?_) (fun c1 => ?_)
  · rw [hE] at c1
    have lE : ¬ E = 4 := fun z => c1 (by rw [z]; rfl)
    refine lv_aload_n hx hb dX9_sees_59 rfl (lv_at hl0 0 rfl) ?_
    refine kget F hK hP0 9 0 24 iX9 rfl rfl (by decide) (List.mem_of_getElem? (i := 2) rfl) rfl dX9_sees_60 ?_
    refine lv_aload_n hx hb dX9_sees_63 rfl (lv_at hl0 0 rfl) ?_
    refine kget F hK hP0 9 0 23 iX9 rfl rfl (by decide) (List.mem_of_getElem? (i := 1) rfl) rfl dX9_sees_64 ?_
    refine lv_iload_n hx hb dX9_sees_67 rfl (lv_at hl0 1 rfl) ?_
    refine kMst F hK hP0 hD0 hS0 24 15 E rfl hE (by omega) (Nat.le_of_ble_eq_true rfl) rfl dX9_sees_68 (fun H2 locs2 σ2 eσ2 hP2 hD2 hS2 => ?_)
    clear hP0 hD0 hS0
    refine lv_aload_n hx hb dX9_sees_69 rfl (lv_at hl0 0 rfl) ?_
    refine kget F hK hP2 9 0 25 iX9 rfl rfl (by decide) (List.mem_of_getElem? (i := 3) rfl) rfl dX9_sees_70 ?_
    refine lv_aload_n hx hb dX9_sees_73 rfl (lv_at hl0 0 rfl) ?_
    refine kget F hK hP2 9 0 23 iX9 rfl rfl (by decide) (List.mem_of_getElem? (i := 1) rfl) rfl dX9_sees_74 ?_
    rw [show (σ2 23 0) = (σ 23 0) from by subst eσ2; first | rfl | (simp only [msend]; (repeat' split) <;> rfl)]
    refine lv_iload_n hx hb dX9_sees_77 rfl (lv_at hl0 2 rfl) ?_
    refine kMst F hK hP2 hD2 hS2 25 16 E rfl hE (by omega) (Nat.le_of_ble_eq_true rfl) rfl dX9_sees_78 (fun H3 locs3 σ3 eσ3 hP3 hD3 hS3 => ?_)
    clear hP2 hD2 hS2
    refine lv_aload_n hx hb dX9_sees_79 rfl (lv_at hl0 0 rfl) ?_
    refine lv_dup hx hb dX9_sees_80 rfl ?_
    refine kget F hK hP3 9 0 23 iX9 rfl rfl (by decide) (List.mem_of_getElem? (i := 1) rfl) rfl dX9_sees_81 ?_
    rw [show (σ3 23 0) = (σ 23 0) from by subst eσ3; subst eσ2; first | rfl | (simp only [msend]; (repeat' split) <;> rfl)]
    refine lv_iconst (v := 1) hx hb dX9_sees_84 (by decide) ?_
    refine lv_iadd hx hb dX9_sees_85 ?_
    refine kMput F hK hP3 hD3 hS3 23 iX9 rfl (by decide) (List.mem_of_getElem? (i := 1) rfl) rfl rfl rfl (Nat.le_of_ble_eq_true rfl) rfl dX9_sees_86 (fun H4 locs4 σ4 eσ4 hP4 hD4 hS4 => ?_)
    clear hP3 hD3 hS3
    have q5 : σ4 = msees σ E n b := by
      subst eσ4
      subst eσ3
      subst eσ2
      first | exact (if_pos lE).symm | exact (if_neg lE).symm
    exact kRv F hr hlocks hS4 dX9_sees_89 σ4 q5 hP4 hD4
  · rw [hE] at c1
    have lE : E = 4 := (nI_eq (by omega) (by omega)).mp (show nI E = nI 4 from c1)
    refine lv_iconst (v := 0) hx hb dX9_sees_8 (by decide) ?_
    refine lv_istore_n (lv' := [(3, .int 0), (0, .ref h), (1, .int n), (2, .int b)]) hx hb dX9_sees_9 rfl hl0 (by decide) rfl (fun ls6 hl6 => ?_)
    clear hl0
    refine lv_iload_n hx hb dX9_sees_10 rfl (lv_at hl6 0 rfl) ?_
    refine lv_iconst (v := 3) hx hb dX9_sees_11 (by decide) ?_
    refine lv_icmp_ge (tgt := 49) hx hb dX9_sees_12 (by decide) (fun c7 => ?_) (fun c7 => ?_)
    · exact absurd c7 (by decide)
    · refine lv_aload_n hx hb dX9_sees_15 rfl (lv_at hl6 1 rfl) ?_
      refine kget F hK hP0 9 0 24 iX9 rfl rfl (by decide) (List.mem_of_getElem? (i := 2) rfl) rfl dX9_sees_16 ?_
      refine lv_iload_n hx hb dX9_sees_19 rfl (lv_at hl6 0 rfl) ?_
      refine lv_aload_n hx hb dX9_sees_20 rfl (lv_at hl6 1 rfl) ?_
      refine kget F hK hP0 9 0 24 iX9 rfl rfl (by decide) (List.mem_of_getElem? (i := 2) rfl) rfl dX9_sees_21 ?_
      refine lv_iload_n hx hb dX9_sees_24 rfl (lv_at hl6 0 rfl) ?_
      refine lv_iconst (v := 1) hx hb dX9_sees_25 (by decide) ?_
      refine lv_iadd hx hb dX9_sees_26 ?_
      rw [show (0 + 1 : Int32) = 1 from by decide]
      refine kild F hK hP0 15 1 rfl rfl (by decide) (Nat.le_of_ble_eq_true rfl) dX9_sees_27 ?_
      refine kMst F hK hP0 hD0 hS0 24 15 0 rfl rfl (by decide) (Nat.le_of_ble_eq_true rfl) rfl dX9_sees_28 (fun H9 locs9 σ9 eσ9 hP9 hD9 hS9 => ?_)
      clear hP0 hD0 hS0
      refine lv_aload_n hx hb dX9_sees_29 rfl (lv_at hl6 1 rfl) ?_
      refine kget F hK hP9 9 0 25 iX9 rfl rfl (by decide) (List.mem_of_getElem? (i := 3) rfl) rfl dX9_sees_30 ?_
      refine lv_iload_n hx hb dX9_sees_33 rfl (lv_at hl6 0 rfl) ?_
      refine lv_aload_n hx hb dX9_sees_34 rfl (lv_at hl6 1 rfl) ?_
      refine kget F hK hP9 9 0 25 iX9 rfl rfl (by decide) (List.mem_of_getElem? (i := 3) rfl) rfl dX9_sees_35 ?_
      refine lv_iload_n hx hb dX9_sees_38 rfl (lv_at hl6 0 rfl) ?_
      refine lv_iconst (v := 1) hx hb dX9_sees_39 (by decide) ?_
      refine lv_iadd hx hb dX9_sees_40 ?_
      rw [show (0 + 1 : Int32) = 1 from by decide]
      refine kild F hK hP9 16 1 rfl rfl (by decide) (Nat.le_of_ble_eq_true rfl) dX9_sees_41 ?_
      rw [show (σ9 25 1) = (σ 25 1) from by subst eσ9; first | rfl | (simp only [msend]; (repeat' split) <;> rfl)]
      refine kMst F hK hP9 hD9 hS9 25 16 0 rfl rfl (by decide) (Nat.le_of_ble_eq_true rfl) rfl dX9_sees_42 (fun H11 locs11 σ11 eσ11 hP11 hD11 hS11 => ?_)
      clear hP9 hD9 hS9
      refine lv_iinc (v := 1) (lv' := [(3, .int 1), (0, .ref h), (1, .int n), (2, .int b)]) hx hb dX9_sees_43 hl6 (k := 0) rfl (by decide) (by decide) rfl (fun ls12 hl12 => ?_)
      clear hl6
      refine lv_goto (tgt := 10) hx hb dX9_sees_46 (by decide) ?_
      refine lv_iload_n hx hb dX9_sees_10 rfl (lv_at hl12 0 rfl) ?_
      refine lv_iconst (v := 3) hx hb dX9_sees_11 (by decide) ?_
      refine lv_icmp_ge (tgt := 49) hx hb dX9_sees_12 (by decide) (fun c13 => ?_) (fun c13 => ?_)
      · exact absurd c13 (by decide)
      · refine lv_aload_n hx hb dX9_sees_15 rfl (lv_at hl12 1 rfl) ?_
        refine kget F hK hP11 9 0 24 iX9 rfl rfl (by decide) (List.mem_of_getElem? (i := 2) rfl) rfl dX9_sees_16 ?_
        refine lv_iload_n hx hb dX9_sees_19 rfl (lv_at hl12 0 rfl) ?_
        refine lv_aload_n hx hb dX9_sees_20 rfl (lv_at hl12 1 rfl) ?_
        refine kget F hK hP11 9 0 24 iX9 rfl rfl (by decide) (List.mem_of_getElem? (i := 2) rfl) rfl dX9_sees_21 ?_
        refine lv_iload_n hx hb dX9_sees_24 rfl (lv_at hl12 0 rfl) ?_
        refine lv_iconst (v := 1) hx hb dX9_sees_25 (by decide) ?_
        refine lv_iadd hx hb dX9_sees_26 ?_
        rw [show (1 + 1 : Int32) = 2 from by decide]
        refine kild F hK hP11 15 2 rfl rfl (by decide) (Nat.le_of_ble_eq_true rfl) dX9_sees_27 ?_
        rw [show (σ11 24 2) = (σ 24 2) from by subst eσ11; subst eσ9; first | rfl | (simp only [msend]; (repeat' split) <;> rfl)]
        refine kMst F hK hP11 hD11 hS11 24 15 1 rfl rfl (by decide) (Nat.le_of_ble_eq_true rfl) rfl dX9_sees_28 (fun H15 locs15 σ15 eσ15 hP15 hD15 hS15 => ?_)
        clear hP11 hD11 hS11
        refine lv_aload_n hx hb dX9_sees_29 rfl (lv_at hl12 1 rfl) ?_
        refine kget F hK hP15 9 0 25 iX9 rfl rfl (by decide) (List.mem_of_getElem? (i := 3) rfl) rfl dX9_sees_30 ?_
        refine lv_iload_n hx hb dX9_sees_33 rfl (lv_at hl12 0 rfl) ?_
        refine lv_aload_n hx hb dX9_sees_34 rfl (lv_at hl12 1 rfl) ?_
        refine kget F hK hP15 9 0 25 iX9 rfl rfl (by decide) (List.mem_of_getElem? (i := 3) rfl) rfl dX9_sees_35 ?_
        refine lv_iload_n hx hb dX9_sees_38 rfl (lv_at hl12 0 rfl) ?_
        refine lv_iconst (v := 1) hx hb dX9_sees_39 (by decide) ?_
        refine lv_iadd hx hb dX9_sees_40 ?_
        rw [show (1 + 1 : Int32) = 2 from by decide]
        refine kild F hK hP15 16 2 rfl rfl (by decide) (Nat.le_of_ble_eq_true rfl) dX9_sees_41 ?_
        rw [show (σ15 25 2) = (σ 25 2) from by subst eσ15; subst eσ11; subst eσ9; first | rfl | (simp only [msend]; (repeat' split) <;> rfl)]
        refine kMst F hK hP15 hD15 hS15 25 16 1 rfl rfl (by decide) (Nat.le_of_ble_eq_true rfl) rfl dX9_sees_42 (fun H17 locs17 σ17 eσ17 hP17 hD17 hS17 => ?_)
        clear hP15 hD15 hS15
        refine lv_iinc (v := 2) (lv' := [(3, .int 2), (0, .ref h), (1, .int n), (2, .int b)]) hx hb dX9_sees_43 hl12 (k := 0) rfl (by decide) (by decide) rfl (fun ls18 hl18 => ?_)
        clear hl12
        refine lv_goto (tgt := 10) hx hb dX9_sees_46 (by decide) ?_
        refine lv_iload_n hx hb dX9_sees_10 rfl (lv_at hl18 0 rfl) ?_
        refine lv_iconst (v := 3) hx hb dX9_sees_11 (by decide) ?_
        refine lv_icmp_ge (tgt := 49) hx hb dX9_sees_12 (by decide) (fun c19 => ?_) (fun c19 => ?_)
        · exact absurd c19 (by decide)
        · refine lv_aload_n hx hb dX9_sees_15 rfl (lv_at hl18 1 rfl) ?_
          refine kget F hK hP17 9 0 24 iX9 rfl rfl (by decide) (List.mem_of_getElem? (i := 2) rfl) rfl dX9_sees_16 ?_
          refine lv_iload_n hx hb dX9_sees_19 rfl (lv_at hl18 0 rfl) ?_
          refine lv_aload_n hx hb dX9_sees_20 rfl (lv_at hl18 1 rfl) ?_
          refine kget F hK hP17 9 0 24 iX9 rfl rfl (by decide) (List.mem_of_getElem? (i := 2) rfl) rfl dX9_sees_21 ?_
          refine lv_iload_n hx hb dX9_sees_24 rfl (lv_at hl18 0 rfl) ?_
          refine lv_iconst (v := 1) hx hb dX9_sees_25 (by decide) ?_
          refine lv_iadd hx hb dX9_sees_26 ?_
          rw [show (2 + 1 : Int32) = 3 from by decide]
          refine kild F hK hP17 15 3 rfl rfl (by decide) (Nat.le_of_ble_eq_true rfl) dX9_sees_27 ?_
          rw [show (σ17 24 3) = (σ 24 3) from by subst eσ17; subst eσ15; subst eσ11; subst eσ9; first | rfl | (simp only [msend]; (repeat' split) <;> rfl)]
          refine kMst F hK hP17 hD17 hS17 24 15 2 rfl rfl (by decide) (Nat.le_of_ble_eq_true rfl) rfl dX9_sees_28 (fun H21 locs21 σ21 eσ21 hP21 hD21 hS21 => ?_)
          clear hP17 hD17 hS17
          refine lv_aload_n hx hb dX9_sees_29 rfl (lv_at hl18 1 rfl) ?_
          refine kget F hK hP21 9 0 25 iX9 rfl rfl (by decide) (List.mem_of_getElem? (i := 3) rfl) rfl dX9_sees_30 ?_
          refine lv_iload_n hx hb dX9_sees_33 rfl (lv_at hl18 0 rfl) ?_
          refine lv_aload_n hx hb dX9_sees_34 rfl (lv_at hl18 1 rfl) ?_
          refine kget F hK hP21 9 0 25 iX9 rfl rfl (by decide) (List.mem_of_getElem? (i := 3) rfl) rfl dX9_sees_35 ?_
          refine lv_iload_n hx hb dX9_sees_38 rfl (lv_at hl18 0 rfl) ?_
          refine lv_iconst (v := 1) hx hb dX9_sees_39 (by decide) ?_
          refine lv_iadd hx hb dX9_sees_40 ?_
          rw [show (2 + 1 : Int32) = 3 from by decide]
          refine kild F hK hP21 16 3 rfl rfl (by decide) (Nat.le_of_ble_eq_true rfl) dX9_sees_41 ?_
          rw [show (σ21 25 3) = (σ 25 3) from by subst eσ21; subst eσ17; subst eσ15; subst eσ11; subst eσ9; first | rfl | (simp only [msend]; (repeat' split) <;> rfl)]
          refine kMst F hK hP21 hD21 hS21 25 16 2 rfl rfl (by decide) (Nat.le_of_ble_eq_true rfl) rfl dX9_sees_42 (fun H23 locs23 σ23 eσ23 hP23 hD23 hS23 => ?_)
          clear hP21 hD21 hS21
          refine lv_iinc (v := 3) (lv' := [(3, .int 3), (0, .ref h), (1, .int n), (2, .int b)]) hx hb dX9_sees_43 hl18 (k := 0) rfl (by decide) (by decide) rfl (fun ls24 hl24 => ?_)
          clear hl18
          refine lv_goto (tgt := 10) hx hb dX9_sees_46 (by decide) ?_
          refine lv_iload_n hx hb dX9_sees_10 rfl (lv_at hl24 0 rfl) ?_
          refine lv_iconst (v := 3) hx hb dX9_sees_11 (by decide) ?_
          refine lv_icmp_ge (tgt := 49) hx hb dX9_sees_12 (by decide) (fun c25 => ?_) (fun c25 => ?_)
          · refine lv_aload_n hx hb dX9_sees_49 rfl (lv_at hl24 1 rfl) ?_
            refine lv_dup hx hb dX9_sees_50 rfl ?_
            refine kget F hK hP23 9 0 23 iX9 rfl rfl (by decide) (List.mem_of_getElem? (i := 1) rfl) rfl dX9_sees_51 ?_
            rw [show (σ23 23 0) = (σ 23 0) from by subst eσ23; subst eσ21; subst eσ17; subst eσ15; subst eσ11; subst eσ9; first | rfl | (simp only [msend]; (repeat' split) <;> rfl)]
            refine lv_iconst (v := 1) hx hb dX9_sees_54 (by decide) ?_
            refine lv_isub hx hb dX9_sees_55 ?_
            refine kMput F hK hP23 hD23 hS23 23 iX9 rfl (by decide) (List.mem_of_getElem? (i := 1) rfl) rfl rfl rfl (Nat.le_of_ble_eq_true rfl) rfl dX9_sees_56 (fun H26 locs26 σ26 eσ26 hP26 hD26 hS26 => ?_)
            clear hP23 hD23 hS23
            refine lv_aload_n hx hb dX9_sees_59 rfl (lv_at hl24 1 rfl) ?_
            refine kget F hK hP26 9 0 24 iX9 rfl rfl (by decide) (List.mem_of_getElem? (i := 2) rfl) rfl dX9_sees_60 ?_
            refine lv_aload_n hx hb dX9_sees_63 rfl (lv_at hl24 1 rfl) ?_
            refine kget F hK hP26 9 0 23 iX9 rfl rfl (by decide) (List.mem_of_getElem? (i := 1) rfl) rfl dX9_sees_64 ?_
            rw [show (σ26 23 0) = ((σ 23 0) - 1) from by subst eσ26; subst eσ23; subst eσ21; subst eσ17; subst eσ15; subst eσ11; subst eσ9; first | rfl | (simp only [msend]; (repeat' split) <;> rfl)]
            refine lv_iload_n hx hb dX9_sees_67 rfl (lv_at hl24 2 rfl) ?_
            refine kMst F hK hP26 hD26 hS26 24 15 3 rfl (by rw [hE, lE]; rfl) (by decide) (Nat.le_of_ble_eq_true rfl) rfl dX9_sees_68 (fun H27 locs27 σ27 eσ27 hP27 hD27 hS27 => ?_)
            clear hP26 hD26 hS26
            refine lv_aload_n hx hb dX9_sees_69 rfl (lv_at hl24 1 rfl) ?_
            refine kget F hK hP27 9 0 25 iX9 rfl rfl (by decide) (List.mem_of_getElem? (i := 3) rfl) rfl dX9_sees_70 ?_
            refine lv_aload_n hx hb dX9_sees_73 rfl (lv_at hl24 1 rfl) ?_
            refine kget F hK hP27 9 0 23 iX9 rfl rfl (by decide) (List.mem_of_getElem? (i := 1) rfl) rfl dX9_sees_74 ?_
            rw [show (σ27 23 0) = ((σ 23 0) - 1) from by subst eσ27; subst eσ26; subst eσ23; subst eσ21; subst eσ17; subst eσ15; subst eσ11; subst eσ9; first | rfl | (simp only [msend]; (repeat' split) <;> rfl)]
            refine lv_iload_n hx hb dX9_sees_77 rfl (lv_at hl24 3 rfl) ?_
            refine kMst F hK hP27 hD27 hS27 25 16 3 rfl (by rw [hE, lE]; rfl) (by decide) (Nat.le_of_ble_eq_true rfl) rfl dX9_sees_78 (fun H28 locs28 σ28 eσ28 hP28 hD28 hS28 => ?_)
            clear hP27 hD27 hS27
            refine lv_aload_n hx hb dX9_sees_79 rfl (lv_at hl24 1 rfl) ?_
            refine lv_dup hx hb dX9_sees_80 rfl ?_
            refine kget F hK hP28 9 0 23 iX9 rfl rfl (by decide) (List.mem_of_getElem? (i := 1) rfl) rfl dX9_sees_81 ?_
            rw [show (σ28 23 0) = ((σ 23 0) - 1) from by subst eσ28; subst eσ27; subst eσ26; subst eσ23; subst eσ21; subst eσ17; subst eσ15; subst eσ11; subst eσ9; first | rfl | (simp only [msend]; (repeat' split) <;> rfl)]
            refine lv_iconst (v := 1) hx hb dX9_sees_84 (by decide) ?_
            refine lv_iadd hx hb dX9_sees_85 ?_
            refine kMput F hK hP28 hD28 hS28 23 iX9 rfl (by decide) (List.mem_of_getElem? (i := 1) rfl) rfl rfl rfl (Nat.le_of_ble_eq_true rfl) rfl dX9_sees_86 (fun H29 locs29 σ29 eσ29 hP29 hD29 hS29 => ?_)
            clear hP28 hD28 hS28
            have q30 : σ29 = msees σ E n b := by
              subst eσ29
              subst eσ28
              subst eσ27
              subst eσ26
              subst eσ23
              subst eσ21
              subst eσ17
              subst eσ15
              subst eσ11
              subst eσ9
              first | exact (if_pos lE).symm | exact (if_neg lE).symm
            exact kRv F hr hlocks hS29 dX9_sees_89 σ29 q30 hP29 hD29
          · exact absurd (by decide) c25
set_option maxHeartbeats 1000000 in
set_option maxRecDepth 100000 in
theorem c_X9_isFitting (l : Launch) (G : kG) (h : Nat) (a : Nat → Nat) (σ : kS) (j : Nat) (hj : j < 3) : kM G l yX9_isFitting wsX9_isFitting ({ frames := 1, cells := 0, slots := 0, locals := 25 }) [.ref h, .int (nI j)] (mW G h a σ) (kQi G (fun (rr : Int32) (uu : Unit) => rr = mfit σ j) (fun (uu : Unit) => mW G h a σ)) := by
  refine kStart (cc := cX9_isFitting) (maxL := 3) (ret := (some .boolean)) (by decide) rfl (Nat.le_of_ble_eq_true rfl) (fun pg ev st mi bl mt cd A ls0 F hr hlocks hin hK hP0 hD0 hA hS0 hl0 => ?_)
  obtain ⟨hx, hb, hml, hown, hts⟩ := id F
  have hl0 : lv_has ls0 3 [(0, .ref h), (1, .int (nI j))] := hl0
  have iX9 : ∀ w ∈ u_ws RX9 TX9 43, w ∈ wsX9_isFitting := fun w h => List.mem_cons_of_mem _ (List.mem_append_right _ h)
  refine lv_aload_n hx hb dX9_isFitting_0 rfl (lv_at hl0 0 rfl) ?_
  refine kget F hK hP0 9 0 29 iX9 rfl rfl (by decide) (List.mem_of_getElem? (i := 1) rfl) rfl dX9_isFitting_1 ?_
  refine lv_bipush (v := 6) hx hb dX9_isFitting_4 (by decide) ?_
  refine kild F hK hP0 20 6 rfl rfl (by decide) (Nat.le_of_ble_eq_true rfl) dX9_isFitting_6 ?_
  refine lv_aload_n hx hb dX9_isFitting_7 rfl (lv_at hl0 0 rfl) ?_
  refine kget F hK hP0 9 0 22 iX9 rfl rfl (by decide) (List.mem_of_getElem? (i := 2) rfl) rfl dX9_isFitting_8 ?_
  refine lv_iconst (v := 5) hx hb dX9_isFitting_11 (by decide) ?_
  refine lv_iload_n hx hb dX9_isFitting_12 rfl (lv_at hl0 1 rfl) ?_
  refine lv_imul hx hb dX9_isFitting_13 ?_
  refine lv_iconst (v := 4) hx hb dX9_isFitting_14 (by decide) ?_
  refine lv_iadd hx hb dX9_isFitting_15 ?_
  refine kild F hK hP0 14 (5 * j + 4) rfl mix_54 (by omega) (Nat.le_of_ble_eq_true rfl) dX9_isFitting_16 ?_
  refine lv_isub hx hb dX9_isFitting_17 ?_
  refine lv_topi (fun x1 ex1 => ?_)
  refine lv_istore_n (lv' := [(2, .int x1), (0, .ref h), (1, .int (nI j))]) hx hb dX9_isFitting_18 rfl hl0 (by decide) rfl (fun ls2 hl2 => ?_)
  clear hl0
  refine lv_iload_n hx hb dX9_isFitting_19 rfl (lv_at hl2 0 rfl) ?_
  refine lv_i2l (v := x1.toInt64) hx hb dX9_isFitting_20 rfl ?_
  refine lv_aload_n hx hb dX9_isFitting_21 rfl (lv_at hl2 1 rfl) ?_
  refine kget F hK hP0 9 0 14 iX9 rfl rfl (by decide) (List.mem_of_getElem? (i := 3) rfl) rfl dX9_isFitting_22 ?_
  refine lv_aload_n hx hb dX9_isFitting_25 rfl (lv_at hl2 1 rfl) ?_
  refine kget F hK hP0 9 0 22 iX9 rfl rfl (by decide) (List.mem_of_getElem? (i := 2) rfl) rfl dX9_isFitting_26 ?_
  refine lv_iconst (v := 5) hx hb dX9_isFitting_29 (by decide) ?_
  refine lv_iload_n hx hb dX9_isFitting_30 rfl (lv_at hl2 2 rfl) ?_
  refine lv_imul hx hb dX9_isFitting_31 ?_
  refine lv_iconst (v := 2) hx hb dX9_isFitting_32 (by decide) ?_
  refine lv_iadd hx hb dX9_isFitting_33 ?_
  refine kild F hK hP0 14 (5 * j + 2) rfl mix_52 (by omega) (Nat.le_of_ble_eq_true rfl) dX9_isFitting_34 ?_
  refine lv_isub hx hb dX9_isFitting_35 ?_
  refine lv_i2l (v := ((σ 14 0) - (σ 22 (5 * j + 2))).toInt64) hx hb dX9_isFitting_36 rfl ?_
  refine lv_lsub hx hb dX9_isFitting_37 ?_
  refine lv_ldc2 (v := (-2)) hx hb hown (hts _ (List.mem_of_getElem? (i := 4) rfl)) dX9_isFitting_38 ?_
  refine lv_ldc2 (v := 2) hx hb hown (hts _ (List.mem_of_getElem? (i := 5) rfl)) dX9_isFitting_41 ?_
  refine kPSi F hK hP0 hD0 hS0 hA hl2.1 (c_X9_in l G (x1.toInt64 - ((σ 14 0) - (σ 22 (5 * j + 2))).toInt64) (-2) 2) (fun _ => rfl) gX9_isFitting_X9_in rfl 3 rfl (by decide +kernel) ⟨Nat.le_of_ble_eq_true rfl, Nat.le_of_ble_eq_true rfl⟩ ⟨Nat.zero_le _, Nat.zero_le _⟩ (Nat.le_of_ble_eq_true rfl) rfl dX9_isFitting_44 (fun r3 u3 H4 locs4 hw3 (hP4 : va_P G.1 vwCl (mW G h a σ) H4) (hD4 : va_D A (mW G h a σ)) hS4 => ?_)
  clear hP0 hD0 hS0
  have w3_0 : r3 = kinL (x1.toInt64 - ((σ 14 0) - (σ 22 (5 * j + 2))).toInt64) (-2) 2 := hw3
  have q5 : r3 = mfit σ j := by
    subst w3_0
    subst ex1
    first | rfl | (simp only [↓reduceIte]; done) | (simp []; done)
  exact kRz F hr hlocks hS4 dX9_isFitting_47 (by subst w3_0; subst ex1; exact kinL_z _ _ _) () q5 hP4 hD4
set_option maxHeartbeats 1000000 in
set_option maxRecDepth 100000 in
theorem c_X9_comesFinish (l : Launch) (G : kG) (h : Nat) (a : Nat → Nat) (σ : kS) : kM G l yX9_comesFinish wsX9_comesFinish ({ frames := 2, cells := 0, slots := 0, locals := 44 }) [.ref h] (mW G h a σ) (kQv G (fun (uu : kS) => uu = mfinR σ) (fun (uu : kS) => mW G h a uu)) := by
  refine kStart (cc := cX9_comesFinish) (maxL := 1) (ret := none) (by decide) rfl (Nat.le_of_ble_eq_true rfl) (fun pg ev st mi bl mt cd A ls0 F hr hlocks hin hK hP0 hD0 hA hS0 hl0 => ?_)
  obtain ⟨hx, hb, hml, hown, hts⟩ := id F
  have hl0 : lv_has ls0 1 [(0, .ref h)] := hl0
  have iX9 : ∀ w ∈ u_ws RX9 TX9 43, w ∈ wsX9_comesFinish := fun w h => List.mem_cons_of_mem _ (List.mem_append_right _ h)
  refine lv_aload_n hx hb dX9_comesFinish_0 rfl (lv_at hl0 0 rfl) ?_
  refine kget F hK hP0 9 0 29 iX9 rfl rfl (by decide) (List.mem_of_getElem? (i := 1) rfl) rfl dX9_comesFinish_1 ?_
  refine lv_iconst (v := 1) hx hb dX9_comesFinish_4 (by decide) ?_
  refine kild F hK hP0 20 1 rfl rfl (by decide) (Nat.le_of_ble_eq_true rfl) dX9_comesFinish_5 ?_
  refine lv_aload_n hx hb dX9_comesFinish_6 rfl (lv_at hl0 0 rfl) ?_
  refine lv_iconst (v := 1) hx hb dX9_comesFinish_7 (by decide) ?_
  refine lv_iconst (v := 2) hx hb dX9_comesFinish_8 (by decide) ?_
  refine kWVi F hK hP0 hD0 hS0 hA hl0.1 (c_X9_proof l G h a σ 1 2 (by first | assumption | decide | omega)) 9 0 gX9_comesFinish_X9_proof rfl 2 rfl (by decide +kernel) ⟨Nat.le_of_ble_eq_true rfl, Nat.le_of_ble_eq_true rfl⟩ ⟨Nat.zero_le _, Nat.zero_le _⟩ rfl rfl (Nat.le_of_ble_eq_true rfl) rfl dX9_comesFinish_9 (fun r1 u1 H2 locs2 hw1 (hP2 : va_P G.1 vwCl (mW G h a σ) H2) (hD2 : va_D A (mW G h a σ)) hS2 => ?_)
  clear hP0 hD0 hS0
  have w1_0 : r1 = mproof σ 1 2 := hw1
  refine lv_icmp_eq (tgt := 25) hx hb dX9_comesFinish_12 (by decide) (fun c3 => ?_) (fun c3 => ?_)
  · refine lv_aload_n hx hb dX9_comesFinish_25 rfl (lv_at hl0 0 rfl) ?_
    refine lv_iconst (v := 1) hx hb dX9_comesFinish_26 (by decide) ?_
    refine kWVv F hK hP2 hD2 hS2 hA hl0.1 (c_X9_joins l G h a σ 1 (by first | assumption | decide | omega)) 9 0 gX9_comesFinish_X9_joins rfl 1 rfl (by decide +kernel) ⟨Nat.le_of_ble_eq_true rfl, Nat.le_of_ble_eq_true rfl⟩ ⟨Nat.zero_le _, Nat.zero_le _⟩ rfl rfl (Nat.le_of_ble_eq_true rfl) rfl dX9_comesFinish_27 (fun σ_4 H5 locs5 hw4 (hP5 : va_P G.1 vwCl (mW G h a σ_4) H5) (hD5 : va_D A (mW G h a σ_4)) hS5 => ?_)
    clear hP2 hD2 hS2
    have w4_0 : σ_4 = mjoin σ 1 := hw4
    have q6 : σ_4 = mfinR σ := by
      subst w4_0
      subst w1_0
      first | (simp only [mfinR, eq_true c3, eq_self, ↓reduceIte, and_self, and_true, true_and]; done) | (simp only [mfinR, eq_true c3, eq_self, ↓reduceIte, and_self, and_true, true_and]; (try and_intros) <;> rfl)
    exact kRv F hr hlocks hS5 dX9_comesFinish_30 σ_4 q6 hP5 hD5
  · refine lv_aload_n hx hb dX9_comesFinish_15 rfl (lv_at hl0 0 rfl) ?_
    refine lv_iconst (v := 1) hx hb dX9_comesFinish_16 (by decide) ?_
    refine lv_bipush (v := 8) hx hb dX9_comesFinish_17 (by decide) ?_
    refine kWVv F hK hP2 hD2 hS2 hA hl0.1 (c_X9_fails l G h a σ 1 8 (by first | assumption | decide | omega)) 9 0 gX9_comesFinish_X9_fails rfl 2 rfl (by decide +kernel) ⟨Nat.le_of_ble_eq_true rfl, Nat.le_of_ble_eq_true rfl⟩ ⟨Nat.zero_le _, Nat.zero_le _⟩ rfl rfl (Nat.le_of_ble_eq_true rfl) rfl dX9_comesFinish_19 (fun σ_7 H8 locs8 hw7 (hP8 : va_P G.1 vwCl (mW G h a σ_7) H8) (hD8 : va_D A (mW G h a σ_7)) hS8 => ?_)
    clear hP2 hD2 hS2
    have w7_0 : σ_7 = mfail σ 1 8 := hw7
    refine lv_goto (tgt := 30) hx hb dX9_comesFinish_22 (by decide) ?_
    have q9 : σ_7 = mfinR σ := by
      subst w7_0
      subst w1_0
      first | (simp only [mfinR, c3, eq_self, ↓reduceIte, and_self, and_true, true_and]; done) | (simp only [mfinR, c3, eq_self, ↓reduceIte, and_self, and_true, true_and]; (try and_intros) <;> rfl)
    exact kRv F hr hlocks hS8 dX9_comesFinish_30 σ_7 q9 hP8 hD8
set_option maxHeartbeats 1000000 in
set_option maxRecDepth 100000 in
theorem c_X9_comesLetter (l : Launch) (G : kG) (h : Nat) (a : Nat → Nat) (σ : kS) (sd : Nat) (hsd : sd < 2) : kM G l yX9_comesLetter wsX9_comesLetter ({ frames := 3, cells := 0, slots := 0, locals := 65 }) [.ref h, .int (nI sd)] (mW G h a σ) (kQv G (fun (uu : kS) => uu = mlett σ sd) (fun (uu : kS) => mW G h a uu)) := by
  refine kStart (cc := cX9_comesLetter) (maxL := 4) (ret := none) (by decide) rfl (Nat.le_of_ble_eq_true rfl) (fun pg ev st mi bl mt cd A ls0 F hr hlocks hin hK hP0 hD0 hA hS0 hl0 => ?_)
  obtain ⟨hx, hb, hml, hown, hts⟩ := id F
  have hl0 : lv_has ls0 4 [(0, .ref h), (1, .int (nI sd))] := hl0
  have iX9 : ∀ w ∈ u_ws RX9 TX9 43, w ∈ wsX9_comesLetter := fun w h => List.mem_cons_of_mem _ (List.mem_append_right _ h)
  refine lv_aload_n hx hb dX9_comesLetter_0 rfl (lv_at hl0 0 rfl) ?_
  refine lv_iload_n hx hb dX9_comesLetter_1 rfl (lv_at hl0 1 rfl) ?_
  refine lv_iload_n hx hb dX9_comesLetter_2 rfl (lv_at hl0 1 rfl) ?_
  refine kWVi F hK hP0 hD0 hS0 hA hl0.1 (c_X9_lock l G h a σ sd sd (by first | assumption | decide | omega) (by first | assumption | decide | omega)) 9 0 gX9_comesLetter_X9_lock rfl 2 rfl (by decide +kernel) ⟨Nat.le_of_ble_eq_true rfl, Nat.le_of_ble_eq_true rfl⟩ ⟨Nat.zero_le _, Nat.zero_le _⟩ rfl rfl (Nat.le_of_ble_eq_true rfl) rfl dX9_comesLetter_3 (fun r1 u1 H2 locs2 hw1 (hP2 : va_P G.1 vwCl (mW G h a σ) H2) (hD2 : va_D A (mW G h a σ)) hS2 => ?_)
  clear hP0 hD0 hS0
  have w1_0 : r1 = mlock σ sd sd := hw1
  refine lv_istore_n (lv' := [(2, .int r1), (0, .ref h), (1, .int (nI sd))]) hx hb dX9_comesLetter_6 rfl hl0 (by decide) rfl (fun ls3 hl3 => ?_)
  clear hl0
  refine lv_aload_n hx hb dX9_comesLetter_7 rfl (lv_at hl3 1 rfl) ?_
  refine kget F hK hP2 9 0 11 iX9 rfl rfl (by decide) (List.mem_of_getElem? (i := 1) rfl) rfl dX9_comesLetter_8 ?_
  refine lv_iconst (v := 2) hx hb dX9_comesLetter_11 (by decide) ?_
  refine lv_iload_n hx hb dX9_comesLetter_12 rfl (lv_at hl3 2 rfl) ?_
  refine lv_imul hx hb dX9_comesLetter_13 ?_
  refine lv_iload_n hx hb dX9_comesLetter_14 rfl (lv_at hl3 2 rfl) ?_
  refine lv_iadd hx hb dX9_comesLetter_15 ?_
  refine kild F hK hP2 12 (2 * sd + sd) rfl mix_2 (by omega) (Nat.le_of_ble_eq_true rfl) dX9_comesLetter_16 ?_
  refine lv_istore_n (lv' := [(3, .int (σ 11 (2 * sd + sd))), (2, .int r1), (0, .ref h), (1, .int (nI sd))]) hx hb dX9_comesLetter_17 rfl hl3 (by decide) rfl (fun ls4 hl4 => ?_)
  clear hl3
  refine lv_aload_n hx hb dX9_comesLetter_18 rfl (lv_at hl4 2 rfl) ?_
  refine kget F hK hP2 9 0 29 iX9 rfl rfl (by decide) (List.mem_of_getElem? (i := 2) rfl) rfl dX9_comesLetter_19 ?_
  refine lv_iconst (v := 2) hx hb dX9_comesLetter_22 (by decide) ?_
  refine kild F hK hP2 20 2 rfl rfl (by decide) (Nat.le_of_ble_eq_true rfl) dX9_comesLetter_23 ?_
  refine lv_iload_n hx hb dX9_comesLetter_24 rfl (lv_at hl4 1 rfl) ?_
  refine lv_aload_n hx hb dX9_comesLetter_25 rfl (lv_at hl4 2 rfl) ?_
  refine kget F hK hP2 9 0 29 iX9 rfl rfl (by decide) (List.mem_of_getElem? (i := 2) rfl) rfl dX9_comesLetter_26 ?_
  refine lv_iconst (v := 1) hx hb dX9_comesLetter_29 (by decide) ?_
  refine kild F hK hP2 20 1 rfl rfl (by decide) (Nat.le_of_ble_eq_true rfl) dX9_comesLetter_30 ?_
  refine kPSi F hK hP2 hD2 hS2 hA hl4.1 (c_X9_mix l G r1 (σ 29 1)) (fun _ => rfl) gX9_comesLetter_X9_mix rfl 2 rfl (by decide +kernel) ⟨Nat.le_of_ble_eq_true rfl, Nat.le_of_ble_eq_true rfl⟩ ⟨Nat.zero_le _, Nat.zero_le _⟩ (Nat.le_of_ble_eq_true rfl) rfl dX9_comesLetter_31 (fun r5 u5 H6 locs6 hw5 (hP6 : va_P G.1 vwCl (mW G h a σ) H6) (hD6 : va_D A (mW G h a σ)) hS6 => ?_)
  clear hP2 hD2 hS2
  have w5_0 : r5 = kmix r1 (σ 29 1) := hw5
  refine lv_iload_n hx hb dX9_comesLetter_34 rfl (lv_at hl4 0 rfl) ?_
  refine kPSi F hK hP6 hD6 hS6 hA hl4.1 (c_X9_mix l G r5 (σ 11 (2 * sd + sd))) (fun _ => rfl) gX9_comesLetter_X9_mix rfl 2 rfl (by decide +kernel) ⟨Nat.le_of_ble_eq_true rfl, Nat.le_of_ble_eq_true rfl⟩ ⟨Nat.zero_le _, Nat.zero_le _⟩ (Nat.le_of_ble_eq_true rfl) rfl dX9_comesLetter_35 (fun r7 u7 H8 locs8 hw7 (hP8 : va_P G.1 vwCl (mW G h a σ) H8) (hD8 : va_D A (mW G h a σ)) hS8 => ?_)
  clear hP6 hD6 hS6
  have w7_0 : r7 = kmix r5 (σ 11 (2 * sd + sd)) := hw7
  refine lv_icmp_eq (tgt := 49) hx hb dX9_comesLetter_38 (by decide) (fun c9 => ?_) (fun c9 => ?_)
  · refine lv_aload_n hx hb dX9_comesLetter_49 rfl (lv_at hl4 2 rfl) ?_
    refine kget F hK hP8 9 0 33 iX9 rfl rfl (by decide) (List.mem_of_getElem? (i := 3) rfl) rfl dX9_comesLetter_50 ?_
    refine lv_iload_n hx hb dX9_comesLetter_53 rfl (lv_at hl4 3 rfl) ?_
    refine lv_dup2_11 hx hb dX9_comesLetter_54 rfl rfl ?_
    refine kild F hK hP8 21 sd rfl rfl hsd (Nat.le_of_ble_eq_true rfl) dX9_comesLetter_55 ?_
    refine lv_iconst (v := 1) hx hb dX9_comesLetter_56 (by decide) ?_
    refine lv_iadd hx hb dX9_comesLetter_57 ?_
    refine kMst F hK hP8 hD8 hS8 33 21 sd rfl rfl hsd (Nat.le_of_ble_eq_true rfl) rfl dX9_comesLetter_58 (fun H10 locs10 σ10 eσ10 hP10 hD10 hS10 => ?_)
    clear hP8 hD8 hS8
    refine lv_aload_n hx hb dX9_comesLetter_59 rfl (lv_at hl4 2 rfl) ?_
    refine kget F hK hP10 9 0 34 iX9 rfl rfl (by decide) (List.mem_of_getElem? (i := 4) rfl) rfl dX9_comesLetter_60 ?_
    refine lv_iload_n hx hb dX9_comesLetter_63 rfl (lv_at hl4 3 rfl) ?_
    refine lv_dup2_11 hx hb dX9_comesLetter_64 rfl rfl ?_
    refine kild F hK hP10 22 sd rfl rfl hsd (Nat.le_of_ble_eq_true rfl) dX9_comesLetter_65 ?_
    rw [show (σ10 34 sd) = (σ 34 sd) from by subst eσ10; first | rfl | (simp only [msend]; (repeat' split) <;> rfl)]
    refine lv_aload_n hx hb dX9_comesLetter_66 rfl (lv_at hl4 2 rfl) ?_
    refine kget F hK hP10 9 0 29 iX9 rfl rfl (by decide) (List.mem_of_getElem? (i := 2) rfl) rfl dX9_comesLetter_67 ?_
    refine lv_iconst (v := 1) hx hb dX9_comesLetter_70 (by decide) ?_
    refine kild F hK hP10 20 1 rfl rfl (by decide) (Nat.le_of_ble_eq_true rfl) dX9_comesLetter_71 ?_
    rw [show (σ10 29 1) = (σ 29 1) from by subst eσ10; first | rfl | (simp only [msend]; (repeat' split) <;> rfl)]
    refine lv_iload_n hx hb dX9_comesLetter_72 rfl (lv_at hl4 1 rfl) ?_
    refine lv_iload_n hx hb dX9_comesLetter_73 rfl (lv_at hl4 0 rfl) ?_
    refine kPSi F hK hP10 hD10 hS10 hA hl4.1 (c_X9_mix l G r1 (σ 11 (2 * sd + sd))) (fun _ => rfl) gX9_comesLetter_X9_mix rfl 2 rfl (by decide +kernel) ⟨Nat.le_of_ble_eq_true rfl, Nat.le_of_ble_eq_true rfl⟩ ⟨Nat.zero_le _, Nat.zero_le _⟩ (Nat.le_of_ble_eq_true rfl) rfl dX9_comesLetter_74 (fun r11 u11 H12 locs12 hw11 (hP12 : va_P G.1 vwCl (mW G h a σ10) H12) (hD12 : va_D A (mW G h a σ10)) hS12 => ?_)
    clear hP10 hD10 hS10
    have w11_0 : r11 = kmix r1 (σ 11 (2 * sd + sd)) := hw11
    refine lv_sipush (v := 1023) hx hb dX9_comesLetter_77 (by decide) ?_
    refine lv_iand hx hb dX9_comesLetter_80 ?_
    refine lv_ixor hx hb dX9_comesLetter_81 ?_
    refine lv_iadd hx hb dX9_comesLetter_82 ?_
    refine kMst F hK hP12 hD12 hS12 34 22 sd rfl rfl hsd (Nat.le_of_ble_eq_true rfl) rfl dX9_comesLetter_83 (fun H13 locs13 σ13 eσ13 hP13 hD13 hS13 => ?_)
    clear hP12 hD12 hS12
    refine lv_aload_n hx hb dX9_comesLetter_84 rfl (lv_at hl4 2 rfl) ?_
    refine kget F hK hP13 9 0 11 iX9 rfl rfl (by decide) (List.mem_of_getElem? (i := 1) rfl) rfl dX9_comesLetter_85 ?_
    refine lv_iconst (v := 2) hx hb dX9_comesLetter_88 (by decide) ?_
    refine lv_iload_n hx hb dX9_comesLetter_89 rfl (lv_at hl4 3 rfl) ?_
    refine lv_imul hx hb dX9_comesLetter_90 ?_
    refine lv_iload_n hx hb dX9_comesLetter_91 rfl (lv_at hl4 3 rfl) ?_
    refine lv_iadd hx hb dX9_comesLetter_92 ?_
    refine lv_dup2_11 hx hb dX9_comesLetter_93 rfl rfl ?_
    refine kild F hK hP13 12 (2 * sd + sd) rfl mix_2 (by omega) (Nat.le_of_ble_eq_true rfl) dX9_comesLetter_94 ?_
    rw [show (σ13 11 (2 * sd + sd)) = (σ 11 (2 * sd + sd)) from by subst eσ13; subst eσ10; first | rfl | (simp only [msend]; (repeat' split) <;> rfl)]
    refine lv_iconst (v := 1) hx hb dX9_comesLetter_95 (by decide) ?_
    refine lv_iadd hx hb dX9_comesLetter_96 ?_
    refine kMst F hK hP13 hD13 hS13 11 12 (2 * sd + sd) rfl mix_2 (by omega) (Nat.le_of_ble_eq_true rfl) rfl dX9_comesLetter_97 (fun H14 locs14 σ14 eσ14 hP14 hD14 hS14 => ?_)
    clear hP13 hD13 hS13
    have q15 : σ14 = mlett σ sd := by
      subst eσ14
      subst eσ13
      subst w11_0
      subst eσ10
      subst w7_0
      subst w5_0
      subst w1_0
      first | (simp only [mlett, eq_true c9, eq_self, ↓reduceIte, and_self, and_true, true_and]; done) | (simp only [mlett, eq_true c9, eq_self, ↓reduceIte, and_self, and_true, true_and]; (try and_intros) <;> rfl)
    exact kRv F hr hlocks hS14 dX9_comesLetter_98 σ14 q15 hP14 hD14
  · refine lv_aload_n hx hb dX9_comesLetter_41 rfl (lv_at hl4 2 rfl) ?_
    refine lv_iload_n hx hb dX9_comesLetter_42 rfl (lv_at hl4 3 rfl) ?_
    refine lv_bipush (v := 9) hx hb dX9_comesLetter_43 (by decide) ?_
    refine kWVv F hK hP8 hD8 hS8 hA hl4.1 (c_X9_fails l G h a σ sd 9 (by first | assumption | decide | omega)) 9 0 gX9_comesLetter_X9_fails rfl 2 rfl (by decide +kernel) ⟨Nat.le_of_ble_eq_true rfl, Nat.le_of_ble_eq_true rfl⟩ ⟨Nat.zero_le _, Nat.zero_le _⟩ rfl rfl (Nat.le_of_ble_eq_true rfl) rfl dX9_comesLetter_45 (fun σ_16 H17 locs17 hw16 (hP17 : va_P G.1 vwCl (mW G h a σ_16) H17) (hD17 : va_D A (mW G h a σ_16)) hS17 => ?_)
    clear hP8 hD8 hS8
    have w16_0 : σ_16 = mfail σ sd 9 := hw16
    have q18 : σ_16 = mlett σ sd := by
      subst w16_0
      subst w7_0
      subst w5_0
      subst w1_0
      first | (simp only [mlett, c9, eq_self, ↓reduceIte, and_self, and_true, true_and]; done) | (simp only [mlett, c9, eq_self, ↓reduceIte, and_self, and_true, true_and]; (try and_intros) <;> rfl)
    exact kRv F hr hlocks hS17 dX9_comesLetter_48 σ_16 q18 hP17 hD17
set_option maxHeartbeats 1000000 in
set_option maxRecDepth 100000 in
theorem c_X9_comesUpdate (l : Launch) (G : kG) (h : Nat) (a : Nat → Nat) (σ : kS) (sd : Nat) (hsd : sd < 2) : kM G l yX9_comesUpdate wsX9_comesUpdate ({ frames := 3, cells := 0, slots := 0, locals := 65 }) [.ref h, .int (nI sd)] (mW G h a σ) (kQv G (fun (uu : kS) => uu = mupd σ sd) (fun (uu : kS) => mW G h a uu)) := by
  refine kStart (cc := cX9_comesUpdate) (maxL := 2) (ret := none) (by decide) rfl (Nat.le_of_ble_eq_true rfl) (fun pg ev st mi bl mt cd A ls0 F hr hlocks hin hK hP0 hD0 hA hS0 hl0 => ?_)
  obtain ⟨hx, hb, hml, hown, hts⟩ := id F
  have hl0 : lv_has ls0 2 [(0, .ref h), (1, .int (nI sd))] := hl0
  have iX9 : ∀ w ∈ u_ws RX9 TX9 43, w ∈ wsX9_comesUpdate := fun w h => List.mem_cons_of_mem _ (List.mem_append_right _ h)
  refine lv_aload_n hx hb dX9_comesUpdate_0 rfl (lv_at hl0 0 rfl) ?_
  refine kget F hK hP0 9 0 29 iX9 rfl rfl (by decide) (List.mem_of_getElem? (i := 1) rfl) rfl dX9_comesUpdate_1 ?_
  refine lv_iconst (v := 1) hx hb dX9_comesUpdate_4 (by decide) ?_
  refine kild F hK hP0 20 1 rfl rfl (by decide) (Nat.le_of_ble_eq_true rfl) dX9_comesUpdate_5 ?_
  refine lv_aload_n hx hb dX9_comesUpdate_6 rfl (lv_at hl0 0 rfl) ?_
  refine lv_iload_n hx hb dX9_comesUpdate_7 rfl (lv_at hl0 1 rfl) ?_
  refine lv_iload_n hx hb dX9_comesUpdate_8 rfl (lv_at hl0 1 rfl) ?_
  refine kWVi F hK hP0 hD0 hS0 hA hl0.1 (c_X9_lock l G h a σ sd sd (by first | assumption | decide | omega) (by first | assumption | decide | omega)) 9 0 gX9_comesUpdate_X9_lock rfl 2 rfl (by decide +kernel) ⟨Nat.le_of_ble_eq_true rfl, Nat.le_of_ble_eq_true rfl⟩ ⟨Nat.zero_le _, Nat.zero_le _⟩ rfl rfl (Nat.le_of_ble_eq_true rfl) rfl dX9_comesUpdate_9 (fun r1 u1 H2 locs2 hw1 (hP2 : va_P G.1 vwCl (mW G h a σ) H2) (hD2 : va_D A (mW G h a σ)) hS2 => ?_)
  clear hP0 hD0 hS0
  have w1_0 : r1 = mlock σ sd sd := hw1
  refine lv_iconst (v := (-1)) hx hb dX9_comesUpdate_12 (by decide) ?_
  refine kPSi F hK hP2 hD2 hS2 hA hl0.1 (c_X9_mix l G r1 (-1)) (fun _ => rfl) gX9_comesUpdate_X9_mix rfl 2 rfl (by decide +kernel) ⟨Nat.le_of_ble_eq_true rfl, Nat.le_of_ble_eq_true rfl⟩ ⟨Nat.zero_le _, Nat.zero_le _⟩ (Nat.le_of_ble_eq_true rfl) rfl dX9_comesUpdate_13 (fun r3 u3 H4 locs4 hw3 (hP4 : va_P G.1 vwCl (mW G h a σ) H4) (hD4 : va_D A (mW G h a σ)) hS4 => ?_)
  clear hP2 hD2 hS2
  have w3_0 : r3 = kmix r1 (-1) := hw3
  refine lv_aload_n hx hb dX9_comesUpdate_16 rfl (lv_at hl0 0 rfl) ?_
  refine kget F hK hP4 9 0 11 iX9 rfl rfl (by decide) (List.mem_of_getElem? (i := 2) rfl) rfl dX9_comesUpdate_17 ?_
  refine lv_iconst (v := 2) hx hb dX9_comesUpdate_20 (by decide) ?_
  refine lv_iload_n hx hb dX9_comesUpdate_21 rfl (lv_at hl0 1 rfl) ?_
  refine lv_imul hx hb dX9_comesUpdate_22 ?_
  refine lv_iload_n hx hb dX9_comesUpdate_23 rfl (lv_at hl0 1 rfl) ?_
  refine lv_iadd hx hb dX9_comesUpdate_24 ?_
  refine kild F hK hP4 12 (2 * sd + sd) rfl mix_2 (by omega) (Nat.le_of_ble_eq_true rfl) dX9_comesUpdate_25 ?_
  refine kPSi F hK hP4 hD4 hS4 hA hl0.1 (c_X9_mix l G r3 (σ 11 (2 * sd + sd))) (fun _ => rfl) gX9_comesUpdate_X9_mix rfl 2 rfl (by decide +kernel) ⟨Nat.le_of_ble_eq_true rfl, Nat.le_of_ble_eq_true rfl⟩ ⟨Nat.zero_le _, Nat.zero_le _⟩ (Nat.le_of_ble_eq_true rfl) rfl dX9_comesUpdate_26 (fun r5 u5 H6 locs6 hw5 (hP6 : va_P G.1 vwCl (mW G h a σ) H6) (hD6 : va_D A (mW G h a σ)) hS6 => ?_)
  clear hP4 hD4 hS4
  have w5_0 : r5 = kmix r3 (σ 11 (2 * sd + sd)) := hw5
  refine lv_icmp_eq (tgt := 40) hx hb dX9_comesUpdate_29 (by decide) (fun c7 => ?_) (fun c7 => ?_)
  · refine lv_aload_n hx hb dX9_comesUpdate_40 rfl (lv_at hl0 0 rfl) ?_
    refine kget F hK hP6 9 0 10 iX9 rfl rfl (by decide) (List.mem_of_getElem? (i := 3) rfl) rfl dX9_comesUpdate_41 ?_
    refine lv_iconst (v := 2) hx hb dX9_comesUpdate_44 (by decide) ?_
    refine lv_iload_n hx hb dX9_comesUpdate_45 rfl (lv_at hl0 1 rfl) ?_
    refine lv_imul hx hb dX9_comesUpdate_46 ?_
    refine lv_iload_n hx hb dX9_comesUpdate_47 rfl (lv_at hl0 1 rfl) ?_
    refine lv_iadd hx hb dX9_comesUpdate_48 ?_
    refine lv_dup2_11 hx hb dX9_comesUpdate_49 rfl rfl ?_
    refine kild F hK hP6 11 (2 * sd + sd) rfl mix_2 (by omega) (Nat.le_of_ble_eq_true rfl) dX9_comesUpdate_50 ?_
    refine lv_iconst (v := 1) hx hb dX9_comesUpdate_51 (by decide) ?_
    refine lv_iadd hx hb dX9_comesUpdate_52 ?_
    refine kMst F hK hP6 hD6 hS6 10 11 (2 * sd + sd) rfl mix_2 (by omega) (Nat.le_of_ble_eq_true rfl) rfl dX9_comesUpdate_53 (fun H8 locs8 σ8 eσ8 hP8 hD8 hS8 => ?_)
    clear hP6 hD6 hS6
    refine lv_aload_n hx hb dX9_comesUpdate_54 rfl (lv_at hl0 0 rfl) ?_
    refine kget F hK hP8 9 0 11 iX9 rfl rfl (by decide) (List.mem_of_getElem? (i := 2) rfl) rfl dX9_comesUpdate_55 ?_
    refine lv_iconst (v := 2) hx hb dX9_comesUpdate_58 (by decide) ?_
    refine lv_iload_n hx hb dX9_comesUpdate_59 rfl (lv_at hl0 1 rfl) ?_
    refine lv_imul hx hb dX9_comesUpdate_60 ?_
    refine lv_iload_n hx hb dX9_comesUpdate_61 rfl (lv_at hl0 1 rfl) ?_
    refine lv_iadd hx hb dX9_comesUpdate_62 ?_
    refine lv_dup2_11 hx hb dX9_comesUpdate_63 rfl rfl ?_
    refine kild F hK hP8 12 (2 * sd + sd) rfl mix_2 (by omega) (Nat.le_of_ble_eq_true rfl) dX9_comesUpdate_64 ?_
    rw [show (σ8 11 (2 * sd + sd)) = (σ 11 (2 * sd + sd)) from by subst eσ8; first | rfl | (simp only [msend]; (repeat' split) <;> rfl)]
    refine lv_iconst (v := 1) hx hb dX9_comesUpdate_65 (by decide) ?_
    refine lv_iadd hx hb dX9_comesUpdate_66 ?_
    refine kMst F hK hP8 hD8 hS8 11 12 (2 * sd + sd) rfl mix_2 (by omega) (Nat.le_of_ble_eq_true rfl) rfl dX9_comesUpdate_67 (fun H9 locs9 σ9 eσ9 hP9 hD9 hS9 => ?_)
    clear hP8 hD8 hS8
    have q10 : σ9 = mupd σ sd := by
      subst eσ9
      subst eσ8
      subst w5_0
      subst w3_0
      subst w1_0
      first | (simp only [mupd, eq_true c7, eq_self, ↓reduceIte, and_self, and_true, true_and]; done) | (simp only [mupd, eq_true c7, eq_self, ↓reduceIte, and_self, and_true, true_and]; (try and_intros) <;> rfl)
    exact kRv F hr hlocks hS9 dX9_comesUpdate_68 σ9 q10 hP9 hD9
  · refine lv_aload_n hx hb dX9_comesUpdate_32 rfl (lv_at hl0 0 rfl) ?_
    refine lv_iload_n hx hb dX9_comesUpdate_33 rfl (lv_at hl0 1 rfl) ?_
    refine lv_bipush (v := 9) hx hb dX9_comesUpdate_34 (by decide) ?_
    refine kWVv F hK hP6 hD6 hS6 hA hl0.1 (c_X9_fails l G h a σ sd 9 (by first | assumption | decide | omega)) 9 0 gX9_comesUpdate_X9_fails rfl 2 rfl (by decide +kernel) ⟨Nat.le_of_ble_eq_true rfl, Nat.le_of_ble_eq_true rfl⟩ ⟨Nat.zero_le _, Nat.zero_le _⟩ rfl rfl (Nat.le_of_ble_eq_true rfl) rfl dX9_comesUpdate_36 (fun σ_11 H12 locs12 hw11 (hP12 : va_P G.1 vwCl (mW G h a σ_11) H12) (hD12 : va_D A (mW G h a σ_11)) hS12 => ?_)
    clear hP6 hD6 hS6
    have w11_0 : σ_11 = mfail σ sd 9 := hw11
    have q13 : σ_11 = mupd σ sd := by
      subst w11_0
      subst w5_0
      subst w3_0
      subst w1_0
      first | (simp only [mupd, c7, eq_self, ↓reduceIte, and_self, and_true, true_and]; done) | (simp only [mupd, c7, eq_self, ↓reduceIte, and_self, and_true, true_and]; (try and_intros) <;> rfl)
    exact kRv F hr hlocks hS12 dX9_comesUpdate_39 σ_11 q13 hP12 hD12
