set_option maxHeartbeats 1000000 in
set_option maxRecDepth 100000 in
theorem c_X5_placeA (l : Launch) (G : kG) (h : Nat) (pe : Nat) (ta : Nat) (sn : Nat) (sb : Nat) (s : Nat → Int32) (k : Nat → Nat) (T : Nat → Nat → Int32) (K : Nat) (hKe : s 2 = nI K) (lK : K < 3) : kM G l yX5_placeForTicket wsX5_placeForTicket ({ frames := 0, cells := 0, slots := 0, locals := 0 }) [.ref h] ([oSe h pe ta sn sb s, aT G ta 3 (krow3 k), oTi (k 0) (T 0), oTi (k 1) (T 1), oTi (k 2) (T 2)]) (kQr G (fun (uu : (Nat → Int32)) => uu = upd s 2 (s 2 + 1)) (fun (uu : (Nat → Int32)) => (k K)) (fun (uu : (Nat → Int32)) => [oSe h pe ta sn sb uu, aT G ta 3 (krow3 k), oTi (k 0) (T 0), oTi (k 1) (T 1), oTi (k 2) (T 2)])) := by
  refine kStart (cc := cX5_placeForTicket) (maxL := 3) (ret := (some (.object "ToyGreeting$Ticket"))) (by decide) rfl (Nat.le_of_ble_eq_true rfl) (fun pg ev st mi bl mt cd A ls0 F hr hlocks hin hK hP0 hD0 hA hS0 hl0 => ?_)
  obtain ⟨hx, hb, hml, hown, hts⟩ := id F
  have hl0 : lv_has ls0 3 [(0, .ref h)] := hl0
  have iX5 : ∀ w ∈ u_ws RX5 TX5 9, w ∈ wsX5_placeForTicket := fun w h => List.mem_cons_of_mem _ (List.mem_append_right _ h)
  refine lv_aload_n hx hb dX5_placeForTicket_0 rfl (lv_at hl0 0 rfl) ?_
  refine kget F hK hP0 5 0 2 iX5 rfl rfl (by decide) (List.mem_of_getElem? (i := 1) rfl) rfl dX5_placeForTicket_1 ?_
  refine lv_iconst (v := 3) hx hb dX5_placeForTicket_4 (by decide) ?_
  refine lv_icmp_ge (tgt := 30) hx hb dX5_placeForTicket_5 (by decide) (fun c1 => ?_) (fun c1 => ?_)
  · exact absurd c1 (by rw [hKe]; exact nI_ge (a := K) (b := 3) lK (by omega))
  · refine lv_aload_n hx hb dX5_placeForTicket_8 rfl (lv_at hl0 0 rfl) ?_
    refine lv_dup hx hb dX5_placeForTicket_9 rfl ?_
    refine kget F hK hP0 5 0 2 iX5 rfl rfl (by decide) (List.mem_of_getElem? (i := 1) rfl) rfl dX5_placeForTicket_10 ?_
    refine lv_iconst (v := 1) hx hb dX5_placeForTicket_13 (by decide) ?_
    refine lv_iadd hx hb dX5_placeForTicket_14 ?_
    refine kput F hK hP0 hD0 hS0 (ty0 := tyX5) 5 0 2 iX5 rfl tyX5_ok nmX5 (fun zz => [oSe h pe ta sn sb zz, aT G ta 3 (krow3 k), oTi (k 0) (T 0), oTi (k 1) (T 1), oTi (k 2) (T 2)]) s rfl (by decide) (List.mem_of_getElem? (i := 1) rfl) rfl rfl rfl (Nat.le_of_ble_eq_true rfl) rfl dX5_placeForTicket_15 (fun H2 locs2 s2 es2 (hP2 : va_P G.1 vwCl ([oSe h pe ta sn sb s2, aT G ta 3 (krow3 k), oTi (k 0) (T 0), oTi (k 1) (T 1), oTi (k 2) (T 2)]) H2) (hD2 : va_D A ([oSe h pe ta sn sb s2, aT G ta 3 (krow3 k), oTi (k 0) (T 0), oTi (k 1) (T 1), oTi (k 2) (T 2)])) hS2 => ?_)
    clear hP0 hD0 hS0
    refine lv_aload_n hx hb dX5_placeForTicket_18 rfl (lv_at hl0 0 rfl) ?_
    refine kget F hK hP2 5 0 1 iX5 rfl rfl (by decide) (List.mem_of_getElem? (i := 2) rfl) rfl dX5_placeForTicket_19 ?_
    refine lv_aload_n hx hb dX5_placeForTicket_22 rfl (lv_at hl0 0 rfl) ?_
    refine kget F hK hP2 5 0 2 iX5 rfl rfl (by decide) (List.mem_of_getElem? (i := 1) rfl) rfl dX5_placeForTicket_23 ?_
    refine lv_iconst (v := 1) hx hb dX5_placeForTicket_26 (by decide) ?_
    refine lv_isub hx hb dX5_placeForTicket_27 ?_
    refine kald F hK hP2 1 3 K (x := (k K)) rfl rfl (by subst es2; show s 2 + 1 - 1 = nI K; rw [hKe, nI_1, nI_pred]) lK (Nat.le_of_ble_eq_true rfl) (krow3_at lK) dX5_placeForTicket_28 ?_
    have q3 : s2 = upd s 2 (s 2 + 1) := by
      subst es2
      first | rfl | (simp only [c1, ↓reduceIte]; done) | (simp [c1]; done)
    exact kRr F hr hlocks hS2 dX5_placeForTicket_29 s2 q3 rfl hP2 hD2
set_option maxHeartbeats 1000000 in
set_option maxRecDepth 100000 in
theorem c_X5_placeB (l : Launch) (G : kG) (h : Nat) (pe : Nat) (ta : Nat) (sn : Nat) (sb : Nat) (s : Nat → Int32) (k : Nat → Nat) (T : Nat → Nat → Int32) (hKe : s 2 = nI 3) : kM G l yX5_placeForTicket wsX5_placeForTicket ({ frames := 0, cells := 0, slots := 0, locals := 0 }) [.ref h] ([oSe h pe ta sn sb s, aT G ta 3 (krow3 k), oTi (k 0) (T 0), oTi (k 1) (T 1), oTi (k 2) (T 2)]) (kQr G (fun (uu : Unit) => True) (fun (uu : Unit) => (k 0)) (fun (uu : Unit) => [oSe h pe ta sn sb s, aT G ta 3 (krow3 (krot3 k)), oTi (k 0) (T 0), oTi (k 1) (T 1), oTi (k 2) (T 2)])) := by
  refine kStart (cc := cX5_placeForTicket) (maxL := 3) (ret := (some (.object "ToyGreeting$Ticket"))) (by decide) rfl (Nat.le_of_ble_eq_true rfl) (fun pg ev st mi bl mt cd A ls0 F hr hlocks hin hK hP0 hD0 hA hS0 hl0 => ?_)
  obtain ⟨hx, hb, hml, hown, hts⟩ := id F
  have hl0 : lv_has ls0 3 [(0, .ref h)] := hl0
  have iX5 : ∀ w ∈ u_ws RX5 TX5 9, w ∈ wsX5_placeForTicket := fun w h => List.mem_cons_of_mem _ (List.mem_append_right _ h)
  refine lv_aload_n hx hb dX5_placeForTicket_0 rfl (lv_at hl0 0 rfl) ?_
  refine kget F hK hP0 5 0 2 iX5 rfl rfl (by decide) (List.mem_of_getElem? (i := 1) rfl) rfl dX5_placeForTicket_1 ?_
  refine lv_iconst (v := 3) hx hb dX5_placeForTicket_4 (by decide) ?_
  refine lv_icmp_ge (tgt := 30) hx hb dX5_placeForTicket_5 (by decide) (fun c1 => ?_) (fun c1 => ?_)
  · refine lv_aload_n hx hb dX5_placeForTicket_30 rfl (lv_at hl0 0 rfl) ?_
    refine kget F hK hP0 5 0 1 iX5 rfl rfl (by decide) (List.mem_of_getElem? (i := 2) rfl) rfl dX5_placeForTicket_31 ?_
    refine lv_iconst (v := 0) hx hb dX5_placeForTicket_34 (by decide) ?_
    refine kald F hK hP0 1 3 0 (x := (k 0)) rfl rfl rfl (by decide) (Nat.le_of_ble_eq_true rfl) (by rfl) dX5_placeForTicket_35 ?_
    refine lv_astore_n (lv' := [(1, .ref (k 0)), (0, .ref h)]) hx hb dX5_placeForTicket_36 rfl hl0 (by decide) rfl (fun ls2 hl2 => ?_)
    clear hl0
    refine lv_iconst (v := 1) hx hb dX5_placeForTicket_37 (by decide) ?_
    refine lv_istore_n (lv' := [(2, .int 1), (1, .ref (k 0)), (0, .ref h)]) hx hb dX5_placeForTicket_38 rfl hl2 (by decide) rfl (fun ls3 hl3 => ?_)
    clear hl2
    refine lv_iload_n hx hb dX5_placeForTicket_39 rfl (lv_at hl3 0 rfl) ?_
    refine lv_iconst (v := 3) hx hb dX5_placeForTicket_40 (by decide) ?_
    refine lv_icmp_ge (tgt := 64) hx hb dX5_placeForTicket_41 (by decide) (fun c4 => ?_) (fun c4 => ?_)
    · exact absurd c4 (by decide)
    · refine lv_aload_n hx hb dX5_placeForTicket_44 rfl (lv_at hl3 2 rfl) ?_
      refine kget F hK hP0 5 0 1 iX5 rfl rfl (by decide) (List.mem_of_getElem? (i := 2) rfl) rfl dX5_placeForTicket_45 ?_
      refine lv_iload_n hx hb dX5_placeForTicket_48 rfl (lv_at hl3 0 rfl) ?_
      refine lv_iconst (v := 1) hx hb dX5_placeForTicket_49 (by decide) ?_
      refine lv_isub hx hb dX5_placeForTicket_50 ?_
      rw [show (1 - 1 : Int32) = 0 from by decide]
      refine lv_aload_n hx hb dX5_placeForTicket_51 rfl (lv_at hl3 2 rfl) ?_
      refine kget F hK hP0 5 0 1 iX5 rfl rfl (by decide) (List.mem_of_getElem? (i := 2) rfl) rfl dX5_placeForTicket_52 ?_
      refine lv_iload_n hx hb dX5_placeForTicket_55 rfl (lv_at hl3 0 rfl) ?_
      refine kald F hK hP0 1 3 1 (x := (k 1)) rfl rfl rfl (by decide) (Nat.le_of_ble_eq_true rfl) (by rfl) dX5_placeForTicket_56 ?_
      refine kast F hK hP0 hD0 hS0 1 3 3 7 0 (fun zz => [oSe h pe ta sn sb s, aT G ta 3 zz, oTi (k 0) (T 0), oTi (k 1) (T 1), oTi (k 2) (T 2)]) rfl rfl rfl rfl rfl (by decide) (Nat.le_of_ble_eq_true rfl) rfl dX5_placeForTicket_57 (fun H6 locs6 w6 ew6 (hP6 : va_P G.1 vwCl ([oSe h pe ta sn sb s, aT G ta 3 w6, oTi (k 0) (T 0), oTi (k 1) (T 1), oTi (k 2) (T 2)]) H6) (hD6 : va_D A ([oSe h pe ta sn sb s, aT G ta 3 w6, oTi (k 0) (T 0), oTi (k 1) (T 1), oTi (k 2) (T 2)])) hS6 => ?_)
      clear hP0 hD0 hS0
      refine lv_iinc (v := 2) (lv' := [(2, .int 2), (1, .ref (k 0)), (0, .ref h)]) hx hb dX5_placeForTicket_58 hl3 (k := 0) rfl (by decide) (by decide) rfl (fun ls7 hl7 => ?_)
      clear hl3
      refine lv_goto (tgt := 39) hx hb dX5_placeForTicket_61 (by decide) ?_
      refine lv_iload_n hx hb dX5_placeForTicket_39 rfl (lv_at hl7 0 rfl) ?_
      refine lv_iconst (v := 3) hx hb dX5_placeForTicket_40 (by decide) ?_
      refine lv_icmp_ge (tgt := 64) hx hb dX5_placeForTicket_41 (by decide) (fun c8 => ?_) (fun c8 => ?_)
      · exact absurd c8 (by decide)
      · refine lv_aload_n hx hb dX5_placeForTicket_44 rfl (lv_at hl7 2 rfl) ?_
        refine kget F hK hP6 5 0 1 iX5 rfl rfl (by decide) (List.mem_of_getElem? (i := 2) rfl) rfl dX5_placeForTicket_45 ?_
        refine lv_iload_n hx hb dX5_placeForTicket_48 rfl (lv_at hl7 0 rfl) ?_
        refine lv_iconst (v := 1) hx hb dX5_placeForTicket_49 (by decide) ?_
        refine lv_isub hx hb dX5_placeForTicket_50 ?_
        rw [show (2 - 1 : Int32) = 1 from by decide]
        refine lv_aload_n hx hb dX5_placeForTicket_51 rfl (lv_at hl7 2 rfl) ?_
        refine kget F hK hP6 5 0 1 iX5 rfl rfl (by decide) (List.mem_of_getElem? (i := 2) rfl) rfl dX5_placeForTicket_52 ?_
        refine lv_iload_n hx hb dX5_placeForTicket_55 rfl (lv_at hl7 0 rfl) ?_
        refine kald F hK hP6 1 3 2 (x := (k 2)) rfl rfl rfl (by decide) (Nat.le_of_ble_eq_true rfl) (by subst ew6; rfl) dX5_placeForTicket_56 ?_
        refine kast F hK hP6 hD6 hS6 1 3 4 7 1 (fun zz => [oSe h pe ta sn sb s, aT G ta 3 zz, oTi (k 0) (T 0), oTi (k 1) (T 1), oTi (k 2) (T 2)]) rfl rfl rfl rfl rfl (by decide) (Nat.le_of_ble_eq_true rfl) rfl dX5_placeForTicket_57 (fun H10 locs10 w10 ew10 (hP10 : va_P G.1 vwCl ([oSe h pe ta sn sb s, aT G ta 3 w10, oTi (k 0) (T 0), oTi (k 1) (T 1), oTi (k 2) (T 2)]) H10) (hD10 : va_D A ([oSe h pe ta sn sb s, aT G ta 3 w10, oTi (k 0) (T 0), oTi (k 1) (T 1), oTi (k 2) (T 2)])) hS10 => ?_)
        clear hP6 hD6 hS6
        refine lv_iinc (v := 3) (lv' := [(2, .int 3), (1, .ref (k 0)), (0, .ref h)]) hx hb dX5_placeForTicket_58 hl7 (k := 0) rfl (by decide) (by decide) rfl (fun ls11 hl11 => ?_)
        clear hl7
        refine lv_goto (tgt := 39) hx hb dX5_placeForTicket_61 (by decide) ?_
        refine lv_iload_n hx hb dX5_placeForTicket_39 rfl (lv_at hl11 0 rfl) ?_
        refine lv_iconst (v := 3) hx hb dX5_placeForTicket_40 (by decide) ?_
        refine lv_icmp_ge (tgt := 64) hx hb dX5_placeForTicket_41 (by decide) (fun c12 => ?_) (fun c12 => ?_)
        · refine lv_aload_n hx hb dX5_placeForTicket_64 rfl (lv_at hl11 2 rfl) ?_
          refine kget F hK hP10 5 0 1 iX5 rfl rfl (by decide) (List.mem_of_getElem? (i := 2) rfl) rfl dX5_placeForTicket_65 ?_
          refine lv_iconst (v := 2) hx hb dX5_placeForTicket_68 (by decide) ?_
          refine lv_aload_n hx hb dX5_placeForTicket_69 rfl (lv_at hl11 1 rfl) ?_
          refine kast F hK hP10 hD10 hS10 1 3 2 7 2 (fun zz => [oSe h pe ta sn sb s, aT G ta 3 zz, oTi (k 0) (T 0), oTi (k 1) (T 1), oTi (k 2) (T 2)]) rfl rfl rfl rfl rfl (by decide) (Nat.le_of_ble_eq_true rfl) rfl dX5_placeForTicket_70 (fun H13 locs13 w13 ew13 (hP13 : va_P G.1 vwCl ([oSe h pe ta sn sb s, aT G ta 3 w13, oTi (k 0) (T 0), oTi (k 1) (T 1), oTi (k 2) (T 2)]) H13) (hD13 : va_D A ([oSe h pe ta sn sb s, aT G ta 3 w13, oTi (k 0) (T 0), oTi (k 1) (T 1), oTi (k 2) (T 2)])) hS13 => ?_)
          clear hP10 hD10 hS10
          refine lv_aload_n hx hb dX5_placeForTicket_71 rfl (lv_at hl11 1 rfl) ?_
          have hrow : w13 = krow3 (krot3 k) := by
            subst ew13
            subst ew10
            subst ew6
            exact krow3_rot k
          rw [hrow] at hP13 hD13
          have q14 : True := by
            subst ew13
            subst ew10
            subst ew6
            first | rfl | (simp only [c1, c4, c8, c12, ↓reduceIte]; done) | (simp [c1, c4, c8, c12]; done)
          exact kRr F hr hlocks hS13 dX5_placeForTicket_72 () q14 rfl hP13 hD13
        · exact absurd (by decide) c12
  · exact absurd (by rw [hKe]; decide) c1
set_option maxHeartbeats 1000000 in
set_option maxRecDepth 100000 in
theorem c_X5_makeTicketA (l : Launch) (G : kG) (h : Nat) (pe : Nat) (ta : Nat) (sn : Nat) (sb : Nat) (lc : Nat) (ls : Nat) (li : Nat) (lo : Nat) (dr : Nat) (da : Nat) (s : Nat → Int32) (p : Nat → Int32) (f : Nat → Int32) (k : Nat → Nat) (T : Nat → Nat → Int32) (rh : Nat) (w : Nat) (q : Nat → Nat) (d : Nat → Nat) (rp : Nat → Int32) (M : Nat → Nat → Int32) (L : Nat) (life : Int32) (now : Int32) (K : Nat) (hL : rp 1 = nI L) (hL8 : L ≤ 8) (hKe : s 2 = nI K) (lK : K < 3) : kM G l yX5_makeTicket wsX5_makeTicket ({ frames := 2, cells := 0, slots := 0, locals := 43 }) [.ref h, .int life, .int now, .ref rh] ([oSe h pe ta sn sb s, oPe pe lc ls li lo dr p, oMs dr da, aI G da 9 f, aT G ta 3 (krow3 k), oTi (k 0) (T 0), oTi (k 1) (T 1), oTi (k 2) (T 2), oRo rh w rp, aM G w 8 (krow q), oMs (q 0) (d 0), aI G (d 0) 9 (M 0), oMs (q 1) (d 1), aI G (d 1) 9 (M 1), oMs (q 2) (d 2), aI G (d 2) 9 (M 2), oMs (q 3) (d 3), aI G (d 3) 9 (M 3), oMs (q 4) (d 4), aI G (d 4) 9 (M 4), oMs (q 5) (d 5), aI G (d 5) 9 (M 5), oMs (q 6) (d 6), aI G (d 6) 9 (M 6), oMs (q 7) (d 7), aI G (d 7) 9 (M 7)]) (kQi G (fun (rr : Int32) (uu : (Nat → Int32) × (Nat → Int32) × (Nat → Nat → Int32) × (Nat → Int32) × (Nat → Nat → Int32)) => (rr = s 3 + 1) ∧ (uu.1 = upd (upd s 3 (s 3 + 1)) 2 (s 2 + 1)) ∧ (uu.2.1 = ktkm p f (s 3 + 1) life) ∧ (uu.2.2.1 = va_up T K (ktk (T K) (s 3 + 1) life now (kmix (p 10) (s 3 + 1)) (kmix (s 3 + 1) 77))) ∧ (uu.2.2.2.1 = ksendP L rp) ∧ (uu.2.2.2.2 = ksendM L M (ktkm p f (s 3 + 1) life))) (fun (uu : (Nat → Int32) × (Nat → Int32) × (Nat → Nat → Int32) × (Nat → Int32) × (Nat → Nat → Int32)) => [oSe h pe ta sn sb uu.1, oPe pe lc ls li lo dr p, oMs dr da, aI G da 9 uu.2.1, aT G ta 3 (krow3 k), oTi (k 0) (uu.2.2.1 0), oTi (k 1) (uu.2.2.1 1), oTi (k 2) (uu.2.2.1 2), oRo rh w uu.2.2.2.1, aM G w 8 (krow q), oMs (q 0) (d 0), aI G (d 0) 9 (uu.2.2.2.2 0), oMs (q 1) (d 1), aI G (d 1) 9 (uu.2.2.2.2 1), oMs (q 2) (d 2), aI G (d 2) 9 (uu.2.2.2.2 2), oMs (q 3) (d 3), aI G (d 3) 9 (uu.2.2.2.2 3), oMs (q 4) (d 4), aI G (d 4) 9 (uu.2.2.2.2 4), oMs (q 5) (d 5), aI G (d 5) 9 (uu.2.2.2.2 5), oMs (q 6) (d 6), aI G (d 6) 9 (uu.2.2.2.2 6), oMs (q 7) (d 7), aI G (d 7) 9 (uu.2.2.2.2 7)])) := by
  refine kStart (cc := cX5_makeTicket) (maxL := 5) (ret := (some .int)) (by decide) rfl (Nat.le_of_ble_eq_true rfl) (fun pg ev st mi bl mt cd A ls0 F hr hlocks hin hK hP0 hD0 hA hS0 hl0 => ?_)
  obtain ⟨hx, hb, hml, hown, hts⟩ := id F
  have hl0 : lv_has ls0 5 [(0, .ref h), (1, .int life), (2, .int now), (3, .ref rh)] := hl0
  have iX3 : ∀ w ∈ u_ws RX3 TX3 18, w ∈ wsX5_makeTicket := fun w h => List.mem_cons_of_mem _ (List.mem_append_left _ (List.mem_append_left _ (List.mem_append_right _ h)))
  have iX5 : ∀ w ∈ u_ws RX5 TX5 9, w ∈ wsX5_makeTicket := fun w h => List.mem_cons_of_mem _ (List.mem_append_left _ (List.mem_append_left _ (List.mem_append_left _ (List.mem_append_left _ (List.mem_append_right _ h)))))
  have iX7 : ∀ w ∈ u_ws RX7 TX7 5, w ∈ wsX5_makeTicket := fun w h => List.mem_cons_of_mem _ (List.mem_append_left _ (List.mem_append_left _ (List.mem_append_left _ (List.mem_append_right _ h))))
  refine lv_aload_n hx hb dX5_makeTicket_0 rfl (lv_at hl0 0 rfl) ?_
  refine lv_dup hx hb dX5_makeTicket_1 rfl ?_
  refine kget F hK hP0 5 0 3 iX5 rfl rfl (by decide) (List.mem_of_getElem? (i := 1) rfl) rfl dX5_makeTicket_2 ?_
  refine lv_iconst (v := 1) hx hb dX5_makeTicket_5 (by decide) ?_
  refine lv_iadd hx hb dX5_makeTicket_6 ?_
  refine kput F hK hP0 hD0 hS0 (ty0 := tyX5) 5 0 3 iX5 rfl tyX5_ok nmX5 (fun zz => [oSe h pe ta sn sb zz, oPe pe lc ls li lo dr p, oMs dr da, aI G da 9 f, aT G ta 3 (krow3 k), oTi (k 0) (T 0), oTi (k 1) (T 1), oTi (k 2) (T 2), oRo rh w rp, aM G w 8 (krow q), oMs (q 0) (d 0), aI G (d 0) 9 (M 0), oMs (q 1) (d 1), aI G (d 1) 9 (M 1), oMs (q 2) (d 2), aI G (d 2) 9 (M 2), oMs (q 3) (d 3), aI G (d 3) 9 (M 3), oMs (q 4) (d 4), aI G (d 4) 9 (M 4), oMs (q 5) (d 5), aI G (d 5) 9 (M 5), oMs (q 6) (d 6), aI G (d 6) 9 (M 6), oMs (q 7) (d 7), aI G (d 7) 9 (M 7)]) s rfl (by decide) (List.mem_of_getElem? (i := 1) rfl) rfl rfl rfl (Nat.le_of_ble_eq_true rfl) rfl dX5_makeTicket_7 (fun H1 locs1 s1 es1 (hP1 : va_P G.1 vwCl ([oSe h pe ta sn sb s1, oPe pe lc ls li lo dr p, oMs dr da, aI G da 9 f, aT G ta 3 (krow3 k), oTi (k 0) (T 0), oTi (k 1) (T 1), oTi (k 2) (T 2), oRo rh w rp, aM G w 8 (krow q), oMs (q 0) (d 0), aI G (d 0) 9 (M 0), oMs (q 1) (d 1), aI G (d 1) 9 (M 1), oMs (q 2) (d 2), aI G (d 2) 9 (M 2), oMs (q 3) (d 3), aI G (d 3) 9 (M 3), oMs (q 4) (d 4), aI G (d 4) 9 (M 4), oMs (q 5) (d 5), aI G (d 5) 9 (M 5), oMs (q 6) (d 6), aI G (d 6) 9 (M 6), oMs (q 7) (d 7), aI G (d 7) 9 (M 7)]) H1) (hD1 : va_D A ([oSe h pe ta sn sb s1, oPe pe lc ls li lo dr p, oMs dr da, aI G da 9 f, aT G ta 3 (krow3 k), oTi (k 0) (T 0), oTi (k 1) (T 1), oTi (k 2) (T 2), oRo rh w rp, aM G w 8 (krow q), oMs (q 0) (d 0), aI G (d 0) 9 (M 0), oMs (q 1) (d 1), aI G (d 1) 9 (M 1), oMs (q 2) (d 2), aI G (d 2) 9 (M 2), oMs (q 3) (d 3), aI G (d 3) 9 (M 3), oMs (q 4) (d 4), aI G (d 4) 9 (M 4), oMs (q 5) (d 5), aI G (d 5) 9 (M 5), oMs (q 6) (d 6), aI G (d 6) 9 (M 6), oMs (q 7) (d 7), aI G (d 7) 9 (M 7)])) hS1 => ?_)
  clear hP0 hD0 hS0
  refine lv_aload_n hx hb dX5_makeTicket_10 rfl (lv_at hl0 0 rfl) ?_
  rcases (show K = 0 ∨ K ≠ 0 by omega) with hj0 | hj0
  · subst hj0
    refine kVr (wr := [oPe pe lc ls li lo dr p, oMs dr da, aI G da 9 f, oRo rh w rp, aM G w 8 (krow q), oMs (q 0) (d 0), aI G (d 0) 9 (M 0), oMs (q 1) (d 1), aI G (d 1) 9 (M 1), oMs (q 2) (d 2), aI G (d 2) 9 (M 2), oMs (q 3) (d 3), aI G (d 3) 9 (M 3), oMs (q 4) (d 4), aI G (d 4) 9 (M 4), oMs (q 5) (d 5), aI G (d 5) 9 (M 5), oMs (q 6) (d 6), aI G (d 6) 9 (M 6), oMs (q 7) (d 7), aI G (d 7) 9 (M 7)]) F hK hP1 hD1 hS1 hA hl0.1 (c_X5_placeA l G h pe ta sn sb s1 k T 0 (by subst es1; exact hKe) (by decide)) [0, 4, 5, 6, 7] [1, 2, 3, 8, 9, 10, 11, 12, 13, 14, 15, 16, 17, 18, 19, 20, 21, 22, 23, 24, 25] 5 0 gX5_makeTicket_X5_placeForTicket rfl 0 rfl (by decide +kernel) ⟨Nat.le_of_ble_eq_true rfl, Nat.le_of_ble_eq_true rfl⟩ ⟨Nat.zero_le _, Nat.zero_le _⟩ rfl rfl rfl rfl (by decide) (by decide) (by decide) (Nat.le_of_ble_eq_true rfl) rfl dX5_makeTicket_11 (fun s_2 H3 locs3 hw2 (hP3 : va_P G.1 vwCl ([oPe pe lc ls li lo dr p, oMs dr da, aI G da 9 f, oRo rh w rp, aM G w 8 (krow q), oMs (q 0) (d 0), aI G (d 0) 9 (M 0), oMs (q 1) (d 1), aI G (d 1) 9 (M 1), oMs (q 2) (d 2), aI G (d 2) 9 (M 2), oMs (q 3) (d 3), aI G (d 3) 9 (M 3), oMs (q 4) (d 4), aI G (d 4) 9 (M 4), oMs (q 5) (d 5), aI G (d 5) 9 (M 5), oMs (q 6) (d 6), aI G (d 6) 9 (M 6), oMs (q 7) (d 7), aI G (d 7) 9 (M 7), oSe h pe ta sn sb s_2, aT G ta 3 (krow3 k), oTi (k 0) (T 0), oTi (k 1) (T 1), oTi (k 2) (T 2)]) H3) (hD3 : va_D A ([oPe pe lc ls li lo dr p, oMs dr da, aI G da 9 f, oRo rh w rp, aM G w 8 (krow q), oMs (q 0) (d 0), aI G (d 0) 9 (M 0), oMs (q 1) (d 1), aI G (d 1) 9 (M 1), oMs (q 2) (d 2), aI G (d 2) 9 (M 2), oMs (q 3) (d 3), aI G (d 3) 9 (M 3), oMs (q 4) (d 4), aI G (d 4) 9 (M 4), oMs (q 5) (d 5), aI G (d 5) 9 (M 5), oMs (q 6) (d 6), aI G (d 6) 9 (M 6), oMs (q 7) (d 7), aI G (d 7) 9 (M 7), oSe h pe ta sn sb s_2, aT G ta 3 (krow3 k), oTi (k 0) (T 0), oTi (k 1) (T 1), oTi (k 2) (T 2)])) hS3 => ?_)
    clear hP1 hD1 hS1
    have w2_0 : s_2 = upd s1 2 (s1 2 + 1) := hw2
    refine lv_astore (lv' := [(4, .ref (k 0)), (0, .ref h), (1, .int life), (2, .int now), (3, .ref rh)]) hx hb dX5_makeTicket_14 hl0 (by decide) rfl (fun ls4 hl4 => ?_)
    clear hl0
    refine lv_aload hx hb dX5_makeTicket_16 (lv_at hl4 0 rfl) ?_
    refine lv_aload_n hx hb dX5_makeTicket_18 rfl (lv_at hl4 1 rfl) ?_
    refine kget F hK hP3 5 21 3 iX5 rfl rfl (by decide) (List.mem_of_getElem? (i := 1) rfl) rfl dX5_makeTicket_19 ?_
    refine kput F hK hP3 hD3 hS3 (ty0 := tyX7) 7 23 0 iX7 rfl tyX7_ok nmX7 (fun zz => [oPe pe lc ls li lo dr p, oMs dr da, aI G da 9 f, oRo rh w rp, aM G w 8 (krow q), oMs (q 0) (d 0), aI G (d 0) 9 (M 0), oMs (q 1) (d 1), aI G (d 1) 9 (M 1), oMs (q 2) (d 2), aI G (d 2) 9 (M 2), oMs (q 3) (d 3), aI G (d 3) 9 (M 3), oMs (q 4) (d 4), aI G (d 4) 9 (M 4), oMs (q 5) (d 5), aI G (d 5) 9 (M 5), oMs (q 6) (d 6), aI G (d 6) 9 (M 6), oMs (q 7) (d 7), aI G (d 7) 9 (M 7), oSe h pe ta sn sb s_2, aT G ta 3 (krow3 k), oTi (k 0) zz, oTi (k 1) (T 1), oTi (k 2) (T 2)]) (T 0) rfl (by decide) (List.mem_of_getElem? (i := 2) rfl) rfl rfl rfl (Nat.le_of_ble_eq_true rfl) rfl dX5_makeTicket_22 (fun H5 locs5 tv5 etv5 (hP5 : va_P G.1 vwCl ([oPe pe lc ls li lo dr p, oMs dr da, aI G da 9 f, oRo rh w rp, aM G w 8 (krow q), oMs (q 0) (d 0), aI G (d 0) 9 (M 0), oMs (q 1) (d 1), aI G (d 1) 9 (M 1), oMs (q 2) (d 2), aI G (d 2) 9 (M 2), oMs (q 3) (d 3), aI G (d 3) 9 (M 3), oMs (q 4) (d 4), aI G (d 4) 9 (M 4), oMs (q 5) (d 5), aI G (d 5) 9 (M 5), oMs (q 6) (d 6), aI G (d 6) 9 (M 6), oMs (q 7) (d 7), aI G (d 7) 9 (M 7), oSe h pe ta sn sb s_2, aT G ta 3 (krow3 k), oTi (k 0) tv5, oTi (k 1) (T 1), oTi (k 2) (T 2)]) H5) (hD5 : va_D A ([oPe pe lc ls li lo dr p, oMs dr da, aI G da 9 f, oRo rh w rp, aM G w 8 (krow q), oMs (q 0) (d 0), aI G (d 0) 9 (M 0), oMs (q 1) (d 1), aI G (d 1) 9 (M 1), oMs (q 2) (d 2), aI G (d 2) 9 (M 2), oMs (q 3) (d 3), aI G (d 3) 9 (M 3), oMs (q 4) (d 4), aI G (d 4) 9 (M 4), oMs (q 5) (d 5), aI G (d 5) 9 (M 5), oMs (q 6) (d 6), aI G (d 6) 9 (M 6), oMs (q 7) (d 7), aI G (d 7) 9 (M 7), oSe h pe ta sn sb s_2, aT G ta 3 (krow3 k), oTi (k 0) tv5, oTi (k 1) (T 1), oTi (k 2) (T 2)])) hS5 => ?_)
    clear hP3 hD3 hS3
    refine lv_aload hx hb dX5_makeTicket_25 (lv_at hl4 0 rfl) ?_
    refine lv_iload_n hx hb dX5_makeTicket_27 rfl (lv_at hl4 2 rfl) ?_
    refine kput F hK hP5 hD5 hS5 (ty0 := tyX7) 7 23 1 iX7 rfl tyX7_ok nmX7 (fun zz => [oPe pe lc ls li lo dr p, oMs dr da, aI G da 9 f, oRo rh w rp, aM G w 8 (krow q), oMs (q 0) (d 0), aI G (d 0) 9 (M 0), oMs (q 1) (d 1), aI G (d 1) 9 (M 1), oMs (q 2) (d 2), aI G (d 2) 9 (M 2), oMs (q 3) (d 3), aI G (d 3) 9 (M 3), oMs (q 4) (d 4), aI G (d 4) 9 (M 4), oMs (q 5) (d 5), aI G (d 5) 9 (M 5), oMs (q 6) (d 6), aI G (d 6) 9 (M 6), oMs (q 7) (d 7), aI G (d 7) 9 (M 7), oSe h pe ta sn sb s_2, aT G ta 3 (krow3 k), oTi (k 0) zz, oTi (k 1) (T 1), oTi (k 2) (T 2)]) tv5 rfl (by decide) (List.mem_of_getElem? (i := 3) rfl) rfl rfl rfl (Nat.le_of_ble_eq_true rfl) rfl dX5_makeTicket_28 (fun H6 locs6 tv6 etv6 (hP6 : va_P G.1 vwCl ([oPe pe lc ls li lo dr p, oMs dr da, aI G da 9 f, oRo rh w rp, aM G w 8 (krow q), oMs (q 0) (d 0), aI G (d 0) 9 (M 0), oMs (q 1) (d 1), aI G (d 1) 9 (M 1), oMs (q 2) (d 2), aI G (d 2) 9 (M 2), oMs (q 3) (d 3), aI G (d 3) 9 (M 3), oMs (q 4) (d 4), aI G (d 4) 9 (M 4), oMs (q 5) (d 5), aI G (d 5) 9 (M 5), oMs (q 6) (d 6), aI G (d 6) 9 (M 6), oMs (q 7) (d 7), aI G (d 7) 9 (M 7), oSe h pe ta sn sb s_2, aT G ta 3 (krow3 k), oTi (k 0) tv6, oTi (k 1) (T 1), oTi (k 2) (T 2)]) H6) (hD6 : va_D A ([oPe pe lc ls li lo dr p, oMs dr da, aI G da 9 f, oRo rh w rp, aM G w 8 (krow q), oMs (q 0) (d 0), aI G (d 0) 9 (M 0), oMs (q 1) (d 1), aI G (d 1) 9 (M 1), oMs (q 2) (d 2), aI G (d 2) 9 (M 2), oMs (q 3) (d 3), aI G (d 3) 9 (M 3), oMs (q 4) (d 4), aI G (d 4) 9 (M 4), oMs (q 5) (d 5), aI G (d 5) 9 (M 5), oMs (q 6) (d 6), aI G (d 6) 9 (M 6), oMs (q 7) (d 7), aI G (d 7) 9 (M 7), oSe h pe ta sn sb s_2, aT G ta 3 (krow3 k), oTi (k 0) tv6, oTi (k 1) (T 1), oTi (k 2) (T 2)])) hS6 => ?_)
    clear hP5 hD5 hS5
    refine lv_aload hx hb dX5_makeTicket_31 (lv_at hl4 0 rfl) ?_
    refine lv_iload_n hx hb dX5_makeTicket_33 rfl (lv_at hl4 3 rfl) ?_
    refine kput F hK hP6 hD6 hS6 (ty0 := tyX7) 7 23 2 iX7 rfl tyX7_ok nmX7 (fun zz => [oPe pe lc ls li lo dr p, oMs dr da, aI G da 9 f, oRo rh w rp, aM G w 8 (krow q), oMs (q 0) (d 0), aI G (d 0) 9 (M 0), oMs (q 1) (d 1), aI G (d 1) 9 (M 1), oMs (q 2) (d 2), aI G (d 2) 9 (M 2), oMs (q 3) (d 3), aI G (d 3) 9 (M 3), oMs (q 4) (d 4), aI G (d 4) 9 (M 4), oMs (q 5) (d 5), aI G (d 5) 9 (M 5), oMs (q 6) (d 6), aI G (d 6) 9 (M 6), oMs (q 7) (d 7), aI G (d 7) 9 (M 7), oSe h pe ta sn sb s_2, aT G ta 3 (krow3 k), oTi (k 0) zz, oTi (k 1) (T 1), oTi (k 2) (T 2)]) tv6 rfl (by decide) (List.mem_of_getElem? (i := 4) rfl) rfl rfl rfl (Nat.le_of_ble_eq_true rfl) rfl dX5_makeTicket_34 (fun H7 locs7 tv7 etv7 (hP7 : va_P G.1 vwCl ([oPe pe lc ls li lo dr p, oMs dr da, aI G da 9 f, oRo rh w rp, aM G w 8 (krow q), oMs (q 0) (d 0), aI G (d 0) 9 (M 0), oMs (q 1) (d 1), aI G (d 1) 9 (M 1), oMs (q 2) (d 2), aI G (d 2) 9 (M 2), oMs (q 3) (d 3), aI G (d 3) 9 (M 3), oMs (q 4) (d 4), aI G (d 4) 9 (M 4), oMs (q 5) (d 5), aI G (d 5) 9 (M 5), oMs (q 6) (d 6), aI G (d 6) 9 (M 6), oMs (q 7) (d 7), aI G (d 7) 9 (M 7), oSe h pe ta sn sb s_2, aT G ta 3 (krow3 k), oTi (k 0) tv7, oTi (k 1) (T 1), oTi (k 2) (T 2)]) H7) (hD7 : va_D A ([oPe pe lc ls li lo dr p, oMs dr da, aI G da 9 f, oRo rh w rp, aM G w 8 (krow q), oMs (q 0) (d 0), aI G (d 0) 9 (M 0), oMs (q 1) (d 1), aI G (d 1) 9 (M 1), oMs (q 2) (d 2), aI G (d 2) 9 (M 2), oMs (q 3) (d 3), aI G (d 3) 9 (M 3), oMs (q 4) (d 4), aI G (d 4) 9 (M 4), oMs (q 5) (d 5), aI G (d 5) 9 (M 5), oMs (q 6) (d 6), aI G (d 6) 9 (M 6), oMs (q 7) (d 7), aI G (d 7) 9 (M 7), oSe h pe ta sn sb s_2, aT G ta 3 (krow3 k), oTi (k 0) tv7, oTi (k 1) (T 1), oTi (k 2) (T 2)])) hS7 => ?_)
    clear hP6 hD6 hS6
    refine lv_aload hx hb dX5_makeTicket_37 (lv_at hl4 0 rfl) ?_
    refine lv_aload_n hx hb dX5_makeTicket_39 rfl (lv_at hl4 1 rfl) ?_
    refine kget F hK hP7 5 21 0 iX5 rfl rfl (by decide) (List.mem_of_getElem? (i := 5) rfl) rfl dX5_makeTicket_40 ?_
    refine kget F hK hP7 3 0 10 iX3 rfl rfl (by decide) (List.mem_of_getElem? (i := 6) rfl) rfl dX5_makeTicket_43 ?_
    refine lv_aload_n hx hb dX5_makeTicket_46 rfl (lv_at hl4 1 rfl) ?_
    refine kget F hK hP7 5 21 3 iX5 rfl rfl (by decide) (List.mem_of_getElem? (i := 1) rfl) rfl dX5_makeTicket_47 ?_
    refine kPNi F hK hP7 hD7 hS7 hA hl4.1 (c_X8_mix l G (p 10) (s_2 3)) (fun _ => rfl) 16 rfl gX5_makeTicket_X8_mix_n54 (List.mem_of_getElem? (i := 17) rfl) (List.mem_of_getElem? (i := 18) rfl) rfl 2 rfl (by decide +kernel) ⟨Nat.le_of_ble_eq_true rfl, Nat.le_of_ble_eq_true rfl⟩ ⟨Nat.zero_le _, Nat.zero_le _⟩ (Nat.le_of_ble_eq_true rfl) rfl dX5_makeTicket_50 (fun r8 u8 H9 locs9 hw8 (hP9 : va_P G.1 vwCl ([oPe pe lc ls li lo dr p, oMs dr da, aI G da 9 f, oRo rh w rp, aM G w 8 (krow q), oMs (q 0) (d 0), aI G (d 0) 9 (M 0), oMs (q 1) (d 1), aI G (d 1) 9 (M 1), oMs (q 2) (d 2), aI G (d 2) 9 (M 2), oMs (q 3) (d 3), aI G (d 3) 9 (M 3), oMs (q 4) (d 4), aI G (d 4) 9 (M 4), oMs (q 5) (d 5), aI G (d 5) 9 (M 5), oMs (q 6) (d 6), aI G (d 6) 9 (M 6), oMs (q 7) (d 7), aI G (d 7) 9 (M 7), oSe h pe ta sn sb s_2, aT G ta 3 (krow3 k), oTi (k 0) tv7, oTi (k 1) (T 1), oTi (k 2) (T 2)]) H9) (hD9 : va_D A ([oPe pe lc ls li lo dr p, oMs dr da, aI G da 9 f, oRo rh w rp, aM G w 8 (krow q), oMs (q 0) (d 0), aI G (d 0) 9 (M 0), oMs (q 1) (d 1), aI G (d 1) 9 (M 1), oMs (q 2) (d 2), aI G (d 2) 9 (M 2), oMs (q 3) (d 3), aI G (d 3) 9 (M 3), oMs (q 4) (d 4), aI G (d 4) 9 (M 4), oMs (q 5) (d 5), aI G (d 5) 9 (M 5), oMs (q 6) (d 6), aI G (d 6) 9 (M 6), oMs (q 7) (d 7), aI G (d 7) 9 (M 7), oSe h pe ta sn sb s_2, aT G ta 3 (krow3 k), oTi (k 0) tv7, oTi (k 1) (T 1), oTi (k 2) (T 2)])) hS9 => ?_)
    clear hP7 hD7 hS7
    have w8_0 : r8 = kmix (p 10) (s_2 3) := hw8
    refine kput F hK hP9 hD9 hS9 (ty0 := tyX7) 7 23 3 iX7 rfl tyX7_ok nmX7 (fun zz => [oPe pe lc ls li lo dr p, oMs dr da, aI G da 9 f, oRo rh w rp, aM G w 8 (krow q), oMs (q 0) (d 0), aI G (d 0) 9 (M 0), oMs (q 1) (d 1), aI G (d 1) 9 (M 1), oMs (q 2) (d 2), aI G (d 2) 9 (M 2), oMs (q 3) (d 3), aI G (d 3) 9 (M 3), oMs (q 4) (d 4), aI G (d 4) 9 (M 4), oMs (q 5) (d 5), aI G (d 5) 9 (M 5), oMs (q 6) (d 6), aI G (d 6) 9 (M 6), oMs (q 7) (d 7), aI G (d 7) 9 (M 7), oSe h pe ta sn sb s_2, aT G ta 3 (krow3 k), oTi (k 0) zz, oTi (k 1) (T 1), oTi (k 2) (T 2)]) tv7 rfl (by decide) (List.mem_of_getElem? (i := 7) rfl) rfl rfl rfl (Nat.le_of_ble_eq_true rfl) rfl dX5_makeTicket_53 (fun H10 locs10 tv10 etv10 (hP10 : va_P G.1 vwCl ([oPe pe lc ls li lo dr p, oMs dr da, aI G da 9 f, oRo rh w rp, aM G w 8 (krow q), oMs (q 0) (d 0), aI G (d 0) 9 (M 0), oMs (q 1) (d 1), aI G (d 1) 9 (M 1), oMs (q 2) (d 2), aI G (d 2) 9 (M 2), oMs (q 3) (d 3), aI G (d 3) 9 (M 3), oMs (q 4) (d 4), aI G (d 4) 9 (M 4), oMs (q 5) (d 5), aI G (d 5) 9 (M 5), oMs (q 6) (d 6), aI G (d 6) 9 (M 6), oMs (q 7) (d 7), aI G (d 7) 9 (M 7), oSe h pe ta sn sb s_2, aT G ta 3 (krow3 k), oTi (k 0) tv10, oTi (k 1) (T 1), oTi (k 2) (T 2)]) H10) (hD10 : va_D A ([oPe pe lc ls li lo dr p, oMs dr da, aI G da 9 f, oRo rh w rp, aM G w 8 (krow q), oMs (q 0) (d 0), aI G (d 0) 9 (M 0), oMs (q 1) (d 1), aI G (d 1) 9 (M 1), oMs (q 2) (d 2), aI G (d 2) 9 (M 2), oMs (q 3) (d 3), aI G (d 3) 9 (M 3), oMs (q 4) (d 4), aI G (d 4) 9 (M 4), oMs (q 5) (d 5), aI G (d 5) 9 (M 5), oMs (q 6) (d 6), aI G (d 6) 9 (M 6), oMs (q 7) (d 7), aI G (d 7) 9 (M 7), oSe h pe ta sn sb s_2, aT G ta 3 (krow3 k), oTi (k 0) tv10, oTi (k 1) (T 1), oTi (k 2) (T 2)])) hS10 => ?_)
    clear hP9 hD9 hS9
    refine lv_aload hx hb dX5_makeTicket_56 (lv_at hl4 0 rfl) ?_
    refine lv_aload_n hx hb dX5_makeTicket_58 rfl (lv_at hl4 1 rfl) ?_
    refine kget F hK hP10 5 21 3 iX5 rfl rfl (by decide) (List.mem_of_getElem? (i := 1) rfl) rfl dX5_makeTicket_59 ?_
    refine lv_bipush (v := 77) hx hb dX5_makeTicket_62 (by decide) ?_
    refine kPNi F hK hP10 hD10 hS10 hA hl4.1 (c_X8_mix l G (s_2 3) 77) (fun _ => rfl) 16 rfl gX5_makeTicket_X8_mix_n54 (List.mem_of_getElem? (i := 17) rfl) (List.mem_of_getElem? (i := 18) rfl) rfl 2 rfl (by decide +kernel) ⟨Nat.le_of_ble_eq_true rfl, Nat.le_of_ble_eq_true rfl⟩ ⟨Nat.zero_le _, Nat.zero_le _⟩ (Nat.le_of_ble_eq_true rfl) rfl dX5_makeTicket_64 (fun r11 u11 H12 locs12 hw11 (hP12 : va_P G.1 vwCl ([oPe pe lc ls li lo dr p, oMs dr da, aI G da 9 f, oRo rh w rp, aM G w 8 (krow q), oMs (q 0) (d 0), aI G (d 0) 9 (M 0), oMs (q 1) (d 1), aI G (d 1) 9 (M 1), oMs (q 2) (d 2), aI G (d 2) 9 (M 2), oMs (q 3) (d 3), aI G (d 3) 9 (M 3), oMs (q 4) (d 4), aI G (d 4) 9 (M 4), oMs (q 5) (d 5), aI G (d 5) 9 (M 5), oMs (q 6) (d 6), aI G (d 6) 9 (M 6), oMs (q 7) (d 7), aI G (d 7) 9 (M 7), oSe h pe ta sn sb s_2, aT G ta 3 (krow3 k), oTi (k 0) tv10, oTi (k 1) (T 1), oTi (k 2) (T 2)]) H12) (hD12 : va_D A ([oPe pe lc ls li lo dr p, oMs dr da, aI G da 9 f, oRo rh w rp, aM G w 8 (krow q), oMs (q 0) (d 0), aI G (d 0) 9 (M 0), oMs (q 1) (d 1), aI G (d 1) 9 (M 1), oMs (q 2) (d 2), aI G (d 2) 9 (M 2), oMs (q 3) (d 3), aI G (d 3) 9 (M 3), oMs (q 4) (d 4), aI G (d 4) 9 (M 4), oMs (q 5) (d 5), aI G (d 5) 9 (M 5), oMs (q 6) (d 6), aI G (d 6) 9 (M 6), oMs (q 7) (d 7), aI G (d 7) 9 (M 7), oSe h pe ta sn sb s_2, aT G ta 3 (krow3 k), oTi (k 0) tv10, oTi (k 1) (T 1), oTi (k 2) (T 2)])) hS12 => ?_)
    clear hP10 hD10 hS10
    have w11_0 : r11 = kmix (s_2 3) 77 := hw11
    refine kput F hK hP12 hD12 hS12 (ty0 := tyX7) 7 23 4 iX7 rfl tyX7_ok nmX7 (fun zz => [oPe pe lc ls li lo dr p, oMs dr da, aI G da 9 f, oRo rh w rp, aM G w 8 (krow q), oMs (q 0) (d 0), aI G (d 0) 9 (M 0), oMs (q 1) (d 1), aI G (d 1) 9 (M 1), oMs (q 2) (d 2), aI G (d 2) 9 (M 2), oMs (q 3) (d 3), aI G (d 3) 9 (M 3), oMs (q 4) (d 4), aI G (d 4) 9 (M 4), oMs (q 5) (d 5), aI G (d 5) 9 (M 5), oMs (q 6) (d 6), aI G (d 6) 9 (M 6), oMs (q 7) (d 7), aI G (d 7) 9 (M 7), oSe h pe ta sn sb s_2, aT G ta 3 (krow3 k), oTi (k 0) zz, oTi (k 1) (T 1), oTi (k 2) (T 2)]) tv10 rfl (by decide) (List.mem_of_getElem? (i := 8) rfl) rfl rfl rfl (Nat.le_of_ble_eq_true rfl) rfl dX5_makeTicket_67 (fun H13 locs13 tv13 etv13 (hP13 : va_P G.1 vwCl ([oPe pe lc ls li lo dr p, oMs dr da, aI G da 9 f, oRo rh w rp, aM G w 8 (krow q), oMs (q 0) (d 0), aI G (d 0) 9 (M 0), oMs (q 1) (d 1), aI G (d 1) 9 (M 1), oMs (q 2) (d 2), aI G (d 2) 9 (M 2), oMs (q 3) (d 3), aI G (d 3) 9 (M 3), oMs (q 4) (d 4), aI G (d 4) 9 (M 4), oMs (q 5) (d 5), aI G (d 5) 9 (M 5), oMs (q 6) (d 6), aI G (d 6) 9 (M 6), oMs (q 7) (d 7), aI G (d 7) 9 (M 7), oSe h pe ta sn sb s_2, aT G ta 3 (krow3 k), oTi (k 0) tv13, oTi (k 1) (T 1), oTi (k 2) (T 2)]) H13) (hD13 : va_D A ([oPe pe lc ls li lo dr p, oMs dr da, aI G da 9 f, oRo rh w rp, aM G w 8 (krow q), oMs (q 0) (d 0), aI G (d 0) 9 (M 0), oMs (q 1) (d 1), aI G (d 1) 9 (M 1), oMs (q 2) (d 2), aI G (d 2) 9 (M 2), oMs (q 3) (d 3), aI G (d 3) 9 (M 3), oMs (q 4) (d 4), aI G (d 4) 9 (M 4), oMs (q 5) (d 5), aI G (d 5) 9 (M 5), oMs (q 6) (d 6), aI G (d 6) 9 (M 6), oMs (q 7) (d 7), aI G (d 7) 9 (M 7), oSe h pe ta sn sb s_2, aT G ta 3 (krow3 k), oTi (k 0) tv13, oTi (k 1) (T 1), oTi (k 2) (T 2)])) hS13 => ?_)
    clear hP12 hD12 hS12
    refine lv_aload_n hx hb dX5_makeTicket_70 rfl (lv_at hl4 1 rfl) ?_
    refine kget F hK hP13 5 21 0 iX5 rfl rfl (by decide) (List.mem_of_getElem? (i := 5) rfl) rfl dX5_makeTicket_71 ?_
    refine kget F hK hP13 3 0 17 iX3 rfl rfl (by decide) (List.mem_of_getElem? (i := 9) rfl) rfl dX5_makeTicket_74 ?_
    refine lv_iconst (v := 5) hx hb dX5_makeTicket_77 (by decide) ?_
    refine kVv (wr := [oPe pe lc ls li lo dr p, oRo rh w rp, aM G w 8 (krow q), oMs (q 0) (d 0), aI G (d 0) 9 (M 0), oMs (q 1) (d 1), aI G (d 1) 9 (M 1), oMs (q 2) (d 2), aI G (d 2) 9 (M 2), oMs (q 3) (d 3), aI G (d 3) 9 (M 3), oMs (q 4) (d 4), aI G (d 4) 9 (M 4), oMs (q 5) (d 5), aI G (d 5) 9 (M 5), oMs (q 6) (d 6), aI G (d 6) 9 (M 6), oMs (q 7) (d 7), aI G (d 7) 9 (M 7), oSe h pe ta sn sb s_2, aT G ta 3 (krow3 k), oTi (k 0) tv13, oTi (k 1) (T 1), oTi (k 2) (T 2)]) F hK hP13 hD13 hS13 hA hl4.1 (c_X2_begin l G dr da f 5) [1, 2] [0, 3, 4, 5, 6, 7, 8, 9, 10, 11, 12, 13, 14, 15, 16, 17, 18, 19, 20, 21, 22, 23, 24, 25] 2 0 gX5_makeTicket_X2_begin rfl 1 rfl (by decide +kernel) ⟨Nat.le_of_ble_eq_true rfl, Nat.le_of_ble_eq_true rfl⟩ ⟨Nat.zero_le _, Nat.zero_le _⟩ rfl rfl rfl rfl (by decide) (by decide) (by decide) (Nat.le_of_ble_eq_true rfl) rfl dX5_makeTicket_78 (fun f_14 H15 locs15 hw14 (hP15 : va_P G.1 vwCl ([oPe pe lc ls li lo dr p, oRo rh w rp, aM G w 8 (krow q), oMs (q 0) (d 0), aI G (d 0) 9 (M 0), oMs (q 1) (d 1), aI G (d 1) 9 (M 1), oMs (q 2) (d 2), aI G (d 2) 9 (M 2), oMs (q 3) (d 3), aI G (d 3) 9 (M 3), oMs (q 4) (d 4), aI G (d 4) 9 (M 4), oMs (q 5) (d 5), aI G (d 5) 9 (M 5), oMs (q 6) (d 6), aI G (d 6) 9 (M 6), oMs (q 7) (d 7), aI G (d 7) 9 (M 7), oSe h pe ta sn sb s_2, aT G ta 3 (krow3 k), oTi (k 0) tv13, oTi (k 1) (T 1), oTi (k 2) (T 2), oMs dr da, aI G da 9 f_14]) H15) (hD15 : va_D A ([oPe pe lc ls li lo dr p, oRo rh w rp, aM G w 8 (krow q), oMs (q 0) (d 0), aI G (d 0) 9 (M 0), oMs (q 1) (d 1), aI G (d 1) 9 (M 1), oMs (q 2) (d 2), aI G (d 2) 9 (M 2), oMs (q 3) (d 3), aI G (d 3) 9 (M 3), oMs (q 4) (d 4), aI G (d 4) 9 (M 4), oMs (q 5) (d 5), aI G (d 5) 9 (M 5), oMs (q 6) (d 6), aI G (d 6) 9 (M 6), oMs (q 7) (d 7), aI G (d 7) 9 (M 7), oSe h pe ta sn sb s_2, aT G ta 3 (krow3 k), oTi (k 0) tv13, oTi (k 1) (T 1), oTi (k 2) (T 2), oMs dr da, aI G da 9 f_14])) hS15 => ?_)
    clear hP13 hD13 hS13
    have w14_0 : f_14 = kbeg f 5 := hw14
    refine lv_aload_n hx hb dX5_makeTicket_81 rfl (lv_at hl4 1 rfl) ?_
    refine kget F hK hP15 5 19 0 iX5 rfl rfl (by decide) (List.mem_of_getElem? (i := 5) rfl) rfl dX5_makeTicket_82 ?_
    refine kget F hK hP15 3 0 17 iX3 rfl rfl (by decide) (List.mem_of_getElem? (i := 9) rfl) rfl dX5_makeTicket_85 ?_
    refine lv_iconst (v := 1) hx hb dX5_makeTicket_88 (by decide) ?_
    refine lv_aload_n hx hb dX5_makeTicket_89 rfl (lv_at hl4 1 rfl) ?_
    refine kget F hK hP15 5 19 3 iX5 rfl rfl (by decide) (List.mem_of_getElem? (i := 1) rfl) rfl dX5_makeTicket_90 ?_
    refine kVv (wr := [oPe pe lc ls li lo dr p, oRo rh w rp, aM G w 8 (krow q), oMs (q 0) (d 0), aI G (d 0) 9 (M 0), oMs (q 1) (d 1), aI G (d 1) 9 (M 1), oMs (q 2) (d 2), aI G (d 2) 9 (M 2), oMs (q 3) (d 3), aI G (d 3) 9 (M 3), oMs (q 4) (d 4), aI G (d 4) 9 (M 4), oMs (q 5) (d 5), aI G (d 5) 9 (M 5), oMs (q 6) (d 6), aI G (d 6) 9 (M 6), oMs (q 7) (d 7), aI G (d 7) 9 (M 7), oSe h pe ta sn sb s_2, aT G ta 3 (krow3 k), oTi (k 0) tv13, oTi (k 1) (T 1), oTi (k 2) (T 2)]) F hK hP15 hD15 hS15 hA hl4.1 (c_X2_put l G dr da f_14 1 (s_2 3) (by first | assumption | decide | omega)) [24, 25] [0, 1, 2, 3, 4, 5, 6, 7, 8, 9, 10, 11, 12, 13, 14, 15, 16, 17, 18, 19, 20, 21, 22, 23] 2 0 gX5_makeTicket_X2_put rfl 2 rfl (by decide +kernel) ⟨Nat.le_of_ble_eq_true rfl, Nat.le_of_ble_eq_true rfl⟩ ⟨Nat.zero_le _, Nat.zero_le _⟩ rfl rfl rfl rfl (by decide) (by decide) (by decide) (Nat.le_of_ble_eq_true rfl) rfl dX5_makeTicket_93 (fun f_16 H17 locs17 hw16 (hP17 : va_P G.1 vwCl ([oPe pe lc ls li lo dr p, oRo rh w rp, aM G w 8 (krow q), oMs (q 0) (d 0), aI G (d 0) 9 (M 0), oMs (q 1) (d 1), aI G (d 1) 9 (M 1), oMs (q 2) (d 2), aI G (d 2) 9 (M 2), oMs (q 3) (d 3), aI G (d 3) 9 (M 3), oMs (q 4) (d 4), aI G (d 4) 9 (M 4), oMs (q 5) (d 5), aI G (d 5) 9 (M 5), oMs (q 6) (d 6), aI G (d 6) 9 (M 6), oMs (q 7) (d 7), aI G (d 7) 9 (M 7), oSe h pe ta sn sb s_2, aT G ta 3 (krow3 k), oTi (k 0) tv13, oTi (k 1) (T 1), oTi (k 2) (T 2), oMs dr da, aI G da 9 f_16]) H17) (hD17 : va_D A ([oPe pe lc ls li lo dr p, oRo rh w rp, aM G w 8 (krow q), oMs (q 0) (d 0), aI G (d 0) 9 (M 0), oMs (q 1) (d 1), aI G (d 1) 9 (M 1), oMs (q 2) (d 2), aI G (d 2) 9 (M 2), oMs (q 3) (d 3), aI G (d 3) 9 (M 3), oMs (q 4) (d 4), aI G (d 4) 9 (M 4), oMs (q 5) (d 5), aI G (d 5) 9 (M 5), oMs (q 6) (d 6), aI G (d 6) 9 (M 6), oMs (q 7) (d 7), aI G (d 7) 9 (M 7), oSe h pe ta sn sb s_2, aT G ta 3 (krow3 k), oTi (k 0) tv13, oTi (k 1) (T 1), oTi (k 2) (T 2), oMs dr da, aI G da 9 f_16])) hS17 => ?_)
    clear hP15 hD15 hS15
    have w16_0 : f_16 = upd f_14 1 (s_2 3) := hw16
    refine lv_aload_n hx hb dX5_makeTicket_96 rfl (lv_at hl4 1 rfl) ?_
    refine kget F hK hP17 5 19 0 iX5 rfl rfl (by decide) (List.mem_of_getElem? (i := 5) rfl) rfl dX5_makeTicket_97 ?_
    refine kget F hK hP17 3 0 17 iX3 rfl rfl (by decide) (List.mem_of_getElem? (i := 9) rfl) rfl dX5_makeTicket_100 ?_
    refine lv_iconst (v := 2) hx hb dX5_makeTicket_103 (by decide) ?_
    refine lv_aload hx hb dX5_makeTicket_104 (lv_at hl4 0 rfl) ?_
    refine kget F hK hP17 7 21 4 iX7 rfl rfl (by decide) (List.mem_of_getElem? (i := 8) rfl) rfl dX5_makeTicket_106 ?_
    refine kVv (wr := [oPe pe lc ls li lo dr p, oRo rh w rp, aM G w 8 (krow q), oMs (q 0) (d 0), aI G (d 0) 9 (M 0), oMs (q 1) (d 1), aI G (d 1) 9 (M 1), oMs (q 2) (d 2), aI G (d 2) 9 (M 2), oMs (q 3) (d 3), aI G (d 3) 9 (M 3), oMs (q 4) (d 4), aI G (d 4) 9 (M 4), oMs (q 5) (d 5), aI G (d 5) 9 (M 5), oMs (q 6) (d 6), aI G (d 6) 9 (M 6), oMs (q 7) (d 7), aI G (d 7) 9 (M 7), oSe h pe ta sn sb s_2, aT G ta 3 (krow3 k), oTi (k 0) tv13, oTi (k 1) (T 1), oTi (k 2) (T 2)]) F hK hP17 hD17 hS17 hA hl4.1 (c_X2_put l G dr da f_16 2 (tv13 4) (by first | assumption | decide | omega)) [24, 25] [0, 1, 2, 3, 4, 5, 6, 7, 8, 9, 10, 11, 12, 13, 14, 15, 16, 17, 18, 19, 20, 21, 22, 23] 2 0 gX5_makeTicket_X2_put rfl 2 rfl (by decide +kernel) ⟨Nat.le_of_ble_eq_true rfl, Nat.le_of_ble_eq_true rfl⟩ ⟨Nat.zero_le _, Nat.zero_le _⟩ rfl rfl rfl rfl (by decide) (by decide) (by decide) (Nat.le_of_ble_eq_true rfl) rfl dX5_makeTicket_109 (fun f_18 H19 locs19 hw18 (hP19 : va_P G.1 vwCl ([oPe pe lc ls li lo dr p, oRo rh w rp, aM G w 8 (krow q), oMs (q 0) (d 0), aI G (d 0) 9 (M 0), oMs (q 1) (d 1), aI G (d 1) 9 (M 1), oMs (q 2) (d 2), aI G (d 2) 9 (M 2), oMs (q 3) (d 3), aI G (d 3) 9 (M 3), oMs (q 4) (d 4), aI G (d 4) 9 (M 4), oMs (q 5) (d 5), aI G (d 5) 9 (M 5), oMs (q 6) (d 6), aI G (d 6) 9 (M 6), oMs (q 7) (d 7), aI G (d 7) 9 (M 7), oSe h pe ta sn sb s_2, aT G ta 3 (krow3 k), oTi (k 0) tv13, oTi (k 1) (T 1), oTi (k 2) (T 2), oMs dr da, aI G da 9 f_18]) H19) (hD19 : va_D A ([oPe pe lc ls li lo dr p, oRo rh w rp, aM G w 8 (krow q), oMs (q 0) (d 0), aI G (d 0) 9 (M 0), oMs (q 1) (d 1), aI G (d 1) 9 (M 1), oMs (q 2) (d 2), aI G (d 2) 9 (M 2), oMs (q 3) (d 3), aI G (d 3) 9 (M 3), oMs (q 4) (d 4), aI G (d 4) 9 (M 4), oMs (q 5) (d 5), aI G (d 5) 9 (M 5), oMs (q 6) (d 6), aI G (d 6) 9 (M 6), oMs (q 7) (d 7), aI G (d 7) 9 (M 7), oSe h pe ta sn sb s_2, aT G ta 3 (krow3 k), oTi (k 0) tv13, oTi (k 1) (T 1), oTi (k 2) (T 2), oMs dr da, aI G da 9 f_18])) hS19 => ?_)
    clear hP17 hD17 hS17
    have w18_0 : f_18 = upd f_16 2 (tv13 4) := hw18
    refine lv_aload_n hx hb dX5_makeTicket_112 rfl (lv_at hl4 1 rfl) ?_
    refine kget F hK hP19 5 19 0 iX5 rfl rfl (by decide) (List.mem_of_getElem? (i := 5) rfl) rfl dX5_makeTicket_113 ?_
    refine kget F hK hP19 3 0 17 iX3 rfl rfl (by decide) (List.mem_of_getElem? (i := 9) rfl) rfl dX5_makeTicket_116 ?_
    refine lv_iconst (v := 3) hx hb dX5_makeTicket_119 (by decide) ?_
    refine lv_iload_n hx hb dX5_makeTicket_120 rfl (lv_at hl4 2 rfl) ?_
    refine kVv (wr := [oPe pe lc ls li lo dr p, oRo rh w rp, aM G w 8 (krow q), oMs (q 0) (d 0), aI G (d 0) 9 (M 0), oMs (q 1) (d 1), aI G (d 1) 9 (M 1), oMs (q 2) (d 2), aI G (d 2) 9 (M 2), oMs (q 3) (d 3), aI G (d 3) 9 (M 3), oMs (q 4) (d 4), aI G (d 4) 9 (M 4), oMs (q 5) (d 5), aI G (d 5) 9 (M 5), oMs (q 6) (d 6), aI G (d 6) 9 (M 6), oMs (q 7) (d 7), aI G (d 7) 9 (M 7), oSe h pe ta sn sb s_2, aT G ta 3 (krow3 k), oTi (k 0) tv13, oTi (k 1) (T 1), oTi (k 2) (T 2)]) F hK hP19 hD19 hS19 hA hl4.1 (c_X2_put l G dr da f_18 3 life (by first | assumption | decide | omega)) [24, 25] [0, 1, 2, 3, 4, 5, 6, 7, 8, 9, 10, 11, 12, 13, 14, 15, 16, 17, 18, 19, 20, 21, 22, 23] 2 0 gX5_makeTicket_X2_put rfl 2 rfl (by decide +kernel) ⟨Nat.le_of_ble_eq_true rfl, Nat.le_of_ble_eq_true rfl⟩ ⟨Nat.zero_le _, Nat.zero_le _⟩ rfl rfl rfl rfl (by decide) (by decide) (by decide) (Nat.le_of_ble_eq_true rfl) rfl dX5_makeTicket_121 (fun f_20 H21 locs21 hw20 (hP21 : va_P G.1 vwCl ([oPe pe lc ls li lo dr p, oRo rh w rp, aM G w 8 (krow q), oMs (q 0) (d 0), aI G (d 0) 9 (M 0), oMs (q 1) (d 1), aI G (d 1) 9 (M 1), oMs (q 2) (d 2), aI G (d 2) 9 (M 2), oMs (q 3) (d 3), aI G (d 3) 9 (M 3), oMs (q 4) (d 4), aI G (d 4) 9 (M 4), oMs (q 5) (d 5), aI G (d 5) 9 (M 5), oMs (q 6) (d 6), aI G (d 6) 9 (M 6), oMs (q 7) (d 7), aI G (d 7) 9 (M 7), oSe h pe ta sn sb s_2, aT G ta 3 (krow3 k), oTi (k 0) tv13, oTi (k 1) (T 1), oTi (k 2) (T 2), oMs dr da, aI G da 9 f_20]) H21) (hD21 : va_D A ([oPe pe lc ls li lo dr p, oRo rh w rp, aM G w 8 (krow q), oMs (q 0) (d 0), aI G (d 0) 9 (M 0), oMs (q 1) (d 1), aI G (d 1) 9 (M 1), oMs (q 2) (d 2), aI G (d 2) 9 (M 2), oMs (q 3) (d 3), aI G (d 3) 9 (M 3), oMs (q 4) (d 4), aI G (d 4) 9 (M 4), oMs (q 5) (d 5), aI G (d 5) 9 (M 5), oMs (q 6) (d 6), aI G (d 6) 9 (M 6), oMs (q 7) (d 7), aI G (d 7) 9 (M 7), oSe h pe ta sn sb s_2, aT G ta 3 (krow3 k), oTi (k 0) tv13, oTi (k 1) (T 1), oTi (k 2) (T 2), oMs dr da, aI G da 9 f_20])) hS21 => ?_)
    clear hP19 hD19 hS19
    have w20_0 : f_20 = upd f_18 3 life := hw20
    refine lv_aload_n hx hb dX5_makeTicket_124 rfl (lv_at hl4 4 rfl) ?_
    refine lv_aload_n hx hb dX5_makeTicket_125 rfl (lv_at hl4 1 rfl) ?_
    refine kget F hK hP21 5 19 0 iX5 rfl rfl (by decide) (List.mem_of_getElem? (i := 5) rfl) rfl dX5_makeTicket_126 ?_
    refine kget F hK hP21 3 0 17 iX3 rfl rfl (by decide) (List.mem_of_getElem? (i := 9) rfl) rfl dX5_makeTicket_129 ?_
    refine kVv (wr := [oPe pe lc ls li lo dr p, oSe h pe ta sn sb s_2, aT G ta 3 (krow3 k), oTi (k 0) tv13, oTi (k 1) (T 1), oTi (k 2) (T 2)]) F hK hP21 hD21 hS21 hA hl4.1 (c_X4_send l G rh w q d rp M dr da f_20 L hL hL8) [1, 2, 3, 4, 5, 6, 7, 8, 9, 10, 11, 12, 13, 14, 15, 16, 17, 18, 24, 25] [0, 19, 20, 21, 22, 23] 4 0 gX5_makeTicket_X4_send rfl 1 rfl (by decide +kernel) ⟨Nat.le_of_ble_eq_true rfl, Nat.le_of_ble_eq_true rfl⟩ ⟨Nat.zero_le _, Nat.zero_le _⟩ rfl rfl rfl rfl (by decide) (by decide) (by decide) (Nat.le_of_ble_eq_true rfl) rfl dX5_makeTicket_132 (fun u22 H23 locs23 hw22 hP23 hD23 hS23 => ?_)
    obtain ⟨p_22, M_22⟩ := u22
    have hP23 : va_P G.1 vwCl ([oPe pe lc ls li lo dr p, oSe h pe ta sn sb s_2, aT G ta 3 (krow3 k), oTi (k 0) tv13, oTi (k 1) (T 1), oTi (k 2) (T 2), oRo rh w p_22, aM G w 8 (krow q), oMs (q 0) (d 0), aI G (d 0) 9 (M_22 0), oMs (q 1) (d 1), aI G (d 1) 9 (M_22 1), oMs (q 2) (d 2), aI G (d 2) 9 (M_22 2), oMs (q 3) (d 3), aI G (d 3) 9 (M_22 3), oMs (q 4) (d 4), aI G (d 4) 9 (M_22 4), oMs (q 5) (d 5), aI G (d 5) 9 (M_22 5), oMs (q 6) (d 6), aI G (d 6) 9 (M_22 6), oMs (q 7) (d 7), aI G (d 7) 9 (M_22 7), oMs dr da, aI G da 9 f_20]) H23 := hP23
    have hD23 : va_D A ([oPe pe lc ls li lo dr p, oSe h pe ta sn sb s_2, aT G ta 3 (krow3 k), oTi (k 0) tv13, oTi (k 1) (T 1), oTi (k 2) (T 2), oRo rh w p_22, aM G w 8 (krow q), oMs (q 0) (d 0), aI G (d 0) 9 (M_22 0), oMs (q 1) (d 1), aI G (d 1) 9 (M_22 1), oMs (q 2) (d 2), aI G (d 2) 9 (M_22 2), oMs (q 3) (d 3), aI G (d 3) 9 (M_22 3), oMs (q 4) (d 4), aI G (d 4) 9 (M_22 4), oMs (q 5) (d 5), aI G (d 5) 9 (M_22 5), oMs (q 6) (d 6), aI G (d 6) 9 (M_22 6), oMs (q 7) (d 7), aI G (d 7) 9 (M_22 7), oMs dr da, aI G da 9 f_20]) := hD23
    clear hP21 hD21 hS21
    have w22_0 : p_22 = ksendP L rp := hw22.1
    have w22_1 : M_22 = ksendM L M f_20 := hw22.2
    refine lv_aload_n hx hb dX5_makeTicket_135 rfl (lv_at hl4 1 rfl) ?_
    refine kget F hK hP23 5 1 3 iX5 rfl rfl (by decide) (List.mem_of_getElem? (i := 1) rfl) rfl dX5_makeTicket_136 ?_
    have q24 : ((s_2 3) = s 3 + 1) ∧ (s_2 = upd (upd s 3 (s 3 + 1)) 2 (s 2 + 1)) ∧ (f_20 = ktkm p f (s 3 + 1) life) ∧ ((va_up T 0 tv13) = va_up T 0 (ktk (T 0) (s 3 + 1) life now (kmix (p 10) (s 3 + 1)) (kmix (s 3 + 1) 77))) ∧ (p_22 = ksendP L rp) ∧ (M_22 = ksendM L M (ktkm p f (s 3 + 1) life)) := by
      subst w22_1
      subst w22_0
      subst w20_0
      subst w18_0
      subst w16_0
      subst w14_0
      subst etv13
      subst w11_0
      subst etv10
      subst w8_0
      subst etv7
      subst etv6
      subst etv5
      subst w2_0
      subst es1
      first | (simp only [eq_self, ↓reduceIte, and_self, and_true, true_and]; done) | (simp only [eq_self, ↓reduceIte, and_self, and_true, true_and]; (try and_intros) <;> rfl) | exact ⟨rfl, rfl, rfl, rfl, rfl, rfl⟩
    exact kRi F hr hlocks hS23 dX5_makeTicket_139 ⟨s_2, f_20, (va_up T 0 tv13), p_22, M_22⟩ q24 (hP23.sub [1, 0, 24, 25, 2, 3, 4, 5, 6, 7, 8, 9, 10, 11, 12, 13, 14, 15, 16, 17, 18, 19, 20, 21, 22, 23] rfl) (hD23.sub [1, 0, 24, 25, 2, 3, 4, 5, 6, 7, 8, 9, 10, 11, 12, 13, 14, 15, 16, 17, 18, 19, 20, 21, 22, 23] (by decide) rfl)
  rcases (show K = 1 ∨ K ≠ 1 by omega) with hj1 | hj1
  · subst hj1
    refine kVr (wr := [oPe pe lc ls li lo dr p, oMs dr da, aI G da 9 f, oRo rh w rp, aM G w 8 (krow q), oMs (q 0) (d 0), aI G (d 0) 9 (M 0), oMs (q 1) (d 1), aI G (d 1) 9 (M 1), oMs (q 2) (d 2), aI G (d 2) 9 (M 2), oMs (q 3) (d 3), aI G (d 3) 9 (M 3), oMs (q 4) (d 4), aI G (d 4) 9 (M 4), oMs (q 5) (d 5), aI G (d 5) 9 (M 5), oMs (q 6) (d 6), aI G (d 6) 9 (M 6), oMs (q 7) (d 7), aI G (d 7) 9 (M 7)]) F hK hP1 hD1 hS1 hA hl0.1 (c_X5_placeA l G h pe ta sn sb s1 k T 1 (by subst es1; exact hKe) (by decide)) [0, 4, 5, 6, 7] [1, 2, 3, 8, 9, 10, 11, 12, 13, 14, 15, 16, 17, 18, 19, 20, 21, 22, 23, 24, 25] 5 0 gX5_makeTicket_X5_placeForTicket rfl 0 rfl (by decide +kernel) ⟨Nat.le_of_ble_eq_true rfl, Nat.le_of_ble_eq_true rfl⟩ ⟨Nat.zero_le _, Nat.zero_le _⟩ rfl rfl rfl rfl (by decide) (by decide) (by decide) (Nat.le_of_ble_eq_true rfl) rfl dX5_makeTicket_11 (fun s_25 H26 locs26 hw25 (hP26 : va_P G.1 vwCl ([oPe pe lc ls li lo dr p, oMs dr da, aI G da 9 f, oRo rh w rp, aM G w 8 (krow q), oMs (q 0) (d 0), aI G (d 0) 9 (M 0), oMs (q 1) (d 1), aI G (d 1) 9 (M 1), oMs (q 2) (d 2), aI G (d 2) 9 (M 2), oMs (q 3) (d 3), aI G (d 3) 9 (M 3), oMs (q 4) (d 4), aI G (d 4) 9 (M 4), oMs (q 5) (d 5), aI G (d 5) 9 (M 5), oMs (q 6) (d 6), aI G (d 6) 9 (M 6), oMs (q 7) (d 7), aI G (d 7) 9 (M 7), oSe h pe ta sn sb s_25, aT G ta 3 (krow3 k), oTi (k 0) (T 0), oTi (k 1) (T 1), oTi (k 2) (T 2)]) H26) (hD26 : va_D A ([oPe pe lc ls li lo dr p, oMs dr da, aI G da 9 f, oRo rh w rp, aM G w 8 (krow q), oMs (q 0) (d 0), aI G (d 0) 9 (M 0), oMs (q 1) (d 1), aI G (d 1) 9 (M 1), oMs (q 2) (d 2), aI G (d 2) 9 (M 2), oMs (q 3) (d 3), aI G (d 3) 9 (M 3), oMs (q 4) (d 4), aI G (d 4) 9 (M 4), oMs (q 5) (d 5), aI G (d 5) 9 (M 5), oMs (q 6) (d 6), aI G (d 6) 9 (M 6), oMs (q 7) (d 7), aI G (d 7) 9 (M 7), oSe h pe ta sn sb s_25, aT G ta 3 (krow3 k), oTi (k 0) (T 0), oTi (k 1) (T 1), oTi (k 2) (T 2)])) hS26 => ?_)
    clear hP1 hD1 hS1
    have w25_0 : s_25 = upd s1 2 (s1 2 + 1) := hw25
    refine lv_astore (lv' := [(4, .ref (k 1)), (0, .ref h), (1, .int life), (2, .int now), (3, .ref rh)]) hx hb dX5_makeTicket_14 hl0 (by decide) rfl (fun ls27 hl27 => ?_)
    clear hl0
    refine lv_aload hx hb dX5_makeTicket_16 (lv_at hl27 0 rfl) ?_
    refine lv_aload_n hx hb dX5_makeTicket_18 rfl (lv_at hl27 1 rfl) ?_
    refine kget F hK hP26 5 21 3 iX5 rfl rfl (by decide) (List.mem_of_getElem? (i := 1) rfl) rfl dX5_makeTicket_19 ?_
    refine kput F hK hP26 hD26 hS26 (ty0 := tyX7) 7 24 0 iX7 rfl tyX7_ok nmX7 (fun zz => [oPe pe lc ls li lo dr p, oMs dr da, aI G da 9 f, oRo rh w rp, aM G w 8 (krow q), oMs (q 0) (d 0), aI G (d 0) 9 (M 0), oMs (q 1) (d 1), aI G (d 1) 9 (M 1), oMs (q 2) (d 2), aI G (d 2) 9 (M 2), oMs (q 3) (d 3), aI G (d 3) 9 (M 3), oMs (q 4) (d 4), aI G (d 4) 9 (M 4), oMs (q 5) (d 5), aI G (d 5) 9 (M 5), oMs (q 6) (d 6), aI G (d 6) 9 (M 6), oMs (q 7) (d 7), aI G (d 7) 9 (M 7), oSe h pe ta sn sb s_25, aT G ta 3 (krow3 k), oTi (k 0) (T 0), oTi (k 1) zz, oTi (k 2) (T 2)]) (T 1) rfl (by decide) (List.mem_of_getElem? (i := 2) rfl) rfl rfl rfl (Nat.le_of_ble_eq_true rfl) rfl dX5_makeTicket_22 (fun H28 locs28 tv28 etv28 (hP28 : va_P G.1 vwCl ([oPe pe lc ls li lo dr p, oMs dr da, aI G da 9 f, oRo rh w rp, aM G w 8 (krow q), oMs (q 0) (d 0), aI G (d 0) 9 (M 0), oMs (q 1) (d 1), aI G (d 1) 9 (M 1), oMs (q 2) (d 2), aI G (d 2) 9 (M 2), oMs (q 3) (d 3), aI G (d 3) 9 (M 3), oMs (q 4) (d 4), aI G (d 4) 9 (M 4), oMs (q 5) (d 5), aI G (d 5) 9 (M 5), oMs (q 6) (d 6), aI G (d 6) 9 (M 6), oMs (q 7) (d 7), aI G (d 7) 9 (M 7), oSe h pe ta sn sb s_25, aT G ta 3 (krow3 k), oTi (k 0) (T 0), oTi (k 1) tv28, oTi (k 2) (T 2)]) H28) (hD28 : va_D A ([oPe pe lc ls li lo dr p, oMs dr da, aI G da 9 f, oRo rh w rp, aM G w 8 (krow q), oMs (q 0) (d 0), aI G (d 0) 9 (M 0), oMs (q 1) (d 1), aI G (d 1) 9 (M 1), oMs (q 2) (d 2), aI G (d 2) 9 (M 2), oMs (q 3) (d 3), aI G (d 3) 9 (M 3), oMs (q 4) (d 4), aI G (d 4) 9 (M 4), oMs (q 5) (d 5), aI G (d 5) 9 (M 5), oMs (q 6) (d 6), aI G (d 6) 9 (M 6), oMs (q 7) (d 7), aI G (d 7) 9 (M 7), oSe h pe ta sn sb s_25, aT G ta 3 (krow3 k), oTi (k 0) (T 0), oTi (k 1) tv28, oTi (k 2) (T 2)])) hS28 => ?_)
    clear hP26 hD26 hS26
    refine lv_aload hx hb dX5_makeTicket_25 (lv_at hl27 0 rfl) ?_
    refine lv_iload_n hx hb dX5_makeTicket_27 rfl (lv_at hl27 2 rfl) ?_
    refine kput F hK hP28 hD28 hS28 (ty0 := tyX7) 7 24 1 iX7 rfl tyX7_ok nmX7 (fun zz => [oPe pe lc ls li lo dr p, oMs dr da, aI G da 9 f, oRo rh w rp, aM G w 8 (krow q), oMs (q 0) (d 0), aI G (d 0) 9 (M 0), oMs (q 1) (d 1), aI G (d 1) 9 (M 1), oMs (q 2) (d 2), aI G (d 2) 9 (M 2), oMs (q 3) (d 3), aI G (d 3) 9 (M 3), oMs (q 4) (d 4), aI G (d 4) 9 (M 4), oMs (q 5) (d 5), aI G (d 5) 9 (M 5), oMs (q 6) (d 6), aI G (d 6) 9 (M 6), oMs (q 7) (d 7), aI G (d 7) 9 (M 7), oSe h pe ta sn sb s_25, aT G ta 3 (krow3 k), oTi (k 0) (T 0), oTi (k 1) zz, oTi (k 2) (T 2)]) tv28 rfl (by decide) (List.mem_of_getElem? (i := 3) rfl) rfl rfl rfl (Nat.le_of_ble_eq_true rfl) rfl dX5_makeTicket_28 (fun H29 locs29 tv29 etv29 (hP29 : va_P G.1 vwCl ([oPe pe lc ls li lo dr p, oMs dr da, aI G da 9 f, oRo rh w rp, aM G w 8 (krow q), oMs (q 0) (d 0), aI G (d 0) 9 (M 0), oMs (q 1) (d 1), aI G (d 1) 9 (M 1), oMs (q 2) (d 2), aI G (d 2) 9 (M 2), oMs (q 3) (d 3), aI G (d 3) 9 (M 3), oMs (q 4) (d 4), aI G (d 4) 9 (M 4), oMs (q 5) (d 5), aI G (d 5) 9 (M 5), oMs (q 6) (d 6), aI G (d 6) 9 (M 6), oMs (q 7) (d 7), aI G (d 7) 9 (M 7), oSe h pe ta sn sb s_25, aT G ta 3 (krow3 k), oTi (k 0) (T 0), oTi (k 1) tv29, oTi (k 2) (T 2)]) H29) (hD29 : va_D A ([oPe pe lc ls li lo dr p, oMs dr da, aI G da 9 f, oRo rh w rp, aM G w 8 (krow q), oMs (q 0) (d 0), aI G (d 0) 9 (M 0), oMs (q 1) (d 1), aI G (d 1) 9 (M 1), oMs (q 2) (d 2), aI G (d 2) 9 (M 2), oMs (q 3) (d 3), aI G (d 3) 9 (M 3), oMs (q 4) (d 4), aI G (d 4) 9 (M 4), oMs (q 5) (d 5), aI G (d 5) 9 (M 5), oMs (q 6) (d 6), aI G (d 6) 9 (M 6), oMs (q 7) (d 7), aI G (d 7) 9 (M 7), oSe h pe ta sn sb s_25, aT G ta 3 (krow3 k), oTi (k 0) (T 0), oTi (k 1) tv29, oTi (k 2) (T 2)])) hS29 => ?_)
    clear hP28 hD28 hS28
    refine lv_aload hx hb dX5_makeTicket_31 (lv_at hl27 0 rfl) ?_
    refine lv_iload_n hx hb dX5_makeTicket_33 rfl (lv_at hl27 3 rfl) ?_
    refine kput F hK hP29 hD29 hS29 (ty0 := tyX7) 7 24 2 iX7 rfl tyX7_ok nmX7 (fun zz => [oPe pe lc ls li lo dr p, oMs dr da, aI G da 9 f, oRo rh w rp, aM G w 8 (krow q), oMs (q 0) (d 0), aI G (d 0) 9 (M 0), oMs (q 1) (d 1), aI G (d 1) 9 (M 1), oMs (q 2) (d 2), aI G (d 2) 9 (M 2), oMs (q 3) (d 3), aI G (d 3) 9 (M 3), oMs (q 4) (d 4), aI G (d 4) 9 (M 4), oMs (q 5) (d 5), aI G (d 5) 9 (M 5), oMs (q 6) (d 6), aI G (d 6) 9 (M 6), oMs (q 7) (d 7), aI G (d 7) 9 (M 7), oSe h pe ta sn sb s_25, aT G ta 3 (krow3 k), oTi (k 0) (T 0), oTi (k 1) zz, oTi (k 2) (T 2)]) tv29 rfl (by decide) (List.mem_of_getElem? (i := 4) rfl) rfl rfl rfl (Nat.le_of_ble_eq_true rfl) rfl dX5_makeTicket_34 (fun H30 locs30 tv30 etv30 (hP30 : va_P G.1 vwCl ([oPe pe lc ls li lo dr p, oMs dr da, aI G da 9 f, oRo rh w rp, aM G w 8 (krow q), oMs (q 0) (d 0), aI G (d 0) 9 (M 0), oMs (q 1) (d 1), aI G (d 1) 9 (M 1), oMs (q 2) (d 2), aI G (d 2) 9 (M 2), oMs (q 3) (d 3), aI G (d 3) 9 (M 3), oMs (q 4) (d 4), aI G (d 4) 9 (M 4), oMs (q 5) (d 5), aI G (d 5) 9 (M 5), oMs (q 6) (d 6), aI G (d 6) 9 (M 6), oMs (q 7) (d 7), aI G (d 7) 9 (M 7), oSe h pe ta sn sb s_25, aT G ta 3 (krow3 k), oTi (k 0) (T 0), oTi (k 1) tv30, oTi (k 2) (T 2)]) H30) (hD30 : va_D A ([oPe pe lc ls li lo dr p, oMs dr da, aI G da 9 f, oRo rh w rp, aM G w 8 (krow q), oMs (q 0) (d 0), aI G (d 0) 9 (M 0), oMs (q 1) (d 1), aI G (d 1) 9 (M 1), oMs (q 2) (d 2), aI G (d 2) 9 (M 2), oMs (q 3) (d 3), aI G (d 3) 9 (M 3), oMs (q 4) (d 4), aI G (d 4) 9 (M 4), oMs (q 5) (d 5), aI G (d 5) 9 (M 5), oMs (q 6) (d 6), aI G (d 6) 9 (M 6), oMs (q 7) (d 7), aI G (d 7) 9 (M 7), oSe h pe ta sn sb s_25, aT G ta 3 (krow3 k), oTi (k 0) (T 0), oTi (k 1) tv30, oTi (k 2) (T 2)])) hS30 => ?_)
    clear hP29 hD29 hS29
    refine lv_aload hx hb dX5_makeTicket_37 (lv_at hl27 0 rfl) ?_
    refine lv_aload_n hx hb dX5_makeTicket_39 rfl (lv_at hl27 1 rfl) ?_
    refine kget F hK hP30 5 21 0 iX5 rfl rfl (by decide) (List.mem_of_getElem? (i := 5) rfl) rfl dX5_makeTicket_40 ?_
    refine kget F hK hP30 3 0 10 iX3 rfl rfl (by decide) (List.mem_of_getElem? (i := 6) rfl) rfl dX5_makeTicket_43 ?_
    refine lv_aload_n hx hb dX5_makeTicket_46 rfl (lv_at hl27 1 rfl) ?_
    refine kget F hK hP30 5 21 3 iX5 rfl rfl (by decide) (List.mem_of_getElem? (i := 1) rfl) rfl dX5_makeTicket_47 ?_
    refine kPNi F hK hP30 hD30 hS30 hA hl27.1 (c_X8_mix l G (p 10) (s_25 3)) (fun _ => rfl) 16 rfl gX5_makeTicket_X8_mix_n54 (List.mem_of_getElem? (i := 17) rfl) (List.mem_of_getElem? (i := 18) rfl) rfl 2 rfl (by decide +kernel) ⟨Nat.le_of_ble_eq_true rfl, Nat.le_of_ble_eq_true rfl⟩ ⟨Nat.zero_le _, Nat.zero_le _⟩ (Nat.le_of_ble_eq_true rfl) rfl dX5_makeTicket_50 (fun r31 u31 H32 locs32 hw31 (hP32 : va_P G.1 vwCl ([oPe pe lc ls li lo dr p, oMs dr da, aI G da 9 f, oRo rh w rp, aM G w 8 (krow q), oMs (q 0) (d 0), aI G (d 0) 9 (M 0), oMs (q 1) (d 1), aI G (d 1) 9 (M 1), oMs (q 2) (d 2), aI G (d 2) 9 (M 2), oMs (q 3) (d 3), aI G (d 3) 9 (M 3), oMs (q 4) (d 4), aI G (d 4) 9 (M 4), oMs (q 5) (d 5), aI G (d 5) 9 (M 5), oMs (q 6) (d 6), aI G (d 6) 9 (M 6), oMs (q 7) (d 7), aI G (d 7) 9 (M 7), oSe h pe ta sn sb s_25, aT G ta 3 (krow3 k), oTi (k 0) (T 0), oTi (k 1) tv30, oTi (k 2) (T 2)]) H32) (hD32 : va_D A ([oPe pe lc ls li lo dr p, oMs dr da, aI G da 9 f, oRo rh w rp, aM G w 8 (krow q), oMs (q 0) (d 0), aI G (d 0) 9 (M 0), oMs (q 1) (d 1), aI G (d 1) 9 (M 1), oMs (q 2) (d 2), aI G (d 2) 9 (M 2), oMs (q 3) (d 3), aI G (d 3) 9 (M 3), oMs (q 4) (d 4), aI G (d 4) 9 (M 4), oMs (q 5) (d 5), aI G (d 5) 9 (M 5), oMs (q 6) (d 6), aI G (d 6) 9 (M 6), oMs (q 7) (d 7), aI G (d 7) 9 (M 7), oSe h pe ta sn sb s_25, aT G ta 3 (krow3 k), oTi (k 0) (T 0), oTi (k 1) tv30, oTi (k 2) (T 2)])) hS32 => ?_)
    clear hP30 hD30 hS30
    have w31_0 : r31 = kmix (p 10) (s_25 3) := hw31
    refine kput F hK hP32 hD32 hS32 (ty0 := tyX7) 7 24 3 iX7 rfl tyX7_ok nmX7 (fun zz => [oPe pe lc ls li lo dr p, oMs dr da, aI G da 9 f, oRo rh w rp, aM G w 8 (krow q), oMs (q 0) (d 0), aI G (d 0) 9 (M 0), oMs (q 1) (d 1), aI G (d 1) 9 (M 1), oMs (q 2) (d 2), aI G (d 2) 9 (M 2), oMs (q 3) (d 3), aI G (d 3) 9 (M 3), oMs (q 4) (d 4), aI G (d 4) 9 (M 4), oMs (q 5) (d 5), aI G (d 5) 9 (M 5), oMs (q 6) (d 6), aI G (d 6) 9 (M 6), oMs (q 7) (d 7), aI G (d 7) 9 (M 7), oSe h pe ta sn sb s_25, aT G ta 3 (krow3 k), oTi (k 0) (T 0), oTi (k 1) zz, oTi (k 2) (T 2)]) tv30 rfl (by decide) (List.mem_of_getElem? (i := 7) rfl) rfl rfl rfl (Nat.le_of_ble_eq_true rfl) rfl dX5_makeTicket_53 (fun H33 locs33 tv33 etv33 (hP33 : va_P G.1 vwCl ([oPe pe lc ls li lo dr p, oMs dr da, aI G da 9 f, oRo rh w rp, aM G w 8 (krow q), oMs (q 0) (d 0), aI G (d 0) 9 (M 0), oMs (q 1) (d 1), aI G (d 1) 9 (M 1), oMs (q 2) (d 2), aI G (d 2) 9 (M 2), oMs (q 3) (d 3), aI G (d 3) 9 (M 3), oMs (q 4) (d 4), aI G (d 4) 9 (M 4), oMs (q 5) (d 5), aI G (d 5) 9 (M 5), oMs (q 6) (d 6), aI G (d 6) 9 (M 6), oMs (q 7) (d 7), aI G (d 7) 9 (M 7), oSe h pe ta sn sb s_25, aT G ta 3 (krow3 k), oTi (k 0) (T 0), oTi (k 1) tv33, oTi (k 2) (T 2)]) H33) (hD33 : va_D A ([oPe pe lc ls li lo dr p, oMs dr da, aI G da 9 f, oRo rh w rp, aM G w 8 (krow q), oMs (q 0) (d 0), aI G (d 0) 9 (M 0), oMs (q 1) (d 1), aI G (d 1) 9 (M 1), oMs (q 2) (d 2), aI G (d 2) 9 (M 2), oMs (q 3) (d 3), aI G (d 3) 9 (M 3), oMs (q 4) (d 4), aI G (d 4) 9 (M 4), oMs (q 5) (d 5), aI G (d 5) 9 (M 5), oMs (q 6) (d 6), aI G (d 6) 9 (M 6), oMs (q 7) (d 7), aI G (d 7) 9 (M 7), oSe h pe ta sn sb s_25, aT G ta 3 (krow3 k), oTi (k 0) (T 0), oTi (k 1) tv33, oTi (k 2) (T 2)])) hS33 => ?_)
    clear hP32 hD32 hS32
    refine lv_aload hx hb dX5_makeTicket_56 (lv_at hl27 0 rfl) ?_
    refine lv_aload_n hx hb dX5_makeTicket_58 rfl (lv_at hl27 1 rfl) ?_
    refine kget F hK hP33 5 21 3 iX5 rfl rfl (by decide) (List.mem_of_getElem? (i := 1) rfl) rfl dX5_makeTicket_59 ?_
    refine lv_bipush (v := 77) hx hb dX5_makeTicket_62 (by decide) ?_
    refine kPNi F hK hP33 hD33 hS33 hA hl27.1 (c_X8_mix l G (s_25 3) 77) (fun _ => rfl) 16 rfl gX5_makeTicket_X8_mix_n54 (List.mem_of_getElem? (i := 17) rfl) (List.mem_of_getElem? (i := 18) rfl) rfl 2 rfl (by decide +kernel) ⟨Nat.le_of_ble_eq_true rfl, Nat.le_of_ble_eq_true rfl⟩ ⟨Nat.zero_le _, Nat.zero_le _⟩ (Nat.le_of_ble_eq_true rfl) rfl dX5_makeTicket_64 (fun r34 u34 H35 locs35 hw34 (hP35 : va_P G.1 vwCl ([oPe pe lc ls li lo dr p, oMs dr da, aI G da 9 f, oRo rh w rp, aM G w 8 (krow q), oMs (q 0) (d 0), aI G (d 0) 9 (M 0), oMs (q 1) (d 1), aI G (d 1) 9 (M 1), oMs (q 2) (d 2), aI G (d 2) 9 (M 2), oMs (q 3) (d 3), aI G (d 3) 9 (M 3), oMs (q 4) (d 4), aI G (d 4) 9 (M 4), oMs (q 5) (d 5), aI G (d 5) 9 (M 5), oMs (q 6) (d 6), aI G (d 6) 9 (M 6), oMs (q 7) (d 7), aI G (d 7) 9 (M 7), oSe h pe ta sn sb s_25, aT G ta 3 (krow3 k), oTi (k 0) (T 0), oTi (k 1) tv33, oTi (k 2) (T 2)]) H35) (hD35 : va_D A ([oPe pe lc ls li lo dr p, oMs dr da, aI G da 9 f, oRo rh w rp, aM G w 8 (krow q), oMs (q 0) (d 0), aI G (d 0) 9 (M 0), oMs (q 1) (d 1), aI G (d 1) 9 (M 1), oMs (q 2) (d 2), aI G (d 2) 9 (M 2), oMs (q 3) (d 3), aI G (d 3) 9 (M 3), oMs (q 4) (d 4), aI G (d 4) 9 (M 4), oMs (q 5) (d 5), aI G (d 5) 9 (M 5), oMs (q 6) (d 6), aI G (d 6) 9 (M 6), oMs (q 7) (d 7), aI G (d 7) 9 (M 7), oSe h pe ta sn sb s_25, aT G ta 3 (krow3 k), oTi (k 0) (T 0), oTi (k 1) tv33, oTi (k 2) (T 2)])) hS35 => ?_)
    clear hP33 hD33 hS33
    have w34_0 : r34 = kmix (s_25 3) 77 := hw34
    refine kput F hK hP35 hD35 hS35 (ty0 := tyX7) 7 24 4 iX7 rfl tyX7_ok nmX7 (fun zz => [oPe pe lc ls li lo dr p, oMs dr da, aI G da 9 f, oRo rh w rp, aM G w 8 (krow q), oMs (q 0) (d 0), aI G (d 0) 9 (M 0), oMs (q 1) (d 1), aI G (d 1) 9 (M 1), oMs (q 2) (d 2), aI G (d 2) 9 (M 2), oMs (q 3) (d 3), aI G (d 3) 9 (M 3), oMs (q 4) (d 4), aI G (d 4) 9 (M 4), oMs (q 5) (d 5), aI G (d 5) 9 (M 5), oMs (q 6) (d 6), aI G (d 6) 9 (M 6), oMs (q 7) (d 7), aI G (d 7) 9 (M 7), oSe h pe ta sn sb s_25, aT G ta 3 (krow3 k), oTi (k 0) (T 0), oTi (k 1) zz, oTi (k 2) (T 2)]) tv33 rfl (by decide) (List.mem_of_getElem? (i := 8) rfl) rfl rfl rfl (Nat.le_of_ble_eq_true rfl) rfl dX5_makeTicket_67 (fun H36 locs36 tv36 etv36 (hP36 : va_P G.1 vwCl ([oPe pe lc ls li lo dr p, oMs dr da, aI G da 9 f, oRo rh w rp, aM G w 8 (krow q), oMs (q 0) (d 0), aI G (d 0) 9 (M 0), oMs (q 1) (d 1), aI G (d 1) 9 (M 1), oMs (q 2) (d 2), aI G (d 2) 9 (M 2), oMs (q 3) (d 3), aI G (d 3) 9 (M 3), oMs (q 4) (d 4), aI G (d 4) 9 (M 4), oMs (q 5) (d 5), aI G (d 5) 9 (M 5), oMs (q 6) (d 6), aI G (d 6) 9 (M 6), oMs (q 7) (d 7), aI G (d 7) 9 (M 7), oSe h pe ta sn sb s_25, aT G ta 3 (krow3 k), oTi (k 0) (T 0), oTi (k 1) tv36, oTi (k 2) (T 2)]) H36) (hD36 : va_D A ([oPe pe lc ls li lo dr p, oMs dr da, aI G da 9 f, oRo rh w rp, aM G w 8 (krow q), oMs (q 0) (d 0), aI G (d 0) 9 (M 0), oMs (q 1) (d 1), aI G (d 1) 9 (M 1), oMs (q 2) (d 2), aI G (d 2) 9 (M 2), oMs (q 3) (d 3), aI G (d 3) 9 (M 3), oMs (q 4) (d 4), aI G (d 4) 9 (M 4), oMs (q 5) (d 5), aI G (d 5) 9 (M 5), oMs (q 6) (d 6), aI G (d 6) 9 (M 6), oMs (q 7) (d 7), aI G (d 7) 9 (M 7), oSe h pe ta sn sb s_25, aT G ta 3 (krow3 k), oTi (k 0) (T 0), oTi (k 1) tv36, oTi (k 2) (T 2)])) hS36 => ?_)
    clear hP35 hD35 hS35
    refine lv_aload_n hx hb dX5_makeTicket_70 rfl (lv_at hl27 1 rfl) ?_
    refine kget F hK hP36 5 21 0 iX5 rfl rfl (by decide) (List.mem_of_getElem? (i := 5) rfl) rfl dX5_makeTicket_71 ?_
    refine kget F hK hP36 3 0 17 iX3 rfl rfl (by decide) (List.mem_of_getElem? (i := 9) rfl) rfl dX5_makeTicket_74 ?_
    refine lv_iconst (v := 5) hx hb dX5_makeTicket_77 (by decide) ?_
    refine kVv (wr := [oPe pe lc ls li lo dr p, oRo rh w rp, aM G w 8 (krow q), oMs (q 0) (d 0), aI G (d 0) 9 (M 0), oMs (q 1) (d 1), aI G (d 1) 9 (M 1), oMs (q 2) (d 2), aI G (d 2) 9 (M 2), oMs (q 3) (d 3), aI G (d 3) 9 (M 3), oMs (q 4) (d 4), aI G (d 4) 9 (M 4), oMs (q 5) (d 5), aI G (d 5) 9 (M 5), oMs (q 6) (d 6), aI G (d 6) 9 (M 6), oMs (q 7) (d 7), aI G (d 7) 9 (M 7), oSe h pe ta sn sb s_25, aT G ta 3 (krow3 k), oTi (k 0) (T 0), oTi (k 1) tv36, oTi (k 2) (T 2)]) F hK hP36 hD36 hS36 hA hl27.1 (c_X2_begin l G dr da f 5) [1, 2] [0, 3, 4, 5, 6, 7, 8, 9, 10, 11, 12, 13, 14, 15, 16, 17, 18, 19, 20, 21, 22, 23, 24, 25] 2 0 gX5_makeTicket_X2_begin rfl 1 rfl (by decide +kernel) ⟨Nat.le_of_ble_eq_true rfl, Nat.le_of_ble_eq_true rfl⟩ ⟨Nat.zero_le _, Nat.zero_le _⟩ rfl rfl rfl rfl (by decide) (by decide) (by decide) (Nat.le_of_ble_eq_true rfl) rfl dX5_makeTicket_78 (fun f_37 H38 locs38 hw37 (hP38 : va_P G.1 vwCl ([oPe pe lc ls li lo dr p, oRo rh w rp, aM G w 8 (krow q), oMs (q 0) (d 0), aI G (d 0) 9 (M 0), oMs (q 1) (d 1), aI G (d 1) 9 (M 1), oMs (q 2) (d 2), aI G (d 2) 9 (M 2), oMs (q 3) (d 3), aI G (d 3) 9 (M 3), oMs (q 4) (d 4), aI G (d 4) 9 (M 4), oMs (q 5) (d 5), aI G (d 5) 9 (M 5), oMs (q 6) (d 6), aI G (d 6) 9 (M 6), oMs (q 7) (d 7), aI G (d 7) 9 (M 7), oSe h pe ta sn sb s_25, aT G ta 3 (krow3 k), oTi (k 0) (T 0), oTi (k 1) tv36, oTi (k 2) (T 2), oMs dr da, aI G da 9 f_37]) H38) (hD38 : va_D A ([oPe pe lc ls li lo dr p, oRo rh w rp, aM G w 8 (krow q), oMs (q 0) (d 0), aI G (d 0) 9 (M 0), oMs (q 1) (d 1), aI G (d 1) 9 (M 1), oMs (q 2) (d 2), aI G (d 2) 9 (M 2), oMs (q 3) (d 3), aI G (d 3) 9 (M 3), oMs (q 4) (d 4), aI G (d 4) 9 (M 4), oMs (q 5) (d 5), aI G (d 5) 9 (M 5), oMs (q 6) (d 6), aI G (d 6) 9 (M 6), oMs (q 7) (d 7), aI G (d 7) 9 (M 7), oSe h pe ta sn sb s_25, aT G ta 3 (krow3 k), oTi (k 0) (T 0), oTi (k 1) tv36, oTi (k 2) (T 2), oMs dr da, aI G da 9 f_37])) hS38 => ?_)
    clear hP36 hD36 hS36
    have w37_0 : f_37 = kbeg f 5 := hw37
    refine lv_aload_n hx hb dX5_makeTicket_81 rfl (lv_at hl27 1 rfl) ?_
    refine kget F hK hP38 5 19 0 iX5 rfl rfl (by decide) (List.mem_of_getElem? (i := 5) rfl) rfl dX5_makeTicket_82 ?_
    refine kget F hK hP38 3 0 17 iX3 rfl rfl (by decide) (List.mem_of_getElem? (i := 9) rfl) rfl dX5_makeTicket_85 ?_
    refine lv_iconst (v := 1) hx hb dX5_makeTicket_88 (by decide) ?_
    refine lv_aload_n hx hb dX5_makeTicket_89 rfl (lv_at hl27 1 rfl) ?_
    refine kget F hK hP38 5 19 3 iX5 rfl rfl (by decide) (List.mem_of_getElem? (i := 1) rfl) rfl dX5_makeTicket_90 ?_
    refine kVv (wr := [oPe pe lc ls li lo dr p, oRo rh w rp, aM G w 8 (krow q), oMs (q 0) (d 0), aI G (d 0) 9 (M 0), oMs (q 1) (d 1), aI G (d 1) 9 (M 1), oMs (q 2) (d 2), aI G (d 2) 9 (M 2), oMs (q 3) (d 3), aI G (d 3) 9 (M 3), oMs (q 4) (d 4), aI G (d 4) 9 (M 4), oMs (q 5) (d 5), aI G (d 5) 9 (M 5), oMs (q 6) (d 6), aI G (d 6) 9 (M 6), oMs (q 7) (d 7), aI G (d 7) 9 (M 7), oSe h pe ta sn sb s_25, aT G ta 3 (krow3 k), oTi (k 0) (T 0), oTi (k 1) tv36, oTi (k 2) (T 2)]) F hK hP38 hD38 hS38 hA hl27.1 (c_X2_put l G dr da f_37 1 (s_25 3) (by first | assumption | decide | omega)) [24, 25] [0, 1, 2, 3, 4, 5, 6, 7, 8, 9, 10, 11, 12, 13, 14, 15, 16, 17, 18, 19, 20, 21, 22, 23] 2 0 gX5_makeTicket_X2_put rfl 2 rfl (by decide +kernel) ⟨Nat.le_of_ble_eq_true rfl, Nat.le_of_ble_eq_true rfl⟩ ⟨Nat.zero_le _, Nat.zero_le _⟩ rfl rfl rfl rfl (by decide) (by decide) (by decide) (Nat.le_of_ble_eq_true rfl) rfl dX5_makeTicket_93 (fun f_39 H40 locs40 hw39 (hP40 : va_P G.1 vwCl ([oPe pe lc ls li lo dr p, oRo rh w rp, aM G w 8 (krow q), oMs (q 0) (d 0), aI G (d 0) 9 (M 0), oMs (q 1) (d 1), aI G (d 1) 9 (M 1), oMs (q 2) (d 2), aI G (d 2) 9 (M 2), oMs (q 3) (d 3), aI G (d 3) 9 (M 3), oMs (q 4) (d 4), aI G (d 4) 9 (M 4), oMs (q 5) (d 5), aI G (d 5) 9 (M 5), oMs (q 6) (d 6), aI G (d 6) 9 (M 6), oMs (q 7) (d 7), aI G (d 7) 9 (M 7), oSe h pe ta sn sb s_25, aT G ta 3 (krow3 k), oTi (k 0) (T 0), oTi (k 1) tv36, oTi (k 2) (T 2), oMs dr da, aI G da 9 f_39]) H40) (hD40 : va_D A ([oPe pe lc ls li lo dr p, oRo rh w rp, aM G w 8 (krow q), oMs (q 0) (d 0), aI G (d 0) 9 (M 0), oMs (q 1) (d 1), aI G (d 1) 9 (M 1), oMs (q 2) (d 2), aI G (d 2) 9 (M 2), oMs (q 3) (d 3), aI G (d 3) 9 (M 3), oMs (q 4) (d 4), aI G (d 4) 9 (M 4), oMs (q 5) (d 5), aI G (d 5) 9 (M 5), oMs (q 6) (d 6), aI G (d 6) 9 (M 6), oMs (q 7) (d 7), aI G (d 7) 9 (M 7), oSe h pe ta sn sb s_25, aT G ta 3 (krow3 k), oTi (k 0) (T 0), oTi (k 1) tv36, oTi (k 2) (T 2), oMs dr da, aI G da 9 f_39])) hS40 => ?_)
    clear hP38 hD38 hS38
    have w39_0 : f_39 = upd f_37 1 (s_25 3) := hw39
    refine lv_aload_n hx hb dX5_makeTicket_96 rfl (lv_at hl27 1 rfl) ?_
    refine kget F hK hP40 5 19 0 iX5 rfl rfl (by decide) (List.mem_of_getElem? (i := 5) rfl) rfl dX5_makeTicket_97 ?_
    refine kget F hK hP40 3 0 17 iX3 rfl rfl (by decide) (List.mem_of_getElem? (i := 9) rfl) rfl dX5_makeTicket_100 ?_
    refine lv_iconst (v := 2) hx hb dX5_makeTicket_103 (by decide) ?_
    refine lv_aload hx hb dX5_makeTicket_104 (lv_at hl27 0 rfl) ?_
    refine kget F hK hP40 7 22 4 iX7 rfl rfl (by decide) (List.mem_of_getElem? (i := 8) rfl) rfl dX5_makeTicket_106 ?_
    refine kVv (wr := [oPe pe lc ls li lo dr p, oRo rh w rp, aM G w 8 (krow q), oMs (q 0) (d 0), aI G (d 0) 9 (M 0), oMs (q 1) (d 1), aI G (d 1) 9 (M 1), oMs (q 2) (d 2), aI G (d 2) 9 (M 2), oMs (q 3) (d 3), aI G (d 3) 9 (M 3), oMs (q 4) (d 4), aI G (d 4) 9 (M 4), oMs (q 5) (d 5), aI G (d 5) 9 (M 5), oMs (q 6) (d 6), aI G (d 6) 9 (M 6), oMs (q 7) (d 7), aI G (d 7) 9 (M 7), oSe h pe ta sn sb s_25, aT G ta 3 (krow3 k), oTi (k 0) (T 0), oTi (k 1) tv36, oTi (k 2) (T 2)]) F hK hP40 hD40 hS40 hA hl27.1 (c_X2_put l G dr da f_39 2 (tv36 4) (by first | assumption | decide | omega)) [24, 25] [0, 1, 2, 3, 4, 5, 6, 7, 8, 9, 10, 11, 12, 13, 14, 15, 16, 17, 18, 19, 20, 21, 22, 23] 2 0 gX5_makeTicket_X2_put rfl 2 rfl (by decide +kernel) ⟨Nat.le_of_ble_eq_true rfl, Nat.le_of_ble_eq_true rfl⟩ ⟨Nat.zero_le _, Nat.zero_le _⟩ rfl rfl rfl rfl (by decide) (by decide) (by decide) (Nat.le_of_ble_eq_true rfl) rfl dX5_makeTicket_109 (fun f_41 H42 locs42 hw41 (hP42 : va_P G.1 vwCl ([oPe pe lc ls li lo dr p, oRo rh w rp, aM G w 8 (krow q), oMs (q 0) (d 0), aI G (d 0) 9 (M 0), oMs (q 1) (d 1), aI G (d 1) 9 (M 1), oMs (q 2) (d 2), aI G (d 2) 9 (M 2), oMs (q 3) (d 3), aI G (d 3) 9 (M 3), oMs (q 4) (d 4), aI G (d 4) 9 (M 4), oMs (q 5) (d 5), aI G (d 5) 9 (M 5), oMs (q 6) (d 6), aI G (d 6) 9 (M 6), oMs (q 7) (d 7), aI G (d 7) 9 (M 7), oSe h pe ta sn sb s_25, aT G ta 3 (krow3 k), oTi (k 0) (T 0), oTi (k 1) tv36, oTi (k 2) (T 2), oMs dr da, aI G da 9 f_41]) H42) (hD42 : va_D A ([oPe pe lc ls li lo dr p, oRo rh w rp, aM G w 8 (krow q), oMs (q 0) (d 0), aI G (d 0) 9 (M 0), oMs (q 1) (d 1), aI G (d 1) 9 (M 1), oMs (q 2) (d 2), aI G (d 2) 9 (M 2), oMs (q 3) (d 3), aI G (d 3) 9 (M 3), oMs (q 4) (d 4), aI G (d 4) 9 (M 4), oMs (q 5) (d 5), aI G (d 5) 9 (M 5), oMs (q 6) (d 6), aI G (d 6) 9 (M 6), oMs (q 7) (d 7), aI G (d 7) 9 (M 7), oSe h pe ta sn sb s_25, aT G ta 3 (krow3 k), oTi (k 0) (T 0), oTi (k 1) tv36, oTi (k 2) (T 2), oMs dr da, aI G da 9 f_41])) hS42 => ?_)
    clear hP40 hD40 hS40
    have w41_0 : f_41 = upd f_39 2 (tv36 4) := hw41
    refine lv_aload_n hx hb dX5_makeTicket_112 rfl (lv_at hl27 1 rfl) ?_
    refine kget F hK hP42 5 19 0 iX5 rfl rfl (by decide) (List.mem_of_getElem? (i := 5) rfl) rfl dX5_makeTicket_113 ?_
    refine kget F hK hP42 3 0 17 iX3 rfl rfl (by decide) (List.mem_of_getElem? (i := 9) rfl) rfl dX5_makeTicket_116 ?_
    refine lv_iconst (v := 3) hx hb dX5_makeTicket_119 (by decide) ?_
    refine lv_iload_n hx hb dX5_makeTicket_120 rfl (lv_at hl27 2 rfl) ?_
    refine kVv (wr := [oPe pe lc ls li lo dr p, oRo rh w rp, aM G w 8 (krow q), oMs (q 0) (d 0), aI G (d 0) 9 (M 0), oMs (q 1) (d 1), aI G (d 1) 9 (M 1), oMs (q 2) (d 2), aI G (d 2) 9 (M 2), oMs (q 3) (d 3), aI G (d 3) 9 (M 3), oMs (q 4) (d 4), aI G (d 4) 9 (M 4), oMs (q 5) (d 5), aI G (d 5) 9 (M 5), oMs (q 6) (d 6), aI G (d 6) 9 (M 6), oMs (q 7) (d 7), aI G (d 7) 9 (M 7), oSe h pe ta sn sb s_25, aT G ta 3 (krow3 k), oTi (k 0) (T 0), oTi (k 1) tv36, oTi (k 2) (T 2)]) F hK hP42 hD42 hS42 hA hl27.1 (c_X2_put l G dr da f_41 3 life (by first | assumption | decide | omega)) [24, 25] [0, 1, 2, 3, 4, 5, 6, 7, 8, 9, 10, 11, 12, 13, 14, 15, 16, 17, 18, 19, 20, 21, 22, 23] 2 0 gX5_makeTicket_X2_put rfl 2 rfl (by decide +kernel) ⟨Nat.le_of_ble_eq_true rfl, Nat.le_of_ble_eq_true rfl⟩ ⟨Nat.zero_le _, Nat.zero_le _⟩ rfl rfl rfl rfl (by decide) (by decide) (by decide) (Nat.le_of_ble_eq_true rfl) rfl dX5_makeTicket_121 (fun f_43 H44 locs44 hw43 (hP44 : va_P G.1 vwCl ([oPe pe lc ls li lo dr p, oRo rh w rp, aM G w 8 (krow q), oMs (q 0) (d 0), aI G (d 0) 9 (M 0), oMs (q 1) (d 1), aI G (d 1) 9 (M 1), oMs (q 2) (d 2), aI G (d 2) 9 (M 2), oMs (q 3) (d 3), aI G (d 3) 9 (M 3), oMs (q 4) (d 4), aI G (d 4) 9 (M 4), oMs (q 5) (d 5), aI G (d 5) 9 (M 5), oMs (q 6) (d 6), aI G (d 6) 9 (M 6), oMs (q 7) (d 7), aI G (d 7) 9 (M 7), oSe h pe ta sn sb s_25, aT G ta 3 (krow3 k), oTi (k 0) (T 0), oTi (k 1) tv36, oTi (k 2) (T 2), oMs dr da, aI G da 9 f_43]) H44) (hD44 : va_D A ([oPe pe lc ls li lo dr p, oRo rh w rp, aM G w 8 (krow q), oMs (q 0) (d 0), aI G (d 0) 9 (M 0), oMs (q 1) (d 1), aI G (d 1) 9 (M 1), oMs (q 2) (d 2), aI G (d 2) 9 (M 2), oMs (q 3) (d 3), aI G (d 3) 9 (M 3), oMs (q 4) (d 4), aI G (d 4) 9 (M 4), oMs (q 5) (d 5), aI G (d 5) 9 (M 5), oMs (q 6) (d 6), aI G (d 6) 9 (M 6), oMs (q 7) (d 7), aI G (d 7) 9 (M 7), oSe h pe ta sn sb s_25, aT G ta 3 (krow3 k), oTi (k 0) (T 0), oTi (k 1) tv36, oTi (k 2) (T 2), oMs dr da, aI G da 9 f_43])) hS44 => ?_)
    clear hP42 hD42 hS42
    have w43_0 : f_43 = upd f_41 3 life := hw43
    refine lv_aload_n hx hb dX5_makeTicket_124 rfl (lv_at hl27 4 rfl) ?_
    refine lv_aload_n hx hb dX5_makeTicket_125 rfl (lv_at hl27 1 rfl) ?_
    refine kget F hK hP44 5 19 0 iX5 rfl rfl (by decide) (List.mem_of_getElem? (i := 5) rfl) rfl dX5_makeTicket_126 ?_
    refine kget F hK hP44 3 0 17 iX3 rfl rfl (by decide) (List.mem_of_getElem? (i := 9) rfl) rfl dX5_makeTicket_129 ?_
    refine kVv (wr := [oPe pe lc ls li lo dr p, oSe h pe ta sn sb s_25, aT G ta 3 (krow3 k), oTi (k 0) (T 0), oTi (k 1) tv36, oTi (k 2) (T 2)]) F hK hP44 hD44 hS44 hA hl27.1 (c_X4_send l G rh w q d rp M dr da f_43 L hL hL8) [1, 2, 3, 4, 5, 6, 7, 8, 9, 10, 11, 12, 13, 14, 15, 16, 17, 18, 24, 25] [0, 19, 20, 21, 22, 23] 4 0 gX5_makeTicket_X4_send rfl 1 rfl (by decide +kernel) ⟨Nat.le_of_ble_eq_true rfl, Nat.le_of_ble_eq_true rfl⟩ ⟨Nat.zero_le _, Nat.zero_le _⟩ rfl rfl rfl rfl (by decide) (by decide) (by decide) (Nat.le_of_ble_eq_true rfl) rfl dX5_makeTicket_132 (fun u45 H46 locs46 hw45 hP46 hD46 hS46 => ?_)
    obtain ⟨p_45, M_45⟩ := u45
    have hP46 : va_P G.1 vwCl ([oPe pe lc ls li lo dr p, oSe h pe ta sn sb s_25, aT G ta 3 (krow3 k), oTi (k 0) (T 0), oTi (k 1) tv36, oTi (k 2) (T 2), oRo rh w p_45, aM G w 8 (krow q), oMs (q 0) (d 0), aI G (d 0) 9 (M_45 0), oMs (q 1) (d 1), aI G (d 1) 9 (M_45 1), oMs (q 2) (d 2), aI G (d 2) 9 (M_45 2), oMs (q 3) (d 3), aI G (d 3) 9 (M_45 3), oMs (q 4) (d 4), aI G (d 4) 9 (M_45 4), oMs (q 5) (d 5), aI G (d 5) 9 (M_45 5), oMs (q 6) (d 6), aI G (d 6) 9 (M_45 6), oMs (q 7) (d 7), aI G (d 7) 9 (M_45 7), oMs dr da, aI G da 9 f_43]) H46 := hP46
    have hD46 : va_D A ([oPe pe lc ls li lo dr p, oSe h pe ta sn sb s_25, aT G ta 3 (krow3 k), oTi (k 0) (T 0), oTi (k 1) tv36, oTi (k 2) (T 2), oRo rh w p_45, aM G w 8 (krow q), oMs (q 0) (d 0), aI G (d 0) 9 (M_45 0), oMs (q 1) (d 1), aI G (d 1) 9 (M_45 1), oMs (q 2) (d 2), aI G (d 2) 9 (M_45 2), oMs (q 3) (d 3), aI G (d 3) 9 (M_45 3), oMs (q 4) (d 4), aI G (d 4) 9 (M_45 4), oMs (q 5) (d 5), aI G (d 5) 9 (M_45 5), oMs (q 6) (d 6), aI G (d 6) 9 (M_45 6), oMs (q 7) (d 7), aI G (d 7) 9 (M_45 7), oMs dr da, aI G da 9 f_43]) := hD46
    clear hP44 hD44 hS44
    have w45_0 : p_45 = ksendP L rp := hw45.1
    have w45_1 : M_45 = ksendM L M f_43 := hw45.2
    refine lv_aload_n hx hb dX5_makeTicket_135 rfl (lv_at hl27 1 rfl) ?_
    refine kget F hK hP46 5 1 3 iX5 rfl rfl (by decide) (List.mem_of_getElem? (i := 1) rfl) rfl dX5_makeTicket_136 ?_
    have q47 : ((s_25 3) = s 3 + 1) ∧ (s_25 = upd (upd s 3 (s 3 + 1)) 2 (s 2 + 1)) ∧ (f_43 = ktkm p f (s 3 + 1) life) ∧ ((va_up T 1 tv36) = va_up T 1 (ktk (T 1) (s 3 + 1) life now (kmix (p 10) (s 3 + 1)) (kmix (s 3 + 1) 77))) ∧ (p_45 = ksendP L rp) ∧ (M_45 = ksendM L M (ktkm p f (s 3 + 1) life)) := by
      subst w45_1
      subst w45_0
      subst w43_0
      subst w41_0
      subst w39_0
      subst w37_0
      subst etv36
      subst w34_0
      subst etv33
      subst w31_0
      subst etv30
      subst etv29
      subst etv28
      subst w25_0
      subst es1
      first | (simp only [eq_self, ↓reduceIte, and_self, and_true, true_and]; done) | (simp only [eq_self, ↓reduceIte, and_self, and_true, true_and]; (try and_intros) <;> rfl) | exact ⟨rfl, rfl, rfl, rfl, rfl, rfl⟩
    exact kRi F hr hlocks hS46 dX5_makeTicket_139 ⟨s_25, f_43, (va_up T 1 tv36), p_45, M_45⟩ q47 (hP46.sub [1, 0, 24, 25, 2, 3, 4, 5, 6, 7, 8, 9, 10, 11, 12, 13, 14, 15, 16, 17, 18, 19, 20, 21, 22, 23] rfl) (hD46.sub [1, 0, 24, 25, 2, 3, 4, 5, 6, 7, 8, 9, 10, 11, 12, 13, 14, 15, 16, 17, 18, 19, 20, 21, 22, 23] (by decide) rfl)
  rcases (show K = 2 ∨ K ≠ 2 by omega) with hj2 | hj2
  · subst hj2
    refine kVr (wr := [oPe pe lc ls li lo dr p, oMs dr da, aI G da 9 f, oRo rh w rp, aM G w 8 (krow q), oMs (q 0) (d 0), aI G (d 0) 9 (M 0), oMs (q 1) (d 1), aI G (d 1) 9 (M 1), oMs (q 2) (d 2), aI G (d 2) 9 (M 2), oMs (q 3) (d 3), aI G (d 3) 9 (M 3), oMs (q 4) (d 4), aI G (d 4) 9 (M 4), oMs (q 5) (d 5), aI G (d 5) 9 (M 5), oMs (q 6) (d 6), aI G (d 6) 9 (M 6), oMs (q 7) (d 7), aI G (d 7) 9 (M 7)]) F hK hP1 hD1 hS1 hA hl0.1 (c_X5_placeA l G h pe ta sn sb s1 k T 2 (by subst es1; exact hKe) (by decide)) [0, 4, 5, 6, 7] [1, 2, 3, 8, 9, 10, 11, 12, 13, 14, 15, 16, 17, 18, 19, 20, 21, 22, 23, 24, 25] 5 0 gX5_makeTicket_X5_placeForTicket rfl 0 rfl (by decide +kernel) ⟨Nat.le_of_ble_eq_true rfl, Nat.le_of_ble_eq_true rfl⟩ ⟨Nat.zero_le _, Nat.zero_le _⟩ rfl rfl rfl rfl (by decide) (by decide) (by decide) (Nat.le_of_ble_eq_true rfl) rfl dX5_makeTicket_11 (fun s_48 H49 locs49 hw48 (hP49 : va_P G.1 vwCl ([oPe pe lc ls li lo dr p, oMs dr da, aI G da 9 f, oRo rh w rp, aM G w 8 (krow q), oMs (q 0) (d 0), aI G (d 0) 9 (M 0), oMs (q 1) (d 1), aI G (d 1) 9 (M 1), oMs (q 2) (d 2), aI G (d 2) 9 (M 2), oMs (q 3) (d 3), aI G (d 3) 9 (M 3), oMs (q 4) (d 4), aI G (d 4) 9 (M 4), oMs (q 5) (d 5), aI G (d 5) 9 (M 5), oMs (q 6) (d 6), aI G (d 6) 9 (M 6), oMs (q 7) (d 7), aI G (d 7) 9 (M 7), oSe h pe ta sn sb s_48, aT G ta 3 (krow3 k), oTi (k 0) (T 0), oTi (k 1) (T 1), oTi (k 2) (T 2)]) H49) (hD49 : va_D A ([oPe pe lc ls li lo dr p, oMs dr da, aI G da 9 f, oRo rh w rp, aM G w 8 (krow q), oMs (q 0) (d 0), aI G (d 0) 9 (M 0), oMs (q 1) (d 1), aI G (d 1) 9 (M 1), oMs (q 2) (d 2), aI G (d 2) 9 (M 2), oMs (q 3) (d 3), aI G (d 3) 9 (M 3), oMs (q 4) (d 4), aI G (d 4) 9 (M 4), oMs (q 5) (d 5), aI G (d 5) 9 (M 5), oMs (q 6) (d 6), aI G (d 6) 9 (M 6), oMs (q 7) (d 7), aI G (d 7) 9 (M 7), oSe h pe ta sn sb s_48, aT G ta 3 (krow3 k), oTi (k 0) (T 0), oTi (k 1) (T 1), oTi (k 2) (T 2)])) hS49 => ?_)
    clear hP1 hD1 hS1
    have w48_0 : s_48 = upd s1 2 (s1 2 + 1) := hw48
    refine lv_astore (lv' := [(4, .ref (k 2)), (0, .ref h), (1, .int life), (2, .int now), (3, .ref rh)]) hx hb dX5_makeTicket_14 hl0 (by decide) rfl (fun ls50 hl50 => ?_)
    clear hl0
    refine lv_aload hx hb dX5_makeTicket_16 (lv_at hl50 0 rfl) ?_
    refine lv_aload_n hx hb dX5_makeTicket_18 rfl (lv_at hl50 1 rfl) ?_
    refine kget F hK hP49 5 21 3 iX5 rfl rfl (by decide) (List.mem_of_getElem? (i := 1) rfl) rfl dX5_makeTicket_19 ?_
    refine kput F hK hP49 hD49 hS49 (ty0 := tyX7) 7 25 0 iX7 rfl tyX7_ok nmX7 (fun zz => [oPe pe lc ls li lo dr p, oMs dr da, aI G da 9 f, oRo rh w rp, aM G w 8 (krow q), oMs (q 0) (d 0), aI G (d 0) 9 (M 0), oMs (q 1) (d 1), aI G (d 1) 9 (M 1), oMs (q 2) (d 2), aI G (d 2) 9 (M 2), oMs (q 3) (d 3), aI G (d 3) 9 (M 3), oMs (q 4) (d 4), aI G (d 4) 9 (M 4), oMs (q 5) (d 5), aI G (d 5) 9 (M 5), oMs (q 6) (d 6), aI G (d 6) 9 (M 6), oMs (q 7) (d 7), aI G (d 7) 9 (M 7), oSe h pe ta sn sb s_48, aT G ta 3 (krow3 k), oTi (k 0) (T 0), oTi (k 1) (T 1), oTi (k 2) zz]) (T 2) rfl (by decide) (List.mem_of_getElem? (i := 2) rfl) rfl rfl rfl (Nat.le_of_ble_eq_true rfl) rfl dX5_makeTicket_22 (fun H51 locs51 tv51 etv51 (hP51 : va_P G.1 vwCl ([oPe pe lc ls li lo dr p, oMs dr da, aI G da 9 f, oRo rh w rp, aM G w 8 (krow q), oMs (q 0) (d 0), aI G (d 0) 9 (M 0), oMs (q 1) (d 1), aI G (d 1) 9 (M 1), oMs (q 2) (d 2), aI G (d 2) 9 (M 2), oMs (q 3) (d 3), aI G (d 3) 9 (M 3), oMs (q 4) (d 4), aI G (d 4) 9 (M 4), oMs (q 5) (d 5), aI G (d 5) 9 (M 5), oMs (q 6) (d 6), aI G (d 6) 9 (M 6), oMs (q 7) (d 7), aI G (d 7) 9 (M 7), oSe h pe ta sn sb s_48, aT G ta 3 (krow3 k), oTi (k 0) (T 0), oTi (k 1) (T 1), oTi (k 2) tv51]) H51) (hD51 : va_D A ([oPe pe lc ls li lo dr p, oMs dr da, aI G da 9 f, oRo rh w rp, aM G w 8 (krow q), oMs (q 0) (d 0), aI G (d 0) 9 (M 0), oMs (q 1) (d 1), aI G (d 1) 9 (M 1), oMs (q 2) (d 2), aI G (d 2) 9 (M 2), oMs (q 3) (d 3), aI G (d 3) 9 (M 3), oMs (q 4) (d 4), aI G (d 4) 9 (M 4), oMs (q 5) (d 5), aI G (d 5) 9 (M 5), oMs (q 6) (d 6), aI G (d 6) 9 (M 6), oMs (q 7) (d 7), aI G (d 7) 9 (M 7), oSe h pe ta sn sb s_48, aT G ta 3 (krow3 k), oTi (k 0) (T 0), oTi (k 1) (T 1), oTi (k 2) tv51])) hS51 => ?_)
    clear hP49 hD49 hS49
    refine lv_aload hx hb dX5_makeTicket_25 (lv_at hl50 0 rfl) ?_
    refine lv_iload_n hx hb dX5_makeTicket_27 rfl (lv_at hl50 2 rfl) ?_
    refine kput F hK hP51 hD51 hS51 (ty0 := tyX7) 7 25 1 iX7 rfl tyX7_ok nmX7 (fun zz => [oPe pe lc ls li lo dr p, oMs dr da, aI G da 9 f, oRo rh w rp, aM G w 8 (krow q), oMs (q 0) (d 0), aI G (d 0) 9 (M 0), oMs (q 1) (d 1), aI G (d 1) 9 (M 1), oMs (q 2) (d 2), aI G (d 2) 9 (M 2), oMs (q 3) (d 3), aI G (d 3) 9 (M 3), oMs (q 4) (d 4), aI G (d 4) 9 (M 4), oMs (q 5) (d 5), aI G (d 5) 9 (M 5), oMs (q 6) (d 6), aI G (d 6) 9 (M 6), oMs (q 7) (d 7), aI G (d 7) 9 (M 7), oSe h pe ta sn sb s_48, aT G ta 3 (krow3 k), oTi (k 0) (T 0), oTi (k 1) (T 1), oTi (k 2) zz]) tv51 rfl (by decide) (List.mem_of_getElem? (i := 3) rfl) rfl rfl rfl (Nat.le_of_ble_eq_true rfl) rfl dX5_makeTicket_28 (fun H52 locs52 tv52 etv52 (hP52 : va_P G.1 vwCl ([oPe pe lc ls li lo dr p, oMs dr da, aI G da 9 f, oRo rh w rp, aM G w 8 (krow q), oMs (q 0) (d 0), aI G (d 0) 9 (M 0), oMs (q 1) (d 1), aI G (d 1) 9 (M 1), oMs (q 2) (d 2), aI G (d 2) 9 (M 2), oMs (q 3) (d 3), aI G (d 3) 9 (M 3), oMs (q 4) (d 4), aI G (d 4) 9 (M 4), oMs (q 5) (d 5), aI G (d 5) 9 (M 5), oMs (q 6) (d 6), aI G (d 6) 9 (M 6), oMs (q 7) (d 7), aI G (d 7) 9 (M 7), oSe h pe ta sn sb s_48, aT G ta 3 (krow3 k), oTi (k 0) (T 0), oTi (k 1) (T 1), oTi (k 2) tv52]) H52) (hD52 : va_D A ([oPe pe lc ls li lo dr p, oMs dr da, aI G da 9 f, oRo rh w rp, aM G w 8 (krow q), oMs (q 0) (d 0), aI G (d 0) 9 (M 0), oMs (q 1) (d 1), aI G (d 1) 9 (M 1), oMs (q 2) (d 2), aI G (d 2) 9 (M 2), oMs (q 3) (d 3), aI G (d 3) 9 (M 3), oMs (q 4) (d 4), aI G (d 4) 9 (M 4), oMs (q 5) (d 5), aI G (d 5) 9 (M 5), oMs (q 6) (d 6), aI G (d 6) 9 (M 6), oMs (q 7) (d 7), aI G (d 7) 9 (M 7), oSe h pe ta sn sb s_48, aT G ta 3 (krow3 k), oTi (k 0) (T 0), oTi (k 1) (T 1), oTi (k 2) tv52])) hS52 => ?_)
    clear hP51 hD51 hS51
    refine lv_aload hx hb dX5_makeTicket_31 (lv_at hl50 0 rfl) ?_
    refine lv_iload_n hx hb dX5_makeTicket_33 rfl (lv_at hl50 3 rfl) ?_
    refine kput F hK hP52 hD52 hS52 (ty0 := tyX7) 7 25 2 iX7 rfl tyX7_ok nmX7 (fun zz => [oPe pe lc ls li lo dr p, oMs dr da, aI G da 9 f, oRo rh w rp, aM G w 8 (krow q), oMs (q 0) (d 0), aI G (d 0) 9 (M 0), oMs (q 1) (d 1), aI G (d 1) 9 (M 1), oMs (q 2) (d 2), aI G (d 2) 9 (M 2), oMs (q 3) (d 3), aI G (d 3) 9 (M 3), oMs (q 4) (d 4), aI G (d 4) 9 (M 4), oMs (q 5) (d 5), aI G (d 5) 9 (M 5), oMs (q 6) (d 6), aI G (d 6) 9 (M 6), oMs (q 7) (d 7), aI G (d 7) 9 (M 7), oSe h pe ta sn sb s_48, aT G ta 3 (krow3 k), oTi (k 0) (T 0), oTi (k 1) (T 1), oTi (k 2) zz]) tv52 rfl (by decide) (List.mem_of_getElem? (i := 4) rfl) rfl rfl rfl (Nat.le_of_ble_eq_true rfl) rfl dX5_makeTicket_34 (fun H53 locs53 tv53 etv53 (hP53 : va_P G.1 vwCl ([oPe pe lc ls li lo dr p, oMs dr da, aI G da 9 f, oRo rh w rp, aM G w 8 (krow q), oMs (q 0) (d 0), aI G (d 0) 9 (M 0), oMs (q 1) (d 1), aI G (d 1) 9 (M 1), oMs (q 2) (d 2), aI G (d 2) 9 (M 2), oMs (q 3) (d 3), aI G (d 3) 9 (M 3), oMs (q 4) (d 4), aI G (d 4) 9 (M 4), oMs (q 5) (d 5), aI G (d 5) 9 (M 5), oMs (q 6) (d 6), aI G (d 6) 9 (M 6), oMs (q 7) (d 7), aI G (d 7) 9 (M 7), oSe h pe ta sn sb s_48, aT G ta 3 (krow3 k), oTi (k 0) (T 0), oTi (k 1) (T 1), oTi (k 2) tv53]) H53) (hD53 : va_D A ([oPe pe lc ls li lo dr p, oMs dr da, aI G da 9 f, oRo rh w rp, aM G w 8 (krow q), oMs (q 0) (d 0), aI G (d 0) 9 (M 0), oMs (q 1) (d 1), aI G (d 1) 9 (M 1), oMs (q 2) (d 2), aI G (d 2) 9 (M 2), oMs (q 3) (d 3), aI G (d 3) 9 (M 3), oMs (q 4) (d 4), aI G (d 4) 9 (M 4), oMs (q 5) (d 5), aI G (d 5) 9 (M 5), oMs (q 6) (d 6), aI G (d 6) 9 (M 6), oMs (q 7) (d 7), aI G (d 7) 9 (M 7), oSe h pe ta sn sb s_48, aT G ta 3 (krow3 k), oTi (k 0) (T 0), oTi (k 1) (T 1), oTi (k 2) tv53])) hS53 => ?_)
    clear hP52 hD52 hS52
    refine lv_aload hx hb dX5_makeTicket_37 (lv_at hl50 0 rfl) ?_
    refine lv_aload_n hx hb dX5_makeTicket_39 rfl (lv_at hl50 1 rfl) ?_
    refine kget F hK hP53 5 21 0 iX5 rfl rfl (by decide) (List.mem_of_getElem? (i := 5) rfl) rfl dX5_makeTicket_40 ?_
    refine kget F hK hP53 3 0 10 iX3 rfl rfl (by decide) (List.mem_of_getElem? (i := 6) rfl) rfl dX5_makeTicket_43 ?_
    refine lv_aload_n hx hb dX5_makeTicket_46 rfl (lv_at hl50 1 rfl) ?_
    refine kget F hK hP53 5 21 3 iX5 rfl rfl (by decide) (List.mem_of_getElem? (i := 1) rfl) rfl dX5_makeTicket_47 ?_
    refine kPNi F hK hP53 hD53 hS53 hA hl50.1 (c_X8_mix l G (p 10) (s_48 3)) (fun _ => rfl) 16 rfl gX5_makeTicket_X8_mix_n54 (List.mem_of_getElem? (i := 17) rfl) (List.mem_of_getElem? (i := 18) rfl) rfl 2 rfl (by decide +kernel) ⟨Nat.le_of_ble_eq_true rfl, Nat.le_of_ble_eq_true rfl⟩ ⟨Nat.zero_le _, Nat.zero_le _⟩ (Nat.le_of_ble_eq_true rfl) rfl dX5_makeTicket_50 (fun r54 u54 H55 locs55 hw54 (hP55 : va_P G.1 vwCl ([oPe pe lc ls li lo dr p, oMs dr da, aI G da 9 f, oRo rh w rp, aM G w 8 (krow q), oMs (q 0) (d 0), aI G (d 0) 9 (M 0), oMs (q 1) (d 1), aI G (d 1) 9 (M 1), oMs (q 2) (d 2), aI G (d 2) 9 (M 2), oMs (q 3) (d 3), aI G (d 3) 9 (M 3), oMs (q 4) (d 4), aI G (d 4) 9 (M 4), oMs (q 5) (d 5), aI G (d 5) 9 (M 5), oMs (q 6) (d 6), aI G (d 6) 9 (M 6), oMs (q 7) (d 7), aI G (d 7) 9 (M 7), oSe h pe ta sn sb s_48, aT G ta 3 (krow3 k), oTi (k 0) (T 0), oTi (k 1) (T 1), oTi (k 2) tv53]) H55) (hD55 : va_D A ([oPe pe lc ls li lo dr p, oMs dr da, aI G da 9 f, oRo rh w rp, aM G w 8 (krow q), oMs (q 0) (d 0), aI G (d 0) 9 (M 0), oMs (q 1) (d 1), aI G (d 1) 9 (M 1), oMs (q 2) (d 2), aI G (d 2) 9 (M 2), oMs (q 3) (d 3), aI G (d 3) 9 (M 3), oMs (q 4) (d 4), aI G (d 4) 9 (M 4), oMs (q 5) (d 5), aI G (d 5) 9 (M 5), oMs (q 6) (d 6), aI G (d 6) 9 (M 6), oMs (q 7) (d 7), aI G (d 7) 9 (M 7), oSe h pe ta sn sb s_48, aT G ta 3 (krow3 k), oTi (k 0) (T 0), oTi (k 1) (T 1), oTi (k 2) tv53])) hS55 => ?_)
    clear hP53 hD53 hS53
    have w54_0 : r54 = kmix (p 10) (s_48 3) := hw54
    refine kput F hK hP55 hD55 hS55 (ty0 := tyX7) 7 25 3 iX7 rfl tyX7_ok nmX7 (fun zz => [oPe pe lc ls li lo dr p, oMs dr da, aI G da 9 f, oRo rh w rp, aM G w 8 (krow q), oMs (q 0) (d 0), aI G (d 0) 9 (M 0), oMs (q 1) (d 1), aI G (d 1) 9 (M 1), oMs (q 2) (d 2), aI G (d 2) 9 (M 2), oMs (q 3) (d 3), aI G (d 3) 9 (M 3), oMs (q 4) (d 4), aI G (d 4) 9 (M 4), oMs (q 5) (d 5), aI G (d 5) 9 (M 5), oMs (q 6) (d 6), aI G (d 6) 9 (M 6), oMs (q 7) (d 7), aI G (d 7) 9 (M 7), oSe h pe ta sn sb s_48, aT G ta 3 (krow3 k), oTi (k 0) (T 0), oTi (k 1) (T 1), oTi (k 2) zz]) tv53 rfl (by decide) (List.mem_of_getElem? (i := 7) rfl) rfl rfl rfl (Nat.le_of_ble_eq_true rfl) rfl dX5_makeTicket_53 (fun H56 locs56 tv56 etv56 (hP56 : va_P G.1 vwCl ([oPe pe lc ls li lo dr p, oMs dr da, aI G da 9 f, oRo rh w rp, aM G w 8 (krow q), oMs (q 0) (d 0), aI G (d 0) 9 (M 0), oMs (q 1) (d 1), aI G (d 1) 9 (M 1), oMs (q 2) (d 2), aI G (d 2) 9 (M 2), oMs (q 3) (d 3), aI G (d 3) 9 (M 3), oMs (q 4) (d 4), aI G (d 4) 9 (M 4), oMs (q 5) (d 5), aI G (d 5) 9 (M 5), oMs (q 6) (d 6), aI G (d 6) 9 (M 6), oMs (q 7) (d 7), aI G (d 7) 9 (M 7), oSe h pe ta sn sb s_48, aT G ta 3 (krow3 k), oTi (k 0) (T 0), oTi (k 1) (T 1), oTi (k 2) tv56]) H56) (hD56 : va_D A ([oPe pe lc ls li lo dr p, oMs dr da, aI G da 9 f, oRo rh w rp, aM G w 8 (krow q), oMs (q 0) (d 0), aI G (d 0) 9 (M 0), oMs (q 1) (d 1), aI G (d 1) 9 (M 1), oMs (q 2) (d 2), aI G (d 2) 9 (M 2), oMs (q 3) (d 3), aI G (d 3) 9 (M 3), oMs (q 4) (d 4), aI G (d 4) 9 (M 4), oMs (q 5) (d 5), aI G (d 5) 9 (M 5), oMs (q 6) (d 6), aI G (d 6) 9 (M 6), oMs (q 7) (d 7), aI G (d 7) 9 (M 7), oSe h pe ta sn sb s_48, aT G ta 3 (krow3 k), oTi (k 0) (T 0), oTi (k 1) (T 1), oTi (k 2) tv56])) hS56 => ?_)
    clear hP55 hD55 hS55
    refine lv_aload hx hb dX5_makeTicket_56 (lv_at hl50 0 rfl) ?_
    refine lv_aload_n hx hb dX5_makeTicket_58 rfl (lv_at hl50 1 rfl) ?_
    refine kget F hK hP56 5 21 3 iX5 rfl rfl (by decide) (List.mem_of_getElem? (i := 1) rfl) rfl dX5_makeTicket_59 ?_
    refine lv_bipush (v := 77) hx hb dX5_makeTicket_62 (by decide) ?_
    refine kPNi F hK hP56 hD56 hS56 hA hl50.1 (c_X8_mix l G (s_48 3) 77) (fun _ => rfl) 16 rfl gX5_makeTicket_X8_mix_n54 (List.mem_of_getElem? (i := 17) rfl) (List.mem_of_getElem? (i := 18) rfl) rfl 2 rfl (by decide +kernel) ⟨Nat.le_of_ble_eq_true rfl, Nat.le_of_ble_eq_true rfl⟩ ⟨Nat.zero_le _, Nat.zero_le _⟩ (Nat.le_of_ble_eq_true rfl) rfl dX5_makeTicket_64 (fun r57 u57 H58 locs58 hw57 (hP58 : va_P G.1 vwCl ([oPe pe lc ls li lo dr p, oMs dr da, aI G da 9 f, oRo rh w rp, aM G w 8 (krow q), oMs (q 0) (d 0), aI G (d 0) 9 (M 0), oMs (q 1) (d 1), aI G (d 1) 9 (M 1), oMs (q 2) (d 2), aI G (d 2) 9 (M 2), oMs (q 3) (d 3), aI G (d 3) 9 (M 3), oMs (q 4) (d 4), aI G (d 4) 9 (M 4), oMs (q 5) (d 5), aI G (d 5) 9 (M 5), oMs (q 6) (d 6), aI G (d 6) 9 (M 6), oMs (q 7) (d 7), aI G (d 7) 9 (M 7), oSe h pe ta sn sb s_48, aT G ta 3 (krow3 k), oTi (k 0) (T 0), oTi (k 1) (T 1), oTi (k 2) tv56]) H58) (hD58 : va_D A ([oPe pe lc ls li lo dr p, oMs dr da, aI G da 9 f, oRo rh w rp, aM G w 8 (krow q), oMs (q 0) (d 0), aI G (d 0) 9 (M 0), oMs (q 1) (d 1), aI G (d 1) 9 (M 1), oMs (q 2) (d 2), aI G (d 2) 9 (M 2), oMs (q 3) (d 3), aI G (d 3) 9 (M 3), oMs (q 4) (d 4), aI G (d 4) 9 (M 4), oMs (q 5) (d 5), aI G (d 5) 9 (M 5), oMs (q 6) (d 6), aI G (d 6) 9 (M 6), oMs (q 7) (d 7), aI G (d 7) 9 (M 7), oSe h pe ta sn sb s_48, aT G ta 3 (krow3 k), oTi (k 0) (T 0), oTi (k 1) (T 1), oTi (k 2) tv56])) hS58 => ?_)
    clear hP56 hD56 hS56
    have w57_0 : r57 = kmix (s_48 3) 77 := hw57
    refine kput F hK hP58 hD58 hS58 (ty0 := tyX7) 7 25 4 iX7 rfl tyX7_ok nmX7 (fun zz => [oPe pe lc ls li lo dr p, oMs dr da, aI G da 9 f, oRo rh w rp, aM G w 8 (krow q), oMs (q 0) (d 0), aI G (d 0) 9 (M 0), oMs (q 1) (d 1), aI G (d 1) 9 (M 1), oMs (q 2) (d 2), aI G (d 2) 9 (M 2), oMs (q 3) (d 3), aI G (d 3) 9 (M 3), oMs (q 4) (d 4), aI G (d 4) 9 (M 4), oMs (q 5) (d 5), aI G (d 5) 9 (M 5), oMs (q 6) (d 6), aI G (d 6) 9 (M 6), oMs (q 7) (d 7), aI G (d 7) 9 (M 7), oSe h pe ta sn sb s_48, aT G ta 3 (krow3 k), oTi (k 0) (T 0), oTi (k 1) (T 1), oTi (k 2) zz]) tv56 rfl (by decide) (List.mem_of_getElem? (i := 8) rfl) rfl rfl rfl (Nat.le_of_ble_eq_true rfl) rfl dX5_makeTicket_67 (fun H59 locs59 tv59 etv59 (hP59 : va_P G.1 vwCl ([oPe pe lc ls li lo dr p, oMs dr da, aI G da 9 f, oRo rh w rp, aM G w 8 (krow q), oMs (q 0) (d 0), aI G (d 0) 9 (M 0), oMs (q 1) (d 1), aI G (d 1) 9 (M 1), oMs (q 2) (d 2), aI G (d 2) 9 (M 2), oMs (q 3) (d 3), aI G (d 3) 9 (M 3), oMs (q 4) (d 4), aI G (d 4) 9 (M 4), oMs (q 5) (d 5), aI G (d 5) 9 (M 5), oMs (q 6) (d 6), aI G (d 6) 9 (M 6), oMs (q 7) (d 7), aI G (d 7) 9 (M 7), oSe h pe ta sn sb s_48, aT G ta 3 (krow3 k), oTi (k 0) (T 0), oTi (k 1) (T 1), oTi (k 2) tv59]) H59) (hD59 : va_D A ([oPe pe lc ls li lo dr p, oMs dr da, aI G da 9 f, oRo rh w rp, aM G w 8 (krow q), oMs (q 0) (d 0), aI G (d 0) 9 (M 0), oMs (q 1) (d 1), aI G (d 1) 9 (M 1), oMs (q 2) (d 2), aI G (d 2) 9 (M 2), oMs (q 3) (d 3), aI G (d 3) 9 (M 3), oMs (q 4) (d 4), aI G (d 4) 9 (M 4), oMs (q 5) (d 5), aI G (d 5) 9 (M 5), oMs (q 6) (d 6), aI G (d 6) 9 (M 6), oMs (q 7) (d 7), aI G (d 7) 9 (M 7), oSe h pe ta sn sb s_48, aT G ta 3 (krow3 k), oTi (k 0) (T 0), oTi (k 1) (T 1), oTi (k 2) tv59])) hS59 => ?_)
    clear hP58 hD58 hS58
    refine lv_aload_n hx hb dX5_makeTicket_70 rfl (lv_at hl50 1 rfl) ?_
    refine kget F hK hP59 5 21 0 iX5 rfl rfl (by decide) (List.mem_of_getElem? (i := 5) rfl) rfl dX5_makeTicket_71 ?_
    refine kget F hK hP59 3 0 17 iX3 rfl rfl (by decide) (List.mem_of_getElem? (i := 9) rfl) rfl dX5_makeTicket_74 ?_
    refine lv_iconst (v := 5) hx hb dX5_makeTicket_77 (by decide) ?_
    refine kVv (wr := [oPe pe lc ls li lo dr p, oRo rh w rp, aM G w 8 (krow q), oMs (q 0) (d 0), aI G (d 0) 9 (M 0), oMs (q 1) (d 1), aI G (d 1) 9 (M 1), oMs (q 2) (d 2), aI G (d 2) 9 (M 2), oMs (q 3) (d 3), aI G (d 3) 9 (M 3), oMs (q 4) (d 4), aI G (d 4) 9 (M 4), oMs (q 5) (d 5), aI G (d 5) 9 (M 5), oMs (q 6) (d 6), aI G (d 6) 9 (M 6), oMs (q 7) (d 7), aI G (d 7) 9 (M 7), oSe h pe ta sn sb s_48, aT G ta 3 (krow3 k), oTi (k 0) (T 0), oTi (k 1) (T 1), oTi (k 2) tv59]) F hK hP59 hD59 hS59 hA hl50.1 (c_X2_begin l G dr da f 5) [1, 2] [0, 3, 4, 5, 6, 7, 8, 9, 10, 11, 12, 13, 14, 15, 16, 17, 18, 19, 20, 21, 22, 23, 24, 25] 2 0 gX5_makeTicket_X2_begin rfl 1 rfl (by decide +kernel) ⟨Nat.le_of_ble_eq_true rfl, Nat.le_of_ble_eq_true rfl⟩ ⟨Nat.zero_le _, Nat.zero_le _⟩ rfl rfl rfl rfl (by decide) (by decide) (by decide) (Nat.le_of_ble_eq_true rfl) rfl dX5_makeTicket_78 (fun f_60 H61 locs61 hw60 (hP61 : va_P G.1 vwCl ([oPe pe lc ls li lo dr p, oRo rh w rp, aM G w 8 (krow q), oMs (q 0) (d 0), aI G (d 0) 9 (M 0), oMs (q 1) (d 1), aI G (d 1) 9 (M 1), oMs (q 2) (d 2), aI G (d 2) 9 (M 2), oMs (q 3) (d 3), aI G (d 3) 9 (M 3), oMs (q 4) (d 4), aI G (d 4) 9 (M 4), oMs (q 5) (d 5), aI G (d 5) 9 (M 5), oMs (q 6) (d 6), aI G (d 6) 9 (M 6), oMs (q 7) (d 7), aI G (d 7) 9 (M 7), oSe h pe ta sn sb s_48, aT G ta 3 (krow3 k), oTi (k 0) (T 0), oTi (k 1) (T 1), oTi (k 2) tv59, oMs dr da, aI G da 9 f_60]) H61) (hD61 : va_D A ([oPe pe lc ls li lo dr p, oRo rh w rp, aM G w 8 (krow q), oMs (q 0) (d 0), aI G (d 0) 9 (M 0), oMs (q 1) (d 1), aI G (d 1) 9 (M 1), oMs (q 2) (d 2), aI G (d 2) 9 (M 2), oMs (q 3) (d 3), aI G (d 3) 9 (M 3), oMs (q 4) (d 4), aI G (d 4) 9 (M 4), oMs (q 5) (d 5), aI G (d 5) 9 (M 5), oMs (q 6) (d 6), aI G (d 6) 9 (M 6), oMs (q 7) (d 7), aI G (d 7) 9 (M 7), oSe h pe ta sn sb s_48, aT G ta 3 (krow3 k), oTi (k 0) (T 0), oTi (k 1) (T 1), oTi (k 2) tv59, oMs dr da, aI G da 9 f_60])) hS61 => ?_)
    clear hP59 hD59 hS59
    have w60_0 : f_60 = kbeg f 5 := hw60
    refine lv_aload_n hx hb dX5_makeTicket_81 rfl (lv_at hl50 1 rfl) ?_
    refine kget F hK hP61 5 19 0 iX5 rfl rfl (by decide) (List.mem_of_getElem? (i := 5) rfl) rfl dX5_makeTicket_82 ?_
    refine kget F hK hP61 3 0 17 iX3 rfl rfl (by decide) (List.mem_of_getElem? (i := 9) rfl) rfl dX5_makeTicket_85 ?_
    refine lv_iconst (v := 1) hx hb dX5_makeTicket_88 (by decide) ?_
    refine lv_aload_n hx hb dX5_makeTicket_89 rfl (lv_at hl50 1 rfl) ?_
    refine kget F hK hP61 5 19 3 iX5 rfl rfl (by decide) (List.mem_of_getElem? (i := 1) rfl) rfl dX5_makeTicket_90 ?_
    refine kVv (wr := [oPe pe lc ls li lo dr p, oRo rh w rp, aM G w 8 (krow q), oMs (q 0) (d 0), aI G (d 0) 9 (M 0), oMs (q 1) (d 1), aI G (d 1) 9 (M 1), oMs (q 2) (d 2), aI G (d 2) 9 (M 2), oMs (q 3) (d 3), aI G (d 3) 9 (M 3), oMs (q 4) (d 4), aI G (d 4) 9 (M 4), oMs (q 5) (d 5), aI G (d 5) 9 (M 5), oMs (q 6) (d 6), aI G (d 6) 9 (M 6), oMs (q 7) (d 7), aI G (d 7) 9 (M 7), oSe h pe ta sn sb s_48, aT G ta 3 (krow3 k), oTi (k 0) (T 0), oTi (k 1) (T 1), oTi (k 2) tv59]) F hK hP61 hD61 hS61 hA hl50.1 (c_X2_put l G dr da f_60 1 (s_48 3) (by first | assumption | decide | omega)) [24, 25] [0, 1, 2, 3, 4, 5, 6, 7, 8, 9, 10, 11, 12, 13, 14, 15, 16, 17, 18, 19, 20, 21, 22, 23] 2 0 gX5_makeTicket_X2_put rfl 2 rfl (by decide +kernel) ⟨Nat.le_of_ble_eq_true rfl, Nat.le_of_ble_eq_true rfl⟩ ⟨Nat.zero_le _, Nat.zero_le _⟩ rfl rfl rfl rfl (by decide) (by decide) (by decide) (Nat.le_of_ble_eq_true rfl) rfl dX5_makeTicket_93 (fun f_62 H63 locs63 hw62 (hP63 : va_P G.1 vwCl ([oPe pe lc ls li lo dr p, oRo rh w rp, aM G w 8 (krow q), oMs (q 0) (d 0), aI G (d 0) 9 (M 0), oMs (q 1) (d 1), aI G (d 1) 9 (M 1), oMs (q 2) (d 2), aI G (d 2) 9 (M 2), oMs (q 3) (d 3), aI G (d 3) 9 (M 3), oMs (q 4) (d 4), aI G (d 4) 9 (M 4), oMs (q 5) (d 5), aI G (d 5) 9 (M 5), oMs (q 6) (d 6), aI G (d 6) 9 (M 6), oMs (q 7) (d 7), aI G (d 7) 9 (M 7), oSe h pe ta sn sb s_48, aT G ta 3 (krow3 k), oTi (k 0) (T 0), oTi (k 1) (T 1), oTi (k 2) tv59, oMs dr da, aI G da 9 f_62]) H63) (hD63 : va_D A ([oPe pe lc ls li lo dr p, oRo rh w rp, aM G w 8 (krow q), oMs (q 0) (d 0), aI G (d 0) 9 (M 0), oMs (q 1) (d 1), aI G (d 1) 9 (M 1), oMs (q 2) (d 2), aI G (d 2) 9 (M 2), oMs (q 3) (d 3), aI G (d 3) 9 (M 3), oMs (q 4) (d 4), aI G (d 4) 9 (M 4), oMs (q 5) (d 5), aI G (d 5) 9 (M 5), oMs (q 6) (d 6), aI G (d 6) 9 (M 6), oMs (q 7) (d 7), aI G (d 7) 9 (M 7), oSe h pe ta sn sb s_48, aT G ta 3 (krow3 k), oTi (k 0) (T 0), oTi (k 1) (T 1), oTi (k 2) tv59, oMs dr da, aI G da 9 f_62])) hS63 => ?_)
    clear hP61 hD61 hS61
    have w62_0 : f_62 = upd f_60 1 (s_48 3) := hw62
    refine lv_aload_n hx hb dX5_makeTicket_96 rfl (lv_at hl50 1 rfl) ?_
    refine kget F hK hP63 5 19 0 iX5 rfl rfl (by decide) (List.mem_of_getElem? (i := 5) rfl) rfl dX5_makeTicket_97 ?_
    refine kget F hK hP63 3 0 17 iX3 rfl rfl (by decide) (List.mem_of_getElem? (i := 9) rfl) rfl dX5_makeTicket_100 ?_
    refine lv_iconst (v := 2) hx hb dX5_makeTicket_103 (by decide) ?_
    refine lv_aload hx hb dX5_makeTicket_104 (lv_at hl50 0 rfl) ?_
    refine kget F hK hP63 7 23 4 iX7 rfl rfl (by decide) (List.mem_of_getElem? (i := 8) rfl) rfl dX5_makeTicket_106 ?_
    refine kVv (wr := [oPe pe lc ls li lo dr p, oRo rh w rp, aM G w 8 (krow q), oMs (q 0) (d 0), aI G (d 0) 9 (M 0), oMs (q 1) (d 1), aI G (d 1) 9 (M 1), oMs (q 2) (d 2), aI G (d 2) 9 (M 2), oMs (q 3) (d 3), aI G (d 3) 9 (M 3), oMs (q 4) (d 4), aI G (d 4) 9 (M 4), oMs (q 5) (d 5), aI G (d 5) 9 (M 5), oMs (q 6) (d 6), aI G (d 6) 9 (M 6), oMs (q 7) (d 7), aI G (d 7) 9 (M 7), oSe h pe ta sn sb s_48, aT G ta 3 (krow3 k), oTi (k 0) (T 0), oTi (k 1) (T 1), oTi (k 2) tv59]) F hK hP63 hD63 hS63 hA hl50.1 (c_X2_put l G dr da f_62 2 (tv59 4) (by first | assumption | decide | omega)) [24, 25] [0, 1, 2, 3, 4, 5, 6, 7, 8, 9, 10, 11, 12, 13, 14, 15, 16, 17, 18, 19, 20, 21, 22, 23] 2 0 gX5_makeTicket_X2_put rfl 2 rfl (by decide +kernel) ⟨Nat.le_of_ble_eq_true rfl, Nat.le_of_ble_eq_true rfl⟩ ⟨Nat.zero_le _, Nat.zero_le _⟩ rfl rfl rfl rfl (by decide) (by decide) (by decide) (Nat.le_of_ble_eq_true rfl) rfl dX5_makeTicket_109 (fun f_64 H65 locs65 hw64 (hP65 : va_P G.1 vwCl ([oPe pe lc ls li lo dr p, oRo rh w rp, aM G w 8 (krow q), oMs (q 0) (d 0), aI G (d 0) 9 (M 0), oMs (q 1) (d 1), aI G (d 1) 9 (M 1), oMs (q 2) (d 2), aI G (d 2) 9 (M 2), oMs (q 3) (d 3), aI G (d 3) 9 (M 3), oMs (q 4) (d 4), aI G (d 4) 9 (M 4), oMs (q 5) (d 5), aI G (d 5) 9 (M 5), oMs (q 6) (d 6), aI G (d 6) 9 (M 6), oMs (q 7) (d 7), aI G (d 7) 9 (M 7), oSe h pe ta sn sb s_48, aT G ta 3 (krow3 k), oTi (k 0) (T 0), oTi (k 1) (T 1), oTi (k 2) tv59, oMs dr da, aI G da 9 f_64]) H65) (hD65 : va_D A ([oPe pe lc ls li lo dr p, oRo rh w rp, aM G w 8 (krow q), oMs (q 0) (d 0), aI G (d 0) 9 (M 0), oMs (q 1) (d 1), aI G (d 1) 9 (M 1), oMs (q 2) (d 2), aI G (d 2) 9 (M 2), oMs (q 3) (d 3), aI G (d 3) 9 (M 3), oMs (q 4) (d 4), aI G (d 4) 9 (M 4), oMs (q 5) (d 5), aI G (d 5) 9 (M 5), oMs (q 6) (d 6), aI G (d 6) 9 (M 6), oMs (q 7) (d 7), aI G (d 7) 9 (M 7), oSe h pe ta sn sb s_48, aT G ta 3 (krow3 k), oTi (k 0) (T 0), oTi (k 1) (T 1), oTi (k 2) tv59, oMs dr da, aI G da 9 f_64])) hS65 => ?_)
    clear hP63 hD63 hS63
    have w64_0 : f_64 = upd f_62 2 (tv59 4) := hw64
    refine lv_aload_n hx hb dX5_makeTicket_112 rfl (lv_at hl50 1 rfl) ?_
    refine kget F hK hP65 5 19 0 iX5 rfl rfl (by decide) (List.mem_of_getElem? (i := 5) rfl) rfl dX5_makeTicket_113 ?_
    refine kget F hK hP65 3 0 17 iX3 rfl rfl (by decide) (List.mem_of_getElem? (i := 9) rfl) rfl dX5_makeTicket_116 ?_
    refine lv_iconst (v := 3) hx hb dX5_makeTicket_119 (by decide) ?_
    refine lv_iload_n hx hb dX5_makeTicket_120 rfl (lv_at hl50 2 rfl) ?_
    refine kVv (wr := [oPe pe lc ls li lo dr p, oRo rh w rp, aM G w 8 (krow q), oMs (q 0) (d 0), aI G (d 0) 9 (M 0), oMs (q 1) (d 1), aI G (d 1) 9 (M 1), oMs (q 2) (d 2), aI G (d 2) 9 (M 2), oMs (q 3) (d 3), aI G (d 3) 9 (M 3), oMs (q 4) (d 4), aI G (d 4) 9 (M 4), oMs (q 5) (d 5), aI G (d 5) 9 (M 5), oMs (q 6) (d 6), aI G (d 6) 9 (M 6), oMs (q 7) (d 7), aI G (d 7) 9 (M 7), oSe h pe ta sn sb s_48, aT G ta 3 (krow3 k), oTi (k 0) (T 0), oTi (k 1) (T 1), oTi (k 2) tv59]) F hK hP65 hD65 hS65 hA hl50.1 (c_X2_put l G dr da f_64 3 life (by first | assumption | decide | omega)) [24, 25] [0, 1, 2, 3, 4, 5, 6, 7, 8, 9, 10, 11, 12, 13, 14, 15, 16, 17, 18, 19, 20, 21, 22, 23] 2 0 gX5_makeTicket_X2_put rfl 2 rfl (by decide +kernel) ⟨Nat.le_of_ble_eq_true rfl, Nat.le_of_ble_eq_true rfl⟩ ⟨Nat.zero_le _, Nat.zero_le _⟩ rfl rfl rfl rfl (by decide) (by decide) (by decide) (Nat.le_of_ble_eq_true rfl) rfl dX5_makeTicket_121 (fun f_66 H67 locs67 hw66 (hP67 : va_P G.1 vwCl ([oPe pe lc ls li lo dr p, oRo rh w rp, aM G w 8 (krow q), oMs (q 0) (d 0), aI G (d 0) 9 (M 0), oMs (q 1) (d 1), aI G (d 1) 9 (M 1), oMs (q 2) (d 2), aI G (d 2) 9 (M 2), oMs (q 3) (d 3), aI G (d 3) 9 (M 3), oMs (q 4) (d 4), aI G (d 4) 9 (M 4), oMs (q 5) (d 5), aI G (d 5) 9 (M 5), oMs (q 6) (d 6), aI G (d 6) 9 (M 6), oMs (q 7) (d 7), aI G (d 7) 9 (M 7), oSe h pe ta sn sb s_48, aT G ta 3 (krow3 k), oTi (k 0) (T 0), oTi (k 1) (T 1), oTi (k 2) tv59, oMs dr da, aI G da 9 f_66]) H67) (hD67 : va_D A ([oPe pe lc ls li lo dr p, oRo rh w rp, aM G w 8 (krow q), oMs (q 0) (d 0), aI G (d 0) 9 (M 0), oMs (q 1) (d 1), aI G (d 1) 9 (M 1), oMs (q 2) (d 2), aI G (d 2) 9 (M 2), oMs (q 3) (d 3), aI G (d 3) 9 (M 3), oMs (q 4) (d 4), aI G (d 4) 9 (M 4), oMs (q 5) (d 5), aI G (d 5) 9 (M 5), oMs (q 6) (d 6), aI G (d 6) 9 (M 6), oMs (q 7) (d 7), aI G (d 7) 9 (M 7), oSe h pe ta sn sb s_48, aT G ta 3 (krow3 k), oTi (k 0) (T 0), oTi (k 1) (T 1), oTi (k 2) tv59, oMs dr da, aI G da 9 f_66])) hS67 => ?_)
    clear hP65 hD65 hS65
    have w66_0 : f_66 = upd f_64 3 life := hw66
    refine lv_aload_n hx hb dX5_makeTicket_124 rfl (lv_at hl50 4 rfl) ?_
    refine lv_aload_n hx hb dX5_makeTicket_125 rfl (lv_at hl50 1 rfl) ?_
    refine kget F hK hP67 5 19 0 iX5 rfl rfl (by decide) (List.mem_of_getElem? (i := 5) rfl) rfl dX5_makeTicket_126 ?_
    refine kget F hK hP67 3 0 17 iX3 rfl rfl (by decide) (List.mem_of_getElem? (i := 9) rfl) rfl dX5_makeTicket_129 ?_
    refine kVv (wr := [oPe pe lc ls li lo dr p, oSe h pe ta sn sb s_48, aT G ta 3 (krow3 k), oTi (k 0) (T 0), oTi (k 1) (T 1), oTi (k 2) tv59]) F hK hP67 hD67 hS67 hA hl50.1 (c_X4_send l G rh w q d rp M dr da f_66 L hL hL8) [1, 2, 3, 4, 5, 6, 7, 8, 9, 10, 11, 12, 13, 14, 15, 16, 17, 18, 24, 25] [0, 19, 20, 21, 22, 23] 4 0 gX5_makeTicket_X4_send rfl 1 rfl (by decide +kernel) ⟨Nat.le_of_ble_eq_true rfl, Nat.le_of_ble_eq_true rfl⟩ ⟨Nat.zero_le _, Nat.zero_le _⟩ rfl rfl rfl rfl (by decide) (by decide) (by decide) (Nat.le_of_ble_eq_true rfl) rfl dX5_makeTicket_132 (fun u68 H69 locs69 hw68 hP69 hD69 hS69 => ?_)
    obtain ⟨p_68, M_68⟩ := u68
    have hP69 : va_P G.1 vwCl ([oPe pe lc ls li lo dr p, oSe h pe ta sn sb s_48, aT G ta 3 (krow3 k), oTi (k 0) (T 0), oTi (k 1) (T 1), oTi (k 2) tv59, oRo rh w p_68, aM G w 8 (krow q), oMs (q 0) (d 0), aI G (d 0) 9 (M_68 0), oMs (q 1) (d 1), aI G (d 1) 9 (M_68 1), oMs (q 2) (d 2), aI G (d 2) 9 (M_68 2), oMs (q 3) (d 3), aI G (d 3) 9 (M_68 3), oMs (q 4) (d 4), aI G (d 4) 9 (M_68 4), oMs (q 5) (d 5), aI G (d 5) 9 (M_68 5), oMs (q 6) (d 6), aI G (d 6) 9 (M_68 6), oMs (q 7) (d 7), aI G (d 7) 9 (M_68 7), oMs dr da, aI G da 9 f_66]) H69 := hP69
    have hD69 : va_D A ([oPe pe lc ls li lo dr p, oSe h pe ta sn sb s_48, aT G ta 3 (krow3 k), oTi (k 0) (T 0), oTi (k 1) (T 1), oTi (k 2) tv59, oRo rh w p_68, aM G w 8 (krow q), oMs (q 0) (d 0), aI G (d 0) 9 (M_68 0), oMs (q 1) (d 1), aI G (d 1) 9 (M_68 1), oMs (q 2) (d 2), aI G (d 2) 9 (M_68 2), oMs (q 3) (d 3), aI G (d 3) 9 (M_68 3), oMs (q 4) (d 4), aI G (d 4) 9 (M_68 4), oMs (q 5) (d 5), aI G (d 5) 9 (M_68 5), oMs (q 6) (d 6), aI G (d 6) 9 (M_68 6), oMs (q 7) (d 7), aI G (d 7) 9 (M_68 7), oMs dr da, aI G da 9 f_66]) := hD69
    clear hP67 hD67 hS67
    have w68_0 : p_68 = ksendP L rp := hw68.1
    have w68_1 : M_68 = ksendM L M f_66 := hw68.2
    refine lv_aload_n hx hb dX5_makeTicket_135 rfl (lv_at hl50 1 rfl) ?_
    refine kget F hK hP69 5 1 3 iX5 rfl rfl (by decide) (List.mem_of_getElem? (i := 1) rfl) rfl dX5_makeTicket_136 ?_
    have q70 : ((s_48 3) = s 3 + 1) ∧ (s_48 = upd (upd s 3 (s 3 + 1)) 2 (s 2 + 1)) ∧ (f_66 = ktkm p f (s 3 + 1) life) ∧ ((va_up T 2 tv59) = va_up T 2 (ktk (T 2) (s 3 + 1) life now (kmix (p 10) (s 3 + 1)) (kmix (s 3 + 1) 77))) ∧ (p_68 = ksendP L rp) ∧ (M_68 = ksendM L M (ktkm p f (s 3 + 1) life)) := by
      subst w68_1
      subst w68_0
      subst w66_0
      subst w64_0
      subst w62_0
      subst w60_0
      subst etv59
      subst w57_0
      subst etv56
      subst w54_0
      subst etv53
      subst etv52
      subst etv51
      subst w48_0
      subst es1
      first | (simp only [eq_self, ↓reduceIte, and_self, and_true, true_and]; done) | (simp only [eq_self, ↓reduceIte, and_self, and_true, true_and]; (try and_intros) <;> rfl) | exact ⟨rfl, rfl, rfl, rfl, rfl, rfl⟩
    exact kRi F hr hlocks hS69 dX5_makeTicket_139 ⟨s_48, f_66, (va_up T 2 tv59), p_68, M_68⟩ q70 (hP69.sub [1, 0, 24, 25, 2, 3, 4, 5, 6, 7, 8, 9, 10, 11, 12, 13, 14, 15, 16, 17, 18, 19, 20, 21, 22, 23] rfl) (hD69.sub [1, 0, 24, 25, 2, 3, 4, 5, 6, 7, 8, 9, 10, 11, 12, 13, 14, 15, 16, 17, 18, 19, 20, 21, 22, 23] (by decide) rfl)
  exact absurd lK (by omega)
set_option maxHeartbeats 1000000 in
set_option maxRecDepth 100000 in
theorem c_X5_makeTicketB (l : Launch) (G : kG) (h : Nat) (pe : Nat) (ta : Nat) (sn : Nat) (sb : Nat) (lc : Nat) (ls : Nat) (li : Nat) (lo : Nat) (dr : Nat) (da : Nat) (s : Nat → Int32) (p : Nat → Int32) (f : Nat → Int32) (k : Nat → Nat) (T : Nat → Nat → Int32) (rh : Nat) (w : Nat) (q : Nat → Nat) (d : Nat → Nat) (rp : Nat → Int32) (M : Nat → Nat → Int32) (L : Nat) (life : Int32) (now : Int32) (hL : rp 1 = nI L) (hL8 : L ≤ 8) (hKe : s 2 = nI 3) : kM G l yX5_makeTicket wsX5_makeTicket ({ frames := 2, cells := 0, slots := 0, locals := 43 }) [.ref h, .int life, .int now, .ref rh] ([oSe h pe ta sn sb s, oPe pe lc ls li lo dr p, oMs dr da, aI G da 9 f, aT G ta 3 (krow3 k), oTi (k 0) (T 0), oTi (k 1) (T 1), oTi (k 2) (T 2), oRo rh w rp, aM G w 8 (krow q), oMs (q 0) (d 0), aI G (d 0) 9 (M 0), oMs (q 1) (d 1), aI G (d 1) 9 (M 1), oMs (q 2) (d 2), aI G (d 2) 9 (M 2), oMs (q 3) (d 3), aI G (d 3) 9 (M 3), oMs (q 4) (d 4), aI G (d 4) 9 (M 4), oMs (q 5) (d 5), aI G (d 5) 9 (M 5), oMs (q 6) (d 6), aI G (d 6) 9 (M 6), oMs (q 7) (d 7), aI G (d 7) 9 (M 7)]) (kQi G (fun (rr : Int32) (uu : (Nat → Int32) × (Nat → Int32) × (Nat → Int32) × (Nat → Int32) × (Nat → Nat → Int32)) => (rr = s 3 + 1) ∧ (uu.1 = upd s 3 (s 3 + 1)) ∧ (uu.2.1 = ktkm p f (s 3 + 1) life) ∧ (uu.2.2.1 = ktk (T 0) (s 3 + 1) life now (kmix (p 10) (s 3 + 1)) (kmix (s 3 + 1) 77)) ∧ (uu.2.2.2.1 = ksendP L rp) ∧ (uu.2.2.2.2 = ksendM L M (ktkm p f (s 3 + 1) life))) (fun (uu : (Nat → Int32) × (Nat → Int32) × (Nat → Int32) × (Nat → Int32) × (Nat → Nat → Int32)) => [oSe h pe ta sn sb uu.1, oPe pe lc ls li lo dr p, oMs dr da, aI G da 9 uu.2.1, aT G ta 3 (krow3 (krot3 k)), oTi (k 1) (T 1), oTi (k 2) (T 2), oTi (k 0) uu.2.2.1, oRo rh w uu.2.2.2.1, aM G w 8 (krow q), oMs (q 0) (d 0), aI G (d 0) 9 (uu.2.2.2.2 0), oMs (q 1) (d 1), aI G (d 1) 9 (uu.2.2.2.2 1), oMs (q 2) (d 2), aI G (d 2) 9 (uu.2.2.2.2 2), oMs (q 3) (d 3), aI G (d 3) 9 (uu.2.2.2.2 3), oMs (q 4) (d 4), aI G (d 4) 9 (uu.2.2.2.2 4), oMs (q 5) (d 5), aI G (d 5) 9 (uu.2.2.2.2 5), oMs (q 6) (d 6), aI G (d 6) 9 (uu.2.2.2.2 6), oMs (q 7) (d 7), aI G (d 7) 9 (uu.2.2.2.2 7)])) := by
  refine kStart (cc := cX5_makeTicket) (maxL := 5) (ret := (some .int)) (by decide) rfl (Nat.le_of_ble_eq_true rfl) (fun pg ev st mi bl mt cd A ls0 F hr hlocks hin hK hP0 hD0 hA hS0 hl0 => ?_)
  obtain ⟨hx, hb, hml, hown, hts⟩ := id F
  have hl0 : lv_has ls0 5 [(0, .ref h), (1, .int life), (2, .int now), (3, .ref rh)] := hl0
  have iX3 : ∀ w ∈ u_ws RX3 TX3 18, w ∈ wsX5_makeTicket := fun w h => List.mem_cons_of_mem _ (List.mem_append_left _ (List.mem_append_left _ (List.mem_append_right _ h)))
  have iX5 : ∀ w ∈ u_ws RX5 TX5 9, w ∈ wsX5_makeTicket := fun w h => List.mem_cons_of_mem _ (List.mem_append_left _ (List.mem_append_left _ (List.mem_append_left _ (List.mem_append_left _ (List.mem_append_right _ h)))))
  have iX7 : ∀ w ∈ u_ws RX7 TX7 5, w ∈ wsX5_makeTicket := fun w h => List.mem_cons_of_mem _ (List.mem_append_left _ (List.mem_append_left _ (List.mem_append_left _ (List.mem_append_right _ h))))
  refine lv_aload_n hx hb dX5_makeTicket_0 rfl (lv_at hl0 0 rfl) ?_
  refine lv_dup hx hb dX5_makeTicket_1 rfl ?_
  refine kget F hK hP0 5 0 3 iX5 rfl rfl (by decide) (List.mem_of_getElem? (i := 1) rfl) rfl dX5_makeTicket_2 ?_
  refine lv_iconst (v := 1) hx hb dX5_makeTicket_5 (by decide) ?_
  refine lv_iadd hx hb dX5_makeTicket_6 ?_
  refine kput F hK hP0 hD0 hS0 (ty0 := tyX5) 5 0 3 iX5 rfl tyX5_ok nmX5 (fun zz => [oSe h pe ta sn sb zz, oPe pe lc ls li lo dr p, oMs dr da, aI G da 9 f, aT G ta 3 (krow3 k), oTi (k 0) (T 0), oTi (k 1) (T 1), oTi (k 2) (T 2), oRo rh w rp, aM G w 8 (krow q), oMs (q 0) (d 0), aI G (d 0) 9 (M 0), oMs (q 1) (d 1), aI G (d 1) 9 (M 1), oMs (q 2) (d 2), aI G (d 2) 9 (M 2), oMs (q 3) (d 3), aI G (d 3) 9 (M 3), oMs (q 4) (d 4), aI G (d 4) 9 (M 4), oMs (q 5) (d 5), aI G (d 5) 9 (M 5), oMs (q 6) (d 6), aI G (d 6) 9 (M 6), oMs (q 7) (d 7), aI G (d 7) 9 (M 7)]) s rfl (by decide) (List.mem_of_getElem? (i := 1) rfl) rfl rfl rfl (Nat.le_of_ble_eq_true rfl) rfl dX5_makeTicket_7 (fun H1 locs1 s1 es1 (hP1 : va_P G.1 vwCl ([oSe h pe ta sn sb s1, oPe pe lc ls li lo dr p, oMs dr da, aI G da 9 f, aT G ta 3 (krow3 k), oTi (k 0) (T 0), oTi (k 1) (T 1), oTi (k 2) (T 2), oRo rh w rp, aM G w 8 (krow q), oMs (q 0) (d 0), aI G (d 0) 9 (M 0), oMs (q 1) (d 1), aI G (d 1) 9 (M 1), oMs (q 2) (d 2), aI G (d 2) 9 (M 2), oMs (q 3) (d 3), aI G (d 3) 9 (M 3), oMs (q 4) (d 4), aI G (d 4) 9 (M 4), oMs (q 5) (d 5), aI G (d 5) 9 (M 5), oMs (q 6) (d 6), aI G (d 6) 9 (M 6), oMs (q 7) (d 7), aI G (d 7) 9 (M 7)]) H1) (hD1 : va_D A ([oSe h pe ta sn sb s1, oPe pe lc ls li lo dr p, oMs dr da, aI G da 9 f, aT G ta 3 (krow3 k), oTi (k 0) (T 0), oTi (k 1) (T 1), oTi (k 2) (T 2), oRo rh w rp, aM G w 8 (krow q), oMs (q 0) (d 0), aI G (d 0) 9 (M 0), oMs (q 1) (d 1), aI G (d 1) 9 (M 1), oMs (q 2) (d 2), aI G (d 2) 9 (M 2), oMs (q 3) (d 3), aI G (d 3) 9 (M 3), oMs (q 4) (d 4), aI G (d 4) 9 (M 4), oMs (q 5) (d 5), aI G (d 5) 9 (M 5), oMs (q 6) (d 6), aI G (d 6) 9 (M 6), oMs (q 7) (d 7), aI G (d 7) 9 (M 7)])) hS1 => ?_)
  clear hP0 hD0 hS0
  refine lv_aload_n hx hb dX5_makeTicket_10 rfl (lv_at hl0 0 rfl) ?_
  refine kVr (wr := [oPe pe lc ls li lo dr p, oMs dr da, aI G da 9 f, oRo rh w rp, aM G w 8 (krow q), oMs (q 0) (d 0), aI G (d 0) 9 (M 0), oMs (q 1) (d 1), aI G (d 1) 9 (M 1), oMs (q 2) (d 2), aI G (d 2) 9 (M 2), oMs (q 3) (d 3), aI G (d 3) 9 (M 3), oMs (q 4) (d 4), aI G (d 4) 9 (M 4), oMs (q 5) (d 5), aI G (d 5) 9 (M 5), oMs (q 6) (d 6), aI G (d 6) 9 (M 6), oMs (q 7) (d 7), aI G (d 7) 9 (M 7)]) F hK hP1 hD1 hS1 hA hl0.1 (c_X5_placeB l G h pe ta sn sb s1 k T (by subst es1; exact hKe)) [0, 4, 5, 6, 7] [1, 2, 3, 8, 9, 10, 11, 12, 13, 14, 15, 16, 17, 18, 19, 20, 21, 22, 23, 24, 25] 5 0 gX5_makeTicket_X5_placeForTicket rfl 0 rfl (by decide +kernel) ⟨Nat.le_of_ble_eq_true rfl, Nat.le_of_ble_eq_true rfl⟩ ⟨Nat.zero_le _, Nat.zero_le _⟩ rfl rfl rfl rfl (by decide) (by decide) (by decide) (Nat.le_of_ble_eq_true rfl) rfl dX5_makeTicket_11 (fun u2 H3 locs3 hw2 (hP3 : va_P G.1 vwCl ([oPe pe lc ls li lo dr p, oMs dr da, aI G da 9 f, oRo rh w rp, aM G w 8 (krow q), oMs (q 0) (d 0), aI G (d 0) 9 (M 0), oMs (q 1) (d 1), aI G (d 1) 9 (M 1), oMs (q 2) (d 2), aI G (d 2) 9 (M 2), oMs (q 3) (d 3), aI G (d 3) 9 (M 3), oMs (q 4) (d 4), aI G (d 4) 9 (M 4), oMs (q 5) (d 5), aI G (d 5) 9 (M 5), oMs (q 6) (d 6), aI G (d 6) 9 (M 6), oMs (q 7) (d 7), aI G (d 7) 9 (M 7), oSe h pe ta sn sb s1, aT G ta 3 (krow3 (krot3 k)), oTi (k 0) (T 0), oTi (k 1) (T 1), oTi (k 2) (T 2)]) H3) (hD3 : va_D A ([oPe pe lc ls li lo dr p, oMs dr da, aI G da 9 f, oRo rh w rp, aM G w 8 (krow q), oMs (q 0) (d 0), aI G (d 0) 9 (M 0), oMs (q 1) (d 1), aI G (d 1) 9 (M 1), oMs (q 2) (d 2), aI G (d 2) 9 (M 2), oMs (q 3) (d 3), aI G (d 3) 9 (M 3), oMs (q 4) (d 4), aI G (d 4) 9 (M 4), oMs (q 5) (d 5), aI G (d 5) 9 (M 5), oMs (q 6) (d 6), aI G (d 6) 9 (M 6), oMs (q 7) (d 7), aI G (d 7) 9 (M 7), oSe h pe ta sn sb s1, aT G ta 3 (krow3 (krot3 k)), oTi (k 0) (T 0), oTi (k 1) (T 1), oTi (k 2) (T 2)])) hS3 => ?_)
  clear hP1 hD1 hS1
  refine lv_astore (lv' := [(4, .ref (k 0)), (0, .ref h), (1, .int life), (2, .int now), (3, .ref rh)]) hx hb dX5_makeTicket_14 hl0 (by decide) rfl (fun ls4 hl4 => ?_)
  clear hl0
  refine lv_aload hx hb dX5_makeTicket_16 (lv_at hl4 0 rfl) ?_
  refine lv_aload_n hx hb dX5_makeTicket_18 rfl (lv_at hl4 1 rfl) ?_
  refine kget F hK hP3 5 21 3 iX5 rfl rfl (by decide) (List.mem_of_getElem? (i := 1) rfl) rfl dX5_makeTicket_19 ?_
  refine kput F hK hP3 hD3 hS3 (ty0 := tyX7) 7 23 0 iX7 rfl tyX7_ok nmX7 (fun zz => [oPe pe lc ls li lo dr p, oMs dr da, aI G da 9 f, oRo rh w rp, aM G w 8 (krow q), oMs (q 0) (d 0), aI G (d 0) 9 (M 0), oMs (q 1) (d 1), aI G (d 1) 9 (M 1), oMs (q 2) (d 2), aI G (d 2) 9 (M 2), oMs (q 3) (d 3), aI G (d 3) 9 (M 3), oMs (q 4) (d 4), aI G (d 4) 9 (M 4), oMs (q 5) (d 5), aI G (d 5) 9 (M 5), oMs (q 6) (d 6), aI G (d 6) 9 (M 6), oMs (q 7) (d 7), aI G (d 7) 9 (M 7), oSe h pe ta sn sb s1, aT G ta 3 (krow3 (krot3 k)), oTi (k 0) zz, oTi (k 1) (T 1), oTi (k 2) (T 2)]) (T 0) rfl (by decide) (List.mem_of_getElem? (i := 2) rfl) rfl rfl rfl (Nat.le_of_ble_eq_true rfl) rfl dX5_makeTicket_22 (fun H5 locs5 tv5 etv5 (hP5 : va_P G.1 vwCl ([oPe pe lc ls li lo dr p, oMs dr da, aI G da 9 f, oRo rh w rp, aM G w 8 (krow q), oMs (q 0) (d 0), aI G (d 0) 9 (M 0), oMs (q 1) (d 1), aI G (d 1) 9 (M 1), oMs (q 2) (d 2), aI G (d 2) 9 (M 2), oMs (q 3) (d 3), aI G (d 3) 9 (M 3), oMs (q 4) (d 4), aI G (d 4) 9 (M 4), oMs (q 5) (d 5), aI G (d 5) 9 (M 5), oMs (q 6) (d 6), aI G (d 6) 9 (M 6), oMs (q 7) (d 7), aI G (d 7) 9 (M 7), oSe h pe ta sn sb s1, aT G ta 3 (krow3 (krot3 k)), oTi (k 0) tv5, oTi (k 1) (T 1), oTi (k 2) (T 2)]) H5) (hD5 : va_D A ([oPe pe lc ls li lo dr p, oMs dr da, aI G da 9 f, oRo rh w rp, aM G w 8 (krow q), oMs (q 0) (d 0), aI G (d 0) 9 (M 0), oMs (q 1) (d 1), aI G (d 1) 9 (M 1), oMs (q 2) (d 2), aI G (d 2) 9 (M 2), oMs (q 3) (d 3), aI G (d 3) 9 (M 3), oMs (q 4) (d 4), aI G (d 4) 9 (M 4), oMs (q 5) (d 5), aI G (d 5) 9 (M 5), oMs (q 6) (d 6), aI G (d 6) 9 (M 6), oMs (q 7) (d 7), aI G (d 7) 9 (M 7), oSe h pe ta sn sb s1, aT G ta 3 (krow3 (krot3 k)), oTi (k 0) tv5, oTi (k 1) (T 1), oTi (k 2) (T 2)])) hS5 => ?_)
  clear hP3 hD3 hS3
  refine lv_aload hx hb dX5_makeTicket_25 (lv_at hl4 0 rfl) ?_
  refine lv_iload_n hx hb dX5_makeTicket_27 rfl (lv_at hl4 2 rfl) ?_
  refine kput F hK hP5 hD5 hS5 (ty0 := tyX7) 7 23 1 iX7 rfl tyX7_ok nmX7 (fun zz => [oPe pe lc ls li lo dr p, oMs dr da, aI G da 9 f, oRo rh w rp, aM G w 8 (krow q), oMs (q 0) (d 0), aI G (d 0) 9 (M 0), oMs (q 1) (d 1), aI G (d 1) 9 (M 1), oMs (q 2) (d 2), aI G (d 2) 9 (M 2), oMs (q 3) (d 3), aI G (d 3) 9 (M 3), oMs (q 4) (d 4), aI G (d 4) 9 (M 4), oMs (q 5) (d 5), aI G (d 5) 9 (M 5), oMs (q 6) (d 6), aI G (d 6) 9 (M 6), oMs (q 7) (d 7), aI G (d 7) 9 (M 7), oSe h pe ta sn sb s1, aT G ta 3 (krow3 (krot3 k)), oTi (k 0) zz, oTi (k 1) (T 1), oTi (k 2) (T 2)]) tv5 rfl (by decide) (List.mem_of_getElem? (i := 3) rfl) rfl rfl rfl (Nat.le_of_ble_eq_true rfl) rfl dX5_makeTicket_28 (fun H6 locs6 tv6 etv6 (hP6 : va_P G.1 vwCl ([oPe pe lc ls li lo dr p, oMs dr da, aI G da 9 f, oRo rh w rp, aM G w 8 (krow q), oMs (q 0) (d 0), aI G (d 0) 9 (M 0), oMs (q 1) (d 1), aI G (d 1) 9 (M 1), oMs (q 2) (d 2), aI G (d 2) 9 (M 2), oMs (q 3) (d 3), aI G (d 3) 9 (M 3), oMs (q 4) (d 4), aI G (d 4) 9 (M 4), oMs (q 5) (d 5), aI G (d 5) 9 (M 5), oMs (q 6) (d 6), aI G (d 6) 9 (M 6), oMs (q 7) (d 7), aI G (d 7) 9 (M 7), oSe h pe ta sn sb s1, aT G ta 3 (krow3 (krot3 k)), oTi (k 0) tv6, oTi (k 1) (T 1), oTi (k 2) (T 2)]) H6) (hD6 : va_D A ([oPe pe lc ls li lo dr p, oMs dr da, aI G da 9 f, oRo rh w rp, aM G w 8 (krow q), oMs (q 0) (d 0), aI G (d 0) 9 (M 0), oMs (q 1) (d 1), aI G (d 1) 9 (M 1), oMs (q 2) (d 2), aI G (d 2) 9 (M 2), oMs (q 3) (d 3), aI G (d 3) 9 (M 3), oMs (q 4) (d 4), aI G (d 4) 9 (M 4), oMs (q 5) (d 5), aI G (d 5) 9 (M 5), oMs (q 6) (d 6), aI G (d 6) 9 (M 6), oMs (q 7) (d 7), aI G (d 7) 9 (M 7), oSe h pe ta sn sb s1, aT G ta 3 (krow3 (krot3 k)), oTi (k 0) tv6, oTi (k 1) (T 1), oTi (k 2) (T 2)])) hS6 => ?_)
  clear hP5 hD5 hS5
  refine lv_aload hx hb dX5_makeTicket_31 (lv_at hl4 0 rfl) ?_
  refine lv_iload_n hx hb dX5_makeTicket_33 rfl (lv_at hl4 3 rfl) ?_
  refine kput F hK hP6 hD6 hS6 (ty0 := tyX7) 7 23 2 iX7 rfl tyX7_ok nmX7 (fun zz => [oPe pe lc ls li lo dr p, oMs dr da, aI G da 9 f, oRo rh w rp, aM G w 8 (krow q), oMs (q 0) (d 0), aI G (d 0) 9 (M 0), oMs (q 1) (d 1), aI G (d 1) 9 (M 1), oMs (q 2) (d 2), aI G (d 2) 9 (M 2), oMs (q 3) (d 3), aI G (d 3) 9 (M 3), oMs (q 4) (d 4), aI G (d 4) 9 (M 4), oMs (q 5) (d 5), aI G (d 5) 9 (M 5), oMs (q 6) (d 6), aI G (d 6) 9 (M 6), oMs (q 7) (d 7), aI G (d 7) 9 (M 7), oSe h pe ta sn sb s1, aT G ta 3 (krow3 (krot3 k)), oTi (k 0) zz, oTi (k 1) (T 1), oTi (k 2) (T 2)]) tv6 rfl (by decide) (List.mem_of_getElem? (i := 4) rfl) rfl rfl rfl (Nat.le_of_ble_eq_true rfl) rfl dX5_makeTicket_34 (fun H7 locs7 tv7 etv7 (hP7 : va_P G.1 vwCl ([oPe pe lc ls li lo dr p, oMs dr da, aI G da 9 f, oRo rh w rp, aM G w 8 (krow q), oMs (q 0) (d 0), aI G (d 0) 9 (M 0), oMs (q 1) (d 1), aI G (d 1) 9 (M 1), oMs (q 2) (d 2), aI G (d 2) 9 (M 2), oMs (q 3) (d 3), aI G (d 3) 9 (M 3), oMs (q 4) (d 4), aI G (d 4) 9 (M 4), oMs (q 5) (d 5), aI G (d 5) 9 (M 5), oMs (q 6) (d 6), aI G (d 6) 9 (M 6), oMs (q 7) (d 7), aI G (d 7) 9 (M 7), oSe h pe ta sn sb s1, aT G ta 3 (krow3 (krot3 k)), oTi (k 0) tv7, oTi (k 1) (T 1), oTi (k 2) (T 2)]) H7) (hD7 : va_D A ([oPe pe lc ls li lo dr p, oMs dr da, aI G da 9 f, oRo rh w rp, aM G w 8 (krow q), oMs (q 0) (d 0), aI G (d 0) 9 (M 0), oMs (q 1) (d 1), aI G (d 1) 9 (M 1), oMs (q 2) (d 2), aI G (d 2) 9 (M 2), oMs (q 3) (d 3), aI G (d 3) 9 (M 3), oMs (q 4) (d 4), aI G (d 4) 9 (M 4), oMs (q 5) (d 5), aI G (d 5) 9 (M 5), oMs (q 6) (d 6), aI G (d 6) 9 (M 6), oMs (q 7) (d 7), aI G (d 7) 9 (M 7), oSe h pe ta sn sb s1, aT G ta 3 (krow3 (krot3 k)), oTi (k 0) tv7, oTi (k 1) (T 1), oTi (k 2) (T 2)])) hS7 => ?_)
  clear hP6 hD6 hS6
  refine lv_aload hx hb dX5_makeTicket_37 (lv_at hl4 0 rfl) ?_
  refine lv_aload_n hx hb dX5_makeTicket_39 rfl (lv_at hl4 1 rfl) ?_
  refine kget F hK hP7 5 21 0 iX5 rfl rfl (by decide) (List.mem_of_getElem? (i := 5) rfl) rfl dX5_makeTicket_40 ?_
  refine kget F hK hP7 3 0 10 iX3 rfl rfl (by decide) (List.mem_of_getElem? (i := 6) rfl) rfl dX5_makeTicket_43 ?_
  refine lv_aload_n hx hb dX5_makeTicket_46 rfl (lv_at hl4 1 rfl) ?_
  refine kget F hK hP7 5 21 3 iX5 rfl rfl (by decide) (List.mem_of_getElem? (i := 1) rfl) rfl dX5_makeTicket_47 ?_
  refine kPNi F hK hP7 hD7 hS7 hA hl4.1 (c_X8_mix l G (p 10) (s1 3)) (fun _ => rfl) 16 rfl gX5_makeTicket_X8_mix_n54 (List.mem_of_getElem? (i := 17) rfl) (List.mem_of_getElem? (i := 18) rfl) rfl 2 rfl (by decide +kernel) ⟨Nat.le_of_ble_eq_true rfl, Nat.le_of_ble_eq_true rfl⟩ ⟨Nat.zero_le _, Nat.zero_le _⟩ (Nat.le_of_ble_eq_true rfl) rfl dX5_makeTicket_50 (fun r8 u8 H9 locs9 hw8 (hP9 : va_P G.1 vwCl ([oPe pe lc ls li lo dr p, oMs dr da, aI G da 9 f, oRo rh w rp, aM G w 8 (krow q), oMs (q 0) (d 0), aI G (d 0) 9 (M 0), oMs (q 1) (d 1), aI G (d 1) 9 (M 1), oMs (q 2) (d 2), aI G (d 2) 9 (M 2), oMs (q 3) (d 3), aI G (d 3) 9 (M 3), oMs (q 4) (d 4), aI G (d 4) 9 (M 4), oMs (q 5) (d 5), aI G (d 5) 9 (M 5), oMs (q 6) (d 6), aI G (d 6) 9 (M 6), oMs (q 7) (d 7), aI G (d 7) 9 (M 7), oSe h pe ta sn sb s1, aT G ta 3 (krow3 (krot3 k)), oTi (k 0) tv7, oTi (k 1) (T 1), oTi (k 2) (T 2)]) H9) (hD9 : va_D A ([oPe pe lc ls li lo dr p, oMs dr da, aI G da 9 f, oRo rh w rp, aM G w 8 (krow q), oMs (q 0) (d 0), aI G (d 0) 9 (M 0), oMs (q 1) (d 1), aI G (d 1) 9 (M 1), oMs (q 2) (d 2), aI G (d 2) 9 (M 2), oMs (q 3) (d 3), aI G (d 3) 9 (M 3), oMs (q 4) (d 4), aI G (d 4) 9 (M 4), oMs (q 5) (d 5), aI G (d 5) 9 (M 5), oMs (q 6) (d 6), aI G (d 6) 9 (M 6), oMs (q 7) (d 7), aI G (d 7) 9 (M 7), oSe h pe ta sn sb s1, aT G ta 3 (krow3 (krot3 k)), oTi (k 0) tv7, oTi (k 1) (T 1), oTi (k 2) (T 2)])) hS9 => ?_)
  clear hP7 hD7 hS7
  have w8_0 : r8 = kmix (p 10) (s1 3) := hw8
  refine kput F hK hP9 hD9 hS9 (ty0 := tyX7) 7 23 3 iX7 rfl tyX7_ok nmX7 (fun zz => [oPe pe lc ls li lo dr p, oMs dr da, aI G da 9 f, oRo rh w rp, aM G w 8 (krow q), oMs (q 0) (d 0), aI G (d 0) 9 (M 0), oMs (q 1) (d 1), aI G (d 1) 9 (M 1), oMs (q 2) (d 2), aI G (d 2) 9 (M 2), oMs (q 3) (d 3), aI G (d 3) 9 (M 3), oMs (q 4) (d 4), aI G (d 4) 9 (M 4), oMs (q 5) (d 5), aI G (d 5) 9 (M 5), oMs (q 6) (d 6), aI G (d 6) 9 (M 6), oMs (q 7) (d 7), aI G (d 7) 9 (M 7), oSe h pe ta sn sb s1, aT G ta 3 (krow3 (krot3 k)), oTi (k 0) zz, oTi (k 1) (T 1), oTi (k 2) (T 2)]) tv7 rfl (by decide) (List.mem_of_getElem? (i := 7) rfl) rfl rfl rfl (Nat.le_of_ble_eq_true rfl) rfl dX5_makeTicket_53 (fun H10 locs10 tv10 etv10 (hP10 : va_P G.1 vwCl ([oPe pe lc ls li lo dr p, oMs dr da, aI G da 9 f, oRo rh w rp, aM G w 8 (krow q), oMs (q 0) (d 0), aI G (d 0) 9 (M 0), oMs (q 1) (d 1), aI G (d 1) 9 (M 1), oMs (q 2) (d 2), aI G (d 2) 9 (M 2), oMs (q 3) (d 3), aI G (d 3) 9 (M 3), oMs (q 4) (d 4), aI G (d 4) 9 (M 4), oMs (q 5) (d 5), aI G (d 5) 9 (M 5), oMs (q 6) (d 6), aI G (d 6) 9 (M 6), oMs (q 7) (d 7), aI G (d 7) 9 (M 7), oSe h pe ta sn sb s1, aT G ta 3 (krow3 (krot3 k)), oTi (k 0) tv10, oTi (k 1) (T 1), oTi (k 2) (T 2)]) H10) (hD10 : va_D A ([oPe pe lc ls li lo dr p, oMs dr da, aI G da 9 f, oRo rh w rp, aM G w 8 (krow q), oMs (q 0) (d 0), aI G (d 0) 9 (M 0), oMs (q 1) (d 1), aI G (d 1) 9 (M 1), oMs (q 2) (d 2), aI G (d 2) 9 (M 2), oMs (q 3) (d 3), aI G (d 3) 9 (M 3), oMs (q 4) (d 4), aI G (d 4) 9 (M 4), oMs (q 5) (d 5), aI G (d 5) 9 (M 5), oMs (q 6) (d 6), aI G (d 6) 9 (M 6), oMs (q 7) (d 7), aI G (d 7) 9 (M 7), oSe h pe ta sn sb s1, aT G ta 3 (krow3 (krot3 k)), oTi (k 0) tv10, oTi (k 1) (T 1), oTi (k 2) (T 2)])) hS10 => ?_)
  clear hP9 hD9 hS9
  refine lv_aload hx hb dX5_makeTicket_56 (lv_at hl4 0 rfl) ?_
  refine lv_aload_n hx hb dX5_makeTicket_58 rfl (lv_at hl4 1 rfl) ?_
  refine kget F hK hP10 5 21 3 iX5 rfl rfl (by decide) (List.mem_of_getElem? (i := 1) rfl) rfl dX5_makeTicket_59 ?_
  refine lv_bipush (v := 77) hx hb dX5_makeTicket_62 (by decide) ?_
  refine kPNi F hK hP10 hD10 hS10 hA hl4.1 (c_X8_mix l G (s1 3) 77) (fun _ => rfl) 16 rfl gX5_makeTicket_X8_mix_n54 (List.mem_of_getElem? (i := 17) rfl) (List.mem_of_getElem? (i := 18) rfl) rfl 2 rfl (by decide +kernel) ⟨Nat.le_of_ble_eq_true rfl, Nat.le_of_ble_eq_true rfl⟩ ⟨Nat.zero_le _, Nat.zero_le _⟩ (Nat.le_of_ble_eq_true rfl) rfl dX5_makeTicket_64 (fun r11 u11 H12 locs12 hw11 (hP12 : va_P G.1 vwCl ([oPe pe lc ls li lo dr p, oMs dr da, aI G da 9 f, oRo rh w rp, aM G w 8 (krow q), oMs (q 0) (d 0), aI G (d 0) 9 (M 0), oMs (q 1) (d 1), aI G (d 1) 9 (M 1), oMs (q 2) (d 2), aI G (d 2) 9 (M 2), oMs (q 3) (d 3), aI G (d 3) 9 (M 3), oMs (q 4) (d 4), aI G (d 4) 9 (M 4), oMs (q 5) (d 5), aI G (d 5) 9 (M 5), oMs (q 6) (d 6), aI G (d 6) 9 (M 6), oMs (q 7) (d 7), aI G (d 7) 9 (M 7), oSe h pe ta sn sb s1, aT G ta 3 (krow3 (krot3 k)), oTi (k 0) tv10, oTi (k 1) (T 1), oTi (k 2) (T 2)]) H12) (hD12 : va_D A ([oPe pe lc ls li lo dr p, oMs dr da, aI G da 9 f, oRo rh w rp, aM G w 8 (krow q), oMs (q 0) (d 0), aI G (d 0) 9 (M 0), oMs (q 1) (d 1), aI G (d 1) 9 (M 1), oMs (q 2) (d 2), aI G (d 2) 9 (M 2), oMs (q 3) (d 3), aI G (d 3) 9 (M 3), oMs (q 4) (d 4), aI G (d 4) 9 (M 4), oMs (q 5) (d 5), aI G (d 5) 9 (M 5), oMs (q 6) (d 6), aI G (d 6) 9 (M 6), oMs (q 7) (d 7), aI G (d 7) 9 (M 7), oSe h pe ta sn sb s1, aT G ta 3 (krow3 (krot3 k)), oTi (k 0) tv10, oTi (k 1) (T 1), oTi (k 2) (T 2)])) hS12 => ?_)
  clear hP10 hD10 hS10
  have w11_0 : r11 = kmix (s1 3) 77 := hw11
  refine kput F hK hP12 hD12 hS12 (ty0 := tyX7) 7 23 4 iX7 rfl tyX7_ok nmX7 (fun zz => [oPe pe lc ls li lo dr p, oMs dr da, aI G da 9 f, oRo rh w rp, aM G w 8 (krow q), oMs (q 0) (d 0), aI G (d 0) 9 (M 0), oMs (q 1) (d 1), aI G (d 1) 9 (M 1), oMs (q 2) (d 2), aI G (d 2) 9 (M 2), oMs (q 3) (d 3), aI G (d 3) 9 (M 3), oMs (q 4) (d 4), aI G (d 4) 9 (M 4), oMs (q 5) (d 5), aI G (d 5) 9 (M 5), oMs (q 6) (d 6), aI G (d 6) 9 (M 6), oMs (q 7) (d 7), aI G (d 7) 9 (M 7), oSe h pe ta sn sb s1, aT G ta 3 (krow3 (krot3 k)), oTi (k 0) zz, oTi (k 1) (T 1), oTi (k 2) (T 2)]) tv10 rfl (by decide) (List.mem_of_getElem? (i := 8) rfl) rfl rfl rfl (Nat.le_of_ble_eq_true rfl) rfl dX5_makeTicket_67 (fun H13 locs13 tv13 etv13 (hP13 : va_P G.1 vwCl ([oPe pe lc ls li lo dr p, oMs dr da, aI G da 9 f, oRo rh w rp, aM G w 8 (krow q), oMs (q 0) (d 0), aI G (d 0) 9 (M 0), oMs (q 1) (d 1), aI G (d 1) 9 (M 1), oMs (q 2) (d 2), aI G (d 2) 9 (M 2), oMs (q 3) (d 3), aI G (d 3) 9 (M 3), oMs (q 4) (d 4), aI G (d 4) 9 (M 4), oMs (q 5) (d 5), aI G (d 5) 9 (M 5), oMs (q 6) (d 6), aI G (d 6) 9 (M 6), oMs (q 7) (d 7), aI G (d 7) 9 (M 7), oSe h pe ta sn sb s1, aT G ta 3 (krow3 (krot3 k)), oTi (k 0) tv13, oTi (k 1) (T 1), oTi (k 2) (T 2)]) H13) (hD13 : va_D A ([oPe pe lc ls li lo dr p, oMs dr da, aI G da 9 f, oRo rh w rp, aM G w 8 (krow q), oMs (q 0) (d 0), aI G (d 0) 9 (M 0), oMs (q 1) (d 1), aI G (d 1) 9 (M 1), oMs (q 2) (d 2), aI G (d 2) 9 (M 2), oMs (q 3) (d 3), aI G (d 3) 9 (M 3), oMs (q 4) (d 4), aI G (d 4) 9 (M 4), oMs (q 5) (d 5), aI G (d 5) 9 (M 5), oMs (q 6) (d 6), aI G (d 6) 9 (M 6), oMs (q 7) (d 7), aI G (d 7) 9 (M 7), oSe h pe ta sn sb s1, aT G ta 3 (krow3 (krot3 k)), oTi (k 0) tv13, oTi (k 1) (T 1), oTi (k 2) (T 2)])) hS13 => ?_)
  clear hP12 hD12 hS12
  refine lv_aload_n hx hb dX5_makeTicket_70 rfl (lv_at hl4 1 rfl) ?_
  refine kget F hK hP13 5 21 0 iX5 rfl rfl (by decide) (List.mem_of_getElem? (i := 5) rfl) rfl dX5_makeTicket_71 ?_
  refine kget F hK hP13 3 0 17 iX3 rfl rfl (by decide) (List.mem_of_getElem? (i := 9) rfl) rfl dX5_makeTicket_74 ?_
  refine lv_iconst (v := 5) hx hb dX5_makeTicket_77 (by decide) ?_
  refine kVv (wr := [oPe pe lc ls li lo dr p, oRo rh w rp, aM G w 8 (krow q), oMs (q 0) (d 0), aI G (d 0) 9 (M 0), oMs (q 1) (d 1), aI G (d 1) 9 (M 1), oMs (q 2) (d 2), aI G (d 2) 9 (M 2), oMs (q 3) (d 3), aI G (d 3) 9 (M 3), oMs (q 4) (d 4), aI G (d 4) 9 (M 4), oMs (q 5) (d 5), aI G (d 5) 9 (M 5), oMs (q 6) (d 6), aI G (d 6) 9 (M 6), oMs (q 7) (d 7), aI G (d 7) 9 (M 7), oSe h pe ta sn sb s1, aT G ta 3 (krow3 (krot3 k)), oTi (k 0) tv13, oTi (k 1) (T 1), oTi (k 2) (T 2)]) F hK hP13 hD13 hS13 hA hl4.1 (c_X2_begin l G dr da f 5) [1, 2] [0, 3, 4, 5, 6, 7, 8, 9, 10, 11, 12, 13, 14, 15, 16, 17, 18, 19, 20, 21, 22, 23, 24, 25] 2 0 gX5_makeTicket_X2_begin rfl 1 rfl (by decide +kernel) ⟨Nat.le_of_ble_eq_true rfl, Nat.le_of_ble_eq_true rfl⟩ ⟨Nat.zero_le _, Nat.zero_le _⟩ rfl rfl rfl rfl (by decide) (by decide) (by decide) (Nat.le_of_ble_eq_true rfl) rfl dX5_makeTicket_78 (fun f_14 H15 locs15 hw14 (hP15 : va_P G.1 vwCl ([oPe pe lc ls li lo dr p, oRo rh w rp, aM G w 8 (krow q), oMs (q 0) (d 0), aI G (d 0) 9 (M 0), oMs (q 1) (d 1), aI G (d 1) 9 (M 1), oMs (q 2) (d 2), aI G (d 2) 9 (M 2), oMs (q 3) (d 3), aI G (d 3) 9 (M 3), oMs (q 4) (d 4), aI G (d 4) 9 (M 4), oMs (q 5) (d 5), aI G (d 5) 9 (M 5), oMs (q 6) (d 6), aI G (d 6) 9 (M 6), oMs (q 7) (d 7), aI G (d 7) 9 (M 7), oSe h pe ta sn sb s1, aT G ta 3 (krow3 (krot3 k)), oTi (k 0) tv13, oTi (k 1) (T 1), oTi (k 2) (T 2), oMs dr da, aI G da 9 f_14]) H15) (hD15 : va_D A ([oPe pe lc ls li lo dr p, oRo rh w rp, aM G w 8 (krow q), oMs (q 0) (d 0), aI G (d 0) 9 (M 0), oMs (q 1) (d 1), aI G (d 1) 9 (M 1), oMs (q 2) (d 2), aI G (d 2) 9 (M 2), oMs (q 3) (d 3), aI G (d 3) 9 (M 3), oMs (q 4) (d 4), aI G (d 4) 9 (M 4), oMs (q 5) (d 5), aI G (d 5) 9 (M 5), oMs (q 6) (d 6), aI G (d 6) 9 (M 6), oMs (q 7) (d 7), aI G (d 7) 9 (M 7), oSe h pe ta sn sb s1, aT G ta 3 (krow3 (krot3 k)), oTi (k 0) tv13, oTi (k 1) (T 1), oTi (k 2) (T 2), oMs dr da, aI G da 9 f_14])) hS15 => ?_)
  clear hP13 hD13 hS13
  have w14_0 : f_14 = kbeg f 5 := hw14
  refine lv_aload_n hx hb dX5_makeTicket_81 rfl (lv_at hl4 1 rfl) ?_
  refine kget F hK hP15 5 19 0 iX5 rfl rfl (by decide) (List.mem_of_getElem? (i := 5) rfl) rfl dX5_makeTicket_82 ?_
  refine kget F hK hP15 3 0 17 iX3 rfl rfl (by decide) (List.mem_of_getElem? (i := 9) rfl) rfl dX5_makeTicket_85 ?_
  refine lv_iconst (v := 1) hx hb dX5_makeTicket_88 (by decide) ?_
  refine lv_aload_n hx hb dX5_makeTicket_89 rfl (lv_at hl4 1 rfl) ?_
  refine kget F hK hP15 5 19 3 iX5 rfl rfl (by decide) (List.mem_of_getElem? (i := 1) rfl) rfl dX5_makeTicket_90 ?_
  refine kVv (wr := [oPe pe lc ls li lo dr p, oRo rh w rp, aM G w 8 (krow q), oMs (q 0) (d 0), aI G (d 0) 9 (M 0), oMs (q 1) (d 1), aI G (d 1) 9 (M 1), oMs (q 2) (d 2), aI G (d 2) 9 (M 2), oMs (q 3) (d 3), aI G (d 3) 9 (M 3), oMs (q 4) (d 4), aI G (d 4) 9 (M 4), oMs (q 5) (d 5), aI G (d 5) 9 (M 5), oMs (q 6) (d 6), aI G (d 6) 9 (M 6), oMs (q 7) (d 7), aI G (d 7) 9 (M 7), oSe h pe ta sn sb s1, aT G ta 3 (krow3 (krot3 k)), oTi (k 0) tv13, oTi (k 1) (T 1), oTi (k 2) (T 2)]) F hK hP15 hD15 hS15 hA hl4.1 (c_X2_put l G dr da f_14 1 (s1 3) (by first | assumption | decide | omega)) [24, 25] [0, 1, 2, 3, 4, 5, 6, 7, 8, 9, 10, 11, 12, 13, 14, 15, 16, 17, 18, 19, 20, 21, 22, 23] 2 0 gX5_makeTicket_X2_put rfl 2 rfl (by decide +kernel) ⟨Nat.le_of_ble_eq_true rfl, Nat.le_of_ble_eq_true rfl⟩ ⟨Nat.zero_le _, Nat.zero_le _⟩ rfl rfl rfl rfl (by decide) (by decide) (by decide) (Nat.le_of_ble_eq_true rfl) rfl dX5_makeTicket_93 (fun f_16 H17 locs17 hw16 (hP17 : va_P G.1 vwCl ([oPe pe lc ls li lo dr p, oRo rh w rp, aM G w 8 (krow q), oMs (q 0) (d 0), aI G (d 0) 9 (M 0), oMs (q 1) (d 1), aI G (d 1) 9 (M 1), oMs (q 2) (d 2), aI G (d 2) 9 (M 2), oMs (q 3) (d 3), aI G (d 3) 9 (M 3), oMs (q 4) (d 4), aI G (d 4) 9 (M 4), oMs (q 5) (d 5), aI G (d 5) 9 (M 5), oMs (q 6) (d 6), aI G (d 6) 9 (M 6), oMs (q 7) (d 7), aI G (d 7) 9 (M 7), oSe h pe ta sn sb s1, aT G ta 3 (krow3 (krot3 k)), oTi (k 0) tv13, oTi (k 1) (T 1), oTi (k 2) (T 2), oMs dr da, aI G da 9 f_16]) H17) (hD17 : va_D A ([oPe pe lc ls li lo dr p, oRo rh w rp, aM G w 8 (krow q), oMs (q 0) (d 0), aI G (d 0) 9 (M 0), oMs (q 1) (d 1), aI G (d 1) 9 (M 1), oMs (q 2) (d 2), aI G (d 2) 9 (M 2), oMs (q 3) (d 3), aI G (d 3) 9 (M 3), oMs (q 4) (d 4), aI G (d 4) 9 (M 4), oMs (q 5) (d 5), aI G (d 5) 9 (M 5), oMs (q 6) (d 6), aI G (d 6) 9 (M 6), oMs (q 7) (d 7), aI G (d 7) 9 (M 7), oSe h pe ta sn sb s1, aT G ta 3 (krow3 (krot3 k)), oTi (k 0) tv13, oTi (k 1) (T 1), oTi (k 2) (T 2), oMs dr da, aI G da 9 f_16])) hS17 => ?_)
  clear hP15 hD15 hS15
  have w16_0 : f_16 = upd f_14 1 (s1 3) := hw16
  refine lv_aload_n hx hb dX5_makeTicket_96 rfl (lv_at hl4 1 rfl) ?_
  refine kget F hK hP17 5 19 0 iX5 rfl rfl (by decide) (List.mem_of_getElem? (i := 5) rfl) rfl dX5_makeTicket_97 ?_
  refine kget F hK hP17 3 0 17 iX3 rfl rfl (by decide) (List.mem_of_getElem? (i := 9) rfl) rfl dX5_makeTicket_100 ?_
  refine lv_iconst (v := 2) hx hb dX5_makeTicket_103 (by decide) ?_
  refine lv_aload hx hb dX5_makeTicket_104 (lv_at hl4 0 rfl) ?_
  refine kget F hK hP17 7 21 4 iX7 rfl rfl (by decide) (List.mem_of_getElem? (i := 8) rfl) rfl dX5_makeTicket_106 ?_
  refine kVv (wr := [oPe pe lc ls li lo dr p, oRo rh w rp, aM G w 8 (krow q), oMs (q 0) (d 0), aI G (d 0) 9 (M 0), oMs (q 1) (d 1), aI G (d 1) 9 (M 1), oMs (q 2) (d 2), aI G (d 2) 9 (M 2), oMs (q 3) (d 3), aI G (d 3) 9 (M 3), oMs (q 4) (d 4), aI G (d 4) 9 (M 4), oMs (q 5) (d 5), aI G (d 5) 9 (M 5), oMs (q 6) (d 6), aI G (d 6) 9 (M 6), oMs (q 7) (d 7), aI G (d 7) 9 (M 7), oSe h pe ta sn sb s1, aT G ta 3 (krow3 (krot3 k)), oTi (k 0) tv13, oTi (k 1) (T 1), oTi (k 2) (T 2)]) F hK hP17 hD17 hS17 hA hl4.1 (c_X2_put l G dr da f_16 2 (tv13 4) (by first | assumption | decide | omega)) [24, 25] [0, 1, 2, 3, 4, 5, 6, 7, 8, 9, 10, 11, 12, 13, 14, 15, 16, 17, 18, 19, 20, 21, 22, 23] 2 0 gX5_makeTicket_X2_put rfl 2 rfl (by decide +kernel) ⟨Nat.le_of_ble_eq_true rfl, Nat.le_of_ble_eq_true rfl⟩ ⟨Nat.zero_le _, Nat.zero_le _⟩ rfl rfl rfl rfl (by decide) (by decide) (by decide) (Nat.le_of_ble_eq_true rfl) rfl dX5_makeTicket_109 (fun f_18 H19 locs19 hw18 (hP19 : va_P G.1 vwCl ([oPe pe lc ls li lo dr p, oRo rh w rp, aM G w 8 (krow q), oMs (q 0) (d 0), aI G (d 0) 9 (M 0), oMs (q 1) (d 1), aI G (d 1) 9 (M 1), oMs (q 2) (d 2), aI G (d 2) 9 (M 2), oMs (q 3) (d 3), aI G (d 3) 9 (M 3), oMs (q 4) (d 4), aI G (d 4) 9 (M 4), oMs (q 5) (d 5), aI G (d 5) 9 (M 5), oMs (q 6) (d 6), aI G (d 6) 9 (M 6), oMs (q 7) (d 7), aI G (d 7) 9 (M 7), oSe h pe ta sn sb s1, aT G ta 3 (krow3 (krot3 k)), oTi (k 0) tv13, oTi (k 1) (T 1), oTi (k 2) (T 2), oMs dr da, aI G da 9 f_18]) H19) (hD19 : va_D A ([oPe pe lc ls li lo dr p, oRo rh w rp, aM G w 8 (krow q), oMs (q 0) (d 0), aI G (d 0) 9 (M 0), oMs (q 1) (d 1), aI G (d 1) 9 (M 1), oMs (q 2) (d 2), aI G (d 2) 9 (M 2), oMs (q 3) (d 3), aI G (d 3) 9 (M 3), oMs (q 4) (d 4), aI G (d 4) 9 (M 4), oMs (q 5) (d 5), aI G (d 5) 9 (M 5), oMs (q 6) (d 6), aI G (d 6) 9 (M 6), oMs (q 7) (d 7), aI G (d 7) 9 (M 7), oSe h pe ta sn sb s1, aT G ta 3 (krow3 (krot3 k)), oTi (k 0) tv13, oTi (k 1) (T 1), oTi (k 2) (T 2), oMs dr da, aI G da 9 f_18])) hS19 => ?_)
  clear hP17 hD17 hS17
  have w18_0 : f_18 = upd f_16 2 (tv13 4) := hw18
  refine lv_aload_n hx hb dX5_makeTicket_112 rfl (lv_at hl4 1 rfl) ?_
  refine kget F hK hP19 5 19 0 iX5 rfl rfl (by decide) (List.mem_of_getElem? (i := 5) rfl) rfl dX5_makeTicket_113 ?_
  refine kget F hK hP19 3 0 17 iX3 rfl rfl (by decide) (List.mem_of_getElem? (i := 9) rfl) rfl dX5_makeTicket_116 ?_
  refine lv_iconst (v := 3) hx hb dX5_makeTicket_119 (by decide) ?_
  refine lv_iload_n hx hb dX5_makeTicket_120 rfl (lv_at hl4 2 rfl) ?_
  refine kVv (wr := [oPe pe lc ls li lo dr p, oRo rh w rp, aM G w 8 (krow q), oMs (q 0) (d 0), aI G (d 0) 9 (M 0), oMs (q 1) (d 1), aI G (d 1) 9 (M 1), oMs (q 2) (d 2), aI G (d 2) 9 (M 2), oMs (q 3) (d 3), aI G (d 3) 9 (M 3), oMs (q 4) (d 4), aI G (d 4) 9 (M 4), oMs (q 5) (d 5), aI G (d 5) 9 (M 5), oMs (q 6) (d 6), aI G (d 6) 9 (M 6), oMs (q 7) (d 7), aI G (d 7) 9 (M 7), oSe h pe ta sn sb s1, aT G ta 3 (krow3 (krot3 k)), oTi (k 0) tv13, oTi (k 1) (T 1), oTi (k 2) (T 2)]) F hK hP19 hD19 hS19 hA hl4.1 (c_X2_put l G dr da f_18 3 life (by first | assumption | decide | omega)) [24, 25] [0, 1, 2, 3, 4, 5, 6, 7, 8, 9, 10, 11, 12, 13, 14, 15, 16, 17, 18, 19, 20, 21, 22, 23] 2 0 gX5_makeTicket_X2_put rfl 2 rfl (by decide +kernel) ⟨Nat.le_of_ble_eq_true rfl, Nat.le_of_ble_eq_true rfl⟩ ⟨Nat.zero_le _, Nat.zero_le _⟩ rfl rfl rfl rfl (by decide) (by decide) (by decide) (Nat.le_of_ble_eq_true rfl) rfl dX5_makeTicket_121 (fun f_20 H21 locs21 hw20 (hP21 : va_P G.1 vwCl ([oPe pe lc ls li lo dr p, oRo rh w rp, aM G w 8 (krow q), oMs (q 0) (d 0), aI G (d 0) 9 (M 0), oMs (q 1) (d 1), aI G (d 1) 9 (M 1), oMs (q 2) (d 2), aI G (d 2) 9 (M 2), oMs (q 3) (d 3), aI G (d 3) 9 (M 3), oMs (q 4) (d 4), aI G (d 4) 9 (M 4), oMs (q 5) (d 5), aI G (d 5) 9 (M 5), oMs (q 6) (d 6), aI G (d 6) 9 (M 6), oMs (q 7) (d 7), aI G (d 7) 9 (M 7), oSe h pe ta sn sb s1, aT G ta 3 (krow3 (krot3 k)), oTi (k 0) tv13, oTi (k 1) (T 1), oTi (k 2) (T 2), oMs dr da, aI G da 9 f_20]) H21) (hD21 : va_D A ([oPe pe lc ls li lo dr p, oRo rh w rp, aM G w 8 (krow q), oMs (q 0) (d 0), aI G (d 0) 9 (M 0), oMs (q 1) (d 1), aI G (d 1) 9 (M 1), oMs (q 2) (d 2), aI G (d 2) 9 (M 2), oMs (q 3) (d 3), aI G (d 3) 9 (M 3), oMs (q 4) (d 4), aI G (d 4) 9 (M 4), oMs (q 5) (d 5), aI G (d 5) 9 (M 5), oMs (q 6) (d 6), aI G (d 6) 9 (M 6), oMs (q 7) (d 7), aI G (d 7) 9 (M 7), oSe h pe ta sn sb s1, aT G ta 3 (krow3 (krot3 k)), oTi (k 0) tv13, oTi (k 1) (T 1), oTi (k 2) (T 2), oMs dr da, aI G da 9 f_20])) hS21 => ?_)
  clear hP19 hD19 hS19
  have w20_0 : f_20 = upd f_18 3 life := hw20
  refine lv_aload_n hx hb dX5_makeTicket_124 rfl (lv_at hl4 4 rfl) ?_
  refine lv_aload_n hx hb dX5_makeTicket_125 rfl (lv_at hl4 1 rfl) ?_
  refine kget F hK hP21 5 19 0 iX5 rfl rfl (by decide) (List.mem_of_getElem? (i := 5) rfl) rfl dX5_makeTicket_126 ?_
  refine kget F hK hP21 3 0 17 iX3 rfl rfl (by decide) (List.mem_of_getElem? (i := 9) rfl) rfl dX5_makeTicket_129 ?_
  refine kVv (wr := [oPe pe lc ls li lo dr p, oSe h pe ta sn sb s1, aT G ta 3 (krow3 (krot3 k)), oTi (k 0) tv13, oTi (k 1) (T 1), oTi (k 2) (T 2)]) F hK hP21 hD21 hS21 hA hl4.1 (c_X4_send l G rh w q d rp M dr da f_20 L hL hL8) [1, 2, 3, 4, 5, 6, 7, 8, 9, 10, 11, 12, 13, 14, 15, 16, 17, 18, 24, 25] [0, 19, 20, 21, 22, 23] 4 0 gX5_makeTicket_X4_send rfl 1 rfl (by decide +kernel) ⟨Nat.le_of_ble_eq_true rfl, Nat.le_of_ble_eq_true rfl⟩ ⟨Nat.zero_le _, Nat.zero_le _⟩ rfl rfl rfl rfl (by decide) (by decide) (by decide) (Nat.le_of_ble_eq_true rfl) rfl dX5_makeTicket_132 (fun u22 H23 locs23 hw22 hP23 hD23 hS23 => ?_)
  obtain ⟨p_22, M_22⟩ := u22
  have hP23 : va_P G.1 vwCl ([oPe pe lc ls li lo dr p, oSe h pe ta sn sb s1, aT G ta 3 (krow3 (krot3 k)), oTi (k 0) tv13, oTi (k 1) (T 1), oTi (k 2) (T 2), oRo rh w p_22, aM G w 8 (krow q), oMs (q 0) (d 0), aI G (d 0) 9 (M_22 0), oMs (q 1) (d 1), aI G (d 1) 9 (M_22 1), oMs (q 2) (d 2), aI G (d 2) 9 (M_22 2), oMs (q 3) (d 3), aI G (d 3) 9 (M_22 3), oMs (q 4) (d 4), aI G (d 4) 9 (M_22 4), oMs (q 5) (d 5), aI G (d 5) 9 (M_22 5), oMs (q 6) (d 6), aI G (d 6) 9 (M_22 6), oMs (q 7) (d 7), aI G (d 7) 9 (M_22 7), oMs dr da, aI G da 9 f_20]) H23 := hP23
  have hD23 : va_D A ([oPe pe lc ls li lo dr p, oSe h pe ta sn sb s1, aT G ta 3 (krow3 (krot3 k)), oTi (k 0) tv13, oTi (k 1) (T 1), oTi (k 2) (T 2), oRo rh w p_22, aM G w 8 (krow q), oMs (q 0) (d 0), aI G (d 0) 9 (M_22 0), oMs (q 1) (d 1), aI G (d 1) 9 (M_22 1), oMs (q 2) (d 2), aI G (d 2) 9 (M_22 2), oMs (q 3) (d 3), aI G (d 3) 9 (M_22 3), oMs (q 4) (d 4), aI G (d 4) 9 (M_22 4), oMs (q 5) (d 5), aI G (d 5) 9 (M_22 5), oMs (q 6) (d 6), aI G (d 6) 9 (M_22 6), oMs (q 7) (d 7), aI G (d 7) 9 (M_22 7), oMs dr da, aI G da 9 f_20]) := hD23
  clear hP21 hD21 hS21
  have w22_0 : p_22 = ksendP L rp := hw22.1
  have w22_1 : M_22 = ksendM L M f_20 := hw22.2
  refine lv_aload_n hx hb dX5_makeTicket_135 rfl (lv_at hl4 1 rfl) ?_
  refine kget F hK hP23 5 1 3 iX5 rfl rfl (by decide) (List.mem_of_getElem? (i := 1) rfl) rfl dX5_makeTicket_136 ?_
  have q24 : ((s1 3) = s 3 + 1) ∧ (s1 = upd s 3 (s 3 + 1)) ∧ (f_20 = ktkm p f (s 3 + 1) life) ∧ (tv13 = ktk (T 0) (s 3 + 1) life now (kmix (p 10) (s 3 + 1)) (kmix (s 3 + 1) 77)) ∧ (p_22 = ksendP L rp) ∧ (M_22 = ksendM L M (ktkm p f (s 3 + 1) life)) := by
    subst w22_1
    subst w22_0
    subst w20_0
    subst w18_0
    subst w16_0
    subst w14_0
    subst etv13
    subst w11_0
    subst etv10
    subst w8_0
    subst etv7
    subst etv6
    subst etv5
    subst es1
    first | (simp only [eq_self, ↓reduceIte, and_self, and_true, true_and]; done) | (simp only [eq_self, ↓reduceIte, and_self, and_true, true_and]; (try and_intros) <;> rfl) | exact ⟨rfl, rfl, rfl, rfl, rfl, rfl⟩
  exact kRi F hr hlocks hS23 dX5_makeTicket_139 ⟨s1, f_20, tv13, p_22, M_22⟩ q24 (hP23.sub [1, 0, 24, 25, 2, 4, 5, 3, 6, 7, 8, 9, 10, 11, 12, 13, 14, 15, 16, 17, 18, 19, 20, 21, 22, 23] rfl) (hD23.sub [1, 0, 24, 25, 2, 4, 5, 3, 6, 7, 8, 9, 10, 11, 12, 13, 14, 15, 16, 17, 18, 19, 20, 21, 22, 23] (by decide) rfl)
set_option maxHeartbeats 1000000 in
set_option maxRecDepth 100000 in
theorem c_X5_livingTicket (l : Launch) (G : kG) (h : Nat) (pe : Nat) (ta : Nat) (sn : Nat) (sb : Nat) (s : Nat → Int32) (k : Nat → Nat) (T : Nat → Nat → Int32) (n : Int32) (now : Int32) : kM G l yX5_livingTicket wsX5_livingTicket ({ frames := 0, cells := 0, slots := 0, locals := 0 }) [.ref h, .int n, .int now] ([oSe h pe ta sn sb s, aT G ta 3 (krow3 k), oTi (k 0) (T 0), oTi (k 1) (T 1), oTi (k 2) (T 2)]) (kQi G (fun (rr : Int32) (uu : Unit) => rr = klive s T n now) (fun (uu : Unit) => [oSe h pe ta sn sb s, aT G ta 3 (krow3 k), oTi (k 0) (T 0), oTi (k 1) (T 1), oTi (k 2) (T 2)])) := by
  refine kStart (cc := cX5_livingTicket) (maxL := 4) (ret := (some .int)) (by decide) rfl (Nat.le_of_ble_eq_true rfl) (fun pg ev st mi bl mt cd A ls0 F hr hlocks hin hK hP0 hD0 hA hS0 hl0 => ?_)
  obtain ⟨hx, hb, hml, hown, hts⟩ := id F
  have hl0 : lv_has ls0 4 [(0, .ref h), (1, .int n), (2, .int now)] := hl0
  have iX5 : ∀ w ∈ u_ws RX5 TX5 9, w ∈ wsX5_livingTicket := fun w h => List.mem_cons_of_mem _ (List.mem_append_left _ (List.mem_append_right _ h))
  have iX7 : ∀ w ∈ u_ws RX7 TX7 5, w ∈ wsX5_livingTicket := fun w h => List.mem_cons_of_mem _ (List.mem_append_right _ h)
  refine lv_iconst (v := 0) hx hb dX5_livingTicket_0 (by decide) ?_
  refine lv_istore_n (lv' := [(3, .int 0), (0, .ref h), (1, .int n), (2, .int now)]) hx hb dX5_livingTicket_1 rfl hl0 (by decide) rfl (fun ls1 hl1 => ?_)
  clear hl0
  refine lv_iload_n hx hb dX5_livingTicket_2 rfl (lv_at hl1 0 rfl) ?_
  refine lv_aload_n hx hb dX5_livingTicket_3 rfl (lv_at hl1 1 rfl) ?_
  refine kget F hK hP0 5 0 2 iX5 rfl rfl (by decide) (List.mem_of_getElem? (i := 1) rfl) rfl dX5_livingTicket_4 ?_
  refine lv_icmp_ge (tgt := 63) hx hb dX5_livingTicket_7 (by decide) (fun c2 => ?_) (fun c2 => ?_)
  · refine lv_iconst (v := (-1)) hx hb dX5_livingTicket_63 (by decide) ?_
    have q3 : (-1) = klive s T n now := by
      first | (simp only [klive, eq_true c2, eq_self, ↓reduceIte, and_self, and_true, true_and]; done) | (simp only [klive, eq_true c2, eq_self, ↓reduceIte, and_self, and_true, true_and]; (try and_intros) <;> rfl) | exact rfl
    exact kRi F hr hlocks hS0 dX5_livingTicket_64 () q3 hP0 hD0
  · refine lv_iload_n hx hb dX5_livingTicket_10 rfl (lv_at hl1 0 rfl) ?_
    refine lv_iconst (v := 3) hx hb dX5_livingTicket_11 (by decide) ?_
    refine lv_icmp_ge (tgt := 63) hx hb dX5_livingTicket_12 (by decide) (fun c4 => ?_) (fun c4 => ?_)
    · exact absurd c4 (by decide)
    · refine lv_aload_n hx hb dX5_livingTicket_15 rfl (lv_at hl1 1 rfl) ?_
      refine kget F hK hP0 5 0 1 iX5 rfl rfl (by decide) (List.mem_of_getElem? (i := 2) rfl) rfl dX5_livingTicket_16 ?_
      refine lv_iload_n hx hb dX5_livingTicket_19 rfl (lv_at hl1 0 rfl) ?_
      refine kald F hK hP0 1 3 0 (x := (k 0)) rfl rfl rfl (by decide) (Nat.le_of_ble_eq_true rfl) (by rfl) dX5_livingTicket_20 ?_
      refine kget F hK hP0 7 2 0 iX7 rfl rfl (by decide) (List.mem_of_getElem? (i := 3) rfl) rfl dX5_livingTicket_21 ?_
      refine lv_iload_n hx hb dX5_livingTicket_24 rfl (lv_at hl1 2 rfl) ?_
      refine lv_icmp_ne (tgt := 57) hx hb dX5_livingTicket_25 (by decide) (fun c5 => ?_) (fun c5 => ?_)
      · refine lv_iinc (v := 1) (lv' := [(3, .int 1), (0, .ref h), (1, .int n), (2, .int now)]) hx hb dX5_livingTicket_57 hl1 (k := 0) rfl (by decide) (by decide) rfl (fun ls6 hl6 => ?_)
        clear hl1
        refine lv_goto (tgt := 2) hx hb dX5_livingTicket_60 (by decide) ?_
        refine lv_iload_n hx hb dX5_livingTicket_2 rfl (lv_at hl6 0 rfl) ?_
        refine lv_aload_n hx hb dX5_livingTicket_3 rfl (lv_at hl6 1 rfl) ?_
        refine kget F hK hP0 5 0 2 iX5 rfl rfl (by decide) (List.mem_of_getElem? (i := 1) rfl) rfl dX5_livingTicket_4 ?_
        refine lv_icmp_ge (tgt := 63) hx hb dX5_livingTicket_7 (by decide) (fun c7 => ?_) (fun c7 => ?_)
        · refine lv_iconst (v := (-1)) hx hb dX5_livingTicket_63 (by decide) ?_
          have q8 : (-1) = klive s T n now := by
            first | (simp only [klive, c2, c4, c5, eq_true c7, eq_self, ↓reduceIte, and_self, and_true, true_and]; done) | (simp only [klive, c2, c4, c5, eq_true c7, eq_self, ↓reduceIte, and_self, and_true, true_and]; (try and_intros) <;> rfl) | exact rfl
          exact kRi F hr hlocks hS0 dX5_livingTicket_64 () q8 hP0 hD0
        · refine lv_iload_n hx hb dX5_livingTicket_10 rfl (lv_at hl6 0 rfl) ?_
          refine lv_iconst (v := 3) hx hb dX5_livingTicket_11 (by decide) ?_
          refine lv_icmp_ge (tgt := 63) hx hb dX5_livingTicket_12 (by decide) (fun c9 => ?_) (fun c9 => ?_)
          · exact absurd c9 (by decide)
          · refine lv_aload_n hx hb dX5_livingTicket_15 rfl (lv_at hl6 1 rfl) ?_
            refine kget F hK hP0 5 0 1 iX5 rfl rfl (by decide) (List.mem_of_getElem? (i := 2) rfl) rfl dX5_livingTicket_16 ?_
            refine lv_iload_n hx hb dX5_livingTicket_19 rfl (lv_at hl6 0 rfl) ?_
            refine kald F hK hP0 1 3 1 (x := (k 1)) rfl rfl rfl (by decide) (Nat.le_of_ble_eq_true rfl) (by rfl) dX5_livingTicket_20 ?_
            refine kget F hK hP0 7 3 0 iX7 rfl rfl (by decide) (List.mem_of_getElem? (i := 3) rfl) rfl dX5_livingTicket_21 ?_
            refine lv_iload_n hx hb dX5_livingTicket_24 rfl (lv_at hl6 2 rfl) ?_
            refine lv_icmp_ne (tgt := 57) hx hb dX5_livingTicket_25 (by decide) (fun c10 => ?_) (fun c10 => ?_)
            · refine lv_iinc (v := 2) (lv' := [(3, .int 2), (0, .ref h), (1, .int n), (2, .int now)]) hx hb dX5_livingTicket_57 hl6 (k := 0) rfl (by decide) (by decide) rfl (fun ls11 hl11 => ?_)
              clear hl6
              refine lv_goto (tgt := 2) hx hb dX5_livingTicket_60 (by decide) ?_
              refine lv_iload_n hx hb dX5_livingTicket_2 rfl (lv_at hl11 0 rfl) ?_
              refine lv_aload_n hx hb dX5_livingTicket_3 rfl (lv_at hl11 1 rfl) ?_
              refine kget F hK hP0 5 0 2 iX5 rfl rfl (by decide) (List.mem_of_getElem? (i := 1) rfl) rfl dX5_livingTicket_4 ?_
              refine lv_icmp_ge (tgt := 63) hx hb dX5_livingTicket_7 (by decide) (fun c12 => ?_) (fun c12 => ?_)
              · refine lv_iconst (v := (-1)) hx hb dX5_livingTicket_63 (by decide) ?_
                have q13 : (-1) = klive s T n now := by
                  first | (simp only [klive, c2, c4, c5, c7, c9, c10, eq_true c12, eq_self, ↓reduceIte, and_self, and_true, true_and]; done) | (simp only [klive, c2, c4, c5, c7, c9, c10, eq_true c12, eq_self, ↓reduceIte, and_self, and_true, true_and]; (try and_intros) <;> rfl) | exact rfl
                exact kRi F hr hlocks hS0 dX5_livingTicket_64 () q13 hP0 hD0
              · refine lv_iload_n hx hb dX5_livingTicket_10 rfl (lv_at hl11 0 rfl) ?_
                refine lv_iconst (v := 3) hx hb dX5_livingTicket_11 (by decide) ?_
                refine lv_icmp_ge (tgt := 63) hx hb dX5_livingTicket_12 (by decide) (fun c14 => ?_) (fun c14 => ?_)
                · exact absurd c14 (by decide)
                · refine lv_aload_n hx hb dX5_livingTicket_15 rfl (lv_at hl11 1 rfl) ?_
                  refine kget F hK hP0 5 0 1 iX5 rfl rfl (by decide) (List.mem_of_getElem? (i := 2) rfl) rfl dX5_livingTicket_16 ?_
                  refine lv_iload_n hx hb dX5_livingTicket_19 rfl (lv_at hl11 0 rfl) ?_
                  refine kald F hK hP0 1 3 2 (x := (k 2)) rfl rfl rfl (by decide) (Nat.le_of_ble_eq_true rfl) (by rfl) dX5_livingTicket_20 ?_
                  refine kget F hK hP0 7 4 0 iX7 rfl rfl (by decide) (List.mem_of_getElem? (i := 3) rfl) rfl dX5_livingTicket_21 ?_
                  refine lv_iload_n hx hb dX5_livingTicket_24 rfl (lv_at hl11 2 rfl) ?_
                  refine lv_icmp_ne (tgt := 57) hx hb dX5_livingTicket_25 (by decide) (fun c15 => ?_) (fun c15 => ?_)
                  · refine lv_iinc (v := 3) (lv' := [(3, .int 3), (0, .ref h), (1, .int n), (2, .int now)]) hx hb dX5_livingTicket_57 hl11 (k := 0) rfl (by decide) (by decide) rfl (fun ls16 hl16 => ?_)
                    clear hl11
                    refine lv_goto (tgt := 2) hx hb dX5_livingTicket_60 (by decide) ?_
                    refine lv_iload_n hx hb dX5_livingTicket_2 rfl (lv_at hl16 0 rfl) ?_
                    refine lv_aload_n hx hb dX5_livingTicket_3 rfl (lv_at hl16 1 rfl) ?_
                    refine kget F hK hP0 5 0 2 iX5 rfl rfl (by decide) (List.mem_of_getElem? (i := 1) rfl) rfl dX5_livingTicket_4 ?_
                    refine lv_icmp_ge (tgt := 63) hx hb dX5_livingTicket_7 (by decide) (fun c17 => ?_) (fun c17 => ?_)
                    · refine lv_iconst (v := (-1)) hx hb dX5_livingTicket_63 (by decide) ?_
                      have q18 : (-1) = klive s T n now := by
                        first | (simp only [klive, c2, c4, c5, c7, c9, c10, c12, c14, c15, eq_true c17, eq_self, ↓reduceIte, and_self, and_true, true_and]; done) | (simp only [klive, c2, c4, c5, c7, c9, c10, c12, c14, c15, eq_true c17, eq_self, ↓reduceIte, and_self, and_true, true_and]; (try and_intros) <;> rfl) | exact rfl
                      exact kRi F hr hlocks hS0 dX5_livingTicket_64 () q18 hP0 hD0
                    · refine lv_iload_n hx hb dX5_livingTicket_10 rfl (lv_at hl16 0 rfl) ?_
                      refine lv_iconst (v := 3) hx hb dX5_livingTicket_11 (by decide) ?_
                      refine lv_icmp_ge (tgt := 63) hx hb dX5_livingTicket_12 (by decide) (fun c19 => ?_) (fun c19 => ?_)
                      · refine lv_iconst (v := (-1)) hx hb dX5_livingTicket_63 (by decide) ?_
                        have q20 : (-1) = klive s T n now := by
                          first | (simp only [klive, c2, c4, c5, c7, c9, c10, c12, c14, c15, c17, eq_true c19, eq_self, ↓reduceIte, and_self, and_true, true_and]; done) | (simp only [klive, c2, c4, c5, c7, c9, c10, c12, c14, c15, c17, eq_true c19, eq_self, ↓reduceIte, and_self, and_true, true_and]; (try and_intros) <;> rfl) | exact rfl
                        exact kRi F hr hlocks hS0 dX5_livingTicket_64 () q20 hP0 hD0
                      · exact absurd (by decide) c19
                  · refine lv_iload_n hx hb dX5_livingTicket_28 rfl (lv_at hl11 3 rfl) ?_
                    refine lv_aload_n hx hb dX5_livingTicket_29 rfl (lv_at hl11 1 rfl) ?_
                    refine kget F hK hP0 5 0 1 iX5 rfl rfl (by decide) (List.mem_of_getElem? (i := 2) rfl) rfl dX5_livingTicket_30 ?_
                    refine lv_iload_n hx hb dX5_livingTicket_33 rfl (lv_at hl11 0 rfl) ?_
                    refine kald F hK hP0 1 3 2 (x := (k 2)) rfl rfl rfl (by decide) (Nat.le_of_ble_eq_true rfl) (by rfl) dX5_livingTicket_34 ?_
                    refine kget F hK hP0 7 4 2 iX7 rfl rfl (by decide) (List.mem_of_getElem? (i := 4) rfl) rfl dX5_livingTicket_35 ?_
                    refine lv_isub hx hb dX5_livingTicket_38 ?_
                    refine lv_aload_n hx hb dX5_livingTicket_39 rfl (lv_at hl11 1 rfl) ?_
                    refine kget F hK hP0 5 0 1 iX5 rfl rfl (by decide) (List.mem_of_getElem? (i := 2) rfl) rfl dX5_livingTicket_40 ?_
                    refine lv_iload_n hx hb dX5_livingTicket_43 rfl (lv_at hl11 0 rfl) ?_
                    refine kald F hK hP0 1 3 2 (x := (k 2)) rfl rfl rfl (by decide) (Nat.le_of_ble_eq_true rfl) (by rfl) dX5_livingTicket_44 ?_
                    refine kget F hK hP0 7 4 1 iX7 rfl rfl (by decide) (List.mem_of_getElem? (i := 5) rfl) rfl dX5_livingTicket_45 ?_
                    refine lv_icmp_le (tgt := 55) hx hb dX5_livingTicket_48 (by decide) (fun c21 => ?_) (fun c21 => ?_)
                    · refine lv_iload_n hx hb dX5_livingTicket_55 rfl (lv_at hl11 0 rfl) ?_
                      have q22 : 2 = klive s T n now := by
                        first | (simp only [klive, c2, c4, c5, c7, c9, c10, c12, c14, eq_true c15, eq_true c21, eq_self, ↓reduceIte, and_self, and_true, true_and]; done) | (simp only [klive, c2, c4, c5, c7, c9, c10, c12, c14, eq_true c15, eq_true c21, eq_self, ↓reduceIte, and_self, and_true, true_and]; (try and_intros) <;> rfl) | exact rfl
                      exact kRi F hr hlocks hS0 dX5_livingTicket_56 () q22 hP0 hD0
                    · refine lv_iconst (v := (-1)) hx hb dX5_livingTicket_51 (by decide) ?_
                      refine lv_goto (tgt := 56) hx hb dX5_livingTicket_52 (by decide) ?_
                      have q23 : (-1) = klive s T n now := by
                        first | (simp only [klive, c2, c4, c5, c7, c9, c10, c12, c14, eq_true c15, c21, eq_self, ↓reduceIte, and_self, and_true, true_and]; done) | (simp only [klive, c2, c4, c5, c7, c9, c10, c12, c14, eq_true c15, c21, eq_self, ↓reduceIte, and_self, and_true, true_and]; (try and_intros) <;> rfl) | exact rfl
                      exact kRi F hr hlocks hS0 dX5_livingTicket_56 () q23 hP0 hD0
            · refine lv_iload_n hx hb dX5_livingTicket_28 rfl (lv_at hl6 3 rfl) ?_
              refine lv_aload_n hx hb dX5_livingTicket_29 rfl (lv_at hl6 1 rfl) ?_
              refine kget F hK hP0 5 0 1 iX5 rfl rfl (by decide) (List.mem_of_getElem? (i := 2) rfl) rfl dX5_livingTicket_30 ?_
              refine lv_iload_n hx hb dX5_livingTicket_33 rfl (lv_at hl6 0 rfl) ?_
              refine kald F hK hP0 1 3 1 (x := (k 1)) rfl rfl rfl (by decide) (Nat.le_of_ble_eq_true rfl) (by rfl) dX5_livingTicket_34 ?_
              refine kget F hK hP0 7 3 2 iX7 rfl rfl (by decide) (List.mem_of_getElem? (i := 4) rfl) rfl dX5_livingTicket_35 ?_
              refine lv_isub hx hb dX5_livingTicket_38 ?_
              refine lv_aload_n hx hb dX5_livingTicket_39 rfl (lv_at hl6 1 rfl) ?_
              refine kget F hK hP0 5 0 1 iX5 rfl rfl (by decide) (List.mem_of_getElem? (i := 2) rfl) rfl dX5_livingTicket_40 ?_
              refine lv_iload_n hx hb dX5_livingTicket_43 rfl (lv_at hl6 0 rfl) ?_
              refine kald F hK hP0 1 3 1 (x := (k 1)) rfl rfl rfl (by decide) (Nat.le_of_ble_eq_true rfl) (by rfl) dX5_livingTicket_44 ?_
              refine kget F hK hP0 7 3 1 iX7 rfl rfl (by decide) (List.mem_of_getElem? (i := 5) rfl) rfl dX5_livingTicket_45 ?_
              refine lv_icmp_le (tgt := 55) hx hb dX5_livingTicket_48 (by decide) (fun c24 => ?_) (fun c24 => ?_)
              · refine lv_iload_n hx hb dX5_livingTicket_55 rfl (lv_at hl6 0 rfl) ?_
                have q25 : 1 = klive s T n now := by
                  first | (simp only [klive, c2, c4, c5, c7, c9, eq_true c10, eq_true c24, eq_self, ↓reduceIte, and_self, and_true, true_and]; done) | (simp only [klive, c2, c4, c5, c7, c9, eq_true c10, eq_true c24, eq_self, ↓reduceIte, and_self, and_true, true_and]; (try and_intros) <;> rfl) | exact rfl
                exact kRi F hr hlocks hS0 dX5_livingTicket_56 () q25 hP0 hD0
              · refine lv_iconst (v := (-1)) hx hb dX5_livingTicket_51 (by decide) ?_
                refine lv_goto (tgt := 56) hx hb dX5_livingTicket_52 (by decide) ?_
                have q26 : (-1) = klive s T n now := by
                  first | (simp only [klive, c2, c4, c5, c7, c9, eq_true c10, c24, eq_self, ↓reduceIte, and_self, and_true, true_and]; done) | (simp only [klive, c2, c4, c5, c7, c9, eq_true c10, c24, eq_self, ↓reduceIte, and_self, and_true, true_and]; (try and_intros) <;> rfl) | exact rfl
                exact kRi F hr hlocks hS0 dX5_livingTicket_56 () q26 hP0 hD0
      · refine lv_iload_n hx hb dX5_livingTicket_28 rfl (lv_at hl1 3 rfl) ?_
        refine lv_aload_n hx hb dX5_livingTicket_29 rfl (lv_at hl1 1 rfl) ?_
        refine kget F hK hP0 5 0 1 iX5 rfl rfl (by decide) (List.mem_of_getElem? (i := 2) rfl) rfl dX5_livingTicket_30 ?_
        refine lv_iload_n hx hb dX5_livingTicket_33 rfl (lv_at hl1 0 rfl) ?_
        refine kald F hK hP0 1 3 0 (x := (k 0)) rfl rfl rfl (by decide) (Nat.le_of_ble_eq_true rfl) (by rfl) dX5_livingTicket_34 ?_
        refine kget F hK hP0 7 2 2 iX7 rfl rfl (by decide) (List.mem_of_getElem? (i := 4) rfl) rfl dX5_livingTicket_35 ?_
        refine lv_isub hx hb dX5_livingTicket_38 ?_
        refine lv_aload_n hx hb dX5_livingTicket_39 rfl (lv_at hl1 1 rfl) ?_
        refine kget F hK hP0 5 0 1 iX5 rfl rfl (by decide) (List.mem_of_getElem? (i := 2) rfl) rfl dX5_livingTicket_40 ?_
        refine lv_iload_n hx hb dX5_livingTicket_43 rfl (lv_at hl1 0 rfl) ?_
        refine kald F hK hP0 1 3 0 (x := (k 0)) rfl rfl rfl (by decide) (Nat.le_of_ble_eq_true rfl) (by rfl) dX5_livingTicket_44 ?_
        refine kget F hK hP0 7 2 1 iX7 rfl rfl (by decide) (List.mem_of_getElem? (i := 5) rfl) rfl dX5_livingTicket_45 ?_
        refine lv_icmp_le (tgt := 55) hx hb dX5_livingTicket_48 (by decide) (fun c27 => ?_) (fun c27 => ?_)
        · refine lv_iload_n hx hb dX5_livingTicket_55 rfl (lv_at hl1 0 rfl) ?_
          have q28 : 0 = klive s T n now := by
            first | (simp only [klive, c2, c4, eq_true c5, eq_true c27, eq_self, ↓reduceIte, and_self, and_true, true_and]; done) | (simp only [klive, c2, c4, eq_true c5, eq_true c27, eq_self, ↓reduceIte, and_self, and_true, true_and]; (try and_intros) <;> rfl) | exact rfl
          exact kRi F hr hlocks hS0 dX5_livingTicket_56 () q28 hP0 hD0
        · refine lv_iconst (v := (-1)) hx hb dX5_livingTicket_51 (by decide) ?_
          refine lv_goto (tgt := 56) hx hb dX5_livingTicket_52 (by decide) ?_
          have q29 : (-1) = klive s T n now := by
            first | (simp only [klive, c2, c4, eq_true c5, c27, eq_self, ↓reduceIte, and_self, and_true, true_and]; done) | (simp only [klive, c2, c4, eq_true c5, c27, eq_self, ↓reduceIte, and_self, and_true, true_and]; (try and_intros) <;> rfl) | exact rfl
          exact kRi F hr hlocks hS0 dX5_livingTicket_56 () q29 hP0 hD0
set_option maxHeartbeats 1000000 in
set_option maxRecDepth 100000 in
theorem c_X5_wasSeen (l : Launch) (G : kG) (h : Nat) (pe : Nat) (ta : Nat) (sn : Nat) (sb : Nat) (s : Nat → Int32) (N : Nat → Int32) (B : Nat → Int32) (E : Nat) (n : Int32) (b : Int32) (hE : s 6 = nI E) (hE4 : E ≤ 4) : kM G l yX5_wasSeen wsX5_wasSeen ({ frames := 0, cells := 0, slots := 0, locals := 0 }) [.ref h, .int n, .int b] ([oSe h pe ta sn sb s, aI G sn 4 N, aI G sb 4 B]) (kQi G (fun (rr : Int32) (uu : Unit) => rr = kwas E N B n b) (fun (uu : Unit) => [oSe h pe ta sn sb s, aI G sn 4 N, aI G sb 4 B])) := by
  refine kStart (cc := cX5_wasSeen) (maxL := 4) (ret := (some .boolean)) (by decide) rfl (Nat.le_of_ble_eq_true rfl) (fun pg ev st mi bl mt cd A ls0 F hr hlocks hin hK hP0 hD0 hA hS0 hl0 => ?_)
  obtain ⟨hx, hb, hml, hown, hts⟩ := id F
  have hl0 : lv_has ls0 4 [(0, .ref h), (1, .int n), (2, .int b)] := hl0
  have iX5 : ∀ w ∈ u_ws RX5 TX5 9, w ∈ wsX5_wasSeen := fun w h => List.mem_cons_of_mem _ (List.mem_append_right _ h)
  refine lv_iconst (v := 0) hx hb dX5_wasSeen_0 (by decide) ?_
  refine lv_istore_n (lv' := [(3, .int 0), (0, .ref h), (1, .int n), (2, .int b)]) hx hb dX5_wasSeen_1 rfl hl0 (by decide) rfl (fun ls1 hl1 => ?_)
  clear hl0
  have LOOP2 : ∀ (fu k : Nat), k ≤ E → E + 1 ≤ k + fu → (kany (fun i => decide (N i = n) && decide (B i = b)) k = false) → ∀ (H2 : Heap) (locs2 : List Loc) (ls2 : Array Slot), lv_has ls2 4 [(3, .int (nI k)), (0, .ref h), (1, .int n), (2, .int b)] → va_P G.1 vwCl ([oSe h pe ta sn sb s, aI G sn 4 N, aI G sb 4 B]) H2 → va_D A ([oSe h pe ta sn sb s, aI G sn 4 N, aI G sb 4 B]) → va_S A st.heap H2 locs2 → W pg l ev ({ frames := 0, cells := 0, slots := 0, locals := 0 }) st mi ([.ref h, .int n, .int b] : List Value).toArray bl mt cd H2 locs2 0 0 (MQ bl (kQi G (fun (rr : Int32) (uu : Unit) => rr = kwas E N B n b) (fun (uu : Unit) => [oSe h pe ta sn sb s, aI G sn 4 N, aI G sb 4 B]) A) ([.ref h, .int n, .int b] : List Value).toArray st 0 0 A) (F0 mi 2 ls2 []) := by
    intro fu
    induction fu with
    | zero => intro k h1 h2; exact absurd h2 (by omega)
    | succ fu ih =>
      intro k hk hnk hw H2 locs2 ls2 hl2 hP2 hD2 hS2
      refine lv_iload_n hx hb dX5_wasSeen_2 rfl (lv_at hl2 0 rfl) ?_
      refine lv_aload_n hx hb dX5_wasSeen_3 rfl (lv_at hl2 1 rfl) ?_
      refine kget F hK hP2 5 0 6 iX5 rfl rfl (by decide) (List.mem_of_getElem? (i := 1) rfl) rfl dX5_wasSeen_4 ?_
      refine lv_icmp_ge (tgt := 43) hx hb dX5_wasSeen_7 (by decide) (fun c3 => ?_) (fun c3 => ?_)
      · rw [hE] at c3
        have xk : E = k := (k_exit hk (by omega) c3).symm
        subst xk
        refine lv_iconst (v := 0) hx hb dX5_wasSeen_43 (by decide) ?_
        have q4 : 0 = kwas E N B n b := by
          rw [kwas, hw]; rfl
        exact kRz F hr hlocks hS2 dX5_wasSeen_44 rfl () q4 hP2 hD2
      · rw [hE] at c3
        have lk : k < E := k_body hk (by omega) c3
        refine lv_iload_n hx hb dX5_wasSeen_10 rfl (lv_at hl2 0 rfl) ?_
        refine lv_iconst (v := 4) hx hb dX5_wasSeen_11 (by decide) ?_
        refine lv_icmp_ge (tgt := 43) hx hb dX5_wasSeen_12 (by decide) (fun c5 => ?_) (fun c5 => ?_)
        · exact absurd c5 (nI_ge (a := k) (b := 4) (by omega) (by omega))
        · refine lv_aload_n hx hb dX5_wasSeen_15 rfl (lv_at hl2 1 rfl) ?_
          refine kget F hK hP2 5 0 4 iX5 rfl rfl (by decide) (List.mem_of_getElem? (i := 2) rfl) rfl dX5_wasSeen_16 ?_
          refine lv_iload_n hx hb dX5_wasSeen_19 rfl (lv_at hl2 0 rfl) ?_
          refine kild F hK hP2 1 k rfl rfl (by omega) (Nat.le_of_ble_eq_true rfl) dX5_wasSeen_20 ?_
          refine lv_iload_n hx hb dX5_wasSeen_21 rfl (lv_at hl2 2 rfl) ?_
          refine lv_icmp_ne (tgt := 37) hx hb dX5_wasSeen_22 (by decide) (fun c6 => ?_) (fun c6 => ?_)
          · refine lv_iinc (v := nI (k + 1)) (lv' := [(3, .int (nI (k + 1))), (0, .ref h), (1, .int n), (2, .int b)]) hx hb dX5_wasSeen_37 hl2 (k := 0) rfl (nI_1 _) (by decide) rfl (fun ls7 hl7 => ?_)
            clear hl2
            refine lv_goto (tgt := 2) hx hb dX5_wasSeen_40 (by decide) ?_
            exact ih (k + 1) (by omega) (by omega)  (by simp [kany, hw, c5, c6]) _ _ _ hl7 hP2 hD2 hS2
          · refine lv_aload_n hx hb dX5_wasSeen_25 rfl (lv_at hl2 1 rfl) ?_
            refine kget F hK hP2 5 0 5 iX5 rfl rfl (by decide) (List.mem_of_getElem? (i := 3) rfl) rfl dX5_wasSeen_26 ?_
            refine lv_iload_n hx hb dX5_wasSeen_29 rfl (lv_at hl2 0 rfl) ?_
            refine kild F hK hP2 2 k rfl rfl (by omega) (Nat.le_of_ble_eq_true rfl) dX5_wasSeen_30 ?_
            refine lv_iload_n hx hb dX5_wasSeen_31 rfl (lv_at hl2 3 rfl) ?_
            refine lv_icmp_ne (tgt := 37) hx hb dX5_wasSeen_32 (by decide) (fun c8 => ?_) (fun c8 => ?_)
            · refine lv_iinc (v := nI (k + 1)) (lv' := [(3, .int (nI (k + 1))), (0, .ref h), (1, .int n), (2, .int b)]) hx hb dX5_wasSeen_37 hl2 (k := 0) rfl (nI_1 _) (by decide) rfl (fun ls9 hl9 => ?_)
              clear hl2
              refine lv_goto (tgt := 2) hx hb dX5_wasSeen_40 (by decide) ?_
              exact ih (k + 1) (by omega) (by omega)  (by simp [kany, hw, c5, c6, c8]) _ _ _ hl9 hP2 hD2 hS2
            · refine lv_iconst (v := 1) hx hb dX5_wasSeen_35 (by decide) ?_
              have q10 : 1 = kwas E N B n b := by
                have z : (fun i => decide (N i = n) && decide (B i = b)) k = true := by simp [c5, c6, c8]
                rw [kwas, kany_of z lk]; rfl
              exact kRz F hr hlocks hS2 dX5_wasSeen_36 rfl () q10 hP2 hD2
  exact LOOP2 (E + 1) 0 (by omega) (by omega)  rfl _ _ _ hl1 hP0 hD0 hS0
set_option maxHeartbeats 1000000 in
set_option maxRecDepth 100000 in
theorem c_X5_addSeen (l : Launch) (G : kG) (h : Nat) (pe : Nat) (ta : Nat) (sn : Nat) (sb : Nat) (s : Nat → Int32) (N : Nat → Int32) (B : Nat → Int32) (E : Nat) (n : Int32) (b : Int32) (hE : s 6 = nI E) (hE4 : E ≤ 4) : kM G l yX5_addSeen wsX5_addSeen ({ frames := 0, cells := 0, slots := 0, locals := 0 }) [.ref h, .int n, .int b] ([oSe h pe ta sn sb s, aI G sn 4 N, aI G sb 4 B]) (kQv G (fun (uu : (Nat → Int32) × (Nat → Int32) × (Nat → Int32)) => (uu.1 = kaddS s) ∧ (uu.2.1 = kaddN E s N n) ∧ (uu.2.2 = kaddN E s B b)) (fun (uu : (Nat → Int32) × (Nat → Int32) × (Nat → Int32)) => [oSe h pe ta sn sb uu.1, aI G sn 4 uu.2.1, aI G sb 4 uu.2.2])) := by
  refine kStart (cc := cX5_addSeen) (maxL := 4) (ret := none) (by decide) rfl (Nat.le_of_ble_eq_true rfl) (fun pg ev st mi bl mt cd A ls0 F hr hlocks hin hK hP0 hD0 hA hS0 hl0 => ?_)
  obtain ⟨hx, hb, hml, hown, hts⟩ := id F
  have hl0 : lv_has ls0 4 [(0, .ref h), (1, .int n), (2, .int b)] := hl0
  have iX5 : ∀ w ∈ u_ws RX5 TX5 9, w ∈ wsX5_addSeen := fun w h => List.mem_cons_of_mem _ (List.mem_append_right _ h)
  refine lv_aload_n hx hb dX5_addSeen_0 rfl (lv_at hl0 0 rfl) ?_
  refine kget F hK hP0 5 0 6 iX5 rfl rfl (by decide) (List.mem_of_getElem? (i := 1) rfl) rfl dX5_addSeen_1 ?_
  refine lv_iconst (v := 4) hx hb dX5_addSeen_4 (by decide) ?_
  refine lv_icmp_lt (tgt := 54) hx hb dX5_addSeen_5 (by decide) (fun c1 => ?_) (fun c1 => ?_)
  · have lE : E < 4 := (nI_ltI (a := E) (b := 4) (by omega) (by omega)).mp (hE ▸ c1)
    refine lv_aload_n hx hb dX5_addSeen_54 rfl (lv_at hl0 0 rfl) ?_
    refine kget F hK hP0 5 0 4 iX5 rfl rfl (by decide) (List.mem_of_getElem? (i := 2) rfl) rfl dX5_addSeen_55 ?_
    refine lv_aload_n hx hb dX5_addSeen_58 rfl (lv_at hl0 0 rfl) ?_
    refine kget F hK hP0 5 0 6 iX5 rfl rfl (by decide) (List.mem_of_getElem? (i := 1) rfl) rfl dX5_addSeen_59 ?_
    refine lv_iload_n hx hb dX5_addSeen_62 rfl (lv_at hl0 1 rfl) ?_
    refine kist F hK hP0 hD0 hS0 1 E (fun zz => [oSe h pe ta sn sb s, aI G sn 4 zz, aI G sb 4 B]) rfl hE lE (Nat.le_of_ble_eq_true rfl) rfl dX5_addSeen_63 (fun H2 locs2 N2 eN2 (hP2 : va_P G.1 vwCl ([oSe h pe ta sn sb s, aI G sn 4 N2, aI G sb 4 B]) H2) (hD2 : va_D A ([oSe h pe ta sn sb s, aI G sn 4 N2, aI G sb 4 B])) hS2 => ?_)
    clear hP0 hD0 hS0
    refine lv_aload_n hx hb dX5_addSeen_64 rfl (lv_at hl0 0 rfl) ?_
    refine kget F hK hP2 5 0 5 iX5 rfl rfl (by decide) (List.mem_of_getElem? (i := 3) rfl) rfl dX5_addSeen_65 ?_
    refine lv_aload_n hx hb dX5_addSeen_68 rfl (lv_at hl0 0 rfl) ?_
    refine kget F hK hP2 5 0 6 iX5 rfl rfl (by decide) (List.mem_of_getElem? (i := 1) rfl) rfl dX5_addSeen_69 ?_
    refine lv_iload_n hx hb dX5_addSeen_72 rfl (lv_at hl0 2 rfl) ?_
    refine kist F hK hP2 hD2 hS2 2 E (fun zz => [oSe h pe ta sn sb s, aI G sn 4 N2, aI G sb 4 zz]) rfl hE lE (Nat.le_of_ble_eq_true rfl) rfl dX5_addSeen_73 (fun H3 locs3 B3 eB3 (hP3 : va_P G.1 vwCl ([oSe h pe ta sn sb s, aI G sn 4 N2, aI G sb 4 B3]) H3) (hD3 : va_D A ([oSe h pe ta sn sb s, aI G sn 4 N2, aI G sb 4 B3])) hS3 => ?_)
    clear hP2 hD2 hS2
    refine lv_aload_n hx hb dX5_addSeen_74 rfl (lv_at hl0 0 rfl) ?_
    refine lv_dup hx hb dX5_addSeen_75 rfl ?_
    refine kget F hK hP3 5 0 6 iX5 rfl rfl (by decide) (List.mem_of_getElem? (i := 1) rfl) rfl dX5_addSeen_76 ?_
    refine lv_iconst (v := 1) hx hb dX5_addSeen_79 (by decide) ?_
    refine lv_iadd hx hb dX5_addSeen_80 ?_
    refine kput F hK hP3 hD3 hS3 (ty0 := tyX5) 5 0 6 iX5 rfl tyX5_ok nmX5 (fun zz => [oSe h pe ta sn sb zz, aI G sn 4 N2, aI G sb 4 B3]) s rfl (by decide) (List.mem_of_getElem? (i := 1) rfl) rfl rfl rfl (Nat.le_of_ble_eq_true rfl) rfl dX5_addSeen_81 (fun H4 locs4 s4 es4 (hP4 : va_P G.1 vwCl ([oSe h pe ta sn sb s4, aI G sn 4 N2, aI G sb 4 B3]) H4) (hD4 : va_D A ([oSe h pe ta sn sb s4, aI G sn 4 N2, aI G sb 4 B3])) hS4 => ?_)
    clear hP3 hD3 hS3
    have q5 : (s4 = kaddS s) ∧ (N2 = kaddN E s N n) ∧ (B3 = kaddN E s B b) := by
      subst es4
      subst eB3
      subst eN2
      first | (simp only [kaddS, kaddN, eq_true c1, eq_self, ↓reduceIte, and_self, and_true, true_and]; done) | (simp only [kaddS, kaddN, eq_true c1, eq_self, ↓reduceIte, and_self, and_true, true_and]; (try and_intros) <;> rfl) | exact ⟨rfl, rfl, rfl⟩
    exact kRv F hr hlocks hS4 dX5_addSeen_84 ⟨s4, N2, B3⟩ q5 hP4 hD4
  · refine lv_iconst (v := 1) hx hb dX5_addSeen_8 (by decide) ?_
    refine lv_istore_n (lv' := [(3, .int 1), (0, .ref h), (1, .int n), (2, .int b)]) hx hb dX5_addSeen_9 rfl hl0 (by decide) rfl (fun ls6 hl6 => ?_)
    clear hl0
    refine lv_iload_n hx hb dX5_addSeen_10 rfl (lv_at hl6 0 rfl) ?_
    refine lv_iconst (v := 4) hx hb dX5_addSeen_11 (by decide) ?_
    refine lv_icmp_ge (tgt := 49) hx hb dX5_addSeen_12 (by decide) (fun c7 => ?_) (fun c7 => ?_)
    · exact absurd c7 (by decide)
    · refine lv_aload_n hx hb dX5_addSeen_15 rfl (lv_at hl6 1 rfl) ?_
      refine kget F hK hP0 5 0 4 iX5 rfl rfl (by decide) (List.mem_of_getElem? (i := 2) rfl) rfl dX5_addSeen_16 ?_
      refine lv_iload_n hx hb dX5_addSeen_19 rfl (lv_at hl6 0 rfl) ?_
      refine lv_iconst (v := 1) hx hb dX5_addSeen_20 (by decide) ?_
      refine lv_isub hx hb dX5_addSeen_21 ?_
      rw [show (1 - 1 : Int32) = 0 from by decide]
      refine lv_aload_n hx hb dX5_addSeen_22 rfl (lv_at hl6 1 rfl) ?_
      refine kget F hK hP0 5 0 4 iX5 rfl rfl (by decide) (List.mem_of_getElem? (i := 2) rfl) rfl dX5_addSeen_23 ?_
      refine lv_iload_n hx hb dX5_addSeen_26 rfl (lv_at hl6 0 rfl) ?_
      refine kild F hK hP0 1 1 rfl rfl (by decide) (Nat.le_of_ble_eq_true rfl) dX5_addSeen_27 ?_
      refine kist F hK hP0 hD0 hS0 1 0 (fun zz => [oSe h pe ta sn sb s, aI G sn 4 zz, aI G sb 4 B]) rfl rfl (by decide) (Nat.le_of_ble_eq_true rfl) rfl dX5_addSeen_28 (fun H9 locs9 N9 eN9 (hP9 : va_P G.1 vwCl ([oSe h pe ta sn sb s, aI G sn 4 N9, aI G sb 4 B]) H9) (hD9 : va_D A ([oSe h pe ta sn sb s, aI G sn 4 N9, aI G sb 4 B])) hS9 => ?_)
      clear hP0 hD0 hS0
      refine lv_aload_n hx hb dX5_addSeen_29 rfl (lv_at hl6 1 rfl) ?_
      refine kget F hK hP9 5 0 5 iX5 rfl rfl (by decide) (List.mem_of_getElem? (i := 3) rfl) rfl dX5_addSeen_30 ?_
      refine lv_iload_n hx hb dX5_addSeen_33 rfl (lv_at hl6 0 rfl) ?_
      refine lv_iconst (v := 1) hx hb dX5_addSeen_34 (by decide) ?_
      refine lv_isub hx hb dX5_addSeen_35 ?_
      rw [show (1 - 1 : Int32) = 0 from by decide]
      refine lv_aload_n hx hb dX5_addSeen_36 rfl (lv_at hl6 1 rfl) ?_
      refine kget F hK hP9 5 0 5 iX5 rfl rfl (by decide) (List.mem_of_getElem? (i := 3) rfl) rfl dX5_addSeen_37 ?_
      refine lv_iload_n hx hb dX5_addSeen_40 rfl (lv_at hl6 0 rfl) ?_
      refine kild F hK hP9 2 1 rfl rfl (by decide) (Nat.le_of_ble_eq_true rfl) dX5_addSeen_41 ?_
      refine kist F hK hP9 hD9 hS9 2 0 (fun zz => [oSe h pe ta sn sb s, aI G sn 4 N9, aI G sb 4 zz]) rfl rfl (by decide) (Nat.le_of_ble_eq_true rfl) rfl dX5_addSeen_42 (fun H11 locs11 B11 eB11 (hP11 : va_P G.1 vwCl ([oSe h pe ta sn sb s, aI G sn 4 N9, aI G sb 4 B11]) H11) (hD11 : va_D A ([oSe h pe ta sn sb s, aI G sn 4 N9, aI G sb 4 B11])) hS11 => ?_)
      clear hP9 hD9 hS9
      refine lv_iinc (v := 2) (lv' := [(3, .int 2), (0, .ref h), (1, .int n), (2, .int b)]) hx hb dX5_addSeen_43 hl6 (k := 0) rfl (by decide) (by decide) rfl (fun ls12 hl12 => ?_)
      clear hl6
      refine lv_goto (tgt := 10) hx hb dX5_addSeen_46 (by decide) ?_
      refine lv_iload_n hx hb dX5_addSeen_10 rfl (lv_at hl12 0 rfl) ?_
      refine lv_iconst (v := 4) hx hb dX5_addSeen_11 (by decide) ?_
      refine lv_icmp_ge (tgt := 49) hx hb dX5_addSeen_12 (by decide) (fun c13 => ?_) (fun c13 => ?_)
      · exact absurd c13 (by decide)
      · refine lv_aload_n hx hb dX5_addSeen_15 rfl (lv_at hl12 1 rfl) ?_
        refine kget F hK hP11 5 0 4 iX5 rfl rfl (by decide) (List.mem_of_getElem? (i := 2) rfl) rfl dX5_addSeen_16 ?_
        refine lv_iload_n hx hb dX5_addSeen_19 rfl (lv_at hl12 0 rfl) ?_
        refine lv_iconst (v := 1) hx hb dX5_addSeen_20 (by decide) ?_
        refine lv_isub hx hb dX5_addSeen_21 ?_
        rw [show (2 - 1 : Int32) = 1 from by decide]
        refine lv_aload_n hx hb dX5_addSeen_22 rfl (lv_at hl12 1 rfl) ?_
        refine kget F hK hP11 5 0 4 iX5 rfl rfl (by decide) (List.mem_of_getElem? (i := 2) rfl) rfl dX5_addSeen_23 ?_
        refine lv_iload_n hx hb dX5_addSeen_26 rfl (lv_at hl12 0 rfl) ?_
        refine kild F hK hP11 1 2 rfl rfl (by decide) (Nat.le_of_ble_eq_true rfl) dX5_addSeen_27 ?_
        refine kist F hK hP11 hD11 hS11 1 1 (fun zz => [oSe h pe ta sn sb s, aI G sn 4 zz, aI G sb 4 B11]) rfl rfl (by decide) (Nat.le_of_ble_eq_true rfl) rfl dX5_addSeen_28 (fun H15 locs15 N15 eN15 (hP15 : va_P G.1 vwCl ([oSe h pe ta sn sb s, aI G sn 4 N15, aI G sb 4 B11]) H15) (hD15 : va_D A ([oSe h pe ta sn sb s, aI G sn 4 N15, aI G sb 4 B11])) hS15 => ?_)
        clear hP11 hD11 hS11
        refine lv_aload_n hx hb dX5_addSeen_29 rfl (lv_at hl12 1 rfl) ?_
        refine kget F hK hP15 5 0 5 iX5 rfl rfl (by decide) (List.mem_of_getElem? (i := 3) rfl) rfl dX5_addSeen_30 ?_
        refine lv_iload_n hx hb dX5_addSeen_33 rfl (lv_at hl12 0 rfl) ?_
        refine lv_iconst (v := 1) hx hb dX5_addSeen_34 (by decide) ?_
        refine lv_isub hx hb dX5_addSeen_35 ?_
        rw [show (2 - 1 : Int32) = 1 from by decide]
        refine lv_aload_n hx hb dX5_addSeen_36 rfl (lv_at hl12 1 rfl) ?_
        refine kget F hK hP15 5 0 5 iX5 rfl rfl (by decide) (List.mem_of_getElem? (i := 3) rfl) rfl dX5_addSeen_37 ?_
        refine lv_iload_n hx hb dX5_addSeen_40 rfl (lv_at hl12 0 rfl) ?_
        refine kild F hK hP15 2 2 rfl rfl (by decide) (Nat.le_of_ble_eq_true rfl) dX5_addSeen_41 ?_
        refine kist F hK hP15 hD15 hS15 2 1 (fun zz => [oSe h pe ta sn sb s, aI G sn 4 N15, aI G sb 4 zz]) rfl rfl (by decide) (Nat.le_of_ble_eq_true rfl) rfl dX5_addSeen_42 (fun H17 locs17 B17 eB17 (hP17 : va_P G.1 vwCl ([oSe h pe ta sn sb s, aI G sn 4 N15, aI G sb 4 B17]) H17) (hD17 : va_D A ([oSe h pe ta sn sb s, aI G sn 4 N15, aI G sb 4 B17])) hS17 => ?_)
        clear hP15 hD15 hS15
        refine lv_iinc (v := 3) (lv' := [(3, .int 3), (0, .ref h), (1, .int n), (2, .int b)]) hx hb dX5_addSeen_43 hl12 (k := 0) rfl (by decide) (by decide) rfl (fun ls18 hl18 => ?_)
        clear hl12
        refine lv_goto (tgt := 10) hx hb dX5_addSeen_46 (by decide) ?_
        refine lv_iload_n hx hb dX5_addSeen_10 rfl (lv_at hl18 0 rfl) ?_
        refine lv_iconst (v := 4) hx hb dX5_addSeen_11 (by decide) ?_
        refine lv_icmp_ge (tgt := 49) hx hb dX5_addSeen_12 (by decide) (fun c19 => ?_) (fun c19 => ?_)
        · exact absurd c19 (by decide)
        · refine lv_aload_n hx hb dX5_addSeen_15 rfl (lv_at hl18 1 rfl) ?_
          refine kget F hK hP17 5 0 4 iX5 rfl rfl (by decide) (List.mem_of_getElem? (i := 2) rfl) rfl dX5_addSeen_16 ?_
          refine lv_iload_n hx hb dX5_addSeen_19 rfl (lv_at hl18 0 rfl) ?_
          refine lv_iconst (v := 1) hx hb dX5_addSeen_20 (by decide) ?_
          refine lv_isub hx hb dX5_addSeen_21 ?_
          rw [show (3 - 1 : Int32) = 2 from by decide]
          refine lv_aload_n hx hb dX5_addSeen_22 rfl (lv_at hl18 1 rfl) ?_
          refine kget F hK hP17 5 0 4 iX5 rfl rfl (by decide) (List.mem_of_getElem? (i := 2) rfl) rfl dX5_addSeen_23 ?_
          refine lv_iload_n hx hb dX5_addSeen_26 rfl (lv_at hl18 0 rfl) ?_
          refine kild F hK hP17 1 3 rfl rfl (by decide) (Nat.le_of_ble_eq_true rfl) dX5_addSeen_27 ?_
          refine kist F hK hP17 hD17 hS17 1 2 (fun zz => [oSe h pe ta sn sb s, aI G sn 4 zz, aI G sb 4 B17]) rfl rfl (by decide) (Nat.le_of_ble_eq_true rfl) rfl dX5_addSeen_28 (fun H21 locs21 N21 eN21 (hP21 : va_P G.1 vwCl ([oSe h pe ta sn sb s, aI G sn 4 N21, aI G sb 4 B17]) H21) (hD21 : va_D A ([oSe h pe ta sn sb s, aI G sn 4 N21, aI G sb 4 B17])) hS21 => ?_)
          clear hP17 hD17 hS17
          refine lv_aload_n hx hb dX5_addSeen_29 rfl (lv_at hl18 1 rfl) ?_
          refine kget F hK hP21 5 0 5 iX5 rfl rfl (by decide) (List.mem_of_getElem? (i := 3) rfl) rfl dX5_addSeen_30 ?_
          refine lv_iload_n hx hb dX5_addSeen_33 rfl (lv_at hl18 0 rfl) ?_
          refine lv_iconst (v := 1) hx hb dX5_addSeen_34 (by decide) ?_
          refine lv_isub hx hb dX5_addSeen_35 ?_
          rw [show (3 - 1 : Int32) = 2 from by decide]
          refine lv_aload_n hx hb dX5_addSeen_36 rfl (lv_at hl18 1 rfl) ?_
          refine kget F hK hP21 5 0 5 iX5 rfl rfl (by decide) (List.mem_of_getElem? (i := 3) rfl) rfl dX5_addSeen_37 ?_
          refine lv_iload_n hx hb dX5_addSeen_40 rfl (lv_at hl18 0 rfl) ?_
          refine kild F hK hP21 2 3 rfl rfl (by decide) (Nat.le_of_ble_eq_true rfl) dX5_addSeen_41 ?_
          refine kist F hK hP21 hD21 hS21 2 2 (fun zz => [oSe h pe ta sn sb s, aI G sn 4 N21, aI G sb 4 zz]) rfl rfl (by decide) (Nat.le_of_ble_eq_true rfl) rfl dX5_addSeen_42 (fun H23 locs23 B23 eB23 (hP23 : va_P G.1 vwCl ([oSe h pe ta sn sb s, aI G sn 4 N21, aI G sb 4 B23]) H23) (hD23 : va_D A ([oSe h pe ta sn sb s, aI G sn 4 N21, aI G sb 4 B23])) hS23 => ?_)
          clear hP21 hD21 hS21
          refine lv_iinc (v := 4) (lv' := [(3, .int 4), (0, .ref h), (1, .int n), (2, .int b)]) hx hb dX5_addSeen_43 hl18 (k := 0) rfl (by decide) (by decide) rfl (fun ls24 hl24 => ?_)
          clear hl18
          refine lv_goto (tgt := 10) hx hb dX5_addSeen_46 (by decide) ?_
          refine lv_iload_n hx hb dX5_addSeen_10 rfl (lv_at hl24 0 rfl) ?_
          refine lv_iconst (v := 4) hx hb dX5_addSeen_11 (by decide) ?_
          refine lv_icmp_ge (tgt := 49) hx hb dX5_addSeen_12 (by decide) (fun c25 => ?_) (fun c25 => ?_)
          · refine lv_aload_n hx hb dX5_addSeen_49 rfl (lv_at hl24 1 rfl) ?_
            refine lv_iconst (v := 3) hx hb dX5_addSeen_50 (by decide) ?_
            refine kput F hK hP23 hD23 hS23 (ty0 := tyX5) 5 0 6 iX5 rfl tyX5_ok nmX5 (fun zz => [oSe h pe ta sn sb zz, aI G sn 4 N21, aI G sb 4 B23]) s rfl (by decide) (List.mem_of_getElem? (i := 1) rfl) rfl rfl rfl (Nat.le_of_ble_eq_true rfl) rfl dX5_addSeen_51 (fun H26 locs26 s26 es26 (hP26 : va_P G.1 vwCl ([oSe h pe ta sn sb s26, aI G sn 4 N21, aI G sb 4 B23]) H26) (hD26 : va_D A ([oSe h pe ta sn sb s26, aI G sn 4 N21, aI G sb 4 B23])) hS26 => ?_)
            clear hP23 hD23 hS23
            refine lv_aload_n hx hb dX5_addSeen_54 rfl (lv_at hl24 1 rfl) ?_
            refine kget F hK hP26 5 0 4 iX5 rfl rfl (by decide) (List.mem_of_getElem? (i := 2) rfl) rfl dX5_addSeen_55 ?_
            refine lv_aload_n hx hb dX5_addSeen_58 rfl (lv_at hl24 1 rfl) ?_
            refine kget F hK hP26 5 0 6 iX5 rfl rfl (by decide) (List.mem_of_getElem? (i := 1) rfl) rfl dX5_addSeen_59 ?_
            rw [show (s26 6) = 3 from by subst es26; subst eB23; subst eN21; subst eB17; subst eN15; subst eB11; subst eN9; rfl]
            refine lv_iload_n hx hb dX5_addSeen_62 rfl (lv_at hl24 2 rfl) ?_
            refine kist F hK hP26 hD26 hS26 1 3 (fun zz => [oSe h pe ta sn sb s26, aI G sn 4 zz, aI G sb 4 B23]) rfl rfl (by decide) (Nat.le_of_ble_eq_true rfl) rfl dX5_addSeen_63 (fun H27 locs27 N27 eN27 (hP27 : va_P G.1 vwCl ([oSe h pe ta sn sb s26, aI G sn 4 N27, aI G sb 4 B23]) H27) (hD27 : va_D A ([oSe h pe ta sn sb s26, aI G sn 4 N27, aI G sb 4 B23])) hS27 => ?_)
            clear hP26 hD26 hS26
            refine lv_aload_n hx hb dX5_addSeen_64 rfl (lv_at hl24 1 rfl) ?_
            refine kget F hK hP27 5 0 5 iX5 rfl rfl (by decide) (List.mem_of_getElem? (i := 3) rfl) rfl dX5_addSeen_65 ?_
            refine lv_aload_n hx hb dX5_addSeen_68 rfl (lv_at hl24 1 rfl) ?_
            refine kget F hK hP27 5 0 6 iX5 rfl rfl (by decide) (List.mem_of_getElem? (i := 1) rfl) rfl dX5_addSeen_69 ?_
            rw [show (s26 6) = 3 from by subst eN27; subst es26; subst eB23; subst eN21; subst eB17; subst eN15; subst eB11; subst eN9; rfl]
            refine lv_iload_n hx hb dX5_addSeen_72 rfl (lv_at hl24 3 rfl) ?_
            refine kist F hK hP27 hD27 hS27 2 3 (fun zz => [oSe h pe ta sn sb s26, aI G sn 4 N27, aI G sb 4 zz]) rfl rfl (by decide) (Nat.le_of_ble_eq_true rfl) rfl dX5_addSeen_73 (fun H28 locs28 B28 eB28 (hP28 : va_P G.1 vwCl ([oSe h pe ta sn sb s26, aI G sn 4 N27, aI G sb 4 B28]) H28) (hD28 : va_D A ([oSe h pe ta sn sb s26, aI G sn 4 N27, aI G sb 4 B28])) hS28 => ?_)
            clear hP27 hD27 hS27
            refine lv_aload_n hx hb dX5_addSeen_74 rfl (lv_at hl24 1 rfl) ?_
            refine lv_dup hx hb dX5_addSeen_75 rfl ?_
            refine kget F hK hP28 5 0 6 iX5 rfl rfl (by decide) (List.mem_of_getElem? (i := 1) rfl) rfl dX5_addSeen_76 ?_
            refine lv_iconst (v := 1) hx hb dX5_addSeen_79 (by decide) ?_
            refine lv_iadd hx hb dX5_addSeen_80 ?_
            refine kput F hK hP28 hD28 hS28 (ty0 := tyX5) 5 0 6 iX5 rfl tyX5_ok nmX5 (fun zz => [oSe h pe ta sn sb zz, aI G sn 4 N27, aI G sb 4 B28]) s26 rfl (by decide) (List.mem_of_getElem? (i := 1) rfl) rfl rfl rfl (Nat.le_of_ble_eq_true rfl) rfl dX5_addSeen_81 (fun H29 locs29 s29 es29 (hP29 : va_P G.1 vwCl ([oSe h pe ta sn sb s29, aI G sn 4 N27, aI G sb 4 B28]) H29) (hD29 : va_D A ([oSe h pe ta sn sb s29, aI G sn 4 N27, aI G sb 4 B28])) hS29 => ?_)
            clear hP28 hD28 hS28
            have q30 : (s29 = kaddS s) ∧ (N27 = kaddN E s N n) ∧ (B28 = kaddN E s B b) := by
              subst es29
              subst eB28
              subst eN27
              subst es26
              subst eB23
              subst eN21
              subst eB17
              subst eN15
              subst eB11
              subst eN9
              first | (simp only [kaddS, kaddN, c1, c7, c13, c19, eq_true c25, eq_self, ↓reduceIte, and_self, and_true, true_and]; done) | (simp only [kaddS, kaddN, c1, c7, c13, c19, eq_true c25, eq_self, ↓reduceIte, and_self, and_true, true_and]; (try and_intros) <;> rfl) | exact ⟨rfl, rfl, rfl⟩
            exact kRv F hr hlocks hS29 dX5_addSeen_84 ⟨s29, N27, B28⟩ q30 hP29 hD29
          · exact absurd (by decide) c25
set_option maxHeartbeats 1000000 in
set_option maxRecDepth 100000 in
theorem c_X5_takeEarly (l : Launch) (G : kG) (h : Nat) (pe : Nat) (ta : Nat) (sn : Nat) (sb : Nat) (lc : Nat) (ls : Nat) (li : Nat) (lo : Nat) (dr : Nat) (s : Nat → Int32) (p : Nat → Int32) (t : Nat → Int32) (N : Nat → Int32) (B : Nat → Int32) (tk : Nat) (E : Nat) (h2 : Nat) (a2 : Nat) (z : Nat → Int32) (now : Int32) (hE : s 6 = nI E) (hE4 : E ≤ 4) : kM G l yX5_takeEarly wsX5_takeEarly ({ frames := 2, cells := 0, slots := 0, locals := 41 }) [.ref h, .ref h2, .ref tk, .int now] ([oSe h pe ta sn sb s, oPe pe lc ls li lo dr p, oTi tk t, aI G sn 4 N, aI G sb 4 B, oMs h2 a2, aI G a2 9 z]) (kQi G (fun (rr : Int32) (uu : (Nat → Int32) × (Nat → Int32) × (Nat → Int32)) => (rr = (kearlR E s N B p t z now).1) ∧ (uu.1 = (kearlR E s N B p t z now).2.1) ∧ (uu.2.1 = (kearlR E s N B p t z now).2.2.1) ∧ (uu.2.2 = (kearlR E s N B p t z now).2.2.2)) (fun (uu : (Nat → Int32) × (Nat → Int32) × (Nat → Int32)) => [oSe h pe ta sn sb uu.1, oPe pe lc ls li lo dr p, oTi tk t, aI G sn 4 uu.2.1, aI G sb 4 uu.2.2, oMs h2 a2, aI G a2 9 z])) := by
  refine kStart (cc := cX5_takeEarly) (maxL := 7) (ret := (some .boolean)) (by decide) rfl (Nat.le_of_ble_eq_true rfl) (fun pg ev st mi bl mt cd A ls0 F hr hlocks hin hK hP0 hD0 hA hS0 hl0 => ?_)
  obtain ⟨hx, hb, hml, hown, hts⟩ := id F
  have hl0 : lv_has ls0 7 [(0, .ref h), (1, .ref h2), (2, .ref tk), (3, .int now)] := hl0
  have iX3 : ∀ w ∈ u_ws RX3 TX3 18, w ∈ wsX5_takeEarly := fun w h => List.mem_cons_of_mem _ (List.mem_append_left _ (List.mem_append_right _ h))
  have iX5 : ∀ w ∈ u_ws RX5 TX5 9, w ∈ wsX5_takeEarly := fun w h => List.mem_cons_of_mem _ (List.mem_append_left _ (List.mem_append_left _ (List.mem_append_right _ h)))
  have iX7 : ∀ w ∈ u_ws RX7 TX7 5, w ∈ wsX5_takeEarly := fun w h => List.mem_cons_of_mem _ (List.mem_append_left _ (List.mem_append_left _ (List.mem_append_left _ (List.mem_append_right _ h))))
  refine lv_aload_n hx hb dX5_takeEarly_0 rfl (lv_at hl0 1 rfl) ?_
  refine lv_bipush (v := 8) hx hb dX5_takeEarly_1 (by decide) ?_
  refine kVi (wr := [oSe h pe ta sn sb s, oPe pe lc ls li lo dr p, oTi tk t, aI G sn 4 N, aI G sb 4 B]) F hK hP0 hD0 hS0 hA hl0.1 (c_X2_at l G h2 a2 z 8 (by first | assumption | decide | omega)) [5, 6] [0, 1, 2, 3, 4] 2 0 gX5_takeEarly_X2_at rfl 1 rfl (by decide +kernel) ⟨Nat.le_of_ble_eq_true rfl, Nat.le_of_ble_eq_true rfl⟩ ⟨Nat.zero_le _, Nat.zero_le _⟩ rfl rfl rfl rfl (by decide) (by decide) (by decide) (Nat.le_of_ble_eq_true rfl) rfl dX5_takeEarly_3 (fun r1 u1 H2 locs2 hw1 (hP2 : va_P G.1 vwCl ([oSe h pe ta sn sb s, oPe pe lc ls li lo dr p, oTi tk t, aI G sn 4 N, aI G sb 4 B, oMs h2 a2, aI G a2 9 z]) H2) (hD2 : va_D A ([oSe h pe ta sn sb s, oPe pe lc ls li lo dr p, oTi tk t, aI G sn 4 N, aI G sb 4 B, oMs h2 a2, aI G a2 9 z])) hS2 => ?_)
  clear hP0 hD0 hS0
  have w1_0 : r1 = z 8 := hw1
  refine lv_istore (lv' := [(4, .int r1), (0, .ref h), (1, .ref h2), (2, .ref tk), (3, .int now)]) hx hb dX5_takeEarly_6 hl0 (by decide) rfl (fun ls3 hl3 => ?_)
  clear hl0
  refine lv_aload_n hx hb dX5_takeEarly_8 rfl (lv_at hl3 2 rfl) ?_
  refine lv_bipush (v := 7) hx hb dX5_takeEarly_9 (by decide) ?_
  refine kVi (wr := [oSe h pe ta sn sb s, oPe pe lc ls li lo dr p, oTi tk t, aI G sn 4 N, aI G sb 4 B]) F hK hP2 hD2 hS2 hA hl3.1 (c_X2_at l G h2 a2 z 7 (by first | assumption | decide | omega)) [5, 6] [0, 1, 2, 3, 4] 2 0 gX5_takeEarly_X2_at rfl 1 rfl (by decide +kernel) ⟨Nat.le_of_ble_eq_true rfl, Nat.le_of_ble_eq_true rfl⟩ ⟨Nat.zero_le _, Nat.zero_le _⟩ rfl rfl rfl rfl (by decide) (by decide) (by decide) (Nat.le_of_ble_eq_true rfl) rfl dX5_takeEarly_11 (fun r4 u4 H5 locs5 hw4 (hP5 : va_P G.1 vwCl ([oSe h pe ta sn sb s, oPe pe lc ls li lo dr p, oTi tk t, aI G sn 4 N, aI G sb 4 B, oMs h2 a2, aI G a2 9 z]) H5) (hD5 : va_D A ([oSe h pe ta sn sb s, oPe pe lc ls li lo dr p, oTi tk t, aI G sn 4 N, aI G sb 4 B, oMs h2 a2, aI G a2 9 z])) hS5 => ?_)
  clear hP2 hD2 hS2
  have w4_0 : r4 = z 7 := hw4
  refine lv_istore (lv' := [(5, .int r4), (4, .int r1), (0, .ref h), (1, .ref h2), (2, .ref tk), (3, .int now)]) hx hb dX5_takeEarly_14 hl3 (by decide) rfl (fun ls6 hl6 => ?_)
  clear hl3
  refine lv_aload_n hx hb dX5_takeEarly_16 rfl (lv_at hl6 3 rfl) ?_
  refine lv_bipush (v := 6) hx hb dX5_takeEarly_17 (by decide) ?_
  refine kVi (wr := [oSe h pe ta sn sb s, oPe pe lc ls li lo dr p, oTi tk t, aI G sn 4 N, aI G sb 4 B]) F hK hP5 hD5 hS5 hA hl6.1 (c_X2_at l G h2 a2 z 6 (by first | assumption | decide | omega)) [5, 6] [0, 1, 2, 3, 4] 2 0 gX5_takeEarly_X2_at rfl 1 rfl (by decide +kernel) ⟨Nat.le_of_ble_eq_true rfl, Nat.le_of_ble_eq_true rfl⟩ ⟨Nat.zero_le _, Nat.zero_le _⟩ rfl rfl rfl rfl (by decide) (by decide) (by decide) (Nat.le_of_ble_eq_true rfl) rfl dX5_takeEarly_19 (fun r7 u7 H8 locs8 hw7 (hP8 : va_P G.1 vwCl ([oSe h pe ta sn sb s, oPe pe lc ls li lo dr p, oTi tk t, aI G sn 4 N, aI G sb 4 B, oMs h2 a2, aI G a2 9 z]) H8) (hD8 : va_D A ([oSe h pe ta sn sb s, oPe pe lc ls li lo dr p, oTi tk t, aI G sn 4 N, aI G sb 4 B, oMs h2 a2, aI G a2 9 z])) hS8 => ?_)
  clear hP5 hD5 hS5
  have w7_0 : r7 = z 6 := hw7
  refine lv_aload_n hx hb dX5_takeEarly_22 rfl (lv_at hl6 4 rfl) ?_
  refine kget F hK hP8 7 2 4 iX7 rfl rfl (by decide) (List.mem_of_getElem? (i := 1) rfl) rfl dX5_takeEarly_23 ?_
  refine lv_isub hx hb dX5_takeEarly_26 ?_
  refine lv_iload_n hx hb dX5_takeEarly_27 rfl (lv_at hl6 5 rfl) ?_
  refine lv_aload_n hx hb dX5_takeEarly_28 rfl (lv_at hl6 4 rfl) ?_
  refine kget F hK hP8 7 2 2 iX7 rfl rfl (by decide) (List.mem_of_getElem? (i := 2) rfl) rfl dX5_takeEarly_29 ?_
  refine lv_isub hx hb dX5_takeEarly_32 ?_
  refine lv_isub hx hb dX5_takeEarly_33 ?_
  refine lv_topi (fun x9 ex9 => ?_)
  refine lv_istore (lv' := [(6, .int x9), (5, .int r4), (4, .int r1), (0, .ref h), (1, .ref h2), (2, .ref tk), (3, .int now)]) hx hb dX5_takeEarly_34 hl6 (by decide) rfl (fun ls10 hl10 => ?_)
  clear hl6
  refine lv_iload hx hb dX5_takeEarly_36 (lv_at hl10 2 rfl) ?_
  refine lv_if_lt (tgt := 77) hx hb dX5_takeEarly_38 (by decide) (fun c11 => ?_) (fun c11 => ?_)
  · refine lv_iconst (v := 0) hx hb dX5_takeEarly_77 (by decide) ?_
    have q12 : (0 = (kearlR E s N B p t z now).1) ∧ (s = (kearlR E s N B p t z now).2.1) ∧ (N = (kearlR E s N B p t z now).2.2.1) ∧ (B = (kearlR E s N B p t z now).2.2.2) := by
      subst ex9
      subst w7_0
      subst w4_0
      subst w1_0
      have zc : kearlC E N B p t z now = 0 := by simp only [kearlC, c11, ↓reduceIte]
      first | (simp only [kearlR, zc, ↓reduceIte, and_self]; done) | (simp only [kearlR, zc, ↓reduceIte]; exact ⟨rfl, rfl, rfl, rfl⟩) | (unfold kearlR; rw [zc]; exact ⟨rfl, rfl, rfl, rfl⟩)
    exact kRz F hr hlocks hS8 dX5_takeEarly_78 rfl ⟨s, N, B⟩ q12 hP8 hD8
  · refine lv_aload_n hx hb dX5_takeEarly_41 rfl (lv_at hl10 3 rfl) ?_
    refine kget F hK hP8 5 0 0 iX5 rfl rfl (by decide) (List.mem_of_getElem? (i := 3) rfl) rfl dX5_takeEarly_42 ?_
    refine kget F hK hP8 3 1 3 iX3 rfl rfl (by decide) (List.mem_of_getElem? (i := 4) rfl) rfl dX5_takeEarly_45 ?_
    refine lv_if_ne (tgt := 77) hx hb dX5_takeEarly_48 (by decide) (fun c13 => ?_) (fun c13 => ?_)
    · refine lv_iconst (v := 0) hx hb dX5_takeEarly_77 (by decide) ?_
      have q14 : (0 = (kearlR E s N B p t z now).1) ∧ (s = (kearlR E s N B p t z now).2.1) ∧ (N = (kearlR E s N B p t z now).2.2.1) ∧ (B = (kearlR E s N B p t z now).2.2.2) := by
        subst ex9
        subst w7_0
        subst w4_0
        subst w1_0
        have zc : kearlC E N B p t z now = 0 := by simp only [kearlC, c11, c13, ↓reduceIte]
        first | (simp only [kearlR, zc, ↓reduceIte, and_self]; done) | (simp only [kearlR, zc, ↓reduceIte]; exact ⟨rfl, rfl, rfl, rfl⟩) | (unfold kearlR; rw [zc]; exact ⟨rfl, rfl, rfl, rfl⟩)
      exact kRz F hr hlocks hS8 dX5_takeEarly_78 rfl ⟨s, N, B⟩ q14 hP8 hD8
    · refine lv_iload hx hb dX5_takeEarly_51 (lv_at hl10 0 rfl) ?_
      refine lv_bipush (v := (-2)) hx hb dX5_takeEarly_53 (by decide) ?_
      refine lv_icmp_lt (tgt := 77) hx hb dX5_takeEarly_55 (by decide) (fun c15 => ?_) (fun c15 => ?_)
      · refine lv_iconst (v := 0) hx hb dX5_takeEarly_77 (by decide) ?_
        have q16 : (0 = (kearlR E s N B p t z now).1) ∧ (s = (kearlR E s N B p t z now).2.1) ∧ (N = (kearlR E s N B p t z now).2.2.1) ∧ (B = (kearlR E s N B p t z now).2.2.2) := by
          subst ex9
          subst w7_0
          subst w4_0
          subst w1_0
          have zc : kearlC E N B p t z now = 0 := by simp only [kearlC, c11, c13, c15, ↓reduceIte]
          first | (simp only [kearlR, zc, ↓reduceIte, and_self]; done) | (simp only [kearlR, zc, ↓reduceIte]; exact ⟨rfl, rfl, rfl, rfl⟩) | (unfold kearlR; rw [zc]; exact ⟨rfl, rfl, rfl, rfl⟩)
        exact kRz F hr hlocks hS8 dX5_takeEarly_78 rfl ⟨s, N, B⟩ q16 hP8 hD8
      · refine lv_iload hx hb dX5_takeEarly_58 (lv_at hl10 0 rfl) ?_
        refine lv_iconst (v := 2) hx hb dX5_takeEarly_60 (by decide) ?_
        refine lv_icmp_gt (tgt := 77) hx hb dX5_takeEarly_61 (by decide) (fun c17 => ?_) (fun c17 => ?_)
        · refine lv_iconst (v := 0) hx hb dX5_takeEarly_77 (by decide) ?_
          have q18 : (0 = (kearlR E s N B p t z now).1) ∧ (s = (kearlR E s N B p t z now).2.1) ∧ (N = (kearlR E s N B p t z now).2.2.1) ∧ (B = (kearlR E s N B p t z now).2.2.2) := by
            subst ex9
            subst w7_0
            subst w4_0
            subst w1_0
            have zc : kearlC E N B p t z now = 0 := by simp only [kearlC, c11, c13, c15, c17, ↓reduceIte]
            first | (simp only [kearlR, zc, ↓reduceIte, and_self]; done) | (simp only [kearlR, zc, ↓reduceIte]; exact ⟨rfl, rfl, rfl, rfl⟩) | (unfold kearlR; rw [zc]; exact ⟨rfl, rfl, rfl, rfl⟩)
          exact kRz F hr hlocks hS8 dX5_takeEarly_78 rfl ⟨s, N, B⟩ q18 hP8 hD8
        · refine lv_aload_n hx hb dX5_takeEarly_64 rfl (lv_at hl10 3 rfl) ?_
          refine lv_aload_n hx hb dX5_takeEarly_65 rfl (lv_at hl10 5 rfl) ?_
          refine kget F hK hP8 7 2 0 iX7 rfl rfl (by decide) (List.mem_of_getElem? (i := 5) rfl) rfl dX5_takeEarly_66 ?_
          refine lv_iload hx hb dX5_takeEarly_69 (lv_at hl10 1 rfl) ?_
          refine kVi (wr := [oPe pe lc ls li lo dr p, oTi tk t, oMs h2 a2, aI G a2 9 z]) F hK hP8 hD8 hS8 hA hl10.1 (c_X5_wasSeen l G h pe ta sn sb s N B E (t 0) r4 hE hE4) [0, 3, 4] [1, 2, 5, 6] 5 0 gX5_takeEarly_X5_wasSeen rfl 2 rfl (by decide +kernel) ⟨Nat.le_of_ble_eq_true rfl, Nat.le_of_ble_eq_true rfl⟩ ⟨Nat.zero_le _, Nat.zero_le _⟩ rfl rfl rfl rfl (by decide) (by decide) (by decide) (Nat.le_of_ble_eq_true rfl) rfl dX5_takeEarly_71 (fun r19 u19 H20 locs20 hw19 (hP20 : va_P G.1 vwCl ([oPe pe lc ls li lo dr p, oTi tk t, oMs h2 a2, aI G a2 9 z, oSe h pe ta sn sb s, aI G sn 4 N, aI G sb 4 B]) H20) (hD20 : va_D A ([oPe pe lc ls li lo dr p, oTi tk t, oMs h2 a2, aI G a2 9 z, oSe h pe ta sn sb s, aI G sn 4 N, aI G sb 4 B])) hS20 => ?_)
          clear hP8 hD8 hS8
          have w19_0 : r19 = kwas E N B (t 0) r4 := hw19
          refine lv_if_eq (tgt := 79) hx hb dX5_takeEarly_74 (by decide) (fun c21 => ?_) (fun c21 => ?_)
          · refine lv_aload_n hx hb dX5_takeEarly_79 rfl (lv_at hl10 3 rfl) ?_
            refine lv_aload_n hx hb dX5_takeEarly_80 rfl (lv_at hl10 5 rfl) ?_
            refine kget F hK hP20 7 1 0 iX7 rfl rfl (by decide) (List.mem_of_getElem? (i := 5) rfl) rfl dX5_takeEarly_81 ?_
            refine lv_iload hx hb dX5_takeEarly_84 (lv_at hl10 1 rfl) ?_
            refine kVv (wr := [oPe pe lc ls li lo dr p, oTi tk t, oMs h2 a2, aI G a2 9 z]) F hK hP20 hD20 hS20 hA hl10.1 (c_X5_addSeen l G h pe ta sn sb s N B E (t 0) r4 hE hE4) [4, 5, 6] [0, 1, 2, 3] 5 0 gX5_takeEarly_X5_addSeen rfl 2 rfl (by decide +kernel) ⟨Nat.le_of_ble_eq_true rfl, Nat.le_of_ble_eq_true rfl⟩ ⟨Nat.zero_le _, Nat.zero_le _⟩ rfl rfl rfl rfl (by decide) (by decide) (by decide) (Nat.le_of_ble_eq_true rfl) rfl dX5_takeEarly_86 (fun u22 H23 locs23 hw22 hP23 hD23 hS23 => ?_)
            obtain ⟨s_22, N_22, B_22⟩ := u22
            have hP23 : va_P G.1 vwCl ([oPe pe lc ls li lo dr p, oTi tk t, oMs h2 a2, aI G a2 9 z, oSe h pe ta sn sb s_22, aI G sn 4 N_22, aI G sb 4 B_22]) H23 := hP23
            have hD23 : va_D A ([oPe pe lc ls li lo dr p, oTi tk t, oMs h2 a2, aI G a2 9 z, oSe h pe ta sn sb s_22, aI G sn 4 N_22, aI G sb 4 B_22]) := hD23
            clear hP20 hD20 hS20
            have w22_0 : s_22 = kaddS s := hw22.1
            have w22_1 : N_22 = kaddN E s N (t 0) := hw22.2.1
            have w22_2 : B_22 = kaddN E s B r4 := hw22.2.2
            refine lv_aload_n hx hb dX5_takeEarly_89 rfl (lv_at hl10 3 rfl) ?_
            refine lv_dup hx hb dX5_takeEarly_90 rfl ?_
            refine kget F hK hP23 5 4 7 iX5 rfl rfl (by decide) (List.mem_of_getElem? (i := 6) rfl) rfl dX5_takeEarly_91 ?_
            refine lv_iconst (v := 1) hx hb dX5_takeEarly_94 (by decide) ?_
            refine lv_iadd hx hb dX5_takeEarly_95 ?_
            refine kput F hK hP23 hD23 hS23 (ty0 := tyX5) 5 4 7 iX5 rfl tyX5_ok nmX5 (fun zz => [oPe pe lc ls li lo dr p, oTi tk t, oMs h2 a2, aI G a2 9 z, oSe h pe ta sn sb zz, aI G sn 4 N_22, aI G sb 4 B_22]) s_22 rfl (by decide) (List.mem_of_getElem? (i := 6) rfl) rfl rfl rfl (Nat.le_of_ble_eq_true rfl) rfl dX5_takeEarly_96 (fun H24 locs24 s24 es24 (hP24 : va_P G.1 vwCl ([oPe pe lc ls li lo dr p, oTi tk t, oMs h2 a2, aI G a2 9 z, oSe h pe ta sn sb s24, aI G sn 4 N_22, aI G sb 4 B_22]) H24) (hD24 : va_D A ([oPe pe lc ls li lo dr p, oTi tk t, oMs h2 a2, aI G a2 9 z, oSe h pe ta sn sb s24, aI G sn 4 N_22, aI G sb 4 B_22])) hS24 => ?_)
            clear hP23 hD23 hS23
            refine lv_aload_n hx hb dX5_takeEarly_99 rfl (lv_at hl10 3 rfl) ?_
            refine lv_dup hx hb dX5_takeEarly_100 rfl ?_
            refine kget F hK hP24 5 4 8 iX5 rfl rfl (by decide) (List.mem_of_getElem? (i := 7) rfl) rfl dX5_takeEarly_101 ?_
            refine lv_iload hx hb dX5_takeEarly_104 (lv_at hl10 2 rfl) ?_
            refine lv_iadd hx hb dX5_takeEarly_106 ?_
            refine kput F hK hP24 hD24 hS24 (ty0 := tyX5) 5 4 8 iX5 rfl tyX5_ok nmX5 (fun zz => [oPe pe lc ls li lo dr p, oTi tk t, oMs h2 a2, aI G a2 9 z, oSe h pe ta sn sb zz, aI G sn 4 N_22, aI G sb 4 B_22]) s24 rfl (by decide) (List.mem_of_getElem? (i := 7) rfl) rfl rfl rfl (Nat.le_of_ble_eq_true rfl) rfl dX5_takeEarly_107 (fun H25 locs25 s25 es25 (hP25 : va_P G.1 vwCl ([oPe pe lc ls li lo dr p, oTi tk t, oMs h2 a2, aI G a2 9 z, oSe h pe ta sn sb s25, aI G sn 4 N_22, aI G sb 4 B_22]) H25) (hD25 : va_D A ([oPe pe lc ls li lo dr p, oTi tk t, oMs h2 a2, aI G a2 9 z, oSe h pe ta sn sb s25, aI G sn 4 N_22, aI G sb 4 B_22])) hS25 => ?_)
            clear hP24 hD24 hS24
            refine lv_iconst (v := 1) hx hb dX5_takeEarly_110 (by decide) ?_
            have q26 : (1 = (kearlR E s N B p t z now).1) ∧ (s25 = (kearlR E s N B p t z now).2.1) ∧ (N_22 = (kearlR E s N B p t z now).2.2.1) ∧ (B_22 = (kearlR E s N B p t z now).2.2.2) := by
              subst es25
              subst es24
              subst w22_2
              subst w22_1
              subst w22_0
              subst w19_0
              subst ex9
              subst w7_0
              subst w4_0
              subst w1_0
              have zc : kearlC E N B p t z now = 1 := by simp only [kearlC, c11, c13, c15, c17, c21, ↓reduceIte]
              first | (simp only [kearlR, zc, ↓reduceIte, and_self]; done) | (simp only [kearlR, zc, ↓reduceIte]; exact ⟨rfl, rfl, rfl, rfl⟩) | (unfold kearlR; rw [zc]; exact ⟨rfl, rfl, rfl, rfl⟩)
            exact kRz F hr hlocks hS25 dX5_takeEarly_111 rfl ⟨s25, N_22, B_22⟩ q26 (hP25.sub [4, 0, 1, 5, 6, 2, 3] rfl) (hD25.sub [4, 0, 1, 5, 6, 2, 3] (by decide) rfl)
          · refine lv_iconst (v := 0) hx hb dX5_takeEarly_77 (by decide) ?_
            have q27 : (0 = (kearlR E s N B p t z now).1) ∧ (s = (kearlR E s N B p t z now).2.1) ∧ (N = (kearlR E s N B p t z now).2.2.1) ∧ (B = (kearlR E s N B p t z now).2.2.2) := by
              subst w19_0
              subst ex9
              subst w7_0
              subst w4_0
              subst w1_0
              have zc : kearlC E N B p t z now = 0 := by simp only [kearlC, c11, c13, c15, c17, c21, ↓reduceIte]
              first | (simp only [kearlR, zc, ↓reduceIte, and_self]; done) | (simp only [kearlR, zc, ↓reduceIte]; exact ⟨rfl, rfl, rfl, rfl⟩) | (unfold kearlR; rw [zc]; exact ⟨rfl, rfl, rfl, rfl⟩)
            exact kRz F hr hlocks hS20 dX5_takeEarly_78 rfl ⟨s, N, B⟩ q27 (hP20.sub [4, 0, 1, 5, 6, 2, 3] rfl) (hD20.sub [4, 0, 1, 5, 6, 2, 3] (by decide) rfl)
set_option maxHeartbeats 1000000 in
set_option maxRecDepth 100000 in
theorem c_X5_wrongIn (l : Launch) (G : kG) (h : Nat) (pe : Nat) (ta : Nat) (sn : Nat) (sb : Nat) (lc : Nat) (ls : Nat) (li : Nat) (lo : Nat) (dr : Nat) (s : Nat → Int32) (p : Nat → Int32) (h2 : Nat) (a2 : Nat) (z : Nat → Int32) (v : Int32) (g : Int32) : kM G l yX5_wrongIn wsX5_wrongIn ({ frames := 2, cells := 0, slots := 0, locals := 41 }) [.ref h, .ref h2, .int v, .int g] ([oSe h pe ta sn sb s, oPe pe lc ls li lo dr p, oMs h2 a2, aI G a2 9 z]) (kQi G (fun (rr : Int32) (uu : Unit) => rr = kwrongS p z v g) (fun (uu : Unit) => [oSe h pe ta sn sb s, oPe pe lc ls li lo dr p, oMs h2 a2, aI G a2 9 z])) := by
  refine kStart (cc := cX5_wrongIn) (maxL := 4) (ret := (some .int)) (by decide) rfl (Nat.le_of_ble_eq_true rfl) (fun pg ev st mi bl mt cd A ls0 F hr hlocks hin hK hP0 hD0 hA hS0 hl0 => ?_)
  obtain ⟨hx, hb, hml, hown, hts⟩ := id F
  have hl0 : lv_has ls0 4 [(0, .ref h), (1, .ref h2), (2, .int v), (3, .int g)] := hl0
  have iX3 : ∀ w ∈ u_ws RX3 TX3 18, w ∈ wsX5_wrongIn := fun w h => List.mem_cons_of_mem _ (List.mem_append_left _ (List.mem_append_right _ h))
  have iX5 : ∀ w ∈ u_ws RX5 TX5 9, w ∈ wsX5_wrongIn := fun w h => List.mem_cons_of_mem _ (List.mem_append_left _ (List.mem_append_left _ (List.mem_append_right _ h)))
  refine lv_iload_n hx hb dX5_wrongIn_0 rfl (lv_at hl0 2 rfl) ?_
  refine lv_iconst (v := 1) hx hb dX5_wrongIn_1 (by decide) ?_
  refine lv_icmp_ge (tgt := 7) hx hb dX5_wrongIn_2 (by decide) (fun c1 => ?_) (fun c1 => ?_)
  · refine lv_iload_n hx hb dX5_wrongIn_7 rfl (lv_at hl0 3 rfl) ?_
    refine lv_iconst (v := (-1)) hx hb dX5_wrongIn_8 (by decide) ?_
    refine lv_icmp_ne (tgt := 14) hx hb dX5_wrongIn_9 (by decide) (fun c2 => ?_) (fun c2 => ?_)
    · refine lv_aload_n hx hb dX5_wrongIn_14 rfl (lv_at hl0 1 rfl) ?_
      refine lv_iconst (v := 3) hx hb dX5_wrongIn_15 (by decide) ?_
      refine kVi (wr := [oSe h pe ta sn sb s, oPe pe lc ls li lo dr p]) F hK hP0 hD0 hS0 hA hl0.1 (c_X2_at l G h2 a2 z 3 (by first | assumption | decide | omega)) [2, 3] [0, 1] 2 0 gX5_wrongIn_X2_at rfl 1 rfl (by decide +kernel) ⟨Nat.le_of_ble_eq_true rfl, Nat.le_of_ble_eq_true rfl⟩ ⟨Nat.zero_le _, Nat.zero_le _⟩ rfl rfl rfl rfl (by decide) (by decide) (by decide) (Nat.le_of_ble_eq_true rfl) rfl dX5_wrongIn_16 (fun r3 u3 H4 locs4 hw3 (hP4 : va_P G.1 vwCl ([oSe h pe ta sn sb s, oPe pe lc ls li lo dr p, oMs h2 a2, aI G a2 9 z]) H4) (hD4 : va_D A ([oSe h pe ta sn sb s, oPe pe lc ls li lo dr p, oMs h2 a2, aI G a2 9 z])) hS4 => ?_)
      clear hP0 hD0 hS0
      have w3_0 : r3 = z 3 := hw3
      refine lv_iload_n hx hb dX5_wrongIn_19 rfl (lv_at hl0 3 rfl) ?_
      refine lv_icmp_eq (tgt := 39) hx hb dX5_wrongIn_20 (by decide) (fun c5 => ?_) (fun c5 => ?_)
      · refine lv_aload_n hx hb dX5_wrongIn_39 rfl (lv_at hl0 1 rfl) ?_
        refine lv_iconst (v := 4) hx hb dX5_wrongIn_40 (by decide) ?_
        refine kVi (wr := [oSe h pe ta sn sb s, oPe pe lc ls li lo dr p]) F hK hP4 hD4 hS4 hA hl0.1 (c_X2_at l G h2 a2 z 4 (by first | assumption | decide | omega)) [2, 3] [0, 1] 2 0 gX5_wrongIn_X2_at rfl 1 rfl (by decide +kernel) ⟨Nat.le_of_ble_eq_true rfl, Nat.le_of_ble_eq_true rfl⟩ ⟨Nat.zero_le _, Nat.zero_le _⟩ rfl rfl rfl rfl (by decide) (by decide) (by decide) (Nat.le_of_ble_eq_true rfl) rfl dX5_wrongIn_41 (fun r6 u6 H7 locs7 hw6 (hP7 : va_P G.1 vwCl ([oSe h pe ta sn sb s, oPe pe lc ls li lo dr p, oMs h2 a2, aI G a2 9 z]) H7) (hD7 : va_D A ([oSe h pe ta sn sb s, oPe pe lc ls li lo dr p, oMs h2 a2, aI G a2 9 z])) hS7 => ?_)
        clear hP4 hD4 hS4
        have w6_0 : r6 = z 4 := hw6
        refine lv_iload_n hx hb dX5_wrongIn_44 rfl (lv_at hl0 3 rfl) ?_
        refine kPNi F hK hP7 hD7 hS7 hA hl0.1 (c_X8_isShare l G r6 g) (fun _ => rfl) 20 rfl gX5_wrongIn_X8_isShare_n169 (List.mem_of_getElem? (i := 12) rfl) (List.mem_of_getElem? (i := 13) rfl) rfl 2 rfl (by decide +kernel) ⟨Nat.le_of_ble_eq_true rfl, Nat.le_of_ble_eq_true rfl⟩ ⟨Nat.zero_le _, Nat.zero_le _⟩ (Nat.le_of_ble_eq_true rfl) rfl dX5_wrongIn_45 (fun r8 u8 H9 locs9 hw8 (hP9 : va_P G.1 vwCl ([oSe h pe ta sn sb s, oPe pe lc ls li lo dr p, oMs h2 a2, aI G a2 9 z]) H9) (hD9 : va_D A ([oSe h pe ta sn sb s, oPe pe lc ls li lo dr p, oMs h2 a2, aI G a2 9 z])) hS9 => ?_)
        clear hP7 hD7 hS7
        have w8_0 : r8 = kisShare r6 g := hw8
        refine lv_if_eq (tgt := 55) hx hb dX5_wrongIn_48 (by decide) (fun c10 => ?_) (fun c10 => ?_)
        · refine lv_iconst (v := 5) hx hb dX5_wrongIn_55 (by decide) ?_
          have q11 : 5 = kwrongS p z v g := by
            subst w8_0
            subst w6_0
            subst w3_0
            first | (simp only [kwrongS, eq_true c1, c2, eq_true c5, eq_true c10, eq_self, ↓reduceIte, and_self, and_true, true_and]; done) | (simp only [kwrongS, eq_true c1, c2, eq_true c5, eq_true c10, eq_self, ↓reduceIte, and_self, and_true, true_and]; (try and_intros) <;> rfl) | exact rfl
          exact kRi F hr hlocks hS9 dX5_wrongIn_56 () q11 hP9 hD9
        · refine lv_iconst (v := 0) hx hb dX5_wrongIn_51 (by decide) ?_
          refine lv_goto (tgt := 56) hx hb dX5_wrongIn_52 (by decide) ?_
          have q12 : 0 = kwrongS p z v g := by
            subst w8_0
            subst w6_0
            subst w3_0
            first | (simp only [kwrongS, eq_true c1, c2, eq_true c5, c10, eq_self, ↓reduceIte, and_self, and_true, true_and]; done) | (simp only [kwrongS, eq_true c1, c2, eq_true c5, c10, eq_self, ↓reduceIte, and_self, and_true, true_and]; (try and_intros) <;> rfl) | exact rfl
          exact kRi F hr hlocks hS9 dX5_wrongIn_56 () q12 hP9 hD9
      · refine lv_aload_n hx hb dX5_wrongIn_23 rfl (lv_at hl0 0 rfl) ?_
        refine kget F hK hP4 5 0 0 iX5 rfl rfl (by decide) (List.mem_of_getElem? (i := 1) rfl) rfl dX5_wrongIn_24 ?_
        refine kget F hK hP4 3 1 3 iX3 rfl rfl (by decide) (List.mem_of_getElem? (i := 2) rfl) rfl dX5_wrongIn_27 ?_
        refine lv_if_ne (tgt := 37) hx hb dX5_wrongIn_30 (by decide) (fun c13 => ?_) (fun c13 => ?_)
        · refine lv_iconst (v := 4) hx hb dX5_wrongIn_37 (by decide) ?_
          have q14 : 4 = kwrongS p z v g := by
            subst w3_0
            first | (simp only [kwrongS, eq_true c1, c2, c5, c13, eq_self, ↓reduceIte, and_self, and_true, true_and]; done) | (simp only [kwrongS, eq_true c1, c2, c5, c13, eq_self, ↓reduceIte, and_self, and_true, true_and]; (try and_intros) <;> rfl) | exact rfl
          exact kRi F hr hlocks hS4 dX5_wrongIn_38 () q14 hP4 hD4
        · refine lv_iconst (v := 0) hx hb dX5_wrongIn_33 (by decide) ?_
          refine lv_goto (tgt := 38) hx hb dX5_wrongIn_34 (by decide) ?_
          have q15 : 0 = kwrongS p z v g := by
            subst w3_0
            first | (simp only [kwrongS, eq_true c1, c2, c5, eq_true c13, eq_self, ↓reduceIte, and_self, and_true, true_and]; done) | (simp only [kwrongS, eq_true c1, c2, c5, eq_true c13, eq_self, ↓reduceIte, and_self, and_true, true_and]; (try and_intros) <;> rfl) | exact rfl
          exact kRi F hr hlocks hS4 dX5_wrongIn_38 () q15 hP4 hD4
    · refine lv_iconst (v := 3) hx hb dX5_wrongIn_12 (by decide) ?_
      have q16 : 3 = kwrongS p z v g := by
        first | (simp only [kwrongS, eq_true c1, eq_true c2, eq_self, ↓reduceIte, and_self, and_true, true_and]; done) | (simp only [kwrongS, eq_true c1, eq_true c2, eq_self, ↓reduceIte, and_self, and_true, true_and]; (try and_intros) <;> rfl) | exact rfl
      exact kRi F hr hlocks hS0 dX5_wrongIn_13 () q16 hP0 hD0
  · refine lv_iconst (v := 2) hx hb dX5_wrongIn_5 (by decide) ?_
    have q17 : 2 = kwrongS p z v g := by
      first | (simp only [kwrongS, c1, eq_self, ↓reduceIte, and_self, and_true, true_and]; done) | (simp only [kwrongS, c1, eq_self, ↓reduceIte, and_self, and_true, true_and]; (try and_intros) <;> rfl) | exact rfl
    exact kRi F hr hlocks hS0 dX5_wrongIn_6 () q17 hP0 hD0
set_option maxHeartbeats 1000000 in
set_option maxRecDepth 100000 in
theorem c_X5_sendRetry (l : Launch) (G : kG) (h : Nat) (pe : Nat) (ta : Nat) (sn : Nat) (sb : Nat) (lc : Nat) (ls : Nat) (li : Nat) (lo : Nat) (dr : Nat) (da : Nat) (s : Nat → Int32) (p : Nat → Int32) (f : Nat → Int32) (rh : Nat) (w : Nat) (q : Nat → Nat) (d : Nat → Nat) (rp : Nat → Int32) (M : Nat → Nat → Int32) (L : Nat) (h2 : Nat) (a2 : Nat) (z : Nat → Int32) (g : Int32) (hL : rp 1 = nI L) (hL8 : L ≤ 8) : kM G l yX5_sendRetry wsX5_sendRetry ({ frames := 3, cells := 0, slots := 0, locals := 68 }) [.ref h, .ref h2, .int g, .ref rh] ([oSe h pe ta sn sb s, oPe pe lc ls li lo dr p, oMs dr da, aI G da 9 f, oRo rh w rp, aM G w 8 (krow q), oMs (q 0) (d 0), aI G (d 0) 9 (M 0), oMs (q 1) (d 1), aI G (d 1) 9 (M 1), oMs (q 2) (d 2), aI G (d 2) 9 (M 2), oMs (q 3) (d 3), aI G (d 3) 9 (M 3), oMs (q 4) (d 4), aI G (d 4) 9 (M 4), oMs (q 5) (d 5), aI G (d 5) 9 (M 5), oMs (q 6) (d 6), aI G (d 6) 9 (M 6), oMs (q 7) (d 7), aI G (d 7) 9 (M 7), oMs h2 a2, aI G a2 9 z]) (kQv G (fun (uu : (Nat → Int32) × (Nat → Int32) × (Nat → Int32) × (Nat → Nat → Int32)) => (uu.1 = ksretP p f z g) ∧ (uu.2.1 = ksretF f g) ∧ (uu.2.2.1 = ksendP L rp) ∧ (uu.2.2.2 = ksendM L M (ksretF f g))) (fun (uu : (Nat → Int32) × (Nat → Int32) × (Nat → Int32) × (Nat → Nat → Int32)) => [oSe h pe ta sn sb s, oPe pe lc ls li lo dr uu.1, oMs dr da, aI G da 9 uu.2.1, oRo rh w uu.2.2.1, aM G w 8 (krow q), oMs (q 0) (d 0), aI G (d 0) 9 (uu.2.2.2 0), oMs (q 1) (d 1), aI G (d 1) 9 (uu.2.2.2 1), oMs (q 2) (d 2), aI G (d 2) 9 (uu.2.2.2 2), oMs (q 3) (d 3), aI G (d 3) 9 (uu.2.2.2 3), oMs (q 4) (d 4), aI G (d 4) 9 (uu.2.2.2 4), oMs (q 5) (d 5), aI G (d 5) 9 (uu.2.2.2 5), oMs (q 6) (d 6), aI G (d 6) 9 (uu.2.2.2 6), oMs (q 7) (d 7), aI G (d 7) 9 (uu.2.2.2 7), oMs h2 a2, aI G a2 9 z])) := by
  refine kStart (cc := cX5_sendRetry) (maxL := 4) (ret := none) (by decide) rfl (Nat.le_of_ble_eq_true rfl) (fun pg ev st mi bl mt cd A ls0 F hr hlocks hin hK hP0 hD0 hA hS0 hl0 => ?_)
  obtain ⟨hx, hb, hml, hown, hts⟩ := id F
  have hl0 : lv_has ls0 4 [(0, .ref h), (1, .ref h2), (2, .int g), (3, .ref rh)] := hl0
  have iX3 : ∀ w ∈ u_ws RX3 TX3 18, w ∈ wsX5_sendRetry := fun w h => List.mem_cons_of_mem _ (List.mem_append_left _ (List.mem_append_left _ (List.mem_append_right _ h)))
  have iX5 : ∀ w ∈ u_ws RX5 TX5 9, w ∈ wsX5_sendRetry := fun w h => List.mem_cons_of_mem _ (List.mem_append_left _ (List.mem_append_left _ (List.mem_append_left _ (List.mem_append_right _ h))))
  refine lv_aload_n hx hb dX5_sendRetry_0 rfl (lv_at hl0 0 rfl) ?_
  refine kget F hK hP0 5 0 0 iX5 rfl rfl (by decide) (List.mem_of_getElem? (i := 1) rfl) rfl dX5_sendRetry_1 ?_
  refine lv_aload_n hx hb dX5_sendRetry_4 rfl (lv_at hl0 1 rfl) ?_
  refine kVv (wr := [oSe h pe ta sn sb s, oMs dr da, aI G da 9 f, oRo rh w rp, aM G w 8 (krow q), oMs (q 0) (d 0), aI G (d 0) 9 (M 0), oMs (q 1) (d 1), aI G (d 1) 9 (M 1), oMs (q 2) (d 2), aI G (d 2) 9 (M 2), oMs (q 3) (d 3), aI G (d 3) 9 (M 3), oMs (q 4) (d 4), aI G (d 4) 9 (M 4), oMs (q 5) (d 5), aI G (d 5) 9 (M 5), oMs (q 6) (d 6), aI G (d 6) 9 (M 6), oMs (q 7) (d 7), aI G (d 7) 9 (M 7)]) F hK hP0 hD0 hS0 hA hl0.1 (c_X3_takeIn l G pe lc ls li lo dr p h2 a2 z) [1, 22, 23] [0, 2, 3, 4, 5, 6, 7, 8, 9, 10, 11, 12, 13, 14, 15, 16, 17, 18, 19, 20, 21] 3 0 gX5_sendRetry_X3_takeIn rfl 1 rfl (by decide +kernel) ⟨Nat.le_of_ble_eq_true rfl, Nat.le_of_ble_eq_true rfl⟩ ⟨Nat.zero_le _, Nat.zero_le _⟩ rfl rfl rfl rfl (by decide) (by decide) (by decide) (Nat.le_of_ble_eq_true rfl) rfl dX5_sendRetry_5 (fun p_1 H2 locs2 hw1 (hP2 : va_P G.1 vwCl ([oSe h pe ta sn sb s, oMs dr da, aI G da 9 f, oRo rh w rp, aM G w 8 (krow q), oMs (q 0) (d 0), aI G (d 0) 9 (M 0), oMs (q 1) (d 1), aI G (d 1) 9 (M 1), oMs (q 2) (d 2), aI G (d 2) 9 (M 2), oMs (q 3) (d 3), aI G (d 3) 9 (M 3), oMs (q 4) (d 4), aI G (d 4) 9 (M 4), oMs (q 5) (d 5), aI G (d 5) 9 (M 5), oMs (q 6) (d 6), aI G (d 6) 9 (M 6), oMs (q 7) (d 7), aI G (d 7) 9 (M 7), oPe pe lc ls li lo dr p_1, oMs h2 a2, aI G a2 9 z]) H2) (hD2 : va_D A ([oSe h pe ta sn sb s, oMs dr da, aI G da 9 f, oRo rh w rp, aM G w 8 (krow q), oMs (q 0) (d 0), aI G (d 0) 9 (M 0), oMs (q 1) (d 1), aI G (d 1) 9 (M 1), oMs (q 2) (d 2), aI G (d 2) 9 (M 2), oMs (q 3) (d 3), aI G (d 3) 9 (M 3), oMs (q 4) (d 4), aI G (d 4) 9 (M 4), oMs (q 5) (d 5), aI G (d 5) 9 (M 5), oMs (q 6) (d 6), aI G (d 6) 9 (M 6), oMs (q 7) (d 7), aI G (d 7) 9 (M 7), oPe pe lc ls li lo dr p_1, oMs h2 a2, aI G a2 9 z])) hS2 => ?_)
  clear hP0 hD0 hS0
  have w1_0 : p_1 = ktake p z := hw1
  refine lv_aload_n hx hb dX5_sendRetry_8 rfl (lv_at hl0 0 rfl) ?_
  refine kget F hK hP2 5 0 0 iX5 rfl rfl (by decide) (List.mem_of_getElem? (i := 1) rfl) rfl dX5_sendRetry_9 ?_
  refine kget F hK hP2 3 21 17 iX3 rfl rfl (by decide) (List.mem_of_getElem? (i := 2) rfl) rfl dX5_sendRetry_12 ?_
  refine lv_iconst (v := 2) hx hb dX5_sendRetry_15 (by decide) ?_
  refine kVv (wr := [oSe h pe ta sn sb s, oRo rh w rp, aM G w 8 (krow q), oMs (q 0) (d 0), aI G (d 0) 9 (M 0), oMs (q 1) (d 1), aI G (d 1) 9 (M 1), oMs (q 2) (d 2), aI G (d 2) 9 (M 2), oMs (q 3) (d 3), aI G (d 3) 9 (M 3), oMs (q 4) (d 4), aI G (d 4) 9 (M 4), oMs (q 5) (d 5), aI G (d 5) 9 (M 5), oMs (q 6) (d 6), aI G (d 6) 9 (M 6), oMs (q 7) (d 7), aI G (d 7) 9 (M 7), oPe pe lc ls li lo dr p_1, oMs h2 a2, aI G a2 9 z]) F hK hP2 hD2 hS2 hA hl0.1 (c_X2_begin l G dr da f 2) [1, 2] [0, 3, 4, 5, 6, 7, 8, 9, 10, 11, 12, 13, 14, 15, 16, 17, 18, 19, 20, 21, 22, 23] 2 0 gX5_sendRetry_X2_begin rfl 1 rfl (by decide +kernel) ⟨Nat.le_of_ble_eq_true rfl, Nat.le_of_ble_eq_true rfl⟩ ⟨Nat.zero_le _, Nat.zero_le _⟩ rfl rfl rfl rfl (by decide) (by decide) (by decide) (Nat.le_of_ble_eq_true rfl) rfl dX5_sendRetry_16 (fun f_3 H4 locs4 hw3 (hP4 : va_P G.1 vwCl ([oSe h pe ta sn sb s, oRo rh w rp, aM G w 8 (krow q), oMs (q 0) (d 0), aI G (d 0) 9 (M 0), oMs (q 1) (d 1), aI G (d 1) 9 (M 1), oMs (q 2) (d 2), aI G (d 2) 9 (M 2), oMs (q 3) (d 3), aI G (d 3) 9 (M 3), oMs (q 4) (d 4), aI G (d 4) 9 (M 4), oMs (q 5) (d 5), aI G (d 5) 9 (M 5), oMs (q 6) (d 6), aI G (d 6) 9 (M 6), oMs (q 7) (d 7), aI G (d 7) 9 (M 7), oPe pe lc ls li lo dr p_1, oMs h2 a2, aI G a2 9 z, oMs dr da, aI G da 9 f_3]) H4) (hD4 : va_D A ([oSe h pe ta sn sb s, oRo rh w rp, aM G w 8 (krow q), oMs (q 0) (d 0), aI G (d 0) 9 (M 0), oMs (q 1) (d 1), aI G (d 1) 9 (M 1), oMs (q 2) (d 2), aI G (d 2) 9 (M 2), oMs (q 3) (d 3), aI G (d 3) 9 (M 3), oMs (q 4) (d 4), aI G (d 4) 9 (M 4), oMs (q 5) (d 5), aI G (d 5) 9 (M 5), oMs (q 6) (d 6), aI G (d 6) 9 (M 6), oMs (q 7) (d 7), aI G (d 7) 9 (M 7), oPe pe lc ls li lo dr p_1, oMs h2 a2, aI G a2 9 z, oMs dr da, aI G da 9 f_3])) hS4 => ?_)
  clear hP2 hD2 hS2
  have w3_0 : f_3 = kbeg f 2 := hw3
  refine lv_aload_n hx hb dX5_sendRetry_19 rfl (lv_at hl0 0 rfl) ?_
  refine kget F hK hP4 5 0 0 iX5 rfl rfl (by decide) (List.mem_of_getElem? (i := 1) rfl) rfl dX5_sendRetry_20 ?_
  refine kget F hK hP4 3 19 17 iX3 rfl rfl (by decide) (List.mem_of_getElem? (i := 2) rfl) rfl dX5_sendRetry_23 ?_
  refine lv_iconst (v := 1) hx hb dX5_sendRetry_26 (by decide) ?_
  refine lv_iload_n hx hb dX5_sendRetry_27 rfl (lv_at hl0 2 rfl) ?_
  refine kVv (wr := [oSe h pe ta sn sb s, oRo rh w rp, aM G w 8 (krow q), oMs (q 0) (d 0), aI G (d 0) 9 (M 0), oMs (q 1) (d 1), aI G (d 1) 9 (M 1), oMs (q 2) (d 2), aI G (d 2) 9 (M 2), oMs (q 3) (d 3), aI G (d 3) 9 (M 3), oMs (q 4) (d 4), aI G (d 4) 9 (M 4), oMs (q 5) (d 5), aI G (d 5) 9 (M 5), oMs (q 6) (d 6), aI G (d 6) 9 (M 6), oMs (q 7) (d 7), aI G (d 7) 9 (M 7), oPe pe lc ls li lo dr p_1, oMs h2 a2, aI G a2 9 z]) F hK hP4 hD4 hS4 hA hl0.1 (c_X2_put l G dr da f_3 1 g (by first | assumption | decide | omega)) [22, 23] [0, 1, 2, 3, 4, 5, 6, 7, 8, 9, 10, 11, 12, 13, 14, 15, 16, 17, 18, 19, 20, 21] 2 0 gX5_sendRetry_X2_put rfl 2 rfl (by decide +kernel) ⟨Nat.le_of_ble_eq_true rfl, Nat.le_of_ble_eq_true rfl⟩ ⟨Nat.zero_le _, Nat.zero_le _⟩ rfl rfl rfl rfl (by decide) (by decide) (by decide) (Nat.le_of_ble_eq_true rfl) rfl dX5_sendRetry_28 (fun f_5 H6 locs6 hw5 (hP6 : va_P G.1 vwCl ([oSe h pe ta sn sb s, oRo rh w rp, aM G w 8 (krow q), oMs (q 0) (d 0), aI G (d 0) 9 (M 0), oMs (q 1) (d 1), aI G (d 1) 9 (M 1), oMs (q 2) (d 2), aI G (d 2) 9 (M 2), oMs (q 3) (d 3), aI G (d 3) 9 (M 3), oMs (q 4) (d 4), aI G (d 4) 9 (M 4), oMs (q 5) (d 5), aI G (d 5) 9 (M 5), oMs (q 6) (d 6), aI G (d 6) 9 (M 6), oMs (q 7) (d 7), aI G (d 7) 9 (M 7), oPe pe lc ls li lo dr p_1, oMs h2 a2, aI G a2 9 z, oMs dr da, aI G da 9 f_5]) H6) (hD6 : va_D A ([oSe h pe ta sn sb s, oRo rh w rp, aM G w 8 (krow q), oMs (q 0) (d 0), aI G (d 0) 9 (M 0), oMs (q 1) (d 1), aI G (d 1) 9 (M 1), oMs (q 2) (d 2), aI G (d 2) 9 (M 2), oMs (q 3) (d 3), aI G (d 3) 9 (M 3), oMs (q 4) (d 4), aI G (d 4) 9 (M 4), oMs (q 5) (d 5), aI G (d 5) 9 (M 5), oMs (q 6) (d 6), aI G (d 6) 9 (M 6), oMs (q 7) (d 7), aI G (d 7) 9 (M 7), oPe pe lc ls li lo dr p_1, oMs h2 a2, aI G a2 9 z, oMs dr da, aI G da 9 f_5])) hS6 => ?_)
  clear hP4 hD4 hS4
  have w5_0 : f_5 = upd f_3 1 g := hw5
  refine lv_aload_n hx hb dX5_sendRetry_31 rfl (lv_at hl0 3 rfl) ?_
  refine lv_aload_n hx hb dX5_sendRetry_32 rfl (lv_at hl0 0 rfl) ?_
  refine kget F hK hP6 5 0 0 iX5 rfl rfl (by decide) (List.mem_of_getElem? (i := 1) rfl) rfl dX5_sendRetry_33 ?_
  refine kget F hK hP6 3 19 17 iX3 rfl rfl (by decide) (List.mem_of_getElem? (i := 2) rfl) rfl dX5_sendRetry_36 ?_
  refine kVv (wr := [oSe h pe ta sn sb s, oPe pe lc ls li lo dr p_1, oMs h2 a2, aI G a2 9 z]) F hK hP6 hD6 hS6 hA hl0.1 (c_X4_send l G rh w q d rp M dr da f_5 L hL hL8) [1, 2, 3, 4, 5, 6, 7, 8, 9, 10, 11, 12, 13, 14, 15, 16, 17, 18, 22, 23] [0, 19, 20, 21] 4 0 gX5_sendRetry_X4_send rfl 1 rfl (by decide +kernel) ⟨Nat.le_of_ble_eq_true rfl, Nat.le_of_ble_eq_true rfl⟩ ⟨Nat.zero_le _, Nat.zero_le _⟩ rfl rfl rfl rfl (by decide) (by decide) (by decide) (Nat.le_of_ble_eq_true rfl) rfl dX5_sendRetry_39 (fun u7 H8 locs8 hw7 hP8 hD8 hS8 => ?_)
  obtain ⟨p_7, M_7⟩ := u7
  have hP8 : va_P G.1 vwCl ([oSe h pe ta sn sb s, oPe pe lc ls li lo dr p_1, oMs h2 a2, aI G a2 9 z, oRo rh w p_7, aM G w 8 (krow q), oMs (q 0) (d 0), aI G (d 0) 9 (M_7 0), oMs (q 1) (d 1), aI G (d 1) 9 (M_7 1), oMs (q 2) (d 2), aI G (d 2) 9 (M_7 2), oMs (q 3) (d 3), aI G (d 3) 9 (M_7 3), oMs (q 4) (d 4), aI G (d 4) 9 (M_7 4), oMs (q 5) (d 5), aI G (d 5) 9 (M_7 5), oMs (q 6) (d 6), aI G (d 6) 9 (M_7 6), oMs (q 7) (d 7), aI G (d 7) 9 (M_7 7), oMs dr da, aI G da 9 f_5]) H8 := hP8
  have hD8 : va_D A ([oSe h pe ta sn sb s, oPe pe lc ls li lo dr p_1, oMs h2 a2, aI G a2 9 z, oRo rh w p_7, aM G w 8 (krow q), oMs (q 0) (d 0), aI G (d 0) 9 (M_7 0), oMs (q 1) (d 1), aI G (d 1) 9 (M_7 1), oMs (q 2) (d 2), aI G (d 2) 9 (M_7 2), oMs (q 3) (d 3), aI G (d 3) 9 (M_7 3), oMs (q 4) (d 4), aI G (d 4) 9 (M_7 4), oMs (q 5) (d 5), aI G (d 5) 9 (M_7 5), oMs (q 6) (d 6), aI G (d 6) 9 (M_7 6), oMs (q 7) (d 7), aI G (d 7) 9 (M_7 7), oMs dr da, aI G da 9 f_5]) := hD8
  clear hP6 hD6 hS6
  have w7_0 : p_7 = ksendP L rp := hw7.1
  have w7_1 : M_7 = ksendM L M f_5 := hw7.2
  refine lv_aload_n hx hb dX5_sendRetry_42 rfl (lv_at hl0 0 rfl) ?_
  refine kget F hK hP8 5 0 0 iX5 rfl rfl (by decide) (List.mem_of_getElem? (i := 1) rfl) rfl dX5_sendRetry_43 ?_
  refine lv_aload_n hx hb dX5_sendRetry_46 rfl (lv_at hl0 0 rfl) ?_
  refine kget F hK hP8 5 0 0 iX5 rfl rfl (by decide) (List.mem_of_getElem? (i := 1) rfl) rfl dX5_sendRetry_47 ?_
  refine kget F hK hP8 3 1 17 iX3 rfl rfl (by decide) (List.mem_of_getElem? (i := 2) rfl) rfl dX5_sendRetry_50 ?_
  refine kVv (wr := [oSe h pe ta sn sb s, oMs h2 a2, aI G a2 9 z, oRo rh w p_7, aM G w 8 (krow q), oMs (q 0) (d 0), aI G (d 0) 9 (M_7 0), oMs (q 1) (d 1), aI G (d 1) 9 (M_7 1), oMs (q 2) (d 2), aI G (d 2) 9 (M_7 2), oMs (q 3) (d 3), aI G (d 3) 9 (M_7 3), oMs (q 4) (d 4), aI G (d 4) 9 (M_7 4), oMs (q 5) (d 5), aI G (d 5) 9 (M_7 5), oMs (q 6) (d 6), aI G (d 6) 9 (M_7 6), oMs (q 7) (d 7), aI G (d 7) 9 (M_7 7)]) F hK hP8 hD8 hS8 hA hl0.1 (c_X3_takeIn l G pe lc ls li lo dr p_1 dr da f_5) [1, 22, 23] [0, 2, 3, 4, 5, 6, 7, 8, 9, 10, 11, 12, 13, 14, 15, 16, 17, 18, 19, 20, 21] 3 0 gX5_sendRetry_X3_takeIn rfl 1 rfl (by decide +kernel) ⟨Nat.le_of_ble_eq_true rfl, Nat.le_of_ble_eq_true rfl⟩ ⟨Nat.zero_le _, Nat.zero_le _⟩ rfl rfl rfl rfl (by decide) (by decide) (by decide) (Nat.le_of_ble_eq_true rfl) rfl dX5_sendRetry_53 (fun p_9 H10 locs10 hw9 (hP10 : va_P G.1 vwCl ([oSe h pe ta sn sb s, oMs h2 a2, aI G a2 9 z, oRo rh w p_7, aM G w 8 (krow q), oMs (q 0) (d 0), aI G (d 0) 9 (M_7 0), oMs (q 1) (d 1), aI G (d 1) 9 (M_7 1), oMs (q 2) (d 2), aI G (d 2) 9 (M_7 2), oMs (q 3) (d 3), aI G (d 3) 9 (M_7 3), oMs (q 4) (d 4), aI G (d 4) 9 (M_7 4), oMs (q 5) (d 5), aI G (d 5) 9 (M_7 5), oMs (q 6) (d 6), aI G (d 6) 9 (M_7 6), oMs (q 7) (d 7), aI G (d 7) 9 (M_7 7), oPe pe lc ls li lo dr p_9, oMs dr da, aI G da 9 f_5]) H10) (hD10 : va_D A ([oSe h pe ta sn sb s, oMs h2 a2, aI G a2 9 z, oRo rh w p_7, aM G w 8 (krow q), oMs (q 0) (d 0), aI G (d 0) 9 (M_7 0), oMs (q 1) (d 1), aI G (d 1) 9 (M_7 1), oMs (q 2) (d 2), aI G (d 2) 9 (M_7 2), oMs (q 3) (d 3), aI G (d 3) 9 (M_7 3), oMs (q 4) (d 4), aI G (d 4) 9 (M_7 4), oMs (q 5) (d 5), aI G (d 5) 9 (M_7 5), oMs (q 6) (d 6), aI G (d 6) 9 (M_7 6), oMs (q 7) (d 7), aI G (d 7) 9 (M_7 7), oPe pe lc ls li lo dr p_9, oMs dr da, aI G da 9 f_5])) hS10 => ?_)
  clear hP8 hD8 hS8
  have w9_0 : p_9 = ktake p_1 f_5 := hw9
  refine lv_aload_n hx hb dX5_sendRetry_56 rfl (lv_at hl0 0 rfl) ?_
  refine kget F hK hP10 5 0 0 iX5 rfl rfl (by decide) (List.mem_of_getElem? (i := 1) rfl) rfl dX5_sendRetry_57 ?_
  refine lv_iconst (v := 2) hx hb dX5_sendRetry_60 (by decide) ?_
  refine kput F hK hP10 hD10 hS10 (ty0 := tyX3) 3 21 3 iX3 rfl tyX3_ok nmX3 (fun zz => [oSe h pe ta sn sb s, oMs h2 a2, aI G a2 9 z, oRo rh w p_7, aM G w 8 (krow q), oMs (q 0) (d 0), aI G (d 0) 9 (M_7 0), oMs (q 1) (d 1), aI G (d 1) 9 (M_7 1), oMs (q 2) (d 2), aI G (d 2) 9 (M_7 2), oMs (q 3) (d 3), aI G (d 3) 9 (M_7 3), oMs (q 4) (d 4), aI G (d 4) 9 (M_7 4), oMs (q 5) (d 5), aI G (d 5) 9 (M_7 5), oMs (q 6) (d 6), aI G (d 6) 9 (M_7 6), oMs (q 7) (d 7), aI G (d 7) 9 (M_7 7), oPe pe lc ls li lo dr zz, oMs dr da, aI G da 9 f_5]) p_9 rfl (by decide) (List.mem_of_getElem? (i := 3) rfl) rfl rfl rfl (Nat.le_of_ble_eq_true rfl) rfl dX5_sendRetry_61 (fun H11 locs11 p11 ep11 (hP11 : va_P G.1 vwCl ([oSe h pe ta sn sb s, oMs h2 a2, aI G a2 9 z, oRo rh w p_7, aM G w 8 (krow q), oMs (q 0) (d 0), aI G (d 0) 9 (M_7 0), oMs (q 1) (d 1), aI G (d 1) 9 (M_7 1), oMs (q 2) (d 2), aI G (d 2) 9 (M_7 2), oMs (q 3) (d 3), aI G (d 3) 9 (M_7 3), oMs (q 4) (d 4), aI G (d 4) 9 (M_7 4), oMs (q 5) (d 5), aI G (d 5) 9 (M_7 5), oMs (q 6) (d 6), aI G (d 6) 9 (M_7 6), oMs (q 7) (d 7), aI G (d 7) 9 (M_7 7), oPe pe lc ls li lo dr p11, oMs dr da, aI G da 9 f_5]) H11) (hD11 : va_D A ([oSe h pe ta sn sb s, oMs h2 a2, aI G a2 9 z, oRo rh w p_7, aM G w 8 (krow q), oMs (q 0) (d 0), aI G (d 0) 9 (M_7 0), oMs (q 1) (d 1), aI G (d 1) 9 (M_7 1), oMs (q 2) (d 2), aI G (d 2) 9 (M_7 2), oMs (q 3) (d 3), aI G (d 3) 9 (M_7 3), oMs (q 4) (d 4), aI G (d 4) 9 (M_7 4), oMs (q 5) (d 5), aI G (d 5) 9 (M_7 5), oMs (q 6) (d 6), aI G (d 6) 9 (M_7 6), oMs (q 7) (d 7), aI G (d 7) 9 (M_7 7), oPe pe lc ls li lo dr p11, oMs dr da, aI G da 9 f_5])) hS11 => ?_)
  clear hP10 hD10 hS10
  have q12 : (p11 = ksretP p f z g) ∧ (f_5 = ksretF f g) ∧ (p_7 = ksendP L rp) ∧ (M_7 = ksendM L M (ksretF f g)) := by
    subst ep11
    subst w9_0
    subst w7_1
    subst w7_0
    subst w5_0
    subst w3_0
    subst w1_0
    first | (simp only [eq_self, ↓reduceIte, and_self, and_true, true_and]; done) | (simp only [eq_self, ↓reduceIte, and_self, and_true, true_and]; (try and_intros) <;> rfl) | exact ⟨rfl, rfl, rfl, rfl⟩
  exact kRv F hr hlocks hS11 dX5_sendRetry_64 ⟨p11, f_5, p_7, M_7⟩ q12 (hP11.sub [0, 21, 22, 23, 3, 4, 5, 6, 7, 8, 9, 10, 11, 12, 13, 14, 15, 16, 17, 18, 19, 20, 1, 2] rfl) (hD11.sub [0, 21, 22, 23, 3, 4, 5, 6, 7, 8, 9, 10, 11, 12, 13, 14, 15, 16, 17, 18, 19, 20, 1, 2] (by decide) rfl)
set_option maxHeartbeats 1000000 in
set_option maxRecDepth 100000 in
theorem c_X5_sendGreeting (l : Launch) (G : kG) (h : Nat) (pe : Nat) (ta : Nat) (sn : Nat) (sb : Nat) (lc : Nat) (ls : Nat) (li : Nat) (lo : Nat) (dr : Nat) (da : Nat) (s : Nat → Int32) (p : Nat → Int32) (f : Nat → Int32) (rh : Nat) (w : Nat) (q : Nat → Nat) (d : Nat → Nat) (rp : Nat → Int32) (M : Nat → Nat → Int32) (L : Nat) (v : Int32) (hL : rp 1 = nI L) (hL8 : L ≤ 8) : kM G l yX5_sendGreeting wsX5_sendGreeting ({ frames := 3, cells := 0, slots := 0, locals := 68 }) [.ref h, .int v, .ref rh] ([oSe h pe ta sn sb s, oPe pe lc ls li lo dr p, oMs dr da, aI G da 9 f, oRo rh w rp, aM G w 8 (krow q), oMs (q 0) (d 0), aI G (d 0) 9 (M 0), oMs (q 1) (d 1), aI G (d 1) 9 (M 1), oMs (q 2) (d 2), aI G (d 2) 9 (M 2), oMs (q 3) (d 3), aI G (d 3) 9 (M 3), oMs (q 4) (d 4), aI G (d 4) 9 (M 4), oMs (q 5) (d 5), aI G (d 5) 9 (M 5), oMs (q 6) (d 6), aI G (d 6) 9 (M 6), oMs (q 7) (d 7), aI G (d 7) 9 (M 7)]) (kQv G (fun (uu : (Nat → Int32) × (Nat → Int32) × (Nat → Int32) × (Nat → Nat → Int32)) => (uu.1 = kgrP p f v) ∧ (uu.2.1 = kgrF2 p f v) ∧ (uu.2.2.1 = ksendP L rp) ∧ (uu.2.2.2 = ksendM L M (kgrF2 p f v))) (fun (uu : (Nat → Int32) × (Nat → Int32) × (Nat → Int32) × (Nat → Nat → Int32)) => [oSe h pe ta sn sb s, oPe pe lc ls li lo dr uu.1, oMs dr da, aI G da 9 uu.2.1, oRo rh w uu.2.2.1, aM G w 8 (krow q), oMs (q 0) (d 0), aI G (d 0) 9 (uu.2.2.2 0), oMs (q 1) (d 1), aI G (d 1) 9 (uu.2.2.2 1), oMs (q 2) (d 2), aI G (d 2) 9 (uu.2.2.2 2), oMs (q 3) (d 3), aI G (d 3) 9 (uu.2.2.2 3), oMs (q 4) (d 4), aI G (d 4) 9 (uu.2.2.2 4), oMs (q 5) (d 5), aI G (d 5) 9 (uu.2.2.2 5), oMs (q 6) (d 6), aI G (d 6) 9 (uu.2.2.2 6), oMs (q 7) (d 7), aI G (d 7) 9 (uu.2.2.2 7)])) := by
  refine kStart (cc := cX5_sendGreeting) (maxL := 4) (ret := none) (by decide) rfl (Nat.le_of_ble_eq_true rfl) (fun pg ev st mi bl mt cd A ls0 F hr hlocks hin hK hP0 hD0 hA hS0 hl0 => ?_)
  obtain ⟨hx, hb, hml, hown, hts⟩ := id F
  have hl0 : lv_has ls0 4 [(0, .ref h), (1, .int v), (2, .ref rh)] := hl0
  have iX3 : ∀ w ∈ u_ws RX3 TX3 18, w ∈ wsX5_sendGreeting := fun w h => List.mem_cons_of_mem _ (List.mem_append_left _ (List.mem_append_left _ (List.mem_append_right _ h)))
  have iX5 : ∀ w ∈ u_ws RX5 TX5 9, w ∈ wsX5_sendGreeting := fun w h => List.mem_cons_of_mem _ (List.mem_append_left _ (List.mem_append_left _ (List.mem_append_left _ (List.mem_append_right _ h))))
  refine lv_aload_n hx hb dX5_sendGreeting_0 rfl (lv_at hl0 0 rfl) ?_
  refine kget F hK hP0 5 0 0 iX5 rfl rfl (by decide) (List.mem_of_getElem? (i := 1) rfl) rfl dX5_sendGreeting_1 ?_
  refine kget F hK hP0 3 1 17 iX3 rfl rfl (by decide) (List.mem_of_getElem? (i := 2) rfl) rfl dX5_sendGreeting_4 ?_
  refine lv_astore_n (lv' := [(3, .ref dr), (0, .ref h), (1, .int v), (2, .ref rh)]) hx hb dX5_sendGreeting_7 rfl hl0 (by decide) rfl (fun ls1 hl1 => ?_)
  clear hl0
  refine lv_aload_n hx hb dX5_sendGreeting_8 rfl (lv_at hl1 0 rfl) ?_
  refine lv_iconst (v := 3) hx hb dX5_sendGreeting_9 (by decide) ?_
  refine kVv (wr := [oSe h pe ta sn sb s, oPe pe lc ls li lo dr p, oRo rh w rp, aM G w 8 (krow q), oMs (q 0) (d 0), aI G (d 0) 9 (M 0), oMs (q 1) (d 1), aI G (d 1) 9 (M 1), oMs (q 2) (d 2), aI G (d 2) 9 (M 2), oMs (q 3) (d 3), aI G (d 3) 9 (M 3), oMs (q 4) (d 4), aI G (d 4) 9 (M 4), oMs (q 5) (d 5), aI G (d 5) 9 (M 5), oMs (q 6) (d 6), aI G (d 6) 9 (M 6), oMs (q 7) (d 7), aI G (d 7) 9 (M 7)]) F hK hP0 hD0 hS0 hA hl1.1 (c_X2_begin l G dr da f 3) [2, 3] [0, 1, 4, 5, 6, 7, 8, 9, 10, 11, 12, 13, 14, 15, 16, 17, 18, 19, 20, 21] 2 0 gX5_sendGreeting_X2_begin rfl 1 rfl (by decide +kernel) ⟨Nat.le_of_ble_eq_true rfl, Nat.le_of_ble_eq_true rfl⟩ ⟨Nat.zero_le _, Nat.zero_le _⟩ rfl rfl rfl rfl (by decide) (by decide) (by decide) (Nat.le_of_ble_eq_true rfl) rfl dX5_sendGreeting_10 (fun f_2 H3 locs3 hw2 (hP3 : va_P G.1 vwCl ([oSe h pe ta sn sb s, oPe pe lc ls li lo dr p, oRo rh w rp, aM G w 8 (krow q), oMs (q 0) (d 0), aI G (d 0) 9 (M 0), oMs (q 1) (d 1), aI G (d 1) 9 (M 1), oMs (q 2) (d 2), aI G (d 2) 9 (M 2), oMs (q 3) (d 3), aI G (d 3) 9 (M 3), oMs (q 4) (d 4), aI G (d 4) 9 (M 4), oMs (q 5) (d 5), aI G (d 5) 9 (M 5), oMs (q 6) (d 6), aI G (d 6) 9 (M 6), oMs (q 7) (d 7), aI G (d 7) 9 (M 7), oMs dr da, aI G da 9 f_2]) H3) (hD3 : va_D A ([oSe h pe ta sn sb s, oPe pe lc ls li lo dr p, oRo rh w rp, aM G w 8 (krow q), oMs (q 0) (d 0), aI G (d 0) 9 (M 0), oMs (q 1) (d 1), aI G (d 1) 9 (M 1), oMs (q 2) (d 2), aI G (d 2) 9 (M 2), oMs (q 3) (d 3), aI G (d 3) 9 (M 3), oMs (q 4) (d 4), aI G (d 4) 9 (M 4), oMs (q 5) (d 5), aI G (d 5) 9 (M 5), oMs (q 6) (d 6), aI G (d 6) 9 (M 6), oMs (q 7) (d 7), aI G (d 7) 9 (M 7), oMs dr da, aI G da 9 f_2])) hS3 => ?_)
  clear hP0 hD0 hS0
  have w2_0 : f_2 = kbeg f 3 := hw2
  refine lv_aload_n hx hb dX5_sendGreeting_13 rfl (lv_at hl1 0 rfl) ?_
  refine lv_iconst (v := 1) hx hb dX5_sendGreeting_14 (by decide) ?_
  refine lv_aload_n hx hb dX5_sendGreeting_15 rfl (lv_at hl1 1 rfl) ?_
  refine kget F hK hP3 5 0 0 iX5 rfl rfl (by decide) (List.mem_of_getElem? (i := 1) rfl) rfl dX5_sendGreeting_16 ?_
  refine kget F hK hP3 3 1 6 iX3 rfl rfl (by decide) (List.mem_of_getElem? (i := 3) rfl) rfl dX5_sendGreeting_19 ?_
  refine kVv (wr := [oSe h pe ta sn sb s, oPe pe lc ls li lo dr p, oRo rh w rp, aM G w 8 (krow q), oMs (q 0) (d 0), aI G (d 0) 9 (M 0), oMs (q 1) (d 1), aI G (d 1) 9 (M 1), oMs (q 2) (d 2), aI G (d 2) 9 (M 2), oMs (q 3) (d 3), aI G (d 3) 9 (M 3), oMs (q 4) (d 4), aI G (d 4) 9 (M 4), oMs (q 5) (d 5), aI G (d 5) 9 (M 5), oMs (q 6) (d 6), aI G (d 6) 9 (M 6), oMs (q 7) (d 7), aI G (d 7) 9 (M 7)]) F hK hP3 hD3 hS3 hA hl1.1 (c_X2_put l G dr da f_2 1 (p 6) (by first | assumption | decide | omega)) [20, 21] [0, 1, 2, 3, 4, 5, 6, 7, 8, 9, 10, 11, 12, 13, 14, 15, 16, 17, 18, 19] 2 0 gX5_sendGreeting_X2_put rfl 2 rfl (by decide +kernel) ⟨Nat.le_of_ble_eq_true rfl, Nat.le_of_ble_eq_true rfl⟩ ⟨Nat.zero_le _, Nat.zero_le _⟩ rfl rfl rfl rfl (by decide) (by decide) (by decide) (Nat.le_of_ble_eq_true rfl) rfl dX5_sendGreeting_22 (fun f_4 H5 locs5 hw4 (hP5 : va_P G.1 vwCl ([oSe h pe ta sn sb s, oPe pe lc ls li lo dr p, oRo rh w rp, aM G w 8 (krow q), oMs (q 0) (d 0), aI G (d 0) 9 (M 0), oMs (q 1) (d 1), aI G (d 1) 9 (M 1), oMs (q 2) (d 2), aI G (d 2) 9 (M 2), oMs (q 3) (d 3), aI G (d 3) 9 (M 3), oMs (q 4) (d 4), aI G (d 4) 9 (M 4), oMs (q 5) (d 5), aI G (d 5) 9 (M 5), oMs (q 6) (d 6), aI G (d 6) 9 (M 6), oMs (q 7) (d 7), aI G (d 7) 9 (M 7), oMs dr da, aI G da 9 f_4]) H5) (hD5 : va_D A ([oSe h pe ta sn sb s, oPe pe lc ls li lo dr p, oRo rh w rp, aM G w 8 (krow q), oMs (q 0) (d 0), aI G (d 0) 9 (M 0), oMs (q 1) (d 1), aI G (d 1) 9 (M 1), oMs (q 2) (d 2), aI G (d 2) 9 (M 2), oMs (q 3) (d 3), aI G (d 3) 9 (M 3), oMs (q 4) (d 4), aI G (d 4) 9 (M 4), oMs (q 5) (d 5), aI G (d 5) 9 (M 5), oMs (q 6) (d 6), aI G (d 6) 9 (M 6), oMs (q 7) (d 7), aI G (d 7) 9 (M 7), oMs dr da, aI G da 9 f_4])) hS5 => ?_)
  clear hP3 hD3 hS3
  have w4_0 : f_4 = upd f_2 1 (p 6) := hw4
  refine lv_aload_n hx hb dX5_sendGreeting_25 rfl (lv_at hl1 0 rfl) ?_
  refine lv_iconst (v := 2) hx hb dX5_sendGreeting_26 (by decide) ?_
  refine lv_aload_n hx hb dX5_sendGreeting_27 rfl (lv_at hl1 1 rfl) ?_
  refine kget F hK hP5 5 0 0 iX5 rfl rfl (by decide) (List.mem_of_getElem? (i := 1) rfl) rfl dX5_sendGreeting_28 ?_
  refine kget F hK hP5 3 1 7 iX3 rfl rfl (by decide) (List.mem_of_getElem? (i := 4) rfl) rfl dX5_sendGreeting_31 ?_
  refine kVv (wr := [oSe h pe ta sn sb s, oPe pe lc ls li lo dr p, oRo rh w rp, aM G w 8 (krow q), oMs (q 0) (d 0), aI G (d 0) 9 (M 0), oMs (q 1) (d 1), aI G (d 1) 9 (M 1), oMs (q 2) (d 2), aI G (d 2) 9 (M 2), oMs (q 3) (d 3), aI G (d 3) 9 (M 3), oMs (q 4) (d 4), aI G (d 4) 9 (M 4), oMs (q 5) (d 5), aI G (d 5) 9 (M 5), oMs (q 6) (d 6), aI G (d 6) 9 (M 6), oMs (q 7) (d 7), aI G (d 7) 9 (M 7)]) F hK hP5 hD5 hS5 hA hl1.1 (c_X2_put l G dr da f_4 2 (p 7) (by first | assumption | decide | omega)) [20, 21] [0, 1, 2, 3, 4, 5, 6, 7, 8, 9, 10, 11, 12, 13, 14, 15, 16, 17, 18, 19] 2 0 gX5_sendGreeting_X2_put rfl 2 rfl (by decide +kernel) ⟨Nat.le_of_ble_eq_true rfl, Nat.le_of_ble_eq_true rfl⟩ ⟨Nat.zero_le _, Nat.zero_le _⟩ rfl rfl rfl rfl (by decide) (by decide) (by decide) (Nat.le_of_ble_eq_true rfl) rfl dX5_sendGreeting_34 (fun f_6 H7 locs7 hw6 (hP7 : va_P G.1 vwCl ([oSe h pe ta sn sb s, oPe pe lc ls li lo dr p, oRo rh w rp, aM G w 8 (krow q), oMs (q 0) (d 0), aI G (d 0) 9 (M 0), oMs (q 1) (d 1), aI G (d 1) 9 (M 1), oMs (q 2) (d 2), aI G (d 2) 9 (M 2), oMs (q 3) (d 3), aI G (d 3) 9 (M 3), oMs (q 4) (d 4), aI G (d 4) 9 (M 4), oMs (q 5) (d 5), aI G (d 5) 9 (M 5), oMs (q 6) (d 6), aI G (d 6) 9 (M 6), oMs (q 7) (d 7), aI G (d 7) 9 (M 7), oMs dr da, aI G da 9 f_6]) H7) (hD7 : va_D A ([oSe h pe ta sn sb s, oPe pe lc ls li lo dr p, oRo rh w rp, aM G w 8 (krow q), oMs (q 0) (d 0), aI G (d 0) 9 (M 0), oMs (q 1) (d 1), aI G (d 1) 9 (M 1), oMs (q 2) (d 2), aI G (d 2) 9 (M 2), oMs (q 3) (d 3), aI G (d 3) 9 (M 3), oMs (q 4) (d 4), aI G (d 4) 9 (M 4), oMs (q 5) (d 5), aI G (d 5) 9 (M 5), oMs (q 6) (d 6), aI G (d 6) 9 (M 6), oMs (q 7) (d 7), aI G (d 7) 9 (M 7), oMs dr da, aI G da 9 f_6])) hS7 => ?_)
  clear hP5 hD5 hS5
  have w6_0 : f_6 = upd f_4 2 (p 7) := hw6
  refine lv_aload_n hx hb dX5_sendGreeting_37 rfl (lv_at hl1 0 rfl) ?_
  refine lv_iconst (v := 3) hx hb dX5_sendGreeting_38 (by decide) ?_
  refine lv_aload_n hx hb dX5_sendGreeting_39 rfl (lv_at hl1 1 rfl) ?_
  refine kget F hK hP7 5 0 0 iX5 rfl rfl (by decide) (List.mem_of_getElem? (i := 1) rfl) rfl dX5_sendGreeting_40 ?_
  refine kget F hK hP7 3 1 7 iX3 rfl rfl (by decide) (List.mem_of_getElem? (i := 4) rfl) rfl dX5_sendGreeting_43 ?_
  refine lv_aload_n hx hb dX5_sendGreeting_46 rfl (lv_at hl1 1 rfl) ?_
  refine kget F hK hP7 5 0 0 iX5 rfl rfl (by decide) (List.mem_of_getElem? (i := 1) rfl) rfl dX5_sendGreeting_47 ?_
  refine kget F hK hP7 3 1 2 iX3 rfl rfl (by decide) (List.mem_of_getElem? (i := 5) rfl) rfl dX5_sendGreeting_50 ?_
  refine kPNi F hK hP7 hD7 hS7 hA hl1.1 (c_X8_shareOf l G (p 7) (p 2)) (fun _ => rfl) 21 rfl gX5_sendGreeting_X8_shareOf_n173 (List.mem_of_getElem? (i := 22) rfl) (List.mem_of_getElem? (i := 23) rfl) rfl 2 rfl (by decide +kernel) ⟨Nat.le_of_ble_eq_true rfl, Nat.le_of_ble_eq_true rfl⟩ ⟨Nat.zero_le _, Nat.zero_le _⟩ (Nat.le_of_ble_eq_true rfl) rfl dX5_sendGreeting_53 (fun r8 u8 H9 locs9 hw8 (hP9 : va_P G.1 vwCl ([oSe h pe ta sn sb s, oPe pe lc ls li lo dr p, oRo rh w rp, aM G w 8 (krow q), oMs (q 0) (d 0), aI G (d 0) 9 (M 0), oMs (q 1) (d 1), aI G (d 1) 9 (M 1), oMs (q 2) (d 2), aI G (d 2) 9 (M 2), oMs (q 3) (d 3), aI G (d 3) 9 (M 3), oMs (q 4) (d 4), aI G (d 4) 9 (M 4), oMs (q 5) (d 5), aI G (d 5) 9 (M 5), oMs (q 6) (d 6), aI G (d 6) 9 (M 6), oMs (q 7) (d 7), aI G (d 7) 9 (M 7), oMs dr da, aI G da 9 f_6]) H9) (hD9 : va_D A ([oSe h pe ta sn sb s, oPe pe lc ls li lo dr p, oRo rh w rp, aM G w 8 (krow q), oMs (q 0) (d 0), aI G (d 0) 9 (M 0), oMs (q 1) (d 1), aI G (d 1) 9 (M 1), oMs (q 2) (d 2), aI G (d 2) 9 (M 2), oMs (q 3) (d 3), aI G (d 3) 9 (M 3), oMs (q 4) (d 4), aI G (d 4) 9 (M 4), oMs (q 5) (d 5), aI G (d 5) 9 (M 5), oMs (q 6) (d 6), aI G (d 6) 9 (M 6), oMs (q 7) (d 7), aI G (d 7) 9 (M 7), oMs dr da, aI G da 9 f_6])) hS9 => ?_)
  clear hP7 hD7 hS7
  have w8_0 : r8 = kshareC (p 7) (p 2) := hw8
  refine kVv (wr := [oSe h pe ta sn sb s, oPe pe lc ls li lo dr p, oRo rh w rp, aM G w 8 (krow q), oMs (q 0) (d 0), aI G (d 0) 9 (M 0), oMs (q 1) (d 1), aI G (d 1) 9 (M 1), oMs (q 2) (d 2), aI G (d 2) 9 (M 2), oMs (q 3) (d 3), aI G (d 3) 9 (M 3), oMs (q 4) (d 4), aI G (d 4) 9 (M 4), oMs (q 5) (d 5), aI G (d 5) 9 (M 5), oMs (q 6) (d 6), aI G (d 6) 9 (M 6), oMs (q 7) (d 7), aI G (d 7) 9 (M 7)]) F hK hP9 hD9 hS9 hA hl1.1 (c_X2_put l G dr da f_6 3 r8 (by first | assumption | decide | omega)) [20, 21] [0, 1, 2, 3, 4, 5, 6, 7, 8, 9, 10, 11, 12, 13, 14, 15, 16, 17, 18, 19] 2 0 gX5_sendGreeting_X2_put rfl 2 rfl (by decide +kernel) ⟨Nat.le_of_ble_eq_true rfl, Nat.le_of_ble_eq_true rfl⟩ ⟨Nat.zero_le _, Nat.zero_le _⟩ rfl rfl rfl rfl (by decide) (by decide) (by decide) (Nat.le_of_ble_eq_true rfl) rfl dX5_sendGreeting_56 (fun f_10 H11 locs11 hw10 (hP11 : va_P G.1 vwCl ([oSe h pe ta sn sb s, oPe pe lc ls li lo dr p, oRo rh w rp, aM G w 8 (krow q), oMs (q 0) (d 0), aI G (d 0) 9 (M 0), oMs (q 1) (d 1), aI G (d 1) 9 (M 1), oMs (q 2) (d 2), aI G (d 2) 9 (M 2), oMs (q 3) (d 3), aI G (d 3) 9 (M 3), oMs (q 4) (d 4), aI G (d 4) 9 (M 4), oMs (q 5) (d 5), aI G (d 5) 9 (M 5), oMs (q 6) (d 6), aI G (d 6) 9 (M 6), oMs (q 7) (d 7), aI G (d 7) 9 (M 7), oMs dr da, aI G da 9 f_10]) H11) (hD11 : va_D A ([oSe h pe ta sn sb s, oPe pe lc ls li lo dr p, oRo rh w rp, aM G w 8 (krow q), oMs (q 0) (d 0), aI G (d 0) 9 (M 0), oMs (q 1) (d 1), aI G (d 1) 9 (M 1), oMs (q 2) (d 2), aI G (d 2) 9 (M 2), oMs (q 3) (d 3), aI G (d 3) 9 (M 3), oMs (q 4) (d 4), aI G (d 4) 9 (M 4), oMs (q 5) (d 5), aI G (d 5) 9 (M 5), oMs (q 6) (d 6), aI G (d 6) 9 (M 6), oMs (q 7) (d 7), aI G (d 7) 9 (M 7), oMs dr da, aI G da 9 f_10])) hS11 => ?_)
  clear hP9 hD9 hS9
  have w10_0 : f_10 = upd f_6 3 r8 := hw10
  refine lv_aload_n hx hb dX5_sendGreeting_59 rfl (lv_at hl1 0 rfl) ?_
  refine lv_iconst (v := 4) hx hb dX5_sendGreeting_60 (by decide) ?_
  refine lv_aload_n hx hb dX5_sendGreeting_61 rfl (lv_at hl1 1 rfl) ?_
  refine kget F hK hP11 5 0 0 iX5 rfl rfl (by decide) (List.mem_of_getElem? (i := 1) rfl) rfl dX5_sendGreeting_62 ?_
  refine kget F hK hP11 3 1 0 iX3 rfl rfl (by decide) (List.mem_of_getElem? (i := 6) rfl) rfl dX5_sendGreeting_65 ?_
  refine lv_aload_n hx hb dX5_sendGreeting_68 rfl (lv_at hl1 1 rfl) ?_
  refine kget F hK hP11 5 0 0 iX5 rfl rfl (by decide) (List.mem_of_getElem? (i := 1) rfl) rfl dX5_sendGreeting_69 ?_
  refine kget F hK hP11 3 1 6 iX3 rfl rfl (by decide) (List.mem_of_getElem? (i := 3) rfl) rfl dX5_sendGreeting_72 ?_
  refine kPNi F hK hP11 hD11 hS11 hA hl1.1 (c_X8_hasVersionAbove l G (p 0) (p 6)) (fun _ => rfl) 22 rfl gX5_sendGreeting_X8_hasVersionAbove_n176 (List.mem_of_getElem? (i := 31) rfl) (List.mem_of_getElem? (i := 23) rfl) rfl 2 rfl (by decide +kernel) ⟨Nat.le_of_ble_eq_true rfl, Nat.le_of_ble_eq_true rfl⟩ ⟨Nat.zero_le _, Nat.zero_le _⟩ (Nat.le_of_ble_eq_true rfl) rfl dX5_sendGreeting_75 (fun r12 u12 H13 locs13 hw12 (hP13 : va_P G.1 vwCl ([oSe h pe ta sn sb s, oPe pe lc ls li lo dr p, oRo rh w rp, aM G w 8 (krow q), oMs (q 0) (d 0), aI G (d 0) 9 (M 0), oMs (q 1) (d 1), aI G (d 1) 9 (M 1), oMs (q 2) (d 2), aI G (d 2) 9 (M 2), oMs (q 3) (d 3), aI G (d 3) 9 (M 3), oMs (q 4) (d 4), aI G (d 4) 9 (M 4), oMs (q 5) (d 5), aI G (d 5) 9 (M 5), oMs (q 6) (d 6), aI G (d 6) 9 (M 6), oMs (q 7) (d 7), aI G (d 7) 9 (M 7), oMs dr da, aI G da 9 f_10]) H13) (hD13 : va_D A ([oSe h pe ta sn sb s, oPe pe lc ls li lo dr p, oRo rh w rp, aM G w 8 (krow q), oMs (q 0) (d 0), aI G (d 0) 9 (M 0), oMs (q 1) (d 1), aI G (d 1) 9 (M 1), oMs (q 2) (d 2), aI G (d 2) 9 (M 2), oMs (q 3) (d 3), aI G (d 3) 9 (M 3), oMs (q 4) (d 4), aI G (d 4) 9 (M 4), oMs (q 5) (d 5), aI G (d 5) 9 (M 5), oMs (q 6) (d 6), aI G (d 6) 9 (M 6), oMs (q 7) (d 7), aI G (d 7) 9 (M 7), oMs dr da, aI G da 9 f_10])) hS13 => ?_)
  clear hP11 hD11 hS11
  have w12_0 : r12 = khasA (p 0) (p 6) := hw12
  refine lv_if_eq (tgt := 85) hx hb dX5_sendGreeting_78 (by decide) (fun c14 => ?_) (fun c14 => ?_)
  · refine lv_iconst (v := 0) hx hb dX5_sendGreeting_85 (by decide) ?_
    refine kVv (wr := [oSe h pe ta sn sb s, oPe pe lc ls li lo dr p, oRo rh w rp, aM G w 8 (krow q), oMs (q 0) (d 0), aI G (d 0) 9 (M 0), oMs (q 1) (d 1), aI G (d 1) 9 (M 1), oMs (q 2) (d 2), aI G (d 2) 9 (M 2), oMs (q 3) (d 3), aI G (d 3) 9 (M 3), oMs (q 4) (d 4), aI G (d 4) 9 (M 4), oMs (q 5) (d 5), aI G (d 5) 9 (M 5), oMs (q 6) (d 6), aI G (d 6) 9 (M 6), oMs (q 7) (d 7), aI G (d 7) 9 (M 7)]) F hK hP13 hD13 hS13 hA hl1.1 (c_X2_put l G dr da f_10 4 0 (by first | assumption | decide | omega)) [20, 21] [0, 1, 2, 3, 4, 5, 6, 7, 8, 9, 10, 11, 12, 13, 14, 15, 16, 17, 18, 19] 2 0 gX5_sendGreeting_X2_put rfl 2 rfl (by decide +kernel) ⟨Nat.le_of_ble_eq_true rfl, Nat.le_of_ble_eq_true rfl⟩ ⟨Nat.zero_le _, Nat.zero_le _⟩ rfl rfl rfl rfl (by decide) (by decide) (by decide) (Nat.le_of_ble_eq_true rfl) rfl dX5_sendGreeting_86 (fun f_15 H16 locs16 hw15 (hP16 : va_P G.1 vwCl ([oSe h pe ta sn sb s, oPe pe lc ls li lo dr p, oRo rh w rp, aM G w 8 (krow q), oMs (q 0) (d 0), aI G (d 0) 9 (M 0), oMs (q 1) (d 1), aI G (d 1) 9 (M 1), oMs (q 2) (d 2), aI G (d 2) 9 (M 2), oMs (q 3) (d 3), aI G (d 3) 9 (M 3), oMs (q 4) (d 4), aI G (d 4) 9 (M 4), oMs (q 5) (d 5), aI G (d 5) 9 (M 5), oMs (q 6) (d 6), aI G (d 6) 9 (M 6), oMs (q 7) (d 7), aI G (d 7) 9 (M 7), oMs dr da, aI G da 9 f_15]) H16) (hD16 : va_D A ([oSe h pe ta sn sb s, oPe pe lc ls li lo dr p, oRo rh w rp, aM G w 8 (krow q), oMs (q 0) (d 0), aI G (d 0) 9 (M 0), oMs (q 1) (d 1), aI G (d 1) 9 (M 1), oMs (q 2) (d 2), aI G (d 2) 9 (M 2), oMs (q 3) (d 3), aI G (d 3) 9 (M 3), oMs (q 4) (d 4), aI G (d 4) 9 (M 4), oMs (q 5) (d 5), aI G (d 5) 9 (M 5), oMs (q 6) (d 6), aI G (d 6) 9 (M 6), oMs (q 7) (d 7), aI G (d 7) 9 (M 7), oMs dr da, aI G da 9 f_15])) hS16 => ?_)
    clear hP13 hD13 hS13
    have w15_0 : f_15 = upd f_10 4 0 := hw15
    refine lv_aload_n hx hb dX5_sendGreeting_89 rfl (lv_at hl1 0 rfl) ?_
    refine lv_iconst (v := 5) hx hb dX5_sendGreeting_90 (by decide) ?_
    refine lv_aload_n hx hb dX5_sendGreeting_91 rfl (lv_at hl1 1 rfl) ?_
    refine kget F hK hP16 5 0 0 iX5 rfl rfl (by decide) (List.mem_of_getElem? (i := 1) rfl) rfl dX5_sendGreeting_92 ?_
    refine kget F hK hP16 3 1 8 iX3 rfl rfl (by decide) (List.mem_of_getElem? (i := 7) rfl) rfl dX5_sendGreeting_95 ?_
    refine lv_if_eq (tgt := 105) hx hb dX5_sendGreeting_98 (by decide) (fun c17 => ?_) (fun c17 => ?_)
    · refine lv_iconst (v := 0) hx hb dX5_sendGreeting_105 (by decide) ?_
      refine kVv (wr := [oSe h pe ta sn sb s, oPe pe lc ls li lo dr p, oRo rh w rp, aM G w 8 (krow q), oMs (q 0) (d 0), aI G (d 0) 9 (M 0), oMs (q 1) (d 1), aI G (d 1) 9 (M 1), oMs (q 2) (d 2), aI G (d 2) 9 (M 2), oMs (q 3) (d 3), aI G (d 3) 9 (M 3), oMs (q 4) (d 4), aI G (d 4) 9 (M 4), oMs (q 5) (d 5), aI G (d 5) 9 (M 5), oMs (q 6) (d 6), aI G (d 6) 9 (M 6), oMs (q 7) (d 7), aI G (d 7) 9 (M 7)]) F hK hP16 hD16 hS16 hA hl1.1 (c_X2_put l G dr da f_15 5 0 (by first | assumption | decide | omega)) [20, 21] [0, 1, 2, 3, 4, 5, 6, 7, 8, 9, 10, 11, 12, 13, 14, 15, 16, 17, 18, 19] 2 0 gX5_sendGreeting_X2_put rfl 2 rfl (by decide +kernel) ⟨Nat.le_of_ble_eq_true rfl, Nat.le_of_ble_eq_true rfl⟩ ⟨Nat.zero_le _, Nat.zero_le _⟩ rfl rfl rfl rfl (by decide) (by decide) (by decide) (Nat.le_of_ble_eq_true rfl) rfl dX5_sendGreeting_106 (fun f_18 H19 locs19 hw18 (hP19 : va_P G.1 vwCl ([oSe h pe ta sn sb s, oPe pe lc ls li lo dr p, oRo rh w rp, aM G w 8 (krow q), oMs (q 0) (d 0), aI G (d 0) 9 (M 0), oMs (q 1) (d 1), aI G (d 1) 9 (M 1), oMs (q 2) (d 2), aI G (d 2) 9 (M 2), oMs (q 3) (d 3), aI G (d 3) 9 (M 3), oMs (q 4) (d 4), aI G (d 4) 9 (M 4), oMs (q 5) (d 5), aI G (d 5) 9 (M 5), oMs (q 6) (d 6), aI G (d 6) 9 (M 6), oMs (q 7) (d 7), aI G (d 7) 9 (M 7), oMs dr da, aI G da 9 f_18]) H19) (hD19 : va_D A ([oSe h pe ta sn sb s, oPe pe lc ls li lo dr p, oRo rh w rp, aM G w 8 (krow q), oMs (q 0) (d 0), aI G (d 0) 9 (M 0), oMs (q 1) (d 1), aI G (d 1) 9 (M 1), oMs (q 2) (d 2), aI G (d 2) 9 (M 2), oMs (q 3) (d 3), aI G (d 3) 9 (M 3), oMs (q 4) (d 4), aI G (d 4) 9 (M 4), oMs (q 5) (d 5), aI G (d 5) 9 (M 5), oMs (q 6) (d 6), aI G (d 6) 9 (M 6), oMs (q 7) (d 7), aI G (d 7) 9 (M 7), oMs dr da, aI G da 9 f_18])) hS19 => ?_)
      clear hP16 hD16 hS16
      have w18_0 : f_18 = upd f_15 5 0 := hw18
      refine lv_aload_n hx hb dX5_sendGreeting_109 rfl (lv_at hl1 0 rfl) ?_
      refine lv_bipush (v := 6) hx hb dX5_sendGreeting_110 (by decide) ?_
      refine lv_iload_n hx hb dX5_sendGreeting_112 rfl (lv_at hl1 2 rfl) ?_
      refine lv_if_eq (tgt := 120) hx hb dX5_sendGreeting_113 (by decide) (fun c20 => ?_) (fun c20 => ?_)
      · refine lv_iconst (v := 0) hx hb dX5_sendGreeting_120 (by decide) ?_
        refine kVv (wr := [oSe h pe ta sn sb s, oPe pe lc ls li lo dr p, oRo rh w rp, aM G w 8 (krow q), oMs (q 0) (d 0), aI G (d 0) 9 (M 0), oMs (q 1) (d 1), aI G (d 1) 9 (M 1), oMs (q 2) (d 2), aI G (d 2) 9 (M 2), oMs (q 3) (d 3), aI G (d 3) 9 (M 3), oMs (q 4) (d 4), aI G (d 4) 9 (M 4), oMs (q 5) (d 5), aI G (d 5) 9 (M 5), oMs (q 6) (d 6), aI G (d 6) 9 (M 6), oMs (q 7) (d 7), aI G (d 7) 9 (M 7)]) F hK hP19 hD19 hS19 hA hl1.1 (c_X2_put l G dr da f_18 6 0 (by first | assumption | decide | omega)) [20, 21] [0, 1, 2, 3, 4, 5, 6, 7, 8, 9, 10, 11, 12, 13, 14, 15, 16, 17, 18, 19] 2 0 gX5_sendGreeting_X2_put rfl 2 rfl (by decide +kernel) ⟨Nat.le_of_ble_eq_true rfl, Nat.le_of_ble_eq_true rfl⟩ ⟨Nat.zero_le _, Nat.zero_le _⟩ rfl rfl rfl rfl (by decide) (by decide) (by decide) (Nat.le_of_ble_eq_true rfl) rfl dX5_sendGreeting_121 (fun f_21 H22 locs22 hw21 (hP22 : va_P G.1 vwCl ([oSe h pe ta sn sb s, oPe pe lc ls li lo dr p, oRo rh w rp, aM G w 8 (krow q), oMs (q 0) (d 0), aI G (d 0) 9 (M 0), oMs (q 1) (d 1), aI G (d 1) 9 (M 1), oMs (q 2) (d 2), aI G (d 2) 9 (M 2), oMs (q 3) (d 3), aI G (d 3) 9 (M 3), oMs (q 4) (d 4), aI G (d 4) 9 (M 4), oMs (q 5) (d 5), aI G (d 5) 9 (M 5), oMs (q 6) (d 6), aI G (d 6) 9 (M 6), oMs (q 7) (d 7), aI G (d 7) 9 (M 7), oMs dr da, aI G da 9 f_21]) H22) (hD22 : va_D A ([oSe h pe ta sn sb s, oPe pe lc ls li lo dr p, oRo rh w rp, aM G w 8 (krow q), oMs (q 0) (d 0), aI G (d 0) 9 (M 0), oMs (q 1) (d 1), aI G (d 1) 9 (M 1), oMs (q 2) (d 2), aI G (d 2) 9 (M 2), oMs (q 3) (d 3), aI G (d 3) 9 (M 3), oMs (q 4) (d 4), aI G (d 4) 9 (M 4), oMs (q 5) (d 5), aI G (d 5) 9 (M 5), oMs (q 6) (d 6), aI G (d 6) 9 (M 6), oMs (q 7) (d 7), aI G (d 7) 9 (M 7), oMs dr da, aI G da 9 f_21])) hS22 => ?_)
        clear hP19 hD19 hS19
        have w21_0 : f_21 = upd f_18 6 0 := hw21
        refine lv_aload_n hx hb dX5_sendGreeting_124 rfl (lv_at hl1 1 rfl) ?_
        refine kget F hK hP22 5 0 0 iX5 rfl rfl (by decide) (List.mem_of_getElem? (i := 1) rfl) rfl dX5_sendGreeting_125 ?_
        refine lv_aload_n hx hb dX5_sendGreeting_128 rfl (lv_at hl1 0 rfl) ?_
        refine kVv (wr := [oSe h pe ta sn sb s, oRo rh w rp, aM G w 8 (krow q), oMs (q 0) (d 0), aI G (d 0) 9 (M 0), oMs (q 1) (d 1), aI G (d 1) 9 (M 1), oMs (q 2) (d 2), aI G (d 2) 9 (M 2), oMs (q 3) (d 3), aI G (d 3) 9 (M 3), oMs (q 4) (d 4), aI G (d 4) 9 (M 4), oMs (q 5) (d 5), aI G (d 5) 9 (M 5), oMs (q 6) (d 6), aI G (d 6) 9 (M 6), oMs (q 7) (d 7), aI G (d 7) 9 (M 7)]) F hK hP22 hD22 hS22 hA hl1.1 (c_X3_takeIn l G pe lc ls li lo dr p dr da f_21) [1, 20, 21] [0, 2, 3, 4, 5, 6, 7, 8, 9, 10, 11, 12, 13, 14, 15, 16, 17, 18, 19] 3 0 gX5_sendGreeting_X3_takeIn rfl 1 rfl (by decide +kernel) ⟨Nat.le_of_ble_eq_true rfl, Nat.le_of_ble_eq_true rfl⟩ ⟨Nat.zero_le _, Nat.zero_le _⟩ rfl rfl rfl rfl (by decide) (by decide) (by decide) (Nat.le_of_ble_eq_true rfl) rfl dX5_sendGreeting_129 (fun p_23 H24 locs24 hw23 (hP24 : va_P G.1 vwCl ([oSe h pe ta sn sb s, oRo rh w rp, aM G w 8 (krow q), oMs (q 0) (d 0), aI G (d 0) 9 (M 0), oMs (q 1) (d 1), aI G (d 1) 9 (M 1), oMs (q 2) (d 2), aI G (d 2) 9 (M 2), oMs (q 3) (d 3), aI G (d 3) 9 (M 3), oMs (q 4) (d 4), aI G (d 4) 9 (M 4), oMs (q 5) (d 5), aI G (d 5) 9 (M 5), oMs (q 6) (d 6), aI G (d 6) 9 (M 6), oMs (q 7) (d 7), aI G (d 7) 9 (M 7), oPe pe lc ls li lo dr p_23, oMs dr da, aI G da 9 f_21]) H24) (hD24 : va_D A ([oSe h pe ta sn sb s, oRo rh w rp, aM G w 8 (krow q), oMs (q 0) (d 0), aI G (d 0) 9 (M 0), oMs (q 1) (d 1), aI G (d 1) 9 (M 1), oMs (q 2) (d 2), aI G (d 2) 9 (M 2), oMs (q 3) (d 3), aI G (d 3) 9 (M 3), oMs (q 4) (d 4), aI G (d 4) 9 (M 4), oMs (q 5) (d 5), aI G (d 5) 9 (M 5), oMs (q 6) (d 6), aI G (d 6) 9 (M 6), oMs (q 7) (d 7), aI G (d 7) 9 (M 7), oPe pe lc ls li lo dr p_23, oMs dr da, aI G da 9 f_21])) hS24 => ?_)
        clear hP22 hD22 hS22
        have w23_0 : p_23 = ktake p f_21 := hw23
        refine lv_aload_n hx hb dX5_sendGreeting_132 rfl (lv_at hl1 0 rfl) ?_
        refine lv_bipush (v := 7) hx hb dX5_sendGreeting_133 (by decide) ?_
        refine lv_aload_n hx hb dX5_sendGreeting_135 rfl (lv_at hl1 1 rfl) ?_
        refine kget F hK hP24 5 0 0 iX5 rfl rfl (by decide) (List.mem_of_getElem? (i := 1) rfl) rfl dX5_sendGreeting_136 ?_
        refine lv_iconst (v := 1) hx hb dX5_sendGreeting_139 (by decide) ?_
        refine kVi (wr := [oSe h pe ta sn sb s, oRo rh w rp, aM G w 8 (krow q), oMs (q 0) (d 0), aI G (d 0) 9 (M 0), oMs (q 1) (d 1), aI G (d 1) 9 (M 1), oMs (q 2) (d 2), aI G (d 2) 9 (M 2), oMs (q 3) (d 3), aI G (d 3) 9 (M 3), oMs (q 4) (d 4), aI G (d 4) 9 (M 4), oMs (q 5) (d 5), aI G (d 5) 9 (M 5), oMs (q 6) (d 6), aI G (d 6) 9 (M 6), oMs (q 7) (d 7), aI G (d 7) 9 (M 7), oMs dr da, aI G da 9 f_21]) F hK hP24 hD24 hS24 hA hl1.1 (c_X3_proof l G pe lc ls li lo dr p_23 1) [19] [0, 1, 2, 3, 4, 5, 6, 7, 8, 9, 10, 11, 12, 13, 14, 15, 16, 17, 18, 20, 21] 3 0 gX5_sendGreeting_X3_proof rfl 1 rfl (by decide +kernel) ⟨Nat.le_of_ble_eq_true rfl, Nat.le_of_ble_eq_true rfl⟩ ⟨Nat.zero_le _, Nat.zero_le _⟩ rfl rfl rfl rfl (by decide) (by decide) (by decide) (Nat.le_of_ble_eq_true rfl) rfl dX5_sendGreeting_140 (fun r25 u25 H26 locs26 hw25 (hP26 : va_P G.1 vwCl ([oSe h pe ta sn sb s, oRo rh w rp, aM G w 8 (krow q), oMs (q 0) (d 0), aI G (d 0) 9 (M 0), oMs (q 1) (d 1), aI G (d 1) 9 (M 1), oMs (q 2) (d 2), aI G (d 2) 9 (M 2), oMs (q 3) (d 3), aI G (d 3) 9 (M 3), oMs (q 4) (d 4), aI G (d 4) 9 (M 4), oMs (q 5) (d 5), aI G (d 5) 9 (M 5), oMs (q 6) (d 6), aI G (d 6) 9 (M 6), oMs (q 7) (d 7), aI G (d 7) 9 (M 7), oMs dr da, aI G da 9 f_21, oPe pe lc ls li lo dr p_23]) H26) (hD26 : va_D A ([oSe h pe ta sn sb s, oRo rh w rp, aM G w 8 (krow q), oMs (q 0) (d 0), aI G (d 0) 9 (M 0), oMs (q 1) (d 1), aI G (d 1) 9 (M 1), oMs (q 2) (d 2), aI G (d 2) 9 (M 2), oMs (q 3) (d 3), aI G (d 3) 9 (M 3), oMs (q 4) (d 4), aI G (d 4) 9 (M 4), oMs (q 5) (d 5), aI G (d 5) 9 (M 5), oMs (q 6) (d 6), aI G (d 6) 9 (M 6), oMs (q 7) (d 7), aI G (d 7) 9 (M 7), oMs dr da, aI G da 9 f_21, oPe pe lc ls li lo dr p_23])) hS26 => ?_)
        clear hP24 hD24 hS24
        have w25_0 : r25 = kproof p_23 1 := hw25
        refine kVv (wr := [oSe h pe ta sn sb s, oRo rh w rp, aM G w 8 (krow q), oMs (q 0) (d 0), aI G (d 0) 9 (M 0), oMs (q 1) (d 1), aI G (d 1) 9 (M 1), oMs (q 2) (d 2), aI G (d 2) 9 (M 2), oMs (q 3) (d 3), aI G (d 3) 9 (M 3), oMs (q 4) (d 4), aI G (d 4) 9 (M 4), oMs (q 5) (d 5), aI G (d 5) 9 (M 5), oMs (q 6) (d 6), aI G (d 6) 9 (M 6), oMs (q 7) (d 7), aI G (d 7) 9 (M 7), oPe pe lc ls li lo dr p_23]) F hK hP26 hD26 hS26 hA hl1.1 (c_X2_put l G dr da f_21 7 r25 (by first | assumption | decide | omega)) [19, 20] [0, 1, 2, 3, 4, 5, 6, 7, 8, 9, 10, 11, 12, 13, 14, 15, 16, 17, 18, 21] 2 0 gX5_sendGreeting_X2_put rfl 2 rfl (by decide +kernel) ⟨Nat.le_of_ble_eq_true rfl, Nat.le_of_ble_eq_true rfl⟩ ⟨Nat.zero_le _, Nat.zero_le _⟩ rfl rfl rfl rfl (by decide) (by decide) (by decide) (Nat.le_of_ble_eq_true rfl) rfl dX5_sendGreeting_143 (fun f_27 H28 locs28 hw27 (hP28 : va_P G.1 vwCl ([oSe h pe ta sn sb s, oRo rh w rp, aM G w 8 (krow q), oMs (q 0) (d 0), aI G (d 0) 9 (M 0), oMs (q 1) (d 1), aI G (d 1) 9 (M 1), oMs (q 2) (d 2), aI G (d 2) 9 (M 2), oMs (q 3) (d 3), aI G (d 3) 9 (M 3), oMs (q 4) (d 4), aI G (d 4) 9 (M 4), oMs (q 5) (d 5), aI G (d 5) 9 (M 5), oMs (q 6) (d 6), aI G (d 6) 9 (M 6), oMs (q 7) (d 7), aI G (d 7) 9 (M 7), oPe pe lc ls li lo dr p_23, oMs dr da, aI G da 9 f_27]) H28) (hD28 : va_D A ([oSe h pe ta sn sb s, oRo rh w rp, aM G w 8 (krow q), oMs (q 0) (d 0), aI G (d 0) 9 (M 0), oMs (q 1) (d 1), aI G (d 1) 9 (M 1), oMs (q 2) (d 2), aI G (d 2) 9 (M 2), oMs (q 3) (d 3), aI G (d 3) 9 (M 3), oMs (q 4) (d 4), aI G (d 4) 9 (M 4), oMs (q 5) (d 5), aI G (d 5) 9 (M 5), oMs (q 6) (d 6), aI G (d 6) 9 (M 6), oMs (q 7) (d 7), aI G (d 7) 9 (M 7), oPe pe lc ls li lo dr p_23, oMs dr da, aI G da 9 f_27])) hS28 => ?_)
        clear hP26 hD26 hS26
        have w27_0 : f_27 = upd f_21 7 r25 := hw27
        refine lv_aload_n hx hb dX5_sendGreeting_146 rfl (lv_at hl1 3 rfl) ?_
        refine lv_aload_n hx hb dX5_sendGreeting_147 rfl (lv_at hl1 0 rfl) ?_
        refine kVv (wr := [oSe h pe ta sn sb s, oPe pe lc ls li lo dr p_23]) F hK hP28 hD28 hS28 hA hl1.1 (c_X4_send l G rh w q d rp M dr da f_27 L hL hL8) [1, 2, 3, 4, 5, 6, 7, 8, 9, 10, 11, 12, 13, 14, 15, 16, 17, 18, 20, 21] [0, 19] 4 0 gX5_sendGreeting_X4_send rfl 1 rfl (by decide +kernel) ⟨Nat.le_of_ble_eq_true rfl, Nat.le_of_ble_eq_true rfl⟩ ⟨Nat.zero_le _, Nat.zero_le _⟩ rfl rfl rfl rfl (by decide) (by decide) (by decide) (Nat.le_of_ble_eq_true rfl) rfl dX5_sendGreeting_148 (fun u29 H30 locs30 hw29 hP30 hD30 hS30 => ?_)
        obtain ⟨p_29, M_29⟩ := u29
        have hP30 : va_P G.1 vwCl ([oSe h pe ta sn sb s, oPe pe lc ls li lo dr p_23, oRo rh w p_29, aM G w 8 (krow q), oMs (q 0) (d 0), aI G (d 0) 9 (M_29 0), oMs (q 1) (d 1), aI G (d 1) 9 (M_29 1), oMs (q 2) (d 2), aI G (d 2) 9 (M_29 2), oMs (q 3) (d 3), aI G (d 3) 9 (M_29 3), oMs (q 4) (d 4), aI G (d 4) 9 (M_29 4), oMs (q 5) (d 5), aI G (d 5) 9 (M_29 5), oMs (q 6) (d 6), aI G (d 6) 9 (M_29 6), oMs (q 7) (d 7), aI G (d 7) 9 (M_29 7), oMs dr da, aI G da 9 f_27]) H30 := hP30
        have hD30 : va_D A ([oSe h pe ta sn sb s, oPe pe lc ls li lo dr p_23, oRo rh w p_29, aM G w 8 (krow q), oMs (q 0) (d 0), aI G (d 0) 9 (M_29 0), oMs (q 1) (d 1), aI G (d 1) 9 (M_29 1), oMs (q 2) (d 2), aI G (d 2) 9 (M_29 2), oMs (q 3) (d 3), aI G (d 3) 9 (M_29 3), oMs (q 4) (d 4), aI G (d 4) 9 (M_29 4), oMs (q 5) (d 5), aI G (d 5) 9 (M_29 5), oMs (q 6) (d 6), aI G (d 6) 9 (M_29 6), oMs (q 7) (d 7), aI G (d 7) 9 (M_29 7), oMs dr da, aI G da 9 f_27]) := hD30
        clear hP28 hD28 hS28
        have w29_0 : p_29 = ksendP L rp := hw29.1
        have w29_1 : M_29 = ksendM L M f_27 := hw29.2
        refine lv_aload_n hx hb dX5_sendGreeting_151 rfl (lv_at hl1 1 rfl) ?_
        refine kget F hK hP30 5 0 0 iX5 rfl rfl (by decide) (List.mem_of_getElem? (i := 1) rfl) rfl dX5_sendGreeting_152 ?_
        refine lv_iconst (v := 3) hx hb dX5_sendGreeting_155 (by decide) ?_
        refine kput F hK hP30 hD30 hS30 (ty0 := tyX3) 3 1 3 iX3 rfl tyX3_ok nmX3 (fun zz => [oSe h pe ta sn sb s, oPe pe lc ls li lo dr zz, oRo rh w p_29, aM G w 8 (krow q), oMs (q 0) (d 0), aI G (d 0) 9 (M_29 0), oMs (q 1) (d 1), aI G (d 1) 9 (M_29 1), oMs (q 2) (d 2), aI G (d 2) 9 (M_29 2), oMs (q 3) (d 3), aI G (d 3) 9 (M_29 3), oMs (q 4) (d 4), aI G (d 4) 9 (M_29 4), oMs (q 5) (d 5), aI G (d 5) 9 (M_29 5), oMs (q 6) (d 6), aI G (d 6) 9 (M_29 6), oMs (q 7) (d 7), aI G (d 7) 9 (M_29 7), oMs dr da, aI G da 9 f_27]) p_23 rfl (by decide) (List.mem_of_getElem? (i := 8) rfl) rfl rfl rfl (Nat.le_of_ble_eq_true rfl) rfl dX5_sendGreeting_156 (fun H31 locs31 p31 ep31 (hP31 : va_P G.1 vwCl ([oSe h pe ta sn sb s, oPe pe lc ls li lo dr p31, oRo rh w p_29, aM G w 8 (krow q), oMs (q 0) (d 0), aI G (d 0) 9 (M_29 0), oMs (q 1) (d 1), aI G (d 1) 9 (M_29 1), oMs (q 2) (d 2), aI G (d 2) 9 (M_29 2), oMs (q 3) (d 3), aI G (d 3) 9 (M_29 3), oMs (q 4) (d 4), aI G (d 4) 9 (M_29 4), oMs (q 5) (d 5), aI G (d 5) 9 (M_29 5), oMs (q 6) (d 6), aI G (d 6) 9 (M_29 6), oMs (q 7) (d 7), aI G (d 7) 9 (M_29 7), oMs dr da, aI G da 9 f_27]) H31) (hD31 : va_D A ([oSe h pe ta sn sb s, oPe pe lc ls li lo dr p31, oRo rh w p_29, aM G w 8 (krow q), oMs (q 0) (d 0), aI G (d 0) 9 (M_29 0), oMs (q 1) (d 1), aI G (d 1) 9 (M_29 1), oMs (q 2) (d 2), aI G (d 2) 9 (M_29 2), oMs (q 3) (d 3), aI G (d 3) 9 (M_29 3), oMs (q 4) (d 4), aI G (d 4) 9 (M_29 4), oMs (q 5) (d 5), aI G (d 5) 9 (M_29 5), oMs (q 6) (d 6), aI G (d 6) 9 (M_29 6), oMs (q 7) (d 7), aI G (d 7) 9 (M_29 7), oMs dr da, aI G da 9 f_27])) hS31 => ?_)
        clear hP30 hD30 hS30
        have q32 : (p31 = kgrP p f v) ∧ (f_27 = kgrF2 p f v) ∧ (p_29 = ksendP L rp) ∧ (M_29 = ksendM L M (kgrF2 p f v)) := by
          subst ep31
          subst w29_1
          subst w29_0
          subst w27_0
          subst w25_0
          subst w23_0
          subst w21_0
          subst w18_0
          subst w15_0
          subst w12_0
          subst w10_0
          subst w8_0
          subst w6_0
          subst w4_0
          subst w2_0
          first | (simp only [kgrP, kgrF2, kgrF, eq_true c14, eq_true c17, eq_true c20, eq_self, ↓reduceIte, and_self, and_true, true_and]; done) | (simp only [kgrP, kgrF2, kgrF, eq_true c14, eq_true c17, eq_true c20, eq_self, ↓reduceIte, and_self, and_true, true_and]; (try and_intros) <;> rfl) | exact ⟨rfl, rfl, rfl, rfl⟩
        exact kRv F hr hlocks hS31 dX5_sendGreeting_159 ⟨p31, f_27, p_29, M_29⟩ q32 (hP31.sub [0, 1, 20, 21, 2, 3, 4, 5, 6, 7, 8, 9, 10, 11, 12, 13, 14, 15, 16, 17, 18, 19] rfl) (hD31.sub [0, 1, 20, 21, 2, 3, 4, 5, 6, 7, 8, 9, 10, 11, 12, 13, 14, 15, 16, 17, 18, 19] (by decide) rfl)
      · refine lv_iconst (v := 1) hx hb dX5_sendGreeting_116 (by decide) ?_
        refine lv_goto (tgt := 121) hx hb dX5_sendGreeting_117 (by decide) ?_
        refine kVv (wr := [oSe h pe ta sn sb s, oPe pe lc ls li lo dr p, oRo rh w rp, aM G w 8 (krow q), oMs (q 0) (d 0), aI G (d 0) 9 (M 0), oMs (q 1) (d 1), aI G (d 1) 9 (M 1), oMs (q 2) (d 2), aI G (d 2) 9 (M 2), oMs (q 3) (d 3), aI G (d 3) 9 (M 3), oMs (q 4) (d 4), aI G (d 4) 9 (M 4), oMs (q 5) (d 5), aI G (d 5) 9 (M 5), oMs (q 6) (d 6), aI G (d 6) 9 (M 6), oMs (q 7) (d 7), aI G (d 7) 9 (M 7)]) F hK hP19 hD19 hS19 hA hl1.1 (c_X2_put l G dr da f_18 6 1 (by first | assumption | decide | omega)) [20, 21] [0, 1, 2, 3, 4, 5, 6, 7, 8, 9, 10, 11, 12, 13, 14, 15, 16, 17, 18, 19] 2 0 gX5_sendGreeting_X2_put rfl 2 rfl (by decide +kernel) ⟨Nat.le_of_ble_eq_true rfl, Nat.le_of_ble_eq_true rfl⟩ ⟨Nat.zero_le _, Nat.zero_le _⟩ rfl rfl rfl rfl (by decide) (by decide) (by decide) (Nat.le_of_ble_eq_true rfl) rfl dX5_sendGreeting_121 (fun f_33 H34 locs34 hw33 (hP34 : va_P G.1 vwCl ([oSe h pe ta sn sb s, oPe pe lc ls li lo dr p, oRo rh w rp, aM G w 8 (krow q), oMs (q 0) (d 0), aI G (d 0) 9 (M 0), oMs (q 1) (d 1), aI G (d 1) 9 (M 1), oMs (q 2) (d 2), aI G (d 2) 9 (M 2), oMs (q 3) (d 3), aI G (d 3) 9 (M 3), oMs (q 4) (d 4), aI G (d 4) 9 (M 4), oMs (q 5) (d 5), aI G (d 5) 9 (M 5), oMs (q 6) (d 6), aI G (d 6) 9 (M 6), oMs (q 7) (d 7), aI G (d 7) 9 (M 7), oMs dr da, aI G da 9 f_33]) H34) (hD34 : va_D A ([oSe h pe ta sn sb s, oPe pe lc ls li lo dr p, oRo rh w rp, aM G w 8 (krow q), oMs (q 0) (d 0), aI G (d 0) 9 (M 0), oMs (q 1) (d 1), aI G (d 1) 9 (M 1), oMs (q 2) (d 2), aI G (d 2) 9 (M 2), oMs (q 3) (d 3), aI G (d 3) 9 (M 3), oMs (q 4) (d 4), aI G (d 4) 9 (M 4), oMs (q 5) (d 5), aI G (d 5) 9 (M 5), oMs (q 6) (d 6), aI G (d 6) 9 (M 6), oMs (q 7) (d 7), aI G (d 7) 9 (M 7), oMs dr da, aI G da 9 f_33])) hS34 => ?_)
        clear hP19 hD19 hS19
        have w33_0 : f_33 = upd f_18 6 1 := hw33
        refine lv_aload_n hx hb dX5_sendGreeting_124 rfl (lv_at hl1 1 rfl) ?_
        refine kget F hK hP34 5 0 0 iX5 rfl rfl (by decide) (List.mem_of_getElem? (i := 1) rfl) rfl dX5_sendGreeting_125 ?_
        refine lv_aload_n hx hb dX5_sendGreeting_128 rfl (lv_at hl1 0 rfl) ?_
        refine kVv (wr := [oSe h pe ta sn sb s, oRo rh w rp, aM G w 8 (krow q), oMs (q 0) (d 0), aI G (d 0) 9 (M 0), oMs (q 1) (d 1), aI G (d 1) 9 (M 1), oMs (q 2) (d 2), aI G (d 2) 9 (M 2), oMs (q 3) (d 3), aI G (d 3) 9 (M 3), oMs (q 4) (d 4), aI G (d 4) 9 (M 4), oMs (q 5) (d 5), aI G (d 5) 9 (M 5), oMs (q 6) (d 6), aI G (d 6) 9 (M 6), oMs (q 7) (d 7), aI G (d 7) 9 (M 7)]) F hK hP34 hD34 hS34 hA hl1.1 (c_X3_takeIn l G pe lc ls li lo dr p dr da f_33) [1, 20, 21] [0, 2, 3, 4, 5, 6, 7, 8, 9, 10, 11, 12, 13, 14, 15, 16, 17, 18, 19] 3 0 gX5_sendGreeting_X3_takeIn rfl 1 rfl (by decide +kernel) ⟨Nat.le_of_ble_eq_true rfl, Nat.le_of_ble_eq_true rfl⟩ ⟨Nat.zero_le _, Nat.zero_le _⟩ rfl rfl rfl rfl (by decide) (by decide) (by decide) (Nat.le_of_ble_eq_true rfl) rfl dX5_sendGreeting_129 (fun p_35 H36 locs36 hw35 (hP36 : va_P G.1 vwCl ([oSe h pe ta sn sb s, oRo rh w rp, aM G w 8 (krow q), oMs (q 0) (d 0), aI G (d 0) 9 (M 0), oMs (q 1) (d 1), aI G (d 1) 9 (M 1), oMs (q 2) (d 2), aI G (d 2) 9 (M 2), oMs (q 3) (d 3), aI G (d 3) 9 (M 3), oMs (q 4) (d 4), aI G (d 4) 9 (M 4), oMs (q 5) (d 5), aI G (d 5) 9 (M 5), oMs (q 6) (d 6), aI G (d 6) 9 (M 6), oMs (q 7) (d 7), aI G (d 7) 9 (M 7), oPe pe lc ls li lo dr p_35, oMs dr da, aI G da 9 f_33]) H36) (hD36 : va_D A ([oSe h pe ta sn sb s, oRo rh w rp, aM G w 8 (krow q), oMs (q 0) (d 0), aI G (d 0) 9 (M 0), oMs (q 1) (d 1), aI G (d 1) 9 (M 1), oMs (q 2) (d 2), aI G (d 2) 9 (M 2), oMs (q 3) (d 3), aI G (d 3) 9 (M 3), oMs (q 4) (d 4), aI G (d 4) 9 (M 4), oMs (q 5) (d 5), aI G (d 5) 9 (M 5), oMs (q 6) (d 6), aI G (d 6) 9 (M 6), oMs (q 7) (d 7), aI G (d 7) 9 (M 7), oPe pe lc ls li lo dr p_35, oMs dr da, aI G da 9 f_33])) hS36 => ?_)
        clear hP34 hD34 hS34
        have w35_0 : p_35 = ktake p f_33 := hw35
        refine lv_aload_n hx hb dX5_sendGreeting_132 rfl (lv_at hl1 0 rfl) ?_
        refine lv_bipush (v := 7) hx hb dX5_sendGreeting_133 (by decide) ?_
        refine lv_aload_n hx hb dX5_sendGreeting_135 rfl (lv_at hl1 1 rfl) ?_
        refine kget F hK hP36 5 0 0 iX5 rfl rfl (by decide) (List.mem_of_getElem? (i := 1) rfl) rfl dX5_sendGreeting_136 ?_
        refine lv_iconst (v := 1) hx hb dX5_sendGreeting_139 (by decide) ?_
        refine kVi (wr := [oSe h pe ta sn sb s, oRo rh w rp, aM G w 8 (krow q), oMs (q 0) (d 0), aI G (d 0) 9 (M 0), oMs (q 1) (d 1), aI G (d 1) 9 (M 1), oMs (q 2) (d 2), aI G (d 2) 9 (M 2), oMs (q 3) (d 3), aI G (d 3) 9 (M 3), oMs (q 4) (d 4), aI G (d 4) 9 (M 4), oMs (q 5) (d 5), aI G (d 5) 9 (M 5), oMs (q 6) (d 6), aI G (d 6) 9 (M 6), oMs (q 7) (d 7), aI G (d 7) 9 (M 7), oMs dr da, aI G da 9 f_33]) F hK hP36 hD36 hS36 hA hl1.1 (c_X3_proof l G pe lc ls li lo dr p_35 1) [19] [0, 1, 2, 3, 4, 5, 6, 7, 8, 9, 10, 11, 12, 13, 14, 15, 16, 17, 18, 20, 21] 3 0 gX5_sendGreeting_X3_proof rfl 1 rfl (by decide +kernel) ⟨Nat.le_of_ble_eq_true rfl, Nat.le_of_ble_eq_true rfl⟩ ⟨Nat.zero_le _, Nat.zero_le _⟩ rfl rfl rfl rfl (by decide) (by decide) (by decide) (Nat.le_of_ble_eq_true rfl) rfl dX5_sendGreeting_140 (fun r37 u37 H38 locs38 hw37 (hP38 : va_P G.1 vwCl ([oSe h pe ta sn sb s, oRo rh w rp, aM G w 8 (krow q), oMs (q 0) (d 0), aI G (d 0) 9 (M 0), oMs (q 1) (d 1), aI G (d 1) 9 (M 1), oMs (q 2) (d 2), aI G (d 2) 9 (M 2), oMs (q 3) (d 3), aI G (d 3) 9 (M 3), oMs (q 4) (d 4), aI G (d 4) 9 (M 4), oMs (q 5) (d 5), aI G (d 5) 9 (M 5), oMs (q 6) (d 6), aI G (d 6) 9 (M 6), oMs (q 7) (d 7), aI G (d 7) 9 (M 7), oMs dr da, aI G da 9 f_33, oPe pe lc ls li lo dr p_35]) H38) (hD38 : va_D A ([oSe h pe ta sn sb s, oRo rh w rp, aM G w 8 (krow q), oMs (q 0) (d 0), aI G (d 0) 9 (M 0), oMs (q 1) (d 1), aI G (d 1) 9 (M 1), oMs (q 2) (d 2), aI G (d 2) 9 (M 2), oMs (q 3) (d 3), aI G (d 3) 9 (M 3), oMs (q 4) (d 4), aI G (d 4) 9 (M 4), oMs (q 5) (d 5), aI G (d 5) 9 (M 5), oMs (q 6) (d 6), aI G (d 6) 9 (M 6), oMs (q 7) (d 7), aI G (d 7) 9 (M 7), oMs dr da, aI G da 9 f_33, oPe pe lc ls li lo dr p_35])) hS38 => ?_)
        clear hP36 hD36 hS36
        have w37_0 : r37 = kproof p_35 1 := hw37
        refine kVv (wr := [oSe h pe ta sn sb s, oRo rh w rp, aM G w 8 (krow q), oMs (q 0) (d 0), aI G (d 0) 9 (M 0), oMs (q 1) (d 1), aI G (d 1) 9 (M 1), oMs (q 2) (d 2), aI G (d 2) 9 (M 2), oMs (q 3) (d 3), aI G (d 3) 9 (M 3), oMs (q 4) (d 4), aI G (d 4) 9 (M 4), oMs (q 5) (d 5), aI G (d 5) 9 (M 5), oMs (q 6) (d 6), aI G (d 6) 9 (M 6), oMs (q 7) (d 7), aI G (d 7) 9 (M 7), oPe pe lc ls li lo dr p_35]) F hK hP38 hD38 hS38 hA hl1.1 (c_X2_put l G dr da f_33 7 r37 (by first | assumption | decide | omega)) [19, 20] [0, 1, 2, 3, 4, 5, 6, 7, 8, 9, 10, 11, 12, 13, 14, 15, 16, 17, 18, 21] 2 0 gX5_sendGreeting_X2_put rfl 2 rfl (by decide +kernel) ⟨Nat.le_of_ble_eq_true rfl, Nat.le_of_ble_eq_true rfl⟩ ⟨Nat.zero_le _, Nat.zero_le _⟩ rfl rfl rfl rfl (by decide) (by decide) (by decide) (Nat.le_of_ble_eq_true rfl) rfl dX5_sendGreeting_143 (fun f_39 H40 locs40 hw39 (hP40 : va_P G.1 vwCl ([oSe h pe ta sn sb s, oRo rh w rp, aM G w 8 (krow q), oMs (q 0) (d 0), aI G (d 0) 9 (M 0), oMs (q 1) (d 1), aI G (d 1) 9 (M 1), oMs (q 2) (d 2), aI G (d 2) 9 (M 2), oMs (q 3) (d 3), aI G (d 3) 9 (M 3), oMs (q 4) (d 4), aI G (d 4) 9 (M 4), oMs (q 5) (d 5), aI G (d 5) 9 (M 5), oMs (q 6) (d 6), aI G (d 6) 9 (M 6), oMs (q 7) (d 7), aI G (d 7) 9 (M 7), oPe pe lc ls li lo dr p_35, oMs dr da, aI G da 9 f_39]) H40) (hD40 : va_D A ([oSe h pe ta sn sb s, oRo rh w rp, aM G w 8 (krow q), oMs (q 0) (d 0), aI G (d 0) 9 (M 0), oMs (q 1) (d 1), aI G (d 1) 9 (M 1), oMs (q 2) (d 2), aI G (d 2) 9 (M 2), oMs (q 3) (d 3), aI G (d 3) 9 (M 3), oMs (q 4) (d 4), aI G (d 4) 9 (M 4), oMs (q 5) (d 5), aI G (d 5) 9 (M 5), oMs (q 6) (d 6), aI G (d 6) 9 (M 6), oMs (q 7) (d 7), aI G (d 7) 9 (M 7), oPe pe lc ls li lo dr p_35, oMs dr da, aI G da 9 f_39])) hS40 => ?_)
        clear hP38 hD38 hS38
        have w39_0 : f_39 = upd f_33 7 r37 := hw39
        refine lv_aload_n hx hb dX5_sendGreeting_146 rfl (lv_at hl1 3 rfl) ?_
        refine lv_aload_n hx hb dX5_sendGreeting_147 rfl (lv_at hl1 0 rfl) ?_
        refine kVv (wr := [oSe h pe ta sn sb s, oPe pe lc ls li lo dr p_35]) F hK hP40 hD40 hS40 hA hl1.1 (c_X4_send l G rh w q d rp M dr da f_39 L hL hL8) [1, 2, 3, 4, 5, 6, 7, 8, 9, 10, 11, 12, 13, 14, 15, 16, 17, 18, 20, 21] [0, 19] 4 0 gX5_sendGreeting_X4_send rfl 1 rfl (by decide +kernel) ⟨Nat.le_of_ble_eq_true rfl, Nat.le_of_ble_eq_true rfl⟩ ⟨Nat.zero_le _, Nat.zero_le _⟩ rfl rfl rfl rfl (by decide) (by decide) (by decide) (Nat.le_of_ble_eq_true rfl) rfl dX5_sendGreeting_148 (fun u41 H42 locs42 hw41 hP42 hD42 hS42 => ?_)
        obtain ⟨p_41, M_41⟩ := u41
        have hP42 : va_P G.1 vwCl ([oSe h pe ta sn sb s, oPe pe lc ls li lo dr p_35, oRo rh w p_41, aM G w 8 (krow q), oMs (q 0) (d 0), aI G (d 0) 9 (M_41 0), oMs (q 1) (d 1), aI G (d 1) 9 (M_41 1), oMs (q 2) (d 2), aI G (d 2) 9 (M_41 2), oMs (q 3) (d 3), aI G (d 3) 9 (M_41 3), oMs (q 4) (d 4), aI G (d 4) 9 (M_41 4), oMs (q 5) (d 5), aI G (d 5) 9 (M_41 5), oMs (q 6) (d 6), aI G (d 6) 9 (M_41 6), oMs (q 7) (d 7), aI G (d 7) 9 (M_41 7), oMs dr da, aI G da 9 f_39]) H42 := hP42
        have hD42 : va_D A ([oSe h pe ta sn sb s, oPe pe lc ls li lo dr p_35, oRo rh w p_41, aM G w 8 (krow q), oMs (q 0) (d 0), aI G (d 0) 9 (M_41 0), oMs (q 1) (d 1), aI G (d 1) 9 (M_41 1), oMs (q 2) (d 2), aI G (d 2) 9 (M_41 2), oMs (q 3) (d 3), aI G (d 3) 9 (M_41 3), oMs (q 4) (d 4), aI G (d 4) 9 (M_41 4), oMs (q 5) (d 5), aI G (d 5) 9 (M_41 5), oMs (q 6) (d 6), aI G (d 6) 9 (M_41 6), oMs (q 7) (d 7), aI G (d 7) 9 (M_41 7), oMs dr da, aI G da 9 f_39]) := hD42
        clear hP40 hD40 hS40
        have w41_0 : p_41 = ksendP L rp := hw41.1
        have w41_1 : M_41 = ksendM L M f_39 := hw41.2
        refine lv_aload_n hx hb dX5_sendGreeting_151 rfl (lv_at hl1 1 rfl) ?_
        refine kget F hK hP42 5 0 0 iX5 rfl rfl (by decide) (List.mem_of_getElem? (i := 1) rfl) rfl dX5_sendGreeting_152 ?_
        refine lv_iconst (v := 3) hx hb dX5_sendGreeting_155 (by decide) ?_
        refine kput F hK hP42 hD42 hS42 (ty0 := tyX3) 3 1 3 iX3 rfl tyX3_ok nmX3 (fun zz => [oSe h pe ta sn sb s, oPe pe lc ls li lo dr zz, oRo rh w p_41, aM G w 8 (krow q), oMs (q 0) (d 0), aI G (d 0) 9 (M_41 0), oMs (q 1) (d 1), aI G (d 1) 9 (M_41 1), oMs (q 2) (d 2), aI G (d 2) 9 (M_41 2), oMs (q 3) (d 3), aI G (d 3) 9 (M_41 3), oMs (q 4) (d 4), aI G (d 4) 9 (M_41 4), oMs (q 5) (d 5), aI G (d 5) 9 (M_41 5), oMs (q 6) (d 6), aI G (d 6) 9 (M_41 6), oMs (q 7) (d 7), aI G (d 7) 9 (M_41 7), oMs dr da, aI G da 9 f_39]) p_35 rfl (by decide) (List.mem_of_getElem? (i := 8) rfl) rfl rfl rfl (Nat.le_of_ble_eq_true rfl) rfl dX5_sendGreeting_156 (fun H43 locs43 p43 ep43 (hP43 : va_P G.1 vwCl ([oSe h pe ta sn sb s, oPe pe lc ls li lo dr p43, oRo rh w p_41, aM G w 8 (krow q), oMs (q 0) (d 0), aI G (d 0) 9 (M_41 0), oMs (q 1) (d 1), aI G (d 1) 9 (M_41 1), oMs (q 2) (d 2), aI G (d 2) 9 (M_41 2), oMs (q 3) (d 3), aI G (d 3) 9 (M_41 3), oMs (q 4) (d 4), aI G (d 4) 9 (M_41 4), oMs (q 5) (d 5), aI G (d 5) 9 (M_41 5), oMs (q 6) (d 6), aI G (d 6) 9 (M_41 6), oMs (q 7) (d 7), aI G (d 7) 9 (M_41 7), oMs dr da, aI G da 9 f_39]) H43) (hD43 : va_D A ([oSe h pe ta sn sb s, oPe pe lc ls li lo dr p43, oRo rh w p_41, aM G w 8 (krow q), oMs (q 0) (d 0), aI G (d 0) 9 (M_41 0), oMs (q 1) (d 1), aI G (d 1) 9 (M_41 1), oMs (q 2) (d 2), aI G (d 2) 9 (M_41 2), oMs (q 3) (d 3), aI G (d 3) 9 (M_41 3), oMs (q 4) (d 4), aI G (d 4) 9 (M_41 4), oMs (q 5) (d 5), aI G (d 5) 9 (M_41 5), oMs (q 6) (d 6), aI G (d 6) 9 (M_41 6), oMs (q 7) (d 7), aI G (d 7) 9 (M_41 7), oMs dr da, aI G da 9 f_39])) hS43 => ?_)
        clear hP42 hD42 hS42
        have q44 : (p43 = kgrP p f v) ∧ (f_39 = kgrF2 p f v) ∧ (p_41 = ksendP L rp) ∧ (M_41 = ksendM L M (kgrF2 p f v)) := by
          subst ep43
          subst w41_1
          subst w41_0
          subst w39_0
          subst w37_0
          subst w35_0
          subst w33_0
          subst w18_0
          subst w15_0
          subst w12_0
          subst w10_0
          subst w8_0
          subst w6_0
          subst w4_0
          subst w2_0
          first | (simp only [kgrP, kgrF2, kgrF, eq_true c14, eq_true c17, c20, eq_self, ↓reduceIte, and_self, and_true, true_and]; done) | (simp only [kgrP, kgrF2, kgrF, eq_true c14, eq_true c17, c20, eq_self, ↓reduceIte, and_self, and_true, true_and]; (try and_intros) <;> rfl) | exact ⟨rfl, rfl, rfl, rfl⟩
        exact kRv F hr hlocks hS43 dX5_sendGreeting_159 ⟨p43, f_39, p_41, M_41⟩ q44 (hP43.sub [0, 1, 20, 21, 2, 3, 4, 5, 6, 7, 8, 9, 10, 11, 12, 13, 14, 15, 16, 17, 18, 19] rfl) (hD43.sub [0, 1, 20, 21, 2, 3, 4, 5, 6, 7, 8, 9, 10, 11, 12, 13, 14, 15, 16, 17, 18, 19] (by decide) rfl)
    · refine lv_iconst (v := 1) hx hb dX5_sendGreeting_101 (by decide) ?_
      refine lv_goto (tgt := 106) hx hb dX5_sendGreeting_102 (by decide) ?_
      refine kVv (wr := [oSe h pe ta sn sb s, oPe pe lc ls li lo dr p, oRo rh w rp, aM G w 8 (krow q), oMs (q 0) (d 0), aI G (d 0) 9 (M 0), oMs (q 1) (d 1), aI G (d 1) 9 (M 1), oMs (q 2) (d 2), aI G (d 2) 9 (M 2), oMs (q 3) (d 3), aI G (d 3) 9 (M 3), oMs (q 4) (d 4), aI G (d 4) 9 (M 4), oMs (q 5) (d 5), aI G (d 5) 9 (M 5), oMs (q 6) (d 6), aI G (d 6) 9 (M 6), oMs (q 7) (d 7), aI G (d 7) 9 (M 7)]) F hK hP16 hD16 hS16 hA hl1.1 (c_X2_put l G dr da f_15 5 1 (by first | assumption | decide | omega)) [20, 21] [0, 1, 2, 3, 4, 5, 6, 7, 8, 9, 10, 11, 12, 13, 14, 15, 16, 17, 18, 19] 2 0 gX5_sendGreeting_X2_put rfl 2 rfl (by decide +kernel) ⟨Nat.le_of_ble_eq_true rfl, Nat.le_of_ble_eq_true rfl⟩ ⟨Nat.zero_le _, Nat.zero_le _⟩ rfl rfl rfl rfl (by decide) (by decide) (by decide) (Nat.le_of_ble_eq_true rfl) rfl dX5_sendGreeting_106 (fun f_45 H46 locs46 hw45 (hP46 : va_P G.1 vwCl ([oSe h pe ta sn sb s, oPe pe lc ls li lo dr p, oRo rh w rp, aM G w 8 (krow q), oMs (q 0) (d 0), aI G (d 0) 9 (M 0), oMs (q 1) (d 1), aI G (d 1) 9 (M 1), oMs (q 2) (d 2), aI G (d 2) 9 (M 2), oMs (q 3) (d 3), aI G (d 3) 9 (M 3), oMs (q 4) (d 4), aI G (d 4) 9 (M 4), oMs (q 5) (d 5), aI G (d 5) 9 (M 5), oMs (q 6) (d 6), aI G (d 6) 9 (M 6), oMs (q 7) (d 7), aI G (d 7) 9 (M 7), oMs dr da, aI G da 9 f_45]) H46) (hD46 : va_D A ([oSe h pe ta sn sb s, oPe pe lc ls li lo dr p, oRo rh w rp, aM G w 8 (krow q), oMs (q 0) (d 0), aI G (d 0) 9 (M 0), oMs (q 1) (d 1), aI G (d 1) 9 (M 1), oMs (q 2) (d 2), aI G (d 2) 9 (M 2), oMs (q 3) (d 3), aI G (d 3) 9 (M 3), oMs (q 4) (d 4), aI G (d 4) 9 (M 4), oMs (q 5) (d 5), aI G (d 5) 9 (M 5), oMs (q 6) (d 6), aI G (d 6) 9 (M 6), oMs (q 7) (d 7), aI G (d 7) 9 (M 7), oMs dr da, aI G da 9 f_45])) hS46 => ?_)
      clear hP16 hD16 hS16
      have w45_0 : f_45 = upd f_15 5 1 := hw45
      refine lv_aload_n hx hb dX5_sendGreeting_109 rfl (lv_at hl1 0 rfl) ?_
      refine lv_bipush (v := 6) hx hb dX5_sendGreeting_110 (by decide) ?_
      refine lv_iload_n hx hb dX5_sendGreeting_112 rfl (lv_at hl1 2 rfl) ?_
      refine lv_if_eq (tgt := 120) hx hb dX5_sendGreeting_113 (by decide) (fun c47 => ?_) (fun c47 => ?_)
      · refine lv_iconst (v := 0) hx hb dX5_sendGreeting_120 (by decide) ?_
        refine kVv (wr := [oSe h pe ta sn sb s, oPe pe lc ls li lo dr p, oRo rh w rp, aM G w 8 (krow q), oMs (q 0) (d 0), aI G (d 0) 9 (M 0), oMs (q 1) (d 1), aI G (d 1) 9 (M 1), oMs (q 2) (d 2), aI G (d 2) 9 (M 2), oMs (q 3) (d 3), aI G (d 3) 9 (M 3), oMs (q 4) (d 4), aI G (d 4) 9 (M 4), oMs (q 5) (d 5), aI G (d 5) 9 (M 5), oMs (q 6) (d 6), aI G (d 6) 9 (M 6), oMs (q 7) (d 7), aI G (d 7) 9 (M 7)]) F hK hP46 hD46 hS46 hA hl1.1 (c_X2_put l G dr da f_45 6 0 (by first | assumption | decide | omega)) [20, 21] [0, 1, 2, 3, 4, 5, 6, 7, 8, 9, 10, 11, 12, 13, 14, 15, 16, 17, 18, 19] 2 0 gX5_sendGreeting_X2_put rfl 2 rfl (by decide +kernel) ⟨Nat.le_of_ble_eq_true rfl, Nat.le_of_ble_eq_true rfl⟩ ⟨Nat.zero_le _, Nat.zero_le _⟩ rfl rfl rfl rfl (by decide) (by decide) (by decide) (Nat.le_of_ble_eq_true rfl) rfl dX5_sendGreeting_121 (fun f_48 H49 locs49 hw48 (hP49 : va_P G.1 vwCl ([oSe h pe ta sn sb s, oPe pe lc ls li lo dr p, oRo rh w rp, aM G w 8 (krow q), oMs (q 0) (d 0), aI G (d 0) 9 (M 0), oMs (q 1) (d 1), aI G (d 1) 9 (M 1), oMs (q 2) (d 2), aI G (d 2) 9 (M 2), oMs (q 3) (d 3), aI G (d 3) 9 (M 3), oMs (q 4) (d 4), aI G (d 4) 9 (M 4), oMs (q 5) (d 5), aI G (d 5) 9 (M 5), oMs (q 6) (d 6), aI G (d 6) 9 (M 6), oMs (q 7) (d 7), aI G (d 7) 9 (M 7), oMs dr da, aI G da 9 f_48]) H49) (hD49 : va_D A ([oSe h pe ta sn sb s, oPe pe lc ls li lo dr p, oRo rh w rp, aM G w 8 (krow q), oMs (q 0) (d 0), aI G (d 0) 9 (M 0), oMs (q 1) (d 1), aI G (d 1) 9 (M 1), oMs (q 2) (d 2), aI G (d 2) 9 (M 2), oMs (q 3) (d 3), aI G (d 3) 9 (M 3), oMs (q 4) (d 4), aI G (d 4) 9 (M 4), oMs (q 5) (d 5), aI G (d 5) 9 (M 5), oMs (q 6) (d 6), aI G (d 6) 9 (M 6), oMs (q 7) (d 7), aI G (d 7) 9 (M 7), oMs dr da, aI G da 9 f_48])) hS49 => ?_)
        clear hP46 hD46 hS46
        have w48_0 : f_48 = upd f_45 6 0 := hw48
        refine lv_aload_n hx hb dX5_sendGreeting_124 rfl (lv_at hl1 1 rfl) ?_
        refine kget F hK hP49 5 0 0 iX5 rfl rfl (by decide) (List.mem_of_getElem? (i := 1) rfl) rfl dX5_sendGreeting_125 ?_
        refine lv_aload_n hx hb dX5_sendGreeting_128 rfl (lv_at hl1 0 rfl) ?_
        refine kVv (wr := [oSe h pe ta sn sb s, oRo rh w rp, aM G w 8 (krow q), oMs (q 0) (d 0), aI G (d 0) 9 (M 0), oMs (q 1) (d 1), aI G (d 1) 9 (M 1), oMs (q 2) (d 2), aI G (d 2) 9 (M 2), oMs (q 3) (d 3), aI G (d 3) 9 (M 3), oMs (q 4) (d 4), aI G (d 4) 9 (M 4), oMs (q 5) (d 5), aI G (d 5) 9 (M 5), oMs (q 6) (d 6), aI G (d 6) 9 (M 6), oMs (q 7) (d 7), aI G (d 7) 9 (M 7)]) F hK hP49 hD49 hS49 hA hl1.1 (c_X3_takeIn l G pe lc ls li lo dr p dr da f_48) [1, 20, 21] [0, 2, 3, 4, 5, 6, 7, 8, 9, 10, 11, 12, 13, 14, 15, 16, 17, 18, 19] 3 0 gX5_sendGreeting_X3_takeIn rfl 1 rfl (by decide +kernel) ⟨Nat.le_of_ble_eq_true rfl, Nat.le_of_ble_eq_true rfl⟩ ⟨Nat.zero_le _, Nat.zero_le _⟩ rfl rfl rfl rfl (by decide) (by decide) (by decide) (Nat.le_of_ble_eq_true rfl) rfl dX5_sendGreeting_129 (fun p_50 H51 locs51 hw50 (hP51 : va_P G.1 vwCl ([oSe h pe ta sn sb s, oRo rh w rp, aM G w 8 (krow q), oMs (q 0) (d 0), aI G (d 0) 9 (M 0), oMs (q 1) (d 1), aI G (d 1) 9 (M 1), oMs (q 2) (d 2), aI G (d 2) 9 (M 2), oMs (q 3) (d 3), aI G (d 3) 9 (M 3), oMs (q 4) (d 4), aI G (d 4) 9 (M 4), oMs (q 5) (d 5), aI G (d 5) 9 (M 5), oMs (q 6) (d 6), aI G (d 6) 9 (M 6), oMs (q 7) (d 7), aI G (d 7) 9 (M 7), oPe pe lc ls li lo dr p_50, oMs dr da, aI G da 9 f_48]) H51) (hD51 : va_D A ([oSe h pe ta sn sb s, oRo rh w rp, aM G w 8 (krow q), oMs (q 0) (d 0), aI G (d 0) 9 (M 0), oMs (q 1) (d 1), aI G (d 1) 9 (M 1), oMs (q 2) (d 2), aI G (d 2) 9 (M 2), oMs (q 3) (d 3), aI G (d 3) 9 (M 3), oMs (q 4) (d 4), aI G (d 4) 9 (M 4), oMs (q 5) (d 5), aI G (d 5) 9 (M 5), oMs (q 6) (d 6), aI G (d 6) 9 (M 6), oMs (q 7) (d 7), aI G (d 7) 9 (M 7), oPe pe lc ls li lo dr p_50, oMs dr da, aI G da 9 f_48])) hS51 => ?_)
        clear hP49 hD49 hS49
        have w50_0 : p_50 = ktake p f_48 := hw50
        refine lv_aload_n hx hb dX5_sendGreeting_132 rfl (lv_at hl1 0 rfl) ?_
        refine lv_bipush (v := 7) hx hb dX5_sendGreeting_133 (by decide) ?_
        refine lv_aload_n hx hb dX5_sendGreeting_135 rfl (lv_at hl1 1 rfl) ?_
        refine kget F hK hP51 5 0 0 iX5 rfl rfl (by decide) (List.mem_of_getElem? (i := 1) rfl) rfl dX5_sendGreeting_136 ?_
        refine lv_iconst (v := 1) hx hb dX5_sendGreeting_139 (by decide) ?_
        refine kVi (wr := [oSe h pe ta sn sb s, oRo rh w rp, aM G w 8 (krow q), oMs (q 0) (d 0), aI G (d 0) 9 (M 0), oMs (q 1) (d 1), aI G (d 1) 9 (M 1), oMs (q 2) (d 2), aI G (d 2) 9 (M 2), oMs (q 3) (d 3), aI G (d 3) 9 (M 3), oMs (q 4) (d 4), aI G (d 4) 9 (M 4), oMs (q 5) (d 5), aI G (d 5) 9 (M 5), oMs (q 6) (d 6), aI G (d 6) 9 (M 6), oMs (q 7) (d 7), aI G (d 7) 9 (M 7), oMs dr da, aI G da 9 f_48]) F hK hP51 hD51 hS51 hA hl1.1 (c_X3_proof l G pe lc ls li lo dr p_50 1) [19] [0, 1, 2, 3, 4, 5, 6, 7, 8, 9, 10, 11, 12, 13, 14, 15, 16, 17, 18, 20, 21] 3 0 gX5_sendGreeting_X3_proof rfl 1 rfl (by decide +kernel) ⟨Nat.le_of_ble_eq_true rfl, Nat.le_of_ble_eq_true rfl⟩ ⟨Nat.zero_le _, Nat.zero_le _⟩ rfl rfl rfl rfl (by decide) (by decide) (by decide) (Nat.le_of_ble_eq_true rfl) rfl dX5_sendGreeting_140 (fun r52 u52 H53 locs53 hw52 (hP53 : va_P G.1 vwCl ([oSe h pe ta sn sb s, oRo rh w rp, aM G w 8 (krow q), oMs (q 0) (d 0), aI G (d 0) 9 (M 0), oMs (q 1) (d 1), aI G (d 1) 9 (M 1), oMs (q 2) (d 2), aI G (d 2) 9 (M 2), oMs (q 3) (d 3), aI G (d 3) 9 (M 3), oMs (q 4) (d 4), aI G (d 4) 9 (M 4), oMs (q 5) (d 5), aI G (d 5) 9 (M 5), oMs (q 6) (d 6), aI G (d 6) 9 (M 6), oMs (q 7) (d 7), aI G (d 7) 9 (M 7), oMs dr da, aI G da 9 f_48, oPe pe lc ls li lo dr p_50]) H53) (hD53 : va_D A ([oSe h pe ta sn sb s, oRo rh w rp, aM G w 8 (krow q), oMs (q 0) (d 0), aI G (d 0) 9 (M 0), oMs (q 1) (d 1), aI G (d 1) 9 (M 1), oMs (q 2) (d 2), aI G (d 2) 9 (M 2), oMs (q 3) (d 3), aI G (d 3) 9 (M 3), oMs (q 4) (d 4), aI G (d 4) 9 (M 4), oMs (q 5) (d 5), aI G (d 5) 9 (M 5), oMs (q 6) (d 6), aI G (d 6) 9 (M 6), oMs (q 7) (d 7), aI G (d 7) 9 (M 7), oMs dr da, aI G da 9 f_48, oPe pe lc ls li lo dr p_50])) hS53 => ?_)
        clear hP51 hD51 hS51
        have w52_0 : r52 = kproof p_50 1 := hw52
        refine kVv (wr := [oSe h pe ta sn sb s, oRo rh w rp, aM G w 8 (krow q), oMs (q 0) (d 0), aI G (d 0) 9 (M 0), oMs (q 1) (d 1), aI G (d 1) 9 (M 1), oMs (q 2) (d 2), aI G (d 2) 9 (M 2), oMs (q 3) (d 3), aI G (d 3) 9 (M 3), oMs (q 4) (d 4), aI G (d 4) 9 (M 4), oMs (q 5) (d 5), aI G (d 5) 9 (M 5), oMs (q 6) (d 6), aI G (d 6) 9 (M 6), oMs (q 7) (d 7), aI G (d 7) 9 (M 7), oPe pe lc ls li lo dr p_50]) F hK hP53 hD53 hS53 hA hl1.1 (c_X2_put l G dr da f_48 7 r52 (by first | assumption | decide | omega)) [19, 20] [0, 1, 2, 3, 4, 5, 6, 7, 8, 9, 10, 11, 12, 13, 14, 15, 16, 17, 18, 21] 2 0 gX5_sendGreeting_X2_put rfl 2 rfl (by decide +kernel) ⟨Nat.le_of_ble_eq_true rfl, Nat.le_of_ble_eq_true rfl⟩ ⟨Nat.zero_le _, Nat.zero_le _⟩ rfl rfl rfl rfl (by decide) (by decide) (by decide) (Nat.le_of_ble_eq_true rfl) rfl dX5_sendGreeting_143 (fun f_54 H55 locs55 hw54 (hP55 : va_P G.1 vwCl ([oSe h pe ta sn sb s, oRo rh w rp, aM G w 8 (krow q), oMs (q 0) (d 0), aI G (d 0) 9 (M 0), oMs (q 1) (d 1), aI G (d 1) 9 (M 1), oMs (q 2) (d 2), aI G (d 2) 9 (M 2), oMs (q 3) (d 3), aI G (d 3) 9 (M 3), oMs (q 4) (d 4), aI G (d 4) 9 (M 4), oMs (q 5) (d 5), aI G (d 5) 9 (M 5), oMs (q 6) (d 6), aI G (d 6) 9 (M 6), oMs (q 7) (d 7), aI G (d 7) 9 (M 7), oPe pe lc ls li lo dr p_50, oMs dr da, aI G da 9 f_54]) H55) (hD55 : va_D A ([oSe h pe ta sn sb s, oRo rh w rp, aM G w 8 (krow q), oMs (q 0) (d 0), aI G (d 0) 9 (M 0), oMs (q 1) (d 1), aI G (d 1) 9 (M 1), oMs (q 2) (d 2), aI G (d 2) 9 (M 2), oMs (q 3) (d 3), aI G (d 3) 9 (M 3), oMs (q 4) (d 4), aI G (d 4) 9 (M 4), oMs (q 5) (d 5), aI G (d 5) 9 (M 5), oMs (q 6) (d 6), aI G (d 6) 9 (M 6), oMs (q 7) (d 7), aI G (d 7) 9 (M 7), oPe pe lc ls li lo dr p_50, oMs dr da, aI G da 9 f_54])) hS55 => ?_)
        clear hP53 hD53 hS53
        have w54_0 : f_54 = upd f_48 7 r52 := hw54
        refine lv_aload_n hx hb dX5_sendGreeting_146 rfl (lv_at hl1 3 rfl) ?_
        refine lv_aload_n hx hb dX5_sendGreeting_147 rfl (lv_at hl1 0 rfl) ?_
        refine kVv (wr := [oSe h pe ta sn sb s, oPe pe lc ls li lo dr p_50]) F hK hP55 hD55 hS55 hA hl1.1 (c_X4_send l G rh w q d rp M dr da f_54 L hL hL8) [1, 2, 3, 4, 5, 6, 7, 8, 9, 10, 11, 12, 13, 14, 15, 16, 17, 18, 20, 21] [0, 19] 4 0 gX5_sendGreeting_X4_send rfl 1 rfl (by decide +kernel) ⟨Nat.le_of_ble_eq_true rfl, Nat.le_of_ble_eq_true rfl⟩ ⟨Nat.zero_le _, Nat.zero_le _⟩ rfl rfl rfl rfl (by decide) (by decide) (by decide) (Nat.le_of_ble_eq_true rfl) rfl dX5_sendGreeting_148 (fun u56 H57 locs57 hw56 hP57 hD57 hS57 => ?_)
        obtain ⟨p_56, M_56⟩ := u56
        have hP57 : va_P G.1 vwCl ([oSe h pe ta sn sb s, oPe pe lc ls li lo dr p_50, oRo rh w p_56, aM G w 8 (krow q), oMs (q 0) (d 0), aI G (d 0) 9 (M_56 0), oMs (q 1) (d 1), aI G (d 1) 9 (M_56 1), oMs (q 2) (d 2), aI G (d 2) 9 (M_56 2), oMs (q 3) (d 3), aI G (d 3) 9 (M_56 3), oMs (q 4) (d 4), aI G (d 4) 9 (M_56 4), oMs (q 5) (d 5), aI G (d 5) 9 (M_56 5), oMs (q 6) (d 6), aI G (d 6) 9 (M_56 6), oMs (q 7) (d 7), aI G (d 7) 9 (M_56 7), oMs dr da, aI G da 9 f_54]) H57 := hP57
        have hD57 : va_D A ([oSe h pe ta sn sb s, oPe pe lc ls li lo dr p_50, oRo rh w p_56, aM G w 8 (krow q), oMs (q 0) (d 0), aI G (d 0) 9 (M_56 0), oMs (q 1) (d 1), aI G (d 1) 9 (M_56 1), oMs (q 2) (d 2), aI G (d 2) 9 (M_56 2), oMs (q 3) (d 3), aI G (d 3) 9 (M_56 3), oMs (q 4) (d 4), aI G (d 4) 9 (M_56 4), oMs (q 5) (d 5), aI G (d 5) 9 (M_56 5), oMs (q 6) (d 6), aI G (d 6) 9 (M_56 6), oMs (q 7) (d 7), aI G (d 7) 9 (M_56 7), oMs dr da, aI G da 9 f_54]) := hD57
        clear hP55 hD55 hS55
        have w56_0 : p_56 = ksendP L rp := hw56.1
        have w56_1 : M_56 = ksendM L M f_54 := hw56.2
        refine lv_aload_n hx hb dX5_sendGreeting_151 rfl (lv_at hl1 1 rfl) ?_
        refine kget F hK hP57 5 0 0 iX5 rfl rfl (by decide) (List.mem_of_getElem? (i := 1) rfl) rfl dX5_sendGreeting_152 ?_
        refine lv_iconst (v := 3) hx hb dX5_sendGreeting_155 (by decide) ?_
        refine kput F hK hP57 hD57 hS57 (ty0 := tyX3) 3 1 3 iX3 rfl tyX3_ok nmX3 (fun zz => [oSe h pe ta sn sb s, oPe pe lc ls li lo dr zz, oRo rh w p_56, aM G w 8 (krow q), oMs (q 0) (d 0), aI G (d 0) 9 (M_56 0), oMs (q 1) (d 1), aI G (d 1) 9 (M_56 1), oMs (q 2) (d 2), aI G (d 2) 9 (M_56 2), oMs (q 3) (d 3), aI G (d 3) 9 (M_56 3), oMs (q 4) (d 4), aI G (d 4) 9 (M_56 4), oMs (q 5) (d 5), aI G (d 5) 9 (M_56 5), oMs (q 6) (d 6), aI G (d 6) 9 (M_56 6), oMs (q 7) (d 7), aI G (d 7) 9 (M_56 7), oMs dr da, aI G da 9 f_54]) p_50 rfl (by decide) (List.mem_of_getElem? (i := 8) rfl) rfl rfl rfl (Nat.le_of_ble_eq_true rfl) rfl dX5_sendGreeting_156 (fun H58 locs58 p58 ep58 (hP58 : va_P G.1 vwCl ([oSe h pe ta sn sb s, oPe pe lc ls li lo dr p58, oRo rh w p_56, aM G w 8 (krow q), oMs (q 0) (d 0), aI G (d 0) 9 (M_56 0), oMs (q 1) (d 1), aI G (d 1) 9 (M_56 1), oMs (q 2) (d 2), aI G (d 2) 9 (M_56 2), oMs (q 3) (d 3), aI G (d 3) 9 (M_56 3), oMs (q 4) (d 4), aI G (d 4) 9 (M_56 4), oMs (q 5) (d 5), aI G (d 5) 9 (M_56 5), oMs (q 6) (d 6), aI G (d 6) 9 (M_56 6), oMs (q 7) (d 7), aI G (d 7) 9 (M_56 7), oMs dr da, aI G da 9 f_54]) H58) (hD58 : va_D A ([oSe h pe ta sn sb s, oPe pe lc ls li lo dr p58, oRo rh w p_56, aM G w 8 (krow q), oMs (q 0) (d 0), aI G (d 0) 9 (M_56 0), oMs (q 1) (d 1), aI G (d 1) 9 (M_56 1), oMs (q 2) (d 2), aI G (d 2) 9 (M_56 2), oMs (q 3) (d 3), aI G (d 3) 9 (M_56 3), oMs (q 4) (d 4), aI G (d 4) 9 (M_56 4), oMs (q 5) (d 5), aI G (d 5) 9 (M_56 5), oMs (q 6) (d 6), aI G (d 6) 9 (M_56 6), oMs (q 7) (d 7), aI G (d 7) 9 (M_56 7), oMs dr da, aI G da 9 f_54])) hS58 => ?_)
        clear hP57 hD57 hS57
        have q59 : (p58 = kgrP p f v) ∧ (f_54 = kgrF2 p f v) ∧ (p_56 = ksendP L rp) ∧ (M_56 = ksendM L M (kgrF2 p f v)) := by
          subst ep58
          subst w56_1
          subst w56_0
          subst w54_0
          subst w52_0
          subst w50_0
          subst w48_0
          subst w45_0
          subst w15_0
          subst w12_0
          subst w10_0
          subst w8_0
          subst w6_0
          subst w4_0
          subst w2_0
          first | (simp only [kgrP, kgrF2, kgrF, eq_true c14, c17, eq_true c47, eq_self, ↓reduceIte, and_self, and_true, true_and]; done) | (simp only [kgrP, kgrF2, kgrF, eq_true c14, c17, eq_true c47, eq_self, ↓reduceIte, and_self, and_true, true_and]; (try and_intros) <;> rfl) | exact ⟨rfl, rfl, rfl, rfl⟩
        exact kRv F hr hlocks hS58 dX5_sendGreeting_159 ⟨p58, f_54, p_56, M_56⟩ q59 (hP58.sub [0, 1, 20, 21, 2, 3, 4, 5, 6, 7, 8, 9, 10, 11, 12, 13, 14, 15, 16, 17, 18, 19] rfl) (hD58.sub [0, 1, 20, 21, 2, 3, 4, 5, 6, 7, 8, 9, 10, 11, 12, 13, 14, 15, 16, 17, 18, 19] (by decide) rfl)
      · refine lv_iconst (v := 1) hx hb dX5_sendGreeting_116 (by decide) ?_
        refine lv_goto (tgt := 121) hx hb dX5_sendGreeting_117 (by decide) ?_
        refine kVv (wr := [oSe h pe ta sn sb s, oPe pe lc ls li lo dr p, oRo rh w rp, aM G w 8 (krow q), oMs (q 0) (d 0), aI G (d 0) 9 (M 0), oMs (q 1) (d 1), aI G (d 1) 9 (M 1), oMs (q 2) (d 2), aI G (d 2) 9 (M 2), oMs (q 3) (d 3), aI G (d 3) 9 (M 3), oMs (q 4) (d 4), aI G (d 4) 9 (M 4), oMs (q 5) (d 5), aI G (d 5) 9 (M 5), oMs (q 6) (d 6), aI G (d 6) 9 (M 6), oMs (q 7) (d 7), aI G (d 7) 9 (M 7)]) F hK hP46 hD46 hS46 hA hl1.1 (c_X2_put l G dr da f_45 6 1 (by first | assumption | decide | omega)) [20, 21] [0, 1, 2, 3, 4, 5, 6, 7, 8, 9, 10, 11, 12, 13, 14, 15, 16, 17, 18, 19] 2 0 gX5_sendGreeting_X2_put rfl 2 rfl (by decide +kernel) ⟨Nat.le_of_ble_eq_true rfl, Nat.le_of_ble_eq_true rfl⟩ ⟨Nat.zero_le _, Nat.zero_le _⟩ rfl rfl rfl rfl (by decide) (by decide) (by decide) (Nat.le_of_ble_eq_true rfl) rfl dX5_sendGreeting_121 (fun f_60 H61 locs61 hw60 (hP61 : va_P G.1 vwCl ([oSe h pe ta sn sb s, oPe pe lc ls li lo dr p, oRo rh w rp, aM G w 8 (krow q), oMs (q 0) (d 0), aI G (d 0) 9 (M 0), oMs (q 1) (d 1), aI G (d 1) 9 (M 1), oMs (q 2) (d 2), aI G (d 2) 9 (M 2), oMs (q 3) (d 3), aI G (d 3) 9 (M 3), oMs (q 4) (d 4), aI G (d 4) 9 (M 4), oMs (q 5) (d 5), aI G (d 5) 9 (M 5), oMs (q 6) (d 6), aI G (d 6) 9 (M 6), oMs (q 7) (d 7), aI G (d 7) 9 (M 7), oMs dr da, aI G da 9 f_60]) H61) (hD61 : va_D A ([oSe h pe ta sn sb s, oPe pe lc ls li lo dr p, oRo rh w rp, aM G w 8 (krow q), oMs (q 0) (d 0), aI G (d 0) 9 (M 0), oMs (q 1) (d 1), aI G (d 1) 9 (M 1), oMs (q 2) (d 2), aI G (d 2) 9 (M 2), oMs (q 3) (d 3), aI G (d 3) 9 (M 3), oMs (q 4) (d 4), aI G (d 4) 9 (M 4), oMs (q 5) (d 5), aI G (d 5) 9 (M 5), oMs (q 6) (d 6), aI G (d 6) 9 (M 6), oMs (q 7) (d 7), aI G (d 7) 9 (M 7), oMs dr da, aI G da 9 f_60])) hS61 => ?_)
        clear hP46 hD46 hS46
        have w60_0 : f_60 = upd f_45 6 1 := hw60
        refine lv_aload_n hx hb dX5_sendGreeting_124 rfl (lv_at hl1 1 rfl) ?_
        refine kget F hK hP61 5 0 0 iX5 rfl rfl (by decide) (List.mem_of_getElem? (i := 1) rfl) rfl dX5_sendGreeting_125 ?_
        refine lv_aload_n hx hb dX5_sendGreeting_128 rfl (lv_at hl1 0 rfl) ?_
        refine kVv (wr := [oSe h pe ta sn sb s, oRo rh w rp, aM G w 8 (krow q), oMs (q 0) (d 0), aI G (d 0) 9 (M 0), oMs (q 1) (d 1), aI G (d 1) 9 (M 1), oMs (q 2) (d 2), aI G (d 2) 9 (M 2), oMs (q 3) (d 3), aI G (d 3) 9 (M 3), oMs (q 4) (d 4), aI G (d 4) 9 (M 4), oMs (q 5) (d 5), aI G (d 5) 9 (M 5), oMs (q 6) (d 6), aI G (d 6) 9 (M 6), oMs (q 7) (d 7), aI G (d 7) 9 (M 7)]) F hK hP61 hD61 hS61 hA hl1.1 (c_X3_takeIn l G pe lc ls li lo dr p dr da f_60) [1, 20, 21] [0, 2, 3, 4, 5, 6, 7, 8, 9, 10, 11, 12, 13, 14, 15, 16, 17, 18, 19] 3 0 gX5_sendGreeting_X3_takeIn rfl 1 rfl (by decide +kernel) ⟨Nat.le_of_ble_eq_true rfl, Nat.le_of_ble_eq_true rfl⟩ ⟨Nat.zero_le _, Nat.zero_le _⟩ rfl rfl rfl rfl (by decide) (by decide) (by decide) (Nat.le_of_ble_eq_true rfl) rfl dX5_sendGreeting_129 (fun p_62 H63 locs63 hw62 (hP63 : va_P G.1 vwCl ([oSe h pe ta sn sb s, oRo rh w rp, aM G w 8 (krow q), oMs (q 0) (d 0), aI G (d 0) 9 (M 0), oMs (q 1) (d 1), aI G (d 1) 9 (M 1), oMs (q 2) (d 2), aI G (d 2) 9 (M 2), oMs (q 3) (d 3), aI G (d 3) 9 (M 3), oMs (q 4) (d 4), aI G (d 4) 9 (M 4), oMs (q 5) (d 5), aI G (d 5) 9 (M 5), oMs (q 6) (d 6), aI G (d 6) 9 (M 6), oMs (q 7) (d 7), aI G (d 7) 9 (M 7), oPe pe lc ls li lo dr p_62, oMs dr da, aI G da 9 f_60]) H63) (hD63 : va_D A ([oSe h pe ta sn sb s, oRo rh w rp, aM G w 8 (krow q), oMs (q 0) (d 0), aI G (d 0) 9 (M 0), oMs (q 1) (d 1), aI G (d 1) 9 (M 1), oMs (q 2) (d 2), aI G (d 2) 9 (M 2), oMs (q 3) (d 3), aI G (d 3) 9 (M 3), oMs (q 4) (d 4), aI G (d 4) 9 (M 4), oMs (q 5) (d 5), aI G (d 5) 9 (M 5), oMs (q 6) (d 6), aI G (d 6) 9 (M 6), oMs (q 7) (d 7), aI G (d 7) 9 (M 7), oPe pe lc ls li lo dr p_62, oMs dr da, aI G da 9 f_60])) hS63 => ?_)
        clear hP61 hD61 hS61
        have w62_0 : p_62 = ktake p f_60 := hw62
        refine lv_aload_n hx hb dX5_sendGreeting_132 rfl (lv_at hl1 0 rfl) ?_
        refine lv_bipush (v := 7) hx hb dX5_sendGreeting_133 (by decide) ?_
        refine lv_aload_n hx hb dX5_sendGreeting_135 rfl (lv_at hl1 1 rfl) ?_
        refine kget F hK hP63 5 0 0 iX5 rfl rfl (by decide) (List.mem_of_getElem? (i := 1) rfl) rfl dX5_sendGreeting_136 ?_
        refine lv_iconst (v := 1) hx hb dX5_sendGreeting_139 (by decide) ?_
        refine kVi (wr := [oSe h pe ta sn sb s, oRo rh w rp, aM G w 8 (krow q), oMs (q 0) (d 0), aI G (d 0) 9 (M 0), oMs (q 1) (d 1), aI G (d 1) 9 (M 1), oMs (q 2) (d 2), aI G (d 2) 9 (M 2), oMs (q 3) (d 3), aI G (d 3) 9 (M 3), oMs (q 4) (d 4), aI G (d 4) 9 (M 4), oMs (q 5) (d 5), aI G (d 5) 9 (M 5), oMs (q 6) (d 6), aI G (d 6) 9 (M 6), oMs (q 7) (d 7), aI G (d 7) 9 (M 7), oMs dr da, aI G da 9 f_60]) F hK hP63 hD63 hS63 hA hl1.1 (c_X3_proof l G pe lc ls li lo dr p_62 1) [19] [0, 1, 2, 3, 4, 5, 6, 7, 8, 9, 10, 11, 12, 13, 14, 15, 16, 17, 18, 20, 21] 3 0 gX5_sendGreeting_X3_proof rfl 1 rfl (by decide +kernel) ⟨Nat.le_of_ble_eq_true rfl, Nat.le_of_ble_eq_true rfl⟩ ⟨Nat.zero_le _, Nat.zero_le _⟩ rfl rfl rfl rfl (by decide) (by decide) (by decide) (Nat.le_of_ble_eq_true rfl) rfl dX5_sendGreeting_140 (fun r64 u64 H65 locs65 hw64 (hP65 : va_P G.1 vwCl ([oSe h pe ta sn sb s, oRo rh w rp, aM G w 8 (krow q), oMs (q 0) (d 0), aI G (d 0) 9 (M 0), oMs (q 1) (d 1), aI G (d 1) 9 (M 1), oMs (q 2) (d 2), aI G (d 2) 9 (M 2), oMs (q 3) (d 3), aI G (d 3) 9 (M 3), oMs (q 4) (d 4), aI G (d 4) 9 (M 4), oMs (q 5) (d 5), aI G (d 5) 9 (M 5), oMs (q 6) (d 6), aI G (d 6) 9 (M 6), oMs (q 7) (d 7), aI G (d 7) 9 (M 7), oMs dr da, aI G da 9 f_60, oPe pe lc ls li lo dr p_62]) H65) (hD65 : va_D A ([oSe h pe ta sn sb s, oRo rh w rp, aM G w 8 (krow q), oMs (q 0) (d 0), aI G (d 0) 9 (M 0), oMs (q 1) (d 1), aI G (d 1) 9 (M 1), oMs (q 2) (d 2), aI G (d 2) 9 (M 2), oMs (q 3) (d 3), aI G (d 3) 9 (M 3), oMs (q 4) (d 4), aI G (d 4) 9 (M 4), oMs (q 5) (d 5), aI G (d 5) 9 (M 5), oMs (q 6) (d 6), aI G (d 6) 9 (M 6), oMs (q 7) (d 7), aI G (d 7) 9 (M 7), oMs dr da, aI G da 9 f_60, oPe pe lc ls li lo dr p_62])) hS65 => ?_)
        clear hP63 hD63 hS63
        have w64_0 : r64 = kproof p_62 1 := hw64
        refine kVv (wr := [oSe h pe ta sn sb s, oRo rh w rp, aM G w 8 (krow q), oMs (q 0) (d 0), aI G (d 0) 9 (M 0), oMs (q 1) (d 1), aI G (d 1) 9 (M 1), oMs (q 2) (d 2), aI G (d 2) 9 (M 2), oMs (q 3) (d 3), aI G (d 3) 9 (M 3), oMs (q 4) (d 4), aI G (d 4) 9 (M 4), oMs (q 5) (d 5), aI G (d 5) 9 (M 5), oMs (q 6) (d 6), aI G (d 6) 9 (M 6), oMs (q 7) (d 7), aI G (d 7) 9 (M 7), oPe pe lc ls li lo dr p_62]) F hK hP65 hD65 hS65 hA hl1.1 (c_X2_put l G dr da f_60 7 r64 (by first | assumption | decide | omega)) [19, 20] [0, 1, 2, 3, 4, 5, 6, 7, 8, 9, 10, 11, 12, 13, 14, 15, 16, 17, 18, 21] 2 0 gX5_sendGreeting_X2_put rfl 2 rfl (by decide +kernel) ⟨Nat.le_of_ble_eq_true rfl, Nat.le_of_ble_eq_true rfl⟩ ⟨Nat.zero_le _, Nat.zero_le _⟩ rfl rfl rfl rfl (by decide) (by decide) (by decide) (Nat.le_of_ble_eq_true rfl) rfl dX5_sendGreeting_143 (fun f_66 H67 locs67 hw66 (hP67 : va_P G.1 vwCl ([oSe h pe ta sn sb s, oRo rh w rp, aM G w 8 (krow q), oMs (q 0) (d 0), aI G (d 0) 9 (M 0), oMs (q 1) (d 1), aI G (d 1) 9 (M 1), oMs (q 2) (d 2), aI G (d 2) 9 (M 2), oMs (q 3) (d 3), aI G (d 3) 9 (M 3), oMs (q 4) (d 4), aI G (d 4) 9 (M 4), oMs (q 5) (d 5), aI G (d 5) 9 (M 5), oMs (q 6) (d 6), aI G (d 6) 9 (M 6), oMs (q 7) (d 7), aI G (d 7) 9 (M 7), oPe pe lc ls li lo dr p_62, oMs dr da, aI G da 9 f_66]) H67) (hD67 : va_D A ([oSe h pe ta sn sb s, oRo rh w rp, aM G w 8 (krow q), oMs (q 0) (d 0), aI G (d 0) 9 (M 0), oMs (q 1) (d 1), aI G (d 1) 9 (M 1), oMs (q 2) (d 2), aI G (d 2) 9 (M 2), oMs (q 3) (d 3), aI G (d 3) 9 (M 3), oMs (q 4) (d 4), aI G (d 4) 9 (M 4), oMs (q 5) (d 5), aI G (d 5) 9 (M 5), oMs (q 6) (d 6), aI G (d 6) 9 (M 6), oMs (q 7) (d 7), aI G (d 7) 9 (M 7), oPe pe lc ls li lo dr p_62, oMs dr da, aI G da 9 f_66])) hS67 => ?_)
        clear hP65 hD65 hS65
        have w66_0 : f_66 = upd f_60 7 r64 := hw66
        refine lv_aload_n hx hb dX5_sendGreeting_146 rfl (lv_at hl1 3 rfl) ?_
        refine lv_aload_n hx hb dX5_sendGreeting_147 rfl (lv_at hl1 0 rfl) ?_
        refine kVv (wr := [oSe h pe ta sn sb s, oPe pe lc ls li lo dr p_62]) F hK hP67 hD67 hS67 hA hl1.1 (c_X4_send l G rh w q d rp M dr da f_66 L hL hL8) [1, 2, 3, 4, 5, 6, 7, 8, 9, 10, 11, 12, 13, 14, 15, 16, 17, 18, 20, 21] [0, 19] 4 0 gX5_sendGreeting_X4_send rfl 1 rfl (by decide +kernel) ⟨Nat.le_of_ble_eq_true rfl, Nat.le_of_ble_eq_true rfl⟩ ⟨Nat.zero_le _, Nat.zero_le _⟩ rfl rfl rfl rfl (by decide) (by decide) (by decide) (Nat.le_of_ble_eq_true rfl) rfl dX5_sendGreeting_148 (fun u68 H69 locs69 hw68 hP69 hD69 hS69 => ?_)
        obtain ⟨p_68, M_68⟩ := u68
        have hP69 : va_P G.1 vwCl ([oSe h pe ta sn sb s, oPe pe lc ls li lo dr p_62, oRo rh w p_68, aM G w 8 (krow q), oMs (q 0) (d 0), aI G (d 0) 9 (M_68 0), oMs (q 1) (d 1), aI G (d 1) 9 (M_68 1), oMs (q 2) (d 2), aI G (d 2) 9 (M_68 2), oMs (q 3) (d 3), aI G (d 3) 9 (M_68 3), oMs (q 4) (d 4), aI G (d 4) 9 (M_68 4), oMs (q 5) (d 5), aI G (d 5) 9 (M_68 5), oMs (q 6) (d 6), aI G (d 6) 9 (M_68 6), oMs (q 7) (d 7), aI G (d 7) 9 (M_68 7), oMs dr da, aI G da 9 f_66]) H69 := hP69
        have hD69 : va_D A ([oSe h pe ta sn sb s, oPe pe lc ls li lo dr p_62, oRo rh w p_68, aM G w 8 (krow q), oMs (q 0) (d 0), aI G (d 0) 9 (M_68 0), oMs (q 1) (d 1), aI G (d 1) 9 (M_68 1), oMs (q 2) (d 2), aI G (d 2) 9 (M_68 2), oMs (q 3) (d 3), aI G (d 3) 9 (M_68 3), oMs (q 4) (d 4), aI G (d 4) 9 (M_68 4), oMs (q 5) (d 5), aI G (d 5) 9 (M_68 5), oMs (q 6) (d 6), aI G (d 6) 9 (M_68 6), oMs (q 7) (d 7), aI G (d 7) 9 (M_68 7), oMs dr da, aI G da 9 f_66]) := hD69
        clear hP67 hD67 hS67
        have w68_0 : p_68 = ksendP L rp := hw68.1
        have w68_1 : M_68 = ksendM L M f_66 := hw68.2
        refine lv_aload_n hx hb dX5_sendGreeting_151 rfl (lv_at hl1 1 rfl) ?_
        refine kget F hK hP69 5 0 0 iX5 rfl rfl (by decide) (List.mem_of_getElem? (i := 1) rfl) rfl dX5_sendGreeting_152 ?_
        refine lv_iconst (v := 3) hx hb dX5_sendGreeting_155 (by decide) ?_
        refine kput F hK hP69 hD69 hS69 (ty0 := tyX3) 3 1 3 iX3 rfl tyX3_ok nmX3 (fun zz => [oSe h pe ta sn sb s, oPe pe lc ls li lo dr zz, oRo rh w p_68, aM G w 8 (krow q), oMs (q 0) (d 0), aI G (d 0) 9 (M_68 0), oMs (q 1) (d 1), aI G (d 1) 9 (M_68 1), oMs (q 2) (d 2), aI G (d 2) 9 (M_68 2), oMs (q 3) (d 3), aI G (d 3) 9 (M_68 3), oMs (q 4) (d 4), aI G (d 4) 9 (M_68 4), oMs (q 5) (d 5), aI G (d 5) 9 (M_68 5), oMs (q 6) (d 6), aI G (d 6) 9 (M_68 6), oMs (q 7) (d 7), aI G (d 7) 9 (M_68 7), oMs dr da, aI G da 9 f_66]) p_62 rfl (by decide) (List.mem_of_getElem? (i := 8) rfl) rfl rfl rfl (Nat.le_of_ble_eq_true rfl) rfl dX5_sendGreeting_156 (fun H70 locs70 p70 ep70 (hP70 : va_P G.1 vwCl ([oSe h pe ta sn sb s, oPe pe lc ls li lo dr p70, oRo rh w p_68, aM G w 8 (krow q), oMs (q 0) (d 0), aI G (d 0) 9 (M_68 0), oMs (q 1) (d 1), aI G (d 1) 9 (M_68 1), oMs (q 2) (d 2), aI G (d 2) 9 (M_68 2), oMs (q 3) (d 3), aI G (d 3) 9 (M_68 3), oMs (q 4) (d 4), aI G (d 4) 9 (M_68 4), oMs (q 5) (d 5), aI G (d 5) 9 (M_68 5), oMs (q 6) (d 6), aI G (d 6) 9 (M_68 6), oMs (q 7) (d 7), aI G (d 7) 9 (M_68 7), oMs dr da, aI G da 9 f_66]) H70) (hD70 : va_D A ([oSe h pe ta sn sb s, oPe pe lc ls li lo dr p70, oRo rh w p_68, aM G w 8 (krow q), oMs (q 0) (d 0), aI G (d 0) 9 (M_68 0), oMs (q 1) (d 1), aI G (d 1) 9 (M_68 1), oMs (q 2) (d 2), aI G (d 2) 9 (M_68 2), oMs (q 3) (d 3), aI G (d 3) 9 (M_68 3), oMs (q 4) (d 4), aI G (d 4) 9 (M_68 4), oMs (q 5) (d 5), aI G (d 5) 9 (M_68 5), oMs (q 6) (d 6), aI G (d 6) 9 (M_68 6), oMs (q 7) (d 7), aI G (d 7) 9 (M_68 7), oMs dr da, aI G da 9 f_66])) hS70 => ?_)
        clear hP69 hD69 hS69
        have q71 : (p70 = kgrP p f v) ∧ (f_66 = kgrF2 p f v) ∧ (p_68 = ksendP L rp) ∧ (M_68 = ksendM L M (kgrF2 p f v)) := by
          subst ep70
          subst w68_1
          subst w68_0
          subst w66_0
          subst w64_0
          subst w62_0
          subst w60_0
          subst w45_0
          subst w15_0
          subst w12_0
          subst w10_0
          subst w8_0
          subst w6_0
          subst w4_0
          subst w2_0
          first | (simp only [kgrP, kgrF2, kgrF, eq_true c14, c17, c47, eq_self, ↓reduceIte, and_self, and_true, true_and]; done) | (simp only [kgrP, kgrF2, kgrF, eq_true c14, c17, c47, eq_self, ↓reduceIte, and_self, and_true, true_and]; (try and_intros) <;> rfl) | exact ⟨rfl, rfl, rfl, rfl⟩
        exact kRv F hr hlocks hS70 dX5_sendGreeting_159 ⟨p70, f_66, p_68, M_68⟩ q71 (hP70.sub [0, 1, 20, 21, 2, 3, 4, 5, 6, 7, 8, 9, 10, 11, 12, 13, 14, 15, 16, 17, 18, 19] rfl) (hD70.sub [0, 1, 20, 21, 2, 3, 4, 5, 6, 7, 8, 9, 10, 11, 12, 13, 14, 15, 16, 17, 18, 19] (by decide) rfl)
  · refine lv_iconst (v := 1) hx hb dX5_sendGreeting_81 (by decide) ?_
    refine lv_goto (tgt := 86) hx hb dX5_sendGreeting_82 (by decide) ?_
    refine kVv (wr := [oSe h pe ta sn sb s, oPe pe lc ls li lo dr p, oRo rh w rp, aM G w 8 (krow q), oMs (q 0) (d 0), aI G (d 0) 9 (M 0), oMs (q 1) (d 1), aI G (d 1) 9 (M 1), oMs (q 2) (d 2), aI G (d 2) 9 (M 2), oMs (q 3) (d 3), aI G (d 3) 9 (M 3), oMs (q 4) (d 4), aI G (d 4) 9 (M 4), oMs (q 5) (d 5), aI G (d 5) 9 (M 5), oMs (q 6) (d 6), aI G (d 6) 9 (M 6), oMs (q 7) (d 7), aI G (d 7) 9 (M 7)]) F hK hP13 hD13 hS13 hA hl1.1 (c_X2_put l G dr da f_10 4 1 (by first | assumption | decide | omega)) [20, 21] [0, 1, 2, 3, 4, 5, 6, 7, 8, 9, 10, 11, 12, 13, 14, 15, 16, 17, 18, 19] 2 0 gX5_sendGreeting_X2_put rfl 2 rfl (by decide +kernel) ⟨Nat.le_of_ble_eq_true rfl, Nat.le_of_ble_eq_true rfl⟩ ⟨Nat.zero_le _, Nat.zero_le _⟩ rfl rfl rfl rfl (by decide) (by decide) (by decide) (Nat.le_of_ble_eq_true rfl) rfl dX5_sendGreeting_86 (fun f_72 H73 locs73 hw72 (hP73 : va_P G.1 vwCl ([oSe h pe ta sn sb s, oPe pe lc ls li lo dr p, oRo rh w rp, aM G w 8 (krow q), oMs (q 0) (d 0), aI G (d 0) 9 (M 0), oMs (q 1) (d 1), aI G (d 1) 9 (M 1), oMs (q 2) (d 2), aI G (d 2) 9 (M 2), oMs (q 3) (d 3), aI G (d 3) 9 (M 3), oMs (q 4) (d 4), aI G (d 4) 9 (M 4), oMs (q 5) (d 5), aI G (d 5) 9 (M 5), oMs (q 6) (d 6), aI G (d 6) 9 (M 6), oMs (q 7) (d 7), aI G (d 7) 9 (M 7), oMs dr da, aI G da 9 f_72]) H73) (hD73 : va_D A ([oSe h pe ta sn sb s, oPe pe lc ls li lo dr p, oRo rh w rp, aM G w 8 (krow q), oMs (q 0) (d 0), aI G (d 0) 9 (M 0), oMs (q 1) (d 1), aI G (d 1) 9 (M 1), oMs (q 2) (d 2), aI G (d 2) 9 (M 2), oMs (q 3) (d 3), aI G (d 3) 9 (M 3), oMs (q 4) (d 4), aI G (d 4) 9 (M 4), oMs (q 5) (d 5), aI G (d 5) 9 (M 5), oMs (q 6) (d 6), aI G (d 6) 9 (M 6), oMs (q 7) (d 7), aI G (d 7) 9 (M 7), oMs dr da, aI G da 9 f_72])) hS73 => ?_)
    clear hP13 hD13 hS13
    have w72_0 : f_72 = upd f_10 4 1 := hw72
    refine lv_aload_n hx hb dX5_sendGreeting_89 rfl (lv_at hl1 0 rfl) ?_
    refine lv_iconst (v := 5) hx hb dX5_sendGreeting_90 (by decide) ?_
    refine lv_aload_n hx hb dX5_sendGreeting_91 rfl (lv_at hl1 1 rfl) ?_
    refine kget F hK hP73 5 0 0 iX5 rfl rfl (by decide) (List.mem_of_getElem? (i := 1) rfl) rfl dX5_sendGreeting_92 ?_
    refine kget F hK hP73 3 1 8 iX3 rfl rfl (by decide) (List.mem_of_getElem? (i := 7) rfl) rfl dX5_sendGreeting_95 ?_
    refine lv_if_eq (tgt := 105) hx hb dX5_sendGreeting_98 (by decide) (fun c74 => ?_) (fun c74 => ?_)
    · refine lv_iconst (v := 0) hx hb dX5_sendGreeting_105 (by decide) ?_
      refine kVv (wr := [oSe h pe ta sn sb s, oPe pe lc ls li lo dr p, oRo rh w rp, aM G w 8 (krow q), oMs (q 0) (d 0), aI G (d 0) 9 (M 0), oMs (q 1) (d 1), aI G (d 1) 9 (M 1), oMs (q 2) (d 2), aI G (d 2) 9 (M 2), oMs (q 3) (d 3), aI G (d 3) 9 (M 3), oMs (q 4) (d 4), aI G (d 4) 9 (M 4), oMs (q 5) (d 5), aI G (d 5) 9 (M 5), oMs (q 6) (d 6), aI G (d 6) 9 (M 6), oMs (q 7) (d 7), aI G (d 7) 9 (M 7)]) F hK hP73 hD73 hS73 hA hl1.1 (c_X2_put l G dr da f_72 5 0 (by first | assumption | decide | omega)) [20, 21] [0, 1, 2, 3, 4, 5, 6, 7, 8, 9, 10, 11, 12, 13, 14, 15, 16, 17, 18, 19] 2 0 gX5_sendGreeting_X2_put rfl 2 rfl (by decide +kernel) ⟨Nat.le_of_ble_eq_true rfl, Nat.le_of_ble_eq_true rfl⟩ ⟨Nat.zero_le _, Nat.zero_le _⟩ rfl rfl rfl rfl (by decide) (by decide) (by decide) (Nat.le_of_ble_eq_true rfl) rfl dX5_sendGreeting_106 (fun f_75 H76 locs76 hw75 (hP76 : va_P G.1 vwCl ([oSe h pe ta sn sb s, oPe pe lc ls li lo dr p, oRo rh w rp, aM G w 8 (krow q), oMs (q 0) (d 0), aI G (d 0) 9 (M 0), oMs (q 1) (d 1), aI G (d 1) 9 (M 1), oMs (q 2) (d 2), aI G (d 2) 9 (M 2), oMs (q 3) (d 3), aI G (d 3) 9 (M 3), oMs (q 4) (d 4), aI G (d 4) 9 (M 4), oMs (q 5) (d 5), aI G (d 5) 9 (M 5), oMs (q 6) (d 6), aI G (d 6) 9 (M 6), oMs (q 7) (d 7), aI G (d 7) 9 (M 7), oMs dr da, aI G da 9 f_75]) H76) (hD76 : va_D A ([oSe h pe ta sn sb s, oPe pe lc ls li lo dr p, oRo rh w rp, aM G w 8 (krow q), oMs (q 0) (d 0), aI G (d 0) 9 (M 0), oMs (q 1) (d 1), aI G (d 1) 9 (M 1), oMs (q 2) (d 2), aI G (d 2) 9 (M 2), oMs (q 3) (d 3), aI G (d 3) 9 (M 3), oMs (q 4) (d 4), aI G (d 4) 9 (M 4), oMs (q 5) (d 5), aI G (d 5) 9 (M 5), oMs (q 6) (d 6), aI G (d 6) 9 (M 6), oMs (q 7) (d 7), aI G (d 7) 9 (M 7), oMs dr da, aI G da 9 f_75])) hS76 => ?_)
      clear hP73 hD73 hS73
      have w75_0 : f_75 = upd f_72 5 0 := hw75
      refine lv_aload_n hx hb dX5_sendGreeting_109 rfl (lv_at hl1 0 rfl) ?_
      refine lv_bipush (v := 6) hx hb dX5_sendGreeting_110 (by decide) ?_
      refine lv_iload_n hx hb dX5_sendGreeting_112 rfl (lv_at hl1 2 rfl) ?_
      refine lv_if_eq (tgt := 120) hx hb dX5_sendGreeting_113 (by decide) (fun c77 => ?_) (fun c77 => ?_)
      · refine lv_iconst (v := 0) hx hb dX5_sendGreeting_120 (by decide) ?_
        refine kVv (wr := [oSe h pe ta sn sb s, oPe pe lc ls li lo dr p, oRo rh w rp, aM G w 8 (krow q), oMs (q 0) (d 0), aI G (d 0) 9 (M 0), oMs (q 1) (d 1), aI G (d 1) 9 (M 1), oMs (q 2) (d 2), aI G (d 2) 9 (M 2), oMs (q 3) (d 3), aI G (d 3) 9 (M 3), oMs (q 4) (d 4), aI G (d 4) 9 (M 4), oMs (q 5) (d 5), aI G (d 5) 9 (M 5), oMs (q 6) (d 6), aI G (d 6) 9 (M 6), oMs (q 7) (d 7), aI G (d 7) 9 (M 7)]) F hK hP76 hD76 hS76 hA hl1.1 (c_X2_put l G dr da f_75 6 0 (by first | assumption | decide | omega)) [20, 21] [0, 1, 2, 3, 4, 5, 6, 7, 8, 9, 10, 11, 12, 13, 14, 15, 16, 17, 18, 19] 2 0 gX5_sendGreeting_X2_put rfl 2 rfl (by decide +kernel) ⟨Nat.le_of_ble_eq_true rfl, Nat.le_of_ble_eq_true rfl⟩ ⟨Nat.zero_le _, Nat.zero_le _⟩ rfl rfl rfl rfl (by decide) (by decide) (by decide) (Nat.le_of_ble_eq_true rfl) rfl dX5_sendGreeting_121 (fun f_78 H79 locs79 hw78 (hP79 : va_P G.1 vwCl ([oSe h pe ta sn sb s, oPe pe lc ls li lo dr p, oRo rh w rp, aM G w 8 (krow q), oMs (q 0) (d 0), aI G (d 0) 9 (M 0), oMs (q 1) (d 1), aI G (d 1) 9 (M 1), oMs (q 2) (d 2), aI G (d 2) 9 (M 2), oMs (q 3) (d 3), aI G (d 3) 9 (M 3), oMs (q 4) (d 4), aI G (d 4) 9 (M 4), oMs (q 5) (d 5), aI G (d 5) 9 (M 5), oMs (q 6) (d 6), aI G (d 6) 9 (M 6), oMs (q 7) (d 7), aI G (d 7) 9 (M 7), oMs dr da, aI G da 9 f_78]) H79) (hD79 : va_D A ([oSe h pe ta sn sb s, oPe pe lc ls li lo dr p, oRo rh w rp, aM G w 8 (krow q), oMs (q 0) (d 0), aI G (d 0) 9 (M 0), oMs (q 1) (d 1), aI G (d 1) 9 (M 1), oMs (q 2) (d 2), aI G (d 2) 9 (M 2), oMs (q 3) (d 3), aI G (d 3) 9 (M 3), oMs (q 4) (d 4), aI G (d 4) 9 (M 4), oMs (q 5) (d 5), aI G (d 5) 9 (M 5), oMs (q 6) (d 6), aI G (d 6) 9 (M 6), oMs (q 7) (d 7), aI G (d 7) 9 (M 7), oMs dr da, aI G da 9 f_78])) hS79 => ?_)
        clear hP76 hD76 hS76
        have w78_0 : f_78 = upd f_75 6 0 := hw78
        refine lv_aload_n hx hb dX5_sendGreeting_124 rfl (lv_at hl1 1 rfl) ?_
        refine kget F hK hP79 5 0 0 iX5 rfl rfl (by decide) (List.mem_of_getElem? (i := 1) rfl) rfl dX5_sendGreeting_125 ?_
        refine lv_aload_n hx hb dX5_sendGreeting_128 rfl (lv_at hl1 0 rfl) ?_
        refine kVv (wr := [oSe h pe ta sn sb s, oRo rh w rp, aM G w 8 (krow q), oMs (q 0) (d 0), aI G (d 0) 9 (M 0), oMs (q 1) (d 1), aI G (d 1) 9 (M 1), oMs (q 2) (d 2), aI G (d 2) 9 (M 2), oMs (q 3) (d 3), aI G (d 3) 9 (M 3), oMs (q 4) (d 4), aI G (d 4) 9 (M 4), oMs (q 5) (d 5), aI G (d 5) 9 (M 5), oMs (q 6) (d 6), aI G (d 6) 9 (M 6), oMs (q 7) (d 7), aI G (d 7) 9 (M 7)]) F hK hP79 hD79 hS79 hA hl1.1 (c_X3_takeIn l G pe lc ls li lo dr p dr da f_78) [1, 20, 21] [0, 2, 3, 4, 5, 6, 7, 8, 9, 10, 11, 12, 13, 14, 15, 16, 17, 18, 19] 3 0 gX5_sendGreeting_X3_takeIn rfl 1 rfl (by decide +kernel) ⟨Nat.le_of_ble_eq_true rfl, Nat.le_of_ble_eq_true rfl⟩ ⟨Nat.zero_le _, Nat.zero_le _⟩ rfl rfl rfl rfl (by decide) (by decide) (by decide) (Nat.le_of_ble_eq_true rfl) rfl dX5_sendGreeting_129 (fun p_80 H81 locs81 hw80 (hP81 : va_P G.1 vwCl ([oSe h pe ta sn sb s, oRo rh w rp, aM G w 8 (krow q), oMs (q 0) (d 0), aI G (d 0) 9 (M 0), oMs (q 1) (d 1), aI G (d 1) 9 (M 1), oMs (q 2) (d 2), aI G (d 2) 9 (M 2), oMs (q 3) (d 3), aI G (d 3) 9 (M 3), oMs (q 4) (d 4), aI G (d 4) 9 (M 4), oMs (q 5) (d 5), aI G (d 5) 9 (M 5), oMs (q 6) (d 6), aI G (d 6) 9 (M 6), oMs (q 7) (d 7), aI G (d 7) 9 (M 7), oPe pe lc ls li lo dr p_80, oMs dr da, aI G da 9 f_78]) H81) (hD81 : va_D A ([oSe h pe ta sn sb s, oRo rh w rp, aM G w 8 (krow q), oMs (q 0) (d 0), aI G (d 0) 9 (M 0), oMs (q 1) (d 1), aI G (d 1) 9 (M 1), oMs (q 2) (d 2), aI G (d 2) 9 (M 2), oMs (q 3) (d 3), aI G (d 3) 9 (M 3), oMs (q 4) (d 4), aI G (d 4) 9 (M 4), oMs (q 5) (d 5), aI G (d 5) 9 (M 5), oMs (q 6) (d 6), aI G (d 6) 9 (M 6), oMs (q 7) (d 7), aI G (d 7) 9 (M 7), oPe pe lc ls li lo dr p_80, oMs dr da, aI G da 9 f_78])) hS81 => ?_)
        clear hP79 hD79 hS79
        have w80_0 : p_80 = ktake p f_78 := hw80
        refine lv_aload_n hx hb dX5_sendGreeting_132 rfl (lv_at hl1 0 rfl) ?_
        refine lv_bipush (v := 7) hx hb dX5_sendGreeting_133 (by decide) ?_
        refine lv_aload_n hx hb dX5_sendGreeting_135 rfl (lv_at hl1 1 rfl) ?_
        refine kget F hK hP81 5 0 0 iX5 rfl rfl (by decide) (List.mem_of_getElem? (i := 1) rfl) rfl dX5_sendGreeting_136 ?_
        refine lv_iconst (v := 1) hx hb dX5_sendGreeting_139 (by decide) ?_
        refine kVi (wr := [oSe h pe ta sn sb s, oRo rh w rp, aM G w 8 (krow q), oMs (q 0) (d 0), aI G (d 0) 9 (M 0), oMs (q 1) (d 1), aI G (d 1) 9 (M 1), oMs (q 2) (d 2), aI G (d 2) 9 (M 2), oMs (q 3) (d 3), aI G (d 3) 9 (M 3), oMs (q 4) (d 4), aI G (d 4) 9 (M 4), oMs (q 5) (d 5), aI G (d 5) 9 (M 5), oMs (q 6) (d 6), aI G (d 6) 9 (M 6), oMs (q 7) (d 7), aI G (d 7) 9 (M 7), oMs dr da, aI G da 9 f_78]) F hK hP81 hD81 hS81 hA hl1.1 (c_X3_proof l G pe lc ls li lo dr p_80 1) [19] [0, 1, 2, 3, 4, 5, 6, 7, 8, 9, 10, 11, 12, 13, 14, 15, 16, 17, 18, 20, 21] 3 0 gX5_sendGreeting_X3_proof rfl 1 rfl (by decide +kernel) ⟨Nat.le_of_ble_eq_true rfl, Nat.le_of_ble_eq_true rfl⟩ ⟨Nat.zero_le _, Nat.zero_le _⟩ rfl rfl rfl rfl (by decide) (by decide) (by decide) (Nat.le_of_ble_eq_true rfl) rfl dX5_sendGreeting_140 (fun r82 u82 H83 locs83 hw82 (hP83 : va_P G.1 vwCl ([oSe h pe ta sn sb s, oRo rh w rp, aM G w 8 (krow q), oMs (q 0) (d 0), aI G (d 0) 9 (M 0), oMs (q 1) (d 1), aI G (d 1) 9 (M 1), oMs (q 2) (d 2), aI G (d 2) 9 (M 2), oMs (q 3) (d 3), aI G (d 3) 9 (M 3), oMs (q 4) (d 4), aI G (d 4) 9 (M 4), oMs (q 5) (d 5), aI G (d 5) 9 (M 5), oMs (q 6) (d 6), aI G (d 6) 9 (M 6), oMs (q 7) (d 7), aI G (d 7) 9 (M 7), oMs dr da, aI G da 9 f_78, oPe pe lc ls li lo dr p_80]) H83) (hD83 : va_D A ([oSe h pe ta sn sb s, oRo rh w rp, aM G w 8 (krow q), oMs (q 0) (d 0), aI G (d 0) 9 (M 0), oMs (q 1) (d 1), aI G (d 1) 9 (M 1), oMs (q 2) (d 2), aI G (d 2) 9 (M 2), oMs (q 3) (d 3), aI G (d 3) 9 (M 3), oMs (q 4) (d 4), aI G (d 4) 9 (M 4), oMs (q 5) (d 5), aI G (d 5) 9 (M 5), oMs (q 6) (d 6), aI G (d 6) 9 (M 6), oMs (q 7) (d 7), aI G (d 7) 9 (M 7), oMs dr da, aI G da 9 f_78, oPe pe lc ls li lo dr p_80])) hS83 => ?_)
        clear hP81 hD81 hS81
        have w82_0 : r82 = kproof p_80 1 := hw82
        refine kVv (wr := [oSe h pe ta sn sb s, oRo rh w rp, aM G w 8 (krow q), oMs (q 0) (d 0), aI G (d 0) 9 (M 0), oMs (q 1) (d 1), aI G (d 1) 9 (M 1), oMs (q 2) (d 2), aI G (d 2) 9 (M 2), oMs (q 3) (d 3), aI G (d 3) 9 (M 3), oMs (q 4) (d 4), aI G (d 4) 9 (M 4), oMs (q 5) (d 5), aI G (d 5) 9 (M 5), oMs (q 6) (d 6), aI G (d 6) 9 (M 6), oMs (q 7) (d 7), aI G (d 7) 9 (M 7), oPe pe lc ls li lo dr p_80]) F hK hP83 hD83 hS83 hA hl1.1 (c_X2_put l G dr da f_78 7 r82 (by first | assumption | decide | omega)) [19, 20] [0, 1, 2, 3, 4, 5, 6, 7, 8, 9, 10, 11, 12, 13, 14, 15, 16, 17, 18, 21] 2 0 gX5_sendGreeting_X2_put rfl 2 rfl (by decide +kernel) ⟨Nat.le_of_ble_eq_true rfl, Nat.le_of_ble_eq_true rfl⟩ ⟨Nat.zero_le _, Nat.zero_le _⟩ rfl rfl rfl rfl (by decide) (by decide) (by decide) (Nat.le_of_ble_eq_true rfl) rfl dX5_sendGreeting_143 (fun f_84 H85 locs85 hw84 (hP85 : va_P G.1 vwCl ([oSe h pe ta sn sb s, oRo rh w rp, aM G w 8 (krow q), oMs (q 0) (d 0), aI G (d 0) 9 (M 0), oMs (q 1) (d 1), aI G (d 1) 9 (M 1), oMs (q 2) (d 2), aI G (d 2) 9 (M 2), oMs (q 3) (d 3), aI G (d 3) 9 (M 3), oMs (q 4) (d 4), aI G (d 4) 9 (M 4), oMs (q 5) (d 5), aI G (d 5) 9 (M 5), oMs (q 6) (d 6), aI G (d 6) 9 (M 6), oMs (q 7) (d 7), aI G (d 7) 9 (M 7), oPe pe lc ls li lo dr p_80, oMs dr da, aI G da 9 f_84]) H85) (hD85 : va_D A ([oSe h pe ta sn sb s, oRo rh w rp, aM G w 8 (krow q), oMs (q 0) (d 0), aI G (d 0) 9 (M 0), oMs (q 1) (d 1), aI G (d 1) 9 (M 1), oMs (q 2) (d 2), aI G (d 2) 9 (M 2), oMs (q 3) (d 3), aI G (d 3) 9 (M 3), oMs (q 4) (d 4), aI G (d 4) 9 (M 4), oMs (q 5) (d 5), aI G (d 5) 9 (M 5), oMs (q 6) (d 6), aI G (d 6) 9 (M 6), oMs (q 7) (d 7), aI G (d 7) 9 (M 7), oPe pe lc ls li lo dr p_80, oMs dr da, aI G da 9 f_84])) hS85 => ?_)
        clear hP83 hD83 hS83
        have w84_0 : f_84 = upd f_78 7 r82 := hw84
        refine lv_aload_n hx hb dX5_sendGreeting_146 rfl (lv_at hl1 3 rfl) ?_
        refine lv_aload_n hx hb dX5_sendGreeting_147 rfl (lv_at hl1 0 rfl) ?_
        refine kVv (wr := [oSe h pe ta sn sb s, oPe pe lc ls li lo dr p_80]) F hK hP85 hD85 hS85 hA hl1.1 (c_X4_send l G rh w q d rp M dr da f_84 L hL hL8) [1, 2, 3, 4, 5, 6, 7, 8, 9, 10, 11, 12, 13, 14, 15, 16, 17, 18, 20, 21] [0, 19] 4 0 gX5_sendGreeting_X4_send rfl 1 rfl (by decide +kernel) ⟨Nat.le_of_ble_eq_true rfl, Nat.le_of_ble_eq_true rfl⟩ ⟨Nat.zero_le _, Nat.zero_le _⟩ rfl rfl rfl rfl (by decide) (by decide) (by decide) (Nat.le_of_ble_eq_true rfl) rfl dX5_sendGreeting_148 (fun u86 H87 locs87 hw86 hP87 hD87 hS87 => ?_)
        obtain ⟨p_86, M_86⟩ := u86
        have hP87 : va_P G.1 vwCl ([oSe h pe ta sn sb s, oPe pe lc ls li lo dr p_80, oRo rh w p_86, aM G w 8 (krow q), oMs (q 0) (d 0), aI G (d 0) 9 (M_86 0), oMs (q 1) (d 1), aI G (d 1) 9 (M_86 1), oMs (q 2) (d 2), aI G (d 2) 9 (M_86 2), oMs (q 3) (d 3), aI G (d 3) 9 (M_86 3), oMs (q 4) (d 4), aI G (d 4) 9 (M_86 4), oMs (q 5) (d 5), aI G (d 5) 9 (M_86 5), oMs (q 6) (d 6), aI G (d 6) 9 (M_86 6), oMs (q 7) (d 7), aI G (d 7) 9 (M_86 7), oMs dr da, aI G da 9 f_84]) H87 := hP87
        have hD87 : va_D A ([oSe h pe ta sn sb s, oPe pe lc ls li lo dr p_80, oRo rh w p_86, aM G w 8 (krow q), oMs (q 0) (d 0), aI G (d 0) 9 (M_86 0), oMs (q 1) (d 1), aI G (d 1) 9 (M_86 1), oMs (q 2) (d 2), aI G (d 2) 9 (M_86 2), oMs (q 3) (d 3), aI G (d 3) 9 (M_86 3), oMs (q 4) (d 4), aI G (d 4) 9 (M_86 4), oMs (q 5) (d 5), aI G (d 5) 9 (M_86 5), oMs (q 6) (d 6), aI G (d 6) 9 (M_86 6), oMs (q 7) (d 7), aI G (d 7) 9 (M_86 7), oMs dr da, aI G da 9 f_84]) := hD87
        clear hP85 hD85 hS85
        have w86_0 : p_86 = ksendP L rp := hw86.1
        have w86_1 : M_86 = ksendM L M f_84 := hw86.2
        refine lv_aload_n hx hb dX5_sendGreeting_151 rfl (lv_at hl1 1 rfl) ?_
        refine kget F hK hP87 5 0 0 iX5 rfl rfl (by decide) (List.mem_of_getElem? (i := 1) rfl) rfl dX5_sendGreeting_152 ?_
        refine lv_iconst (v := 3) hx hb dX5_sendGreeting_155 (by decide) ?_
        refine kput F hK hP87 hD87 hS87 (ty0 := tyX3) 3 1 3 iX3 rfl tyX3_ok nmX3 (fun zz => [oSe h pe ta sn sb s, oPe pe lc ls li lo dr zz, oRo rh w p_86, aM G w 8 (krow q), oMs (q 0) (d 0), aI G (d 0) 9 (M_86 0), oMs (q 1) (d 1), aI G (d 1) 9 (M_86 1), oMs (q 2) (d 2), aI G (d 2) 9 (M_86 2), oMs (q 3) (d 3), aI G (d 3) 9 (M_86 3), oMs (q 4) (d 4), aI G (d 4) 9 (M_86 4), oMs (q 5) (d 5), aI G (d 5) 9 (M_86 5), oMs (q 6) (d 6), aI G (d 6) 9 (M_86 6), oMs (q 7) (d 7), aI G (d 7) 9 (M_86 7), oMs dr da, aI G da 9 f_84]) p_80 rfl (by decide) (List.mem_of_getElem? (i := 8) rfl) rfl rfl rfl (Nat.le_of_ble_eq_true rfl) rfl dX5_sendGreeting_156 (fun H88 locs88 p88 ep88 (hP88 : va_P G.1 vwCl ([oSe h pe ta sn sb s, oPe pe lc ls li lo dr p88, oRo rh w p_86, aM G w 8 (krow q), oMs (q 0) (d 0), aI G (d 0) 9 (M_86 0), oMs (q 1) (d 1), aI G (d 1) 9 (M_86 1), oMs (q 2) (d 2), aI G (d 2) 9 (M_86 2), oMs (q 3) (d 3), aI G (d 3) 9 (M_86 3), oMs (q 4) (d 4), aI G (d 4) 9 (M_86 4), oMs (q 5) (d 5), aI G (d 5) 9 (M_86 5), oMs (q 6) (d 6), aI G (d 6) 9 (M_86 6), oMs (q 7) (d 7), aI G (d 7) 9 (M_86 7), oMs dr da, aI G da 9 f_84]) H88) (hD88 : va_D A ([oSe h pe ta sn sb s, oPe pe lc ls li lo dr p88, oRo rh w p_86, aM G w 8 (krow q), oMs (q 0) (d 0), aI G (d 0) 9 (M_86 0), oMs (q 1) (d 1), aI G (d 1) 9 (M_86 1), oMs (q 2) (d 2), aI G (d 2) 9 (M_86 2), oMs (q 3) (d 3), aI G (d 3) 9 (M_86 3), oMs (q 4) (d 4), aI G (d 4) 9 (M_86 4), oMs (q 5) (d 5), aI G (d 5) 9 (M_86 5), oMs (q 6) (d 6), aI G (d 6) 9 (M_86 6), oMs (q 7) (d 7), aI G (d 7) 9 (M_86 7), oMs dr da, aI G da 9 f_84])) hS88 => ?_)
        clear hP87 hD87 hS87
        have q89 : (p88 = kgrP p f v) ∧ (f_84 = kgrF2 p f v) ∧ (p_86 = ksendP L rp) ∧ (M_86 = ksendM L M (kgrF2 p f v)) := by
          subst ep88
          subst w86_1
          subst w86_0
          subst w84_0
          subst w82_0
          subst w80_0
          subst w78_0
          subst w75_0
          subst w72_0
          subst w12_0
          subst w10_0
          subst w8_0
          subst w6_0
          subst w4_0
          subst w2_0
          first | (simp only [kgrP, kgrF2, kgrF, c14, eq_true c74, eq_true c77, eq_self, ↓reduceIte, and_self, and_true, true_and]; done) | (simp only [kgrP, kgrF2, kgrF, c14, eq_true c74, eq_true c77, eq_self, ↓reduceIte, and_self, and_true, true_and]; (try and_intros) <;> rfl) | exact ⟨rfl, rfl, rfl, rfl⟩
        exact kRv F hr hlocks hS88 dX5_sendGreeting_159 ⟨p88, f_84, p_86, M_86⟩ q89 (hP88.sub [0, 1, 20, 21, 2, 3, 4, 5, 6, 7, 8, 9, 10, 11, 12, 13, 14, 15, 16, 17, 18, 19] rfl) (hD88.sub [0, 1, 20, 21, 2, 3, 4, 5, 6, 7, 8, 9, 10, 11, 12, 13, 14, 15, 16, 17, 18, 19] (by decide) rfl)
      · refine lv_iconst (v := 1) hx hb dX5_sendGreeting_116 (by decide) ?_
        refine lv_goto (tgt := 121) hx hb dX5_sendGreeting_117 (by decide) ?_
        refine kVv (wr := [oSe h pe ta sn sb s, oPe pe lc ls li lo dr p, oRo rh w rp, aM G w 8 (krow q), oMs (q 0) (d 0), aI G (d 0) 9 (M 0), oMs (q 1) (d 1), aI G (d 1) 9 (M 1), oMs (q 2) (d 2), aI G (d 2) 9 (M 2), oMs (q 3) (d 3), aI G (d 3) 9 (M 3), oMs (q 4) (d 4), aI G (d 4) 9 (M 4), oMs (q 5) (d 5), aI G (d 5) 9 (M 5), oMs (q 6) (d 6), aI G (d 6) 9 (M 6), oMs (q 7) (d 7), aI G (d 7) 9 (M 7)]) F hK hP76 hD76 hS76 hA hl1.1 (c_X2_put l G dr da f_75 6 1 (by first | assumption | decide | omega)) [20, 21] [0, 1, 2, 3, 4, 5, 6, 7, 8, 9, 10, 11, 12, 13, 14, 15, 16, 17, 18, 19] 2 0 gX5_sendGreeting_X2_put rfl 2 rfl (by decide +kernel) ⟨Nat.le_of_ble_eq_true rfl, Nat.le_of_ble_eq_true rfl⟩ ⟨Nat.zero_le _, Nat.zero_le _⟩ rfl rfl rfl rfl (by decide) (by decide) (by decide) (Nat.le_of_ble_eq_true rfl) rfl dX5_sendGreeting_121 (fun f_90 H91 locs91 hw90 (hP91 : va_P G.1 vwCl ([oSe h pe ta sn sb s, oPe pe lc ls li lo dr p, oRo rh w rp, aM G w 8 (krow q), oMs (q 0) (d 0), aI G (d 0) 9 (M 0), oMs (q 1) (d 1), aI G (d 1) 9 (M 1), oMs (q 2) (d 2), aI G (d 2) 9 (M 2), oMs (q 3) (d 3), aI G (d 3) 9 (M 3), oMs (q 4) (d 4), aI G (d 4) 9 (M 4), oMs (q 5) (d 5), aI G (d 5) 9 (M 5), oMs (q 6) (d 6), aI G (d 6) 9 (M 6), oMs (q 7) (d 7), aI G (d 7) 9 (M 7), oMs dr da, aI G da 9 f_90]) H91) (hD91 : va_D A ([oSe h pe ta sn sb s, oPe pe lc ls li lo dr p, oRo rh w rp, aM G w 8 (krow q), oMs (q 0) (d 0), aI G (d 0) 9 (M 0), oMs (q 1) (d 1), aI G (d 1) 9 (M 1), oMs (q 2) (d 2), aI G (d 2) 9 (M 2), oMs (q 3) (d 3), aI G (d 3) 9 (M 3), oMs (q 4) (d 4), aI G (d 4) 9 (M 4), oMs (q 5) (d 5), aI G (d 5) 9 (M 5), oMs (q 6) (d 6), aI G (d 6) 9 (M 6), oMs (q 7) (d 7), aI G (d 7) 9 (M 7), oMs dr da, aI G da 9 f_90])) hS91 => ?_)
        clear hP76 hD76 hS76
        have w90_0 : f_90 = upd f_75 6 1 := hw90
        refine lv_aload_n hx hb dX5_sendGreeting_124 rfl (lv_at hl1 1 rfl) ?_
        refine kget F hK hP91 5 0 0 iX5 rfl rfl (by decide) (List.mem_of_getElem? (i := 1) rfl) rfl dX5_sendGreeting_125 ?_
        refine lv_aload_n hx hb dX5_sendGreeting_128 rfl (lv_at hl1 0 rfl) ?_
        refine kVv (wr := [oSe h pe ta sn sb s, oRo rh w rp, aM G w 8 (krow q), oMs (q 0) (d 0), aI G (d 0) 9 (M 0), oMs (q 1) (d 1), aI G (d 1) 9 (M 1), oMs (q 2) (d 2), aI G (d 2) 9 (M 2), oMs (q 3) (d 3), aI G (d 3) 9 (M 3), oMs (q 4) (d 4), aI G (d 4) 9 (M 4), oMs (q 5) (d 5), aI G (d 5) 9 (M 5), oMs (q 6) (d 6), aI G (d 6) 9 (M 6), oMs (q 7) (d 7), aI G (d 7) 9 (M 7)]) F hK hP91 hD91 hS91 hA hl1.1 (c_X3_takeIn l G pe lc ls li lo dr p dr da f_90) [1, 20, 21] [0, 2, 3, 4, 5, 6, 7, 8, 9, 10, 11, 12, 13, 14, 15, 16, 17, 18, 19] 3 0 gX5_sendGreeting_X3_takeIn rfl 1 rfl (by decide +kernel) ⟨Nat.le_of_ble_eq_true rfl, Nat.le_of_ble_eq_true rfl⟩ ⟨Nat.zero_le _, Nat.zero_le _⟩ rfl rfl rfl rfl (by decide) (by decide) (by decide) (Nat.le_of_ble_eq_true rfl) rfl dX5_sendGreeting_129 (fun p_92 H93 locs93 hw92 (hP93 : va_P G.1 vwCl ([oSe h pe ta sn sb s, oRo rh w rp, aM G w 8 (krow q), oMs (q 0) (d 0), aI G (d 0) 9 (M 0), oMs (q 1) (d 1), aI G (d 1) 9 (M 1), oMs (q 2) (d 2), aI G (d 2) 9 (M 2), oMs (q 3) (d 3), aI G (d 3) 9 (M 3), oMs (q 4) (d 4), aI G (d 4) 9 (M 4), oMs (q 5) (d 5), aI G (d 5) 9 (M 5), oMs (q 6) (d 6), aI G (d 6) 9 (M 6), oMs (q 7) (d 7), aI G (d 7) 9 (M 7), oPe pe lc ls li lo dr p_92, oMs dr da, aI G da 9 f_90]) H93) (hD93 : va_D A ([oSe h pe ta sn sb s, oRo rh w rp, aM G w 8 (krow q), oMs (q 0) (d 0), aI G (d 0) 9 (M 0), oMs (q 1) (d 1), aI G (d 1) 9 (M 1), oMs (q 2) (d 2), aI G (d 2) 9 (M 2), oMs (q 3) (d 3), aI G (d 3) 9 (M 3), oMs (q 4) (d 4), aI G (d 4) 9 (M 4), oMs (q 5) (d 5), aI G (d 5) 9 (M 5), oMs (q 6) (d 6), aI G (d 6) 9 (M 6), oMs (q 7) (d 7), aI G (d 7) 9 (M 7), oPe pe lc ls li lo dr p_92, oMs dr da, aI G da 9 f_90])) hS93 => ?_)
        clear hP91 hD91 hS91
        have w92_0 : p_92 = ktake p f_90 := hw92
        refine lv_aload_n hx hb dX5_sendGreeting_132 rfl (lv_at hl1 0 rfl) ?_
        refine lv_bipush (v := 7) hx hb dX5_sendGreeting_133 (by decide) ?_
        refine lv_aload_n hx hb dX5_sendGreeting_135 rfl (lv_at hl1 1 rfl) ?_
        refine kget F hK hP93 5 0 0 iX5 rfl rfl (by decide) (List.mem_of_getElem? (i := 1) rfl) rfl dX5_sendGreeting_136 ?_
        refine lv_iconst (v := 1) hx hb dX5_sendGreeting_139 (by decide) ?_
        refine kVi (wr := [oSe h pe ta sn sb s, oRo rh w rp, aM G w 8 (krow q), oMs (q 0) (d 0), aI G (d 0) 9 (M 0), oMs (q 1) (d 1), aI G (d 1) 9 (M 1), oMs (q 2) (d 2), aI G (d 2) 9 (M 2), oMs (q 3) (d 3), aI G (d 3) 9 (M 3), oMs (q 4) (d 4), aI G (d 4) 9 (M 4), oMs (q 5) (d 5), aI G (d 5) 9 (M 5), oMs (q 6) (d 6), aI G (d 6) 9 (M 6), oMs (q 7) (d 7), aI G (d 7) 9 (M 7), oMs dr da, aI G da 9 f_90]) F hK hP93 hD93 hS93 hA hl1.1 (c_X3_proof l G pe lc ls li lo dr p_92 1) [19] [0, 1, 2, 3, 4, 5, 6, 7, 8, 9, 10, 11, 12, 13, 14, 15, 16, 17, 18, 20, 21] 3 0 gX5_sendGreeting_X3_proof rfl 1 rfl (by decide +kernel) ⟨Nat.le_of_ble_eq_true rfl, Nat.le_of_ble_eq_true rfl⟩ ⟨Nat.zero_le _, Nat.zero_le _⟩ rfl rfl rfl rfl (by decide) (by decide) (by decide) (Nat.le_of_ble_eq_true rfl) rfl dX5_sendGreeting_140 (fun r94 u94 H95 locs95 hw94 (hP95 : va_P G.1 vwCl ([oSe h pe ta sn sb s, oRo rh w rp, aM G w 8 (krow q), oMs (q 0) (d 0), aI G (d 0) 9 (M 0), oMs (q 1) (d 1), aI G (d 1) 9 (M 1), oMs (q 2) (d 2), aI G (d 2) 9 (M 2), oMs (q 3) (d 3), aI G (d 3) 9 (M 3), oMs (q 4) (d 4), aI G (d 4) 9 (M 4), oMs (q 5) (d 5), aI G (d 5) 9 (M 5), oMs (q 6) (d 6), aI G (d 6) 9 (M 6), oMs (q 7) (d 7), aI G (d 7) 9 (M 7), oMs dr da, aI G da 9 f_90, oPe pe lc ls li lo dr p_92]) H95) (hD95 : va_D A ([oSe h pe ta sn sb s, oRo rh w rp, aM G w 8 (krow q), oMs (q 0) (d 0), aI G (d 0) 9 (M 0), oMs (q 1) (d 1), aI G (d 1) 9 (M 1), oMs (q 2) (d 2), aI G (d 2) 9 (M 2), oMs (q 3) (d 3), aI G (d 3) 9 (M 3), oMs (q 4) (d 4), aI G (d 4) 9 (M 4), oMs (q 5) (d 5), aI G (d 5) 9 (M 5), oMs (q 6) (d 6), aI G (d 6) 9 (M 6), oMs (q 7) (d 7), aI G (d 7) 9 (M 7), oMs dr da, aI G da 9 f_90, oPe pe lc ls li lo dr p_92])) hS95 => ?_)
        clear hP93 hD93 hS93
        have w94_0 : r94 = kproof p_92 1 := hw94
        refine kVv (wr := [oSe h pe ta sn sb s, oRo rh w rp, aM G w 8 (krow q), oMs (q 0) (d 0), aI G (d 0) 9 (M 0), oMs (q 1) (d 1), aI G (d 1) 9 (M 1), oMs (q 2) (d 2), aI G (d 2) 9 (M 2), oMs (q 3) (d 3), aI G (d 3) 9 (M 3), oMs (q 4) (d 4), aI G (d 4) 9 (M 4), oMs (q 5) (d 5), aI G (d 5) 9 (M 5), oMs (q 6) (d 6), aI G (d 6) 9 (M 6), oMs (q 7) (d 7), aI G (d 7) 9 (M 7), oPe pe lc ls li lo dr p_92]) F hK hP95 hD95 hS95 hA hl1.1 (c_X2_put l G dr da f_90 7 r94 (by first | assumption | decide | omega)) [19, 20] [0, 1, 2, 3, 4, 5, 6, 7, 8, 9, 10, 11, 12, 13, 14, 15, 16, 17, 18, 21] 2 0 gX5_sendGreeting_X2_put rfl 2 rfl (by decide +kernel) ⟨Nat.le_of_ble_eq_true rfl, Nat.le_of_ble_eq_true rfl⟩ ⟨Nat.zero_le _, Nat.zero_le _⟩ rfl rfl rfl rfl (by decide) (by decide) (by decide) (Nat.le_of_ble_eq_true rfl) rfl dX5_sendGreeting_143 (fun f_96 H97 locs97 hw96 (hP97 : va_P G.1 vwCl ([oSe h pe ta sn sb s, oRo rh w rp, aM G w 8 (krow q), oMs (q 0) (d 0), aI G (d 0) 9 (M 0), oMs (q 1) (d 1), aI G (d 1) 9 (M 1), oMs (q 2) (d 2), aI G (d 2) 9 (M 2), oMs (q 3) (d 3), aI G (d 3) 9 (M 3), oMs (q 4) (d 4), aI G (d 4) 9 (M 4), oMs (q 5) (d 5), aI G (d 5) 9 (M 5), oMs (q 6) (d 6), aI G (d 6) 9 (M 6), oMs (q 7) (d 7), aI G (d 7) 9 (M 7), oPe pe lc ls li lo dr p_92, oMs dr da, aI G da 9 f_96]) H97) (hD97 : va_D A ([oSe h pe ta sn sb s, oRo rh w rp, aM G w 8 (krow q), oMs (q 0) (d 0), aI G (d 0) 9 (M 0), oMs (q 1) (d 1), aI G (d 1) 9 (M 1), oMs (q 2) (d 2), aI G (d 2) 9 (M 2), oMs (q 3) (d 3), aI G (d 3) 9 (M 3), oMs (q 4) (d 4), aI G (d 4) 9 (M 4), oMs (q 5) (d 5), aI G (d 5) 9 (M 5), oMs (q 6) (d 6), aI G (d 6) 9 (M 6), oMs (q 7) (d 7), aI G (d 7) 9 (M 7), oPe pe lc ls li lo dr p_92, oMs dr da, aI G da 9 f_96])) hS97 => ?_)
        clear hP95 hD95 hS95
        have w96_0 : f_96 = upd f_90 7 r94 := hw96
        refine lv_aload_n hx hb dX5_sendGreeting_146 rfl (lv_at hl1 3 rfl) ?_
        refine lv_aload_n hx hb dX5_sendGreeting_147 rfl (lv_at hl1 0 rfl) ?_
        refine kVv (wr := [oSe h pe ta sn sb s, oPe pe lc ls li lo dr p_92]) F hK hP97 hD97 hS97 hA hl1.1 (c_X4_send l G rh w q d rp M dr da f_96 L hL hL8) [1, 2, 3, 4, 5, 6, 7, 8, 9, 10, 11, 12, 13, 14, 15, 16, 17, 18, 20, 21] [0, 19] 4 0 gX5_sendGreeting_X4_send rfl 1 rfl (by decide +kernel) ⟨Nat.le_of_ble_eq_true rfl, Nat.le_of_ble_eq_true rfl⟩ ⟨Nat.zero_le _, Nat.zero_le _⟩ rfl rfl rfl rfl (by decide) (by decide) (by decide) (Nat.le_of_ble_eq_true rfl) rfl dX5_sendGreeting_148 (fun u98 H99 locs99 hw98 hP99 hD99 hS99 => ?_)
        obtain ⟨p_98, M_98⟩ := u98
        have hP99 : va_P G.1 vwCl ([oSe h pe ta sn sb s, oPe pe lc ls li lo dr p_92, oRo rh w p_98, aM G w 8 (krow q), oMs (q 0) (d 0), aI G (d 0) 9 (M_98 0), oMs (q 1) (d 1), aI G (d 1) 9 (M_98 1), oMs (q 2) (d 2), aI G (d 2) 9 (M_98 2), oMs (q 3) (d 3), aI G (d 3) 9 (M_98 3), oMs (q 4) (d 4), aI G (d 4) 9 (M_98 4), oMs (q 5) (d 5), aI G (d 5) 9 (M_98 5), oMs (q 6) (d 6), aI G (d 6) 9 (M_98 6), oMs (q 7) (d 7), aI G (d 7) 9 (M_98 7), oMs dr da, aI G da 9 f_96]) H99 := hP99
        have hD99 : va_D A ([oSe h pe ta sn sb s, oPe pe lc ls li lo dr p_92, oRo rh w p_98, aM G w 8 (krow q), oMs (q 0) (d 0), aI G (d 0) 9 (M_98 0), oMs (q 1) (d 1), aI G (d 1) 9 (M_98 1), oMs (q 2) (d 2), aI G (d 2) 9 (M_98 2), oMs (q 3) (d 3), aI G (d 3) 9 (M_98 3), oMs (q 4) (d 4), aI G (d 4) 9 (M_98 4), oMs (q 5) (d 5), aI G (d 5) 9 (M_98 5), oMs (q 6) (d 6), aI G (d 6) 9 (M_98 6), oMs (q 7) (d 7), aI G (d 7) 9 (M_98 7), oMs dr da, aI G da 9 f_96]) := hD99
        clear hP97 hD97 hS97
        have w98_0 : p_98 = ksendP L rp := hw98.1
        have w98_1 : M_98 = ksendM L M f_96 := hw98.2
        refine lv_aload_n hx hb dX5_sendGreeting_151 rfl (lv_at hl1 1 rfl) ?_
        refine kget F hK hP99 5 0 0 iX5 rfl rfl (by decide) (List.mem_of_getElem? (i := 1) rfl) rfl dX5_sendGreeting_152 ?_
        refine lv_iconst (v := 3) hx hb dX5_sendGreeting_155 (by decide) ?_
        refine kput F hK hP99 hD99 hS99 (ty0 := tyX3) 3 1 3 iX3 rfl tyX3_ok nmX3 (fun zz => [oSe h pe ta sn sb s, oPe pe lc ls li lo dr zz, oRo rh w p_98, aM G w 8 (krow q), oMs (q 0) (d 0), aI G (d 0) 9 (M_98 0), oMs (q 1) (d 1), aI G (d 1) 9 (M_98 1), oMs (q 2) (d 2), aI G (d 2) 9 (M_98 2), oMs (q 3) (d 3), aI G (d 3) 9 (M_98 3), oMs (q 4) (d 4), aI G (d 4) 9 (M_98 4), oMs (q 5) (d 5), aI G (d 5) 9 (M_98 5), oMs (q 6) (d 6), aI G (d 6) 9 (M_98 6), oMs (q 7) (d 7), aI G (d 7) 9 (M_98 7), oMs dr da, aI G da 9 f_96]) p_92 rfl (by decide) (List.mem_of_getElem? (i := 8) rfl) rfl rfl rfl (Nat.le_of_ble_eq_true rfl) rfl dX5_sendGreeting_156 (fun H100 locs100 p100 ep100 (hP100 : va_P G.1 vwCl ([oSe h pe ta sn sb s, oPe pe lc ls li lo dr p100, oRo rh w p_98, aM G w 8 (krow q), oMs (q 0) (d 0), aI G (d 0) 9 (M_98 0), oMs (q 1) (d 1), aI G (d 1) 9 (M_98 1), oMs (q 2) (d 2), aI G (d 2) 9 (M_98 2), oMs (q 3) (d 3), aI G (d 3) 9 (M_98 3), oMs (q 4) (d 4), aI G (d 4) 9 (M_98 4), oMs (q 5) (d 5), aI G (d 5) 9 (M_98 5), oMs (q 6) (d 6), aI G (d 6) 9 (M_98 6), oMs (q 7) (d 7), aI G (d 7) 9 (M_98 7), oMs dr da, aI G da 9 f_96]) H100) (hD100 : va_D A ([oSe h pe ta sn sb s, oPe pe lc ls li lo dr p100, oRo rh w p_98, aM G w 8 (krow q), oMs (q 0) (d 0), aI G (d 0) 9 (M_98 0), oMs (q 1) (d 1), aI G (d 1) 9 (M_98 1), oMs (q 2) (d 2), aI G (d 2) 9 (M_98 2), oMs (q 3) (d 3), aI G (d 3) 9 (M_98 3), oMs (q 4) (d 4), aI G (d 4) 9 (M_98 4), oMs (q 5) (d 5), aI G (d 5) 9 (M_98 5), oMs (q 6) (d 6), aI G (d 6) 9 (M_98 6), oMs (q 7) (d 7), aI G (d 7) 9 (M_98 7), oMs dr da, aI G da 9 f_96])) hS100 => ?_)
        clear hP99 hD99 hS99
        have q101 : (p100 = kgrP p f v) ∧ (f_96 = kgrF2 p f v) ∧ (p_98 = ksendP L rp) ∧ (M_98 = ksendM L M (kgrF2 p f v)) := by
          subst ep100
          subst w98_1
          subst w98_0
          subst w96_0
          subst w94_0
          subst w92_0
          subst w90_0
          subst w75_0
          subst w72_0
          subst w12_0
          subst w10_0
          subst w8_0
          subst w6_0
          subst w4_0
          subst w2_0
          first | (simp only [kgrP, kgrF2, kgrF, c14, eq_true c74, c77, eq_self, ↓reduceIte, and_self, and_true, true_and]; done) | (simp only [kgrP, kgrF2, kgrF, c14, eq_true c74, c77, eq_self, ↓reduceIte, and_self, and_true, true_and]; (try and_intros) <;> rfl) | exact ⟨rfl, rfl, rfl, rfl⟩
        exact kRv F hr hlocks hS100 dX5_sendGreeting_159 ⟨p100, f_96, p_98, M_98⟩ q101 (hP100.sub [0, 1, 20, 21, 2, 3, 4, 5, 6, 7, 8, 9, 10, 11, 12, 13, 14, 15, 16, 17, 18, 19] rfl) (hD100.sub [0, 1, 20, 21, 2, 3, 4, 5, 6, 7, 8, 9, 10, 11, 12, 13, 14, 15, 16, 17, 18, 19] (by decide) rfl)
    · refine lv_iconst (v := 1) hx hb dX5_sendGreeting_101 (by decide) ?_
      refine lv_goto (tgt := 106) hx hb dX5_sendGreeting_102 (by decide) ?_
      refine kVv (wr := [oSe h pe ta sn sb s, oPe pe lc ls li lo dr p, oRo rh w rp, aM G w 8 (krow q), oMs (q 0) (d 0), aI G (d 0) 9 (M 0), oMs (q 1) (d 1), aI G (d 1) 9 (M 1), oMs (q 2) (d 2), aI G (d 2) 9 (M 2), oMs (q 3) (d 3), aI G (d 3) 9 (M 3), oMs (q 4) (d 4), aI G (d 4) 9 (M 4), oMs (q 5) (d 5), aI G (d 5) 9 (M 5), oMs (q 6) (d 6), aI G (d 6) 9 (M 6), oMs (q 7) (d 7), aI G (d 7) 9 (M 7)]) F hK hP73 hD73 hS73 hA hl1.1 (c_X2_put l G dr da f_72 5 1 (by first | assumption | decide | omega)) [20, 21] [0, 1, 2, 3, 4, 5, 6, 7, 8, 9, 10, 11, 12, 13, 14, 15, 16, 17, 18, 19] 2 0 gX5_sendGreeting_X2_put rfl 2 rfl (by decide +kernel) ⟨Nat.le_of_ble_eq_true rfl, Nat.le_of_ble_eq_true rfl⟩ ⟨Nat.zero_le _, Nat.zero_le _⟩ rfl rfl rfl rfl (by decide) (by decide) (by decide) (Nat.le_of_ble_eq_true rfl) rfl dX5_sendGreeting_106 (fun f_102 H103 locs103 hw102 (hP103 : va_P G.1 vwCl ([oSe h pe ta sn sb s, oPe pe lc ls li lo dr p, oRo rh w rp, aM G w 8 (krow q), oMs (q 0) (d 0), aI G (d 0) 9 (M 0), oMs (q 1) (d 1), aI G (d 1) 9 (M 1), oMs (q 2) (d 2), aI G (d 2) 9 (M 2), oMs (q 3) (d 3), aI G (d 3) 9 (M 3), oMs (q 4) (d 4), aI G (d 4) 9 (M 4), oMs (q 5) (d 5), aI G (d 5) 9 (M 5), oMs (q 6) (d 6), aI G (d 6) 9 (M 6), oMs (q 7) (d 7), aI G (d 7) 9 (M 7), oMs dr da, aI G da 9 f_102]) H103) (hD103 : va_D A ([oSe h pe ta sn sb s, oPe pe lc ls li lo dr p, oRo rh w rp, aM G w 8 (krow q), oMs (q 0) (d 0), aI G (d 0) 9 (M 0), oMs (q 1) (d 1), aI G (d 1) 9 (M 1), oMs (q 2) (d 2), aI G (d 2) 9 (M 2), oMs (q 3) (d 3), aI G (d 3) 9 (M 3), oMs (q 4) (d 4), aI G (d 4) 9 (M 4), oMs (q 5) (d 5), aI G (d 5) 9 (M 5), oMs (q 6) (d 6), aI G (d 6) 9 (M 6), oMs (q 7) (d 7), aI G (d 7) 9 (M 7), oMs dr da, aI G da 9 f_102])) hS103 => ?_)
      clear hP73 hD73 hS73
      have w102_0 : f_102 = upd f_72 5 1 := hw102
      refine lv_aload_n hx hb dX5_sendGreeting_109 rfl (lv_at hl1 0 rfl) ?_
      refine lv_bipush (v := 6) hx hb dX5_sendGreeting_110 (by decide) ?_
      refine lv_iload_n hx hb dX5_sendGreeting_112 rfl (lv_at hl1 2 rfl) ?_
      refine lv_if_eq (tgt := 120) hx hb dX5_sendGreeting_113 (by decide) (fun c104 => ?_) (fun c104 => ?_)
      · refine lv_iconst (v := 0) hx hb dX5_sendGreeting_120 (by decide) ?_
        refine kVv (wr := [oSe h pe ta sn sb s, oPe pe lc ls li lo dr p, oRo rh w rp, aM G w 8 (krow q), oMs (q 0) (d 0), aI G (d 0) 9 (M 0), oMs (q 1) (d 1), aI G (d 1) 9 (M 1), oMs (q 2) (d 2), aI G (d 2) 9 (M 2), oMs (q 3) (d 3), aI G (d 3) 9 (M 3), oMs (q 4) (d 4), aI G (d 4) 9 (M 4), oMs (q 5) (d 5), aI G (d 5) 9 (M 5), oMs (q 6) (d 6), aI G (d 6) 9 (M 6), oMs (q 7) (d 7), aI G (d 7) 9 (M 7)]) F hK hP103 hD103 hS103 hA hl1.1 (c_X2_put l G dr da f_102 6 0 (by first | assumption | decide | omega)) [20, 21] [0, 1, 2, 3, 4, 5, 6, 7, 8, 9, 10, 11, 12, 13, 14, 15, 16, 17, 18, 19] 2 0 gX5_sendGreeting_X2_put rfl 2 rfl (by decide +kernel) ⟨Nat.le_of_ble_eq_true rfl, Nat.le_of_ble_eq_true rfl⟩ ⟨Nat.zero_le _, Nat.zero_le _⟩ rfl rfl rfl rfl (by decide) (by decide) (by decide) (Nat.le_of_ble_eq_true rfl) rfl dX5_sendGreeting_121 (fun f_105 H106 locs106 hw105 (hP106 : va_P G.1 vwCl ([oSe h pe ta sn sb s, oPe pe lc ls li lo dr p, oRo rh w rp, aM G w 8 (krow q), oMs (q 0) (d 0), aI G (d 0) 9 (M 0), oMs (q 1) (d 1), aI G (d 1) 9 (M 1), oMs (q 2) (d 2), aI G (d 2) 9 (M 2), oMs (q 3) (d 3), aI G (d 3) 9 (M 3), oMs (q 4) (d 4), aI G (d 4) 9 (M 4), oMs (q 5) (d 5), aI G (d 5) 9 (M 5), oMs (q 6) (d 6), aI G (d 6) 9 (M 6), oMs (q 7) (d 7), aI G (d 7) 9 (M 7), oMs dr da, aI G da 9 f_105]) H106) (hD106 : va_D A ([oSe h pe ta sn sb s, oPe pe lc ls li lo dr p, oRo rh w rp, aM G w 8 (krow q), oMs (q 0) (d 0), aI G (d 0) 9 (M 0), oMs (q 1) (d 1), aI G (d 1) 9 (M 1), oMs (q 2) (d 2), aI G (d 2) 9 (M 2), oMs (q 3) (d 3), aI G (d 3) 9 (M 3), oMs (q 4) (d 4), aI G (d 4) 9 (M 4), oMs (q 5) (d 5), aI G (d 5) 9 (M 5), oMs (q 6) (d 6), aI G (d 6) 9 (M 6), oMs (q 7) (d 7), aI G (d 7) 9 (M 7), oMs dr da, aI G da 9 f_105])) hS106 => ?_)
        clear hP103 hD103 hS103
        have w105_0 : f_105 = upd f_102 6 0 := hw105
        refine lv_aload_n hx hb dX5_sendGreeting_124 rfl (lv_at hl1 1 rfl) ?_
        refine kget F hK hP106 5 0 0 iX5 rfl rfl (by decide) (List.mem_of_getElem? (i := 1) rfl) rfl dX5_sendGreeting_125 ?_
        refine lv_aload_n hx hb dX5_sendGreeting_128 rfl (lv_at hl1 0 rfl) ?_
        refine kVv (wr := [oSe h pe ta sn sb s, oRo rh w rp, aM G w 8 (krow q), oMs (q 0) (d 0), aI G (d 0) 9 (M 0), oMs (q 1) (d 1), aI G (d 1) 9 (M 1), oMs (q 2) (d 2), aI G (d 2) 9 (M 2), oMs (q 3) (d 3), aI G (d 3) 9 (M 3), oMs (q 4) (d 4), aI G (d 4) 9 (M 4), oMs (q 5) (d 5), aI G (d 5) 9 (M 5), oMs (q 6) (d 6), aI G (d 6) 9 (M 6), oMs (q 7) (d 7), aI G (d 7) 9 (M 7)]) F hK hP106 hD106 hS106 hA hl1.1 (c_X3_takeIn l G pe lc ls li lo dr p dr da f_105) [1, 20, 21] [0, 2, 3, 4, 5, 6, 7, 8, 9, 10, 11, 12, 13, 14, 15, 16, 17, 18, 19] 3 0 gX5_sendGreeting_X3_takeIn rfl 1 rfl (by decide +kernel) ⟨Nat.le_of_ble_eq_true rfl, Nat.le_of_ble_eq_true rfl⟩ ⟨Nat.zero_le _, Nat.zero_le _⟩ rfl rfl rfl rfl (by decide) (by decide) (by decide) (Nat.le_of_ble_eq_true rfl) rfl dX5_sendGreeting_129 (fun p_107 H108 locs108 hw107 (hP108 : va_P G.1 vwCl ([oSe h pe ta sn sb s, oRo rh w rp, aM G w 8 (krow q), oMs (q 0) (d 0), aI G (d 0) 9 (M 0), oMs (q 1) (d 1), aI G (d 1) 9 (M 1), oMs (q 2) (d 2), aI G (d 2) 9 (M 2), oMs (q 3) (d 3), aI G (d 3) 9 (M 3), oMs (q 4) (d 4), aI G (d 4) 9 (M 4), oMs (q 5) (d 5), aI G (d 5) 9 (M 5), oMs (q 6) (d 6), aI G (d 6) 9 (M 6), oMs (q 7) (d 7), aI G (d 7) 9 (M 7), oPe pe lc ls li lo dr p_107, oMs dr da, aI G da 9 f_105]) H108) (hD108 : va_D A ([oSe h pe ta sn sb s, oRo rh w rp, aM G w 8 (krow q), oMs (q 0) (d 0), aI G (d 0) 9 (M 0), oMs (q 1) (d 1), aI G (d 1) 9 (M 1), oMs (q 2) (d 2), aI G (d 2) 9 (M 2), oMs (q 3) (d 3), aI G (d 3) 9 (M 3), oMs (q 4) (d 4), aI G (d 4) 9 (M 4), oMs (q 5) (d 5), aI G (d 5) 9 (M 5), oMs (q 6) (d 6), aI G (d 6) 9 (M 6), oMs (q 7) (d 7), aI G (d 7) 9 (M 7), oPe pe lc ls li lo dr p_107, oMs dr da, aI G da 9 f_105])) hS108 => ?_)
        clear hP106 hD106 hS106
        have w107_0 : p_107 = ktake p f_105 := hw107
        refine lv_aload_n hx hb dX5_sendGreeting_132 rfl (lv_at hl1 0 rfl) ?_
        refine lv_bipush (v := 7) hx hb dX5_sendGreeting_133 (by decide) ?_
        refine lv_aload_n hx hb dX5_sendGreeting_135 rfl (lv_at hl1 1 rfl) ?_
        refine kget F hK hP108 5 0 0 iX5 rfl rfl (by decide) (List.mem_of_getElem? (i := 1) rfl) rfl dX5_sendGreeting_136 ?_
        refine lv_iconst (v := 1) hx hb dX5_sendGreeting_139 (by decide) ?_
        refine kVi (wr := [oSe h pe ta sn sb s, oRo rh w rp, aM G w 8 (krow q), oMs (q 0) (d 0), aI G (d 0) 9 (M 0), oMs (q 1) (d 1), aI G (d 1) 9 (M 1), oMs (q 2) (d 2), aI G (d 2) 9 (M 2), oMs (q 3) (d 3), aI G (d 3) 9 (M 3), oMs (q 4) (d 4), aI G (d 4) 9 (M 4), oMs (q 5) (d 5), aI G (d 5) 9 (M 5), oMs (q 6) (d 6), aI G (d 6) 9 (M 6), oMs (q 7) (d 7), aI G (d 7) 9 (M 7), oMs dr da, aI G da 9 f_105]) F hK hP108 hD108 hS108 hA hl1.1 (c_X3_proof l G pe lc ls li lo dr p_107 1) [19] [0, 1, 2, 3, 4, 5, 6, 7, 8, 9, 10, 11, 12, 13, 14, 15, 16, 17, 18, 20, 21] 3 0 gX5_sendGreeting_X3_proof rfl 1 rfl (by decide +kernel) ⟨Nat.le_of_ble_eq_true rfl, Nat.le_of_ble_eq_true rfl⟩ ⟨Nat.zero_le _, Nat.zero_le _⟩ rfl rfl rfl rfl (by decide) (by decide) (by decide) (Nat.le_of_ble_eq_true rfl) rfl dX5_sendGreeting_140 (fun r109 u109 H110 locs110 hw109 (hP110 : va_P G.1 vwCl ([oSe h pe ta sn sb s, oRo rh w rp, aM G w 8 (krow q), oMs (q 0) (d 0), aI G (d 0) 9 (M 0), oMs (q 1) (d 1), aI G (d 1) 9 (M 1), oMs (q 2) (d 2), aI G (d 2) 9 (M 2), oMs (q 3) (d 3), aI G (d 3) 9 (M 3), oMs (q 4) (d 4), aI G (d 4) 9 (M 4), oMs (q 5) (d 5), aI G (d 5) 9 (M 5), oMs (q 6) (d 6), aI G (d 6) 9 (M 6), oMs (q 7) (d 7), aI G (d 7) 9 (M 7), oMs dr da, aI G da 9 f_105, oPe pe lc ls li lo dr p_107]) H110) (hD110 : va_D A ([oSe h pe ta sn sb s, oRo rh w rp, aM G w 8 (krow q), oMs (q 0) (d 0), aI G (d 0) 9 (M 0), oMs (q 1) (d 1), aI G (d 1) 9 (M 1), oMs (q 2) (d 2), aI G (d 2) 9 (M 2), oMs (q 3) (d 3), aI G (d 3) 9 (M 3), oMs (q 4) (d 4), aI G (d 4) 9 (M 4), oMs (q 5) (d 5), aI G (d 5) 9 (M 5), oMs (q 6) (d 6), aI G (d 6) 9 (M 6), oMs (q 7) (d 7), aI G (d 7) 9 (M 7), oMs dr da, aI G da 9 f_105, oPe pe lc ls li lo dr p_107])) hS110 => ?_)
        clear hP108 hD108 hS108
        have w109_0 : r109 = kproof p_107 1 := hw109
        refine kVv (wr := [oSe h pe ta sn sb s, oRo rh w rp, aM G w 8 (krow q), oMs (q 0) (d 0), aI G (d 0) 9 (M 0), oMs (q 1) (d 1), aI G (d 1) 9 (M 1), oMs (q 2) (d 2), aI G (d 2) 9 (M 2), oMs (q 3) (d 3), aI G (d 3) 9 (M 3), oMs (q 4) (d 4), aI G (d 4) 9 (M 4), oMs (q 5) (d 5), aI G (d 5) 9 (M 5), oMs (q 6) (d 6), aI G (d 6) 9 (M 6), oMs (q 7) (d 7), aI G (d 7) 9 (M 7), oPe pe lc ls li lo dr p_107]) F hK hP110 hD110 hS110 hA hl1.1 (c_X2_put l G dr da f_105 7 r109 (by first | assumption | decide | omega)) [19, 20] [0, 1, 2, 3, 4, 5, 6, 7, 8, 9, 10, 11, 12, 13, 14, 15, 16, 17, 18, 21] 2 0 gX5_sendGreeting_X2_put rfl 2 rfl (by decide +kernel) ⟨Nat.le_of_ble_eq_true rfl, Nat.le_of_ble_eq_true rfl⟩ ⟨Nat.zero_le _, Nat.zero_le _⟩ rfl rfl rfl rfl (by decide) (by decide) (by decide) (Nat.le_of_ble_eq_true rfl) rfl dX5_sendGreeting_143 (fun f_111 H112 locs112 hw111 (hP112 : va_P G.1 vwCl ([oSe h pe ta sn sb s, oRo rh w rp, aM G w 8 (krow q), oMs (q 0) (d 0), aI G (d 0) 9 (M 0), oMs (q 1) (d 1), aI G (d 1) 9 (M 1), oMs (q 2) (d 2), aI G (d 2) 9 (M 2), oMs (q 3) (d 3), aI G (d 3) 9 (M 3), oMs (q 4) (d 4), aI G (d 4) 9 (M 4), oMs (q 5) (d 5), aI G (d 5) 9 (M 5), oMs (q 6) (d 6), aI G (d 6) 9 (M 6), oMs (q 7) (d 7), aI G (d 7) 9 (M 7), oPe pe lc ls li lo dr p_107, oMs dr da, aI G da 9 f_111]) H112) (hD112 : va_D A ([oSe h pe ta sn sb s, oRo rh w rp, aM G w 8 (krow q), oMs (q 0) (d 0), aI G (d 0) 9 (M 0), oMs (q 1) (d 1), aI G (d 1) 9 (M 1), oMs (q 2) (d 2), aI G (d 2) 9 (M 2), oMs (q 3) (d 3), aI G (d 3) 9 (M 3), oMs (q 4) (d 4), aI G (d 4) 9 (M 4), oMs (q 5) (d 5), aI G (d 5) 9 (M 5), oMs (q 6) (d 6), aI G (d 6) 9 (M 6), oMs (q 7) (d 7), aI G (d 7) 9 (M 7), oPe pe lc ls li lo dr p_107, oMs dr da, aI G da 9 f_111])) hS112 => ?_)
        clear hP110 hD110 hS110
        have w111_0 : f_111 = upd f_105 7 r109 := hw111
        refine lv_aload_n hx hb dX5_sendGreeting_146 rfl (lv_at hl1 3 rfl) ?_
        refine lv_aload_n hx hb dX5_sendGreeting_147 rfl (lv_at hl1 0 rfl) ?_
        refine kVv (wr := [oSe h pe ta sn sb s, oPe pe lc ls li lo dr p_107]) F hK hP112 hD112 hS112 hA hl1.1 (c_X4_send l G rh w q d rp M dr da f_111 L hL hL8) [1, 2, 3, 4, 5, 6, 7, 8, 9, 10, 11, 12, 13, 14, 15, 16, 17, 18, 20, 21] [0, 19] 4 0 gX5_sendGreeting_X4_send rfl 1 rfl (by decide +kernel) ⟨Nat.le_of_ble_eq_true rfl, Nat.le_of_ble_eq_true rfl⟩ ⟨Nat.zero_le _, Nat.zero_le _⟩ rfl rfl rfl rfl (by decide) (by decide) (by decide) (Nat.le_of_ble_eq_true rfl) rfl dX5_sendGreeting_148 (fun u113 H114 locs114 hw113 hP114 hD114 hS114 => ?_)
        obtain ⟨p_113, M_113⟩ := u113
        have hP114 : va_P G.1 vwCl ([oSe h pe ta sn sb s, oPe pe lc ls li lo dr p_107, oRo rh w p_113, aM G w 8 (krow q), oMs (q 0) (d 0), aI G (d 0) 9 (M_113 0), oMs (q 1) (d 1), aI G (d 1) 9 (M_113 1), oMs (q 2) (d 2), aI G (d 2) 9 (M_113 2), oMs (q 3) (d 3), aI G (d 3) 9 (M_113 3), oMs (q 4) (d 4), aI G (d 4) 9 (M_113 4), oMs (q 5) (d 5), aI G (d 5) 9 (M_113 5), oMs (q 6) (d 6), aI G (d 6) 9 (M_113 6), oMs (q 7) (d 7), aI G (d 7) 9 (M_113 7), oMs dr da, aI G da 9 f_111]) H114 := hP114
        have hD114 : va_D A ([oSe h pe ta sn sb s, oPe pe lc ls li lo dr p_107, oRo rh w p_113, aM G w 8 (krow q), oMs (q 0) (d 0), aI G (d 0) 9 (M_113 0), oMs (q 1) (d 1), aI G (d 1) 9 (M_113 1), oMs (q 2) (d 2), aI G (d 2) 9 (M_113 2), oMs (q 3) (d 3), aI G (d 3) 9 (M_113 3), oMs (q 4) (d 4), aI G (d 4) 9 (M_113 4), oMs (q 5) (d 5), aI G (d 5) 9 (M_113 5), oMs (q 6) (d 6), aI G (d 6) 9 (M_113 6), oMs (q 7) (d 7), aI G (d 7) 9 (M_113 7), oMs dr da, aI G da 9 f_111]) := hD114
        clear hP112 hD112 hS112
        have w113_0 : p_113 = ksendP L rp := hw113.1
        have w113_1 : M_113 = ksendM L M f_111 := hw113.2
        refine lv_aload_n hx hb dX5_sendGreeting_151 rfl (lv_at hl1 1 rfl) ?_
        refine kget F hK hP114 5 0 0 iX5 rfl rfl (by decide) (List.mem_of_getElem? (i := 1) rfl) rfl dX5_sendGreeting_152 ?_
        refine lv_iconst (v := 3) hx hb dX5_sendGreeting_155 (by decide) ?_
        refine kput F hK hP114 hD114 hS114 (ty0 := tyX3) 3 1 3 iX3 rfl tyX3_ok nmX3 (fun zz => [oSe h pe ta sn sb s, oPe pe lc ls li lo dr zz, oRo rh w p_113, aM G w 8 (krow q), oMs (q 0) (d 0), aI G (d 0) 9 (M_113 0), oMs (q 1) (d 1), aI G (d 1) 9 (M_113 1), oMs (q 2) (d 2), aI G (d 2) 9 (M_113 2), oMs (q 3) (d 3), aI G (d 3) 9 (M_113 3), oMs (q 4) (d 4), aI G (d 4) 9 (M_113 4), oMs (q 5) (d 5), aI G (d 5) 9 (M_113 5), oMs (q 6) (d 6), aI G (d 6) 9 (M_113 6), oMs (q 7) (d 7), aI G (d 7) 9 (M_113 7), oMs dr da, aI G da 9 f_111]) p_107 rfl (by decide) (List.mem_of_getElem? (i := 8) rfl) rfl rfl rfl (Nat.le_of_ble_eq_true rfl) rfl dX5_sendGreeting_156 (fun H115 locs115 p115 ep115 (hP115 : va_P G.1 vwCl ([oSe h pe ta sn sb s, oPe pe lc ls li lo dr p115, oRo rh w p_113, aM G w 8 (krow q), oMs (q 0) (d 0), aI G (d 0) 9 (M_113 0), oMs (q 1) (d 1), aI G (d 1) 9 (M_113 1), oMs (q 2) (d 2), aI G (d 2) 9 (M_113 2), oMs (q 3) (d 3), aI G (d 3) 9 (M_113 3), oMs (q 4) (d 4), aI G (d 4) 9 (M_113 4), oMs (q 5) (d 5), aI G (d 5) 9 (M_113 5), oMs (q 6) (d 6), aI G (d 6) 9 (M_113 6), oMs (q 7) (d 7), aI G (d 7) 9 (M_113 7), oMs dr da, aI G da 9 f_111]) H115) (hD115 : va_D A ([oSe h pe ta sn sb s, oPe pe lc ls li lo dr p115, oRo rh w p_113, aM G w 8 (krow q), oMs (q 0) (d 0), aI G (d 0) 9 (M_113 0), oMs (q 1) (d 1), aI G (d 1) 9 (M_113 1), oMs (q 2) (d 2), aI G (d 2) 9 (M_113 2), oMs (q 3) (d 3), aI G (d 3) 9 (M_113 3), oMs (q 4) (d 4), aI G (d 4) 9 (M_113 4), oMs (q 5) (d 5), aI G (d 5) 9 (M_113 5), oMs (q 6) (d 6), aI G (d 6) 9 (M_113 6), oMs (q 7) (d 7), aI G (d 7) 9 (M_113 7), oMs dr da, aI G da 9 f_111])) hS115 => ?_)
        clear hP114 hD114 hS114
        have q116 : (p115 = kgrP p f v) ∧ (f_111 = kgrF2 p f v) ∧ (p_113 = ksendP L rp) ∧ (M_113 = ksendM L M (kgrF2 p f v)) := by
          subst ep115
          subst w113_1
          subst w113_0
          subst w111_0
          subst w109_0
          subst w107_0
          subst w105_0
          subst w102_0
          subst w72_0
          subst w12_0
          subst w10_0
          subst w8_0
          subst w6_0
          subst w4_0
          subst w2_0
          first | (simp only [kgrP, kgrF2, kgrF, c14, c74, eq_true c104, eq_self, ↓reduceIte, and_self, and_true, true_and]; done) | (simp only [kgrP, kgrF2, kgrF, c14, c74, eq_true c104, eq_self, ↓reduceIte, and_self, and_true, true_and]; (try and_intros) <;> rfl) | exact ⟨rfl, rfl, rfl, rfl⟩
        exact kRv F hr hlocks hS115 dX5_sendGreeting_159 ⟨p115, f_111, p_113, M_113⟩ q116 (hP115.sub [0, 1, 20, 21, 2, 3, 4, 5, 6, 7, 8, 9, 10, 11, 12, 13, 14, 15, 16, 17, 18, 19] rfl) (hD115.sub [0, 1, 20, 21, 2, 3, 4, 5, 6, 7, 8, 9, 10, 11, 12, 13, 14, 15, 16, 17, 18, 19] (by decide) rfl)
      · refine lv_iconst (v := 1) hx hb dX5_sendGreeting_116 (by decide) ?_
        refine lv_goto (tgt := 121) hx hb dX5_sendGreeting_117 (by decide) ?_
        refine kVv (wr := [oSe h pe ta sn sb s, oPe pe lc ls li lo dr p, oRo rh w rp, aM G w 8 (krow q), oMs (q 0) (d 0), aI G (d 0) 9 (M 0), oMs (q 1) (d 1), aI G (d 1) 9 (M 1), oMs (q 2) (d 2), aI G (d 2) 9 (M 2), oMs (q 3) (d 3), aI G (d 3) 9 (M 3), oMs (q 4) (d 4), aI G (d 4) 9 (M 4), oMs (q 5) (d 5), aI G (d 5) 9 (M 5), oMs (q 6) (d 6), aI G (d 6) 9 (M 6), oMs (q 7) (d 7), aI G (d 7) 9 (M 7)]) F hK hP103 hD103 hS103 hA hl1.1 (c_X2_put l G dr da f_102 6 1 (by first | assumption | decide | omega)) [20, 21] [0, 1, 2, 3, 4, 5, 6, 7, 8, 9, 10, 11, 12, 13, 14, 15, 16, 17, 18, 19] 2 0 gX5_sendGreeting_X2_put rfl 2 rfl (by decide +kernel) ⟨Nat.le_of_ble_eq_true rfl, Nat.le_of_ble_eq_true rfl⟩ ⟨Nat.zero_le _, Nat.zero_le _⟩ rfl rfl rfl rfl (by decide) (by decide) (by decide) (Nat.le_of_ble_eq_true rfl) rfl dX5_sendGreeting_121 (fun f_117 H118 locs118 hw117 (hP118 : va_P G.1 vwCl ([oSe h pe ta sn sb s, oPe pe lc ls li lo dr p, oRo rh w rp, aM G w 8 (krow q), oMs (q 0) (d 0), aI G (d 0) 9 (M 0), oMs (q 1) (d 1), aI G (d 1) 9 (M 1), oMs (q 2) (d 2), aI G (d 2) 9 (M 2), oMs (q 3) (d 3), aI G (d 3) 9 (M 3), oMs (q 4) (d 4), aI G (d 4) 9 (M 4), oMs (q 5) (d 5), aI G (d 5) 9 (M 5), oMs (q 6) (d 6), aI G (d 6) 9 (M 6), oMs (q 7) (d 7), aI G (d 7) 9 (M 7), oMs dr da, aI G da 9 f_117]) H118) (hD118 : va_D A ([oSe h pe ta sn sb s, oPe pe lc ls li lo dr p, oRo rh w rp, aM G w 8 (krow q), oMs (q 0) (d 0), aI G (d 0) 9 (M 0), oMs (q 1) (d 1), aI G (d 1) 9 (M 1), oMs (q 2) (d 2), aI G (d 2) 9 (M 2), oMs (q 3) (d 3), aI G (d 3) 9 (M 3), oMs (q 4) (d 4), aI G (d 4) 9 (M 4), oMs (q 5) (d 5), aI G (d 5) 9 (M 5), oMs (q 6) (d 6), aI G (d 6) 9 (M 6), oMs (q 7) (d 7), aI G (d 7) 9 (M 7), oMs dr da, aI G da 9 f_117])) hS118 => ?_)
        clear hP103 hD103 hS103
        have w117_0 : f_117 = upd f_102 6 1 := hw117
        refine lv_aload_n hx hb dX5_sendGreeting_124 rfl (lv_at hl1 1 rfl) ?_
        refine kget F hK hP118 5 0 0 iX5 rfl rfl (by decide) (List.mem_of_getElem? (i := 1) rfl) rfl dX5_sendGreeting_125 ?_
        refine lv_aload_n hx hb dX5_sendGreeting_128 rfl (lv_at hl1 0 rfl) ?_
        refine kVv (wr := [oSe h pe ta sn sb s, oRo rh w rp, aM G w 8 (krow q), oMs (q 0) (d 0), aI G (d 0) 9 (M 0), oMs (q 1) (d 1), aI G (d 1) 9 (M 1), oMs (q 2) (d 2), aI G (d 2) 9 (M 2), oMs (q 3) (d 3), aI G (d 3) 9 (M 3), oMs (q 4) (d 4), aI G (d 4) 9 (M 4), oMs (q 5) (d 5), aI G (d 5) 9 (M 5), oMs (q 6) (d 6), aI G (d 6) 9 (M 6), oMs (q 7) (d 7), aI G (d 7) 9 (M 7)]) F hK hP118 hD118 hS118 hA hl1.1 (c_X3_takeIn l G pe lc ls li lo dr p dr da f_117) [1, 20, 21] [0, 2, 3, 4, 5, 6, 7, 8, 9, 10, 11, 12, 13, 14, 15, 16, 17, 18, 19] 3 0 gX5_sendGreeting_X3_takeIn rfl 1 rfl (by decide +kernel) ⟨Nat.le_of_ble_eq_true rfl, Nat.le_of_ble_eq_true rfl⟩ ⟨Nat.zero_le _, Nat.zero_le _⟩ rfl rfl rfl rfl (by decide) (by decide) (by decide) (Nat.le_of_ble_eq_true rfl) rfl dX5_sendGreeting_129 (fun p_119 H120 locs120 hw119 (hP120 : va_P G.1 vwCl ([oSe h pe ta sn sb s, oRo rh w rp, aM G w 8 (krow q), oMs (q 0) (d 0), aI G (d 0) 9 (M 0), oMs (q 1) (d 1), aI G (d 1) 9 (M 1), oMs (q 2) (d 2), aI G (d 2) 9 (M 2), oMs (q 3) (d 3), aI G (d 3) 9 (M 3), oMs (q 4) (d 4), aI G (d 4) 9 (M 4), oMs (q 5) (d 5), aI G (d 5) 9 (M 5), oMs (q 6) (d 6), aI G (d 6) 9 (M 6), oMs (q 7) (d 7), aI G (d 7) 9 (M 7), oPe pe lc ls li lo dr p_119, oMs dr da, aI G da 9 f_117]) H120) (hD120 : va_D A ([oSe h pe ta sn sb s, oRo rh w rp, aM G w 8 (krow q), oMs (q 0) (d 0), aI G (d 0) 9 (M 0), oMs (q 1) (d 1), aI G (d 1) 9 (M 1), oMs (q 2) (d 2), aI G (d 2) 9 (M 2), oMs (q 3) (d 3), aI G (d 3) 9 (M 3), oMs (q 4) (d 4), aI G (d 4) 9 (M 4), oMs (q 5) (d 5), aI G (d 5) 9 (M 5), oMs (q 6) (d 6), aI G (d 6) 9 (M 6), oMs (q 7) (d 7), aI G (d 7) 9 (M 7), oPe pe lc ls li lo dr p_119, oMs dr da, aI G da 9 f_117])) hS120 => ?_)
        clear hP118 hD118 hS118
        have w119_0 : p_119 = ktake p f_117 := hw119
        refine lv_aload_n hx hb dX5_sendGreeting_132 rfl (lv_at hl1 0 rfl) ?_
        refine lv_bipush (v := 7) hx hb dX5_sendGreeting_133 (by decide) ?_
        refine lv_aload_n hx hb dX5_sendGreeting_135 rfl (lv_at hl1 1 rfl) ?_
        refine kget F hK hP120 5 0 0 iX5 rfl rfl (by decide) (List.mem_of_getElem? (i := 1) rfl) rfl dX5_sendGreeting_136 ?_
        refine lv_iconst (v := 1) hx hb dX5_sendGreeting_139 (by decide) ?_
        refine kVi (wr := [oSe h pe ta sn sb s, oRo rh w rp, aM G w 8 (krow q), oMs (q 0) (d 0), aI G (d 0) 9 (M 0), oMs (q 1) (d 1), aI G (d 1) 9 (M 1), oMs (q 2) (d 2), aI G (d 2) 9 (M 2), oMs (q 3) (d 3), aI G (d 3) 9 (M 3), oMs (q 4) (d 4), aI G (d 4) 9 (M 4), oMs (q 5) (d 5), aI G (d 5) 9 (M 5), oMs (q 6) (d 6), aI G (d 6) 9 (M 6), oMs (q 7) (d 7), aI G (d 7) 9 (M 7), oMs dr da, aI G da 9 f_117]) F hK hP120 hD120 hS120 hA hl1.1 (c_X3_proof l G pe lc ls li lo dr p_119 1) [19] [0, 1, 2, 3, 4, 5, 6, 7, 8, 9, 10, 11, 12, 13, 14, 15, 16, 17, 18, 20, 21] 3 0 gX5_sendGreeting_X3_proof rfl 1 rfl (by decide +kernel) ⟨Nat.le_of_ble_eq_true rfl, Nat.le_of_ble_eq_true rfl⟩ ⟨Nat.zero_le _, Nat.zero_le _⟩ rfl rfl rfl rfl (by decide) (by decide) (by decide) (Nat.le_of_ble_eq_true rfl) rfl dX5_sendGreeting_140 (fun r121 u121 H122 locs122 hw121 (hP122 : va_P G.1 vwCl ([oSe h pe ta sn sb s, oRo rh w rp, aM G w 8 (krow q), oMs (q 0) (d 0), aI G (d 0) 9 (M 0), oMs (q 1) (d 1), aI G (d 1) 9 (M 1), oMs (q 2) (d 2), aI G (d 2) 9 (M 2), oMs (q 3) (d 3), aI G (d 3) 9 (M 3), oMs (q 4) (d 4), aI G (d 4) 9 (M 4), oMs (q 5) (d 5), aI G (d 5) 9 (M 5), oMs (q 6) (d 6), aI G (d 6) 9 (M 6), oMs (q 7) (d 7), aI G (d 7) 9 (M 7), oMs dr da, aI G da 9 f_117, oPe pe lc ls li lo dr p_119]) H122) (hD122 : va_D A ([oSe h pe ta sn sb s, oRo rh w rp, aM G w 8 (krow q), oMs (q 0) (d 0), aI G (d 0) 9 (M 0), oMs (q 1) (d 1), aI G (d 1) 9 (M 1), oMs (q 2) (d 2), aI G (d 2) 9 (M 2), oMs (q 3) (d 3), aI G (d 3) 9 (M 3), oMs (q 4) (d 4), aI G (d 4) 9 (M 4), oMs (q 5) (d 5), aI G (d 5) 9 (M 5), oMs (q 6) (d 6), aI G (d 6) 9 (M 6), oMs (q 7) (d 7), aI G (d 7) 9 (M 7), oMs dr da, aI G da 9 f_117, oPe pe lc ls li lo dr p_119])) hS122 => ?_)
        clear hP120 hD120 hS120
        have w121_0 : r121 = kproof p_119 1 := hw121
        refine kVv (wr := [oSe h pe ta sn sb s, oRo rh w rp, aM G w 8 (krow q), oMs (q 0) (d 0), aI G (d 0) 9 (M 0), oMs (q 1) (d 1), aI G (d 1) 9 (M 1), oMs (q 2) (d 2), aI G (d 2) 9 (M 2), oMs (q 3) (d 3), aI G (d 3) 9 (M 3), oMs (q 4) (d 4), aI G (d 4) 9 (M 4), oMs (q 5) (d 5), aI G (d 5) 9 (M 5), oMs (q 6) (d 6), aI G (d 6) 9 (M 6), oMs (q 7) (d 7), aI G (d 7) 9 (M 7), oPe pe lc ls li lo dr p_119]) F hK hP122 hD122 hS122 hA hl1.1 (c_X2_put l G dr da f_117 7 r121 (by first | assumption | decide | omega)) [19, 20] [0, 1, 2, 3, 4, 5, 6, 7, 8, 9, 10, 11, 12, 13, 14, 15, 16, 17, 18, 21] 2 0 gX5_sendGreeting_X2_put rfl 2 rfl (by decide +kernel) ⟨Nat.le_of_ble_eq_true rfl, Nat.le_of_ble_eq_true rfl⟩ ⟨Nat.zero_le _, Nat.zero_le _⟩ rfl rfl rfl rfl (by decide) (by decide) (by decide) (Nat.le_of_ble_eq_true rfl) rfl dX5_sendGreeting_143 (fun f_123 H124 locs124 hw123 (hP124 : va_P G.1 vwCl ([oSe h pe ta sn sb s, oRo rh w rp, aM G w 8 (krow q), oMs (q 0) (d 0), aI G (d 0) 9 (M 0), oMs (q 1) (d 1), aI G (d 1) 9 (M 1), oMs (q 2) (d 2), aI G (d 2) 9 (M 2), oMs (q 3) (d 3), aI G (d 3) 9 (M 3), oMs (q 4) (d 4), aI G (d 4) 9 (M 4), oMs (q 5) (d 5), aI G (d 5) 9 (M 5), oMs (q 6) (d 6), aI G (d 6) 9 (M 6), oMs (q 7) (d 7), aI G (d 7) 9 (M 7), oPe pe lc ls li lo dr p_119, oMs dr da, aI G da 9 f_123]) H124) (hD124 : va_D A ([oSe h pe ta sn sb s, oRo rh w rp, aM G w 8 (krow q), oMs (q 0) (d 0), aI G (d 0) 9 (M 0), oMs (q 1) (d 1), aI G (d 1) 9 (M 1), oMs (q 2) (d 2), aI G (d 2) 9 (M 2), oMs (q 3) (d 3), aI G (d 3) 9 (M 3), oMs (q 4) (d 4), aI G (d 4) 9 (M 4), oMs (q 5) (d 5), aI G (d 5) 9 (M 5), oMs (q 6) (d 6), aI G (d 6) 9 (M 6), oMs (q 7) (d 7), aI G (d 7) 9 (M 7), oPe pe lc ls li lo dr p_119, oMs dr da, aI G da 9 f_123])) hS124 => ?_)
        clear hP122 hD122 hS122
        have w123_0 : f_123 = upd f_117 7 r121 := hw123
        refine lv_aload_n hx hb dX5_sendGreeting_146 rfl (lv_at hl1 3 rfl) ?_
        refine lv_aload_n hx hb dX5_sendGreeting_147 rfl (lv_at hl1 0 rfl) ?_
        refine kVv (wr := [oSe h pe ta sn sb s, oPe pe lc ls li lo dr p_119]) F hK hP124 hD124 hS124 hA hl1.1 (c_X4_send l G rh w q d rp M dr da f_123 L hL hL8) [1, 2, 3, 4, 5, 6, 7, 8, 9, 10, 11, 12, 13, 14, 15, 16, 17, 18, 20, 21] [0, 19] 4 0 gX5_sendGreeting_X4_send rfl 1 rfl (by decide +kernel) ⟨Nat.le_of_ble_eq_true rfl, Nat.le_of_ble_eq_true rfl⟩ ⟨Nat.zero_le _, Nat.zero_le _⟩ rfl rfl rfl rfl (by decide) (by decide) (by decide) (Nat.le_of_ble_eq_true rfl) rfl dX5_sendGreeting_148 (fun u125 H126 locs126 hw125 hP126 hD126 hS126 => ?_)
        obtain ⟨p_125, M_125⟩ := u125
        have hP126 : va_P G.1 vwCl ([oSe h pe ta sn sb s, oPe pe lc ls li lo dr p_119, oRo rh w p_125, aM G w 8 (krow q), oMs (q 0) (d 0), aI G (d 0) 9 (M_125 0), oMs (q 1) (d 1), aI G (d 1) 9 (M_125 1), oMs (q 2) (d 2), aI G (d 2) 9 (M_125 2), oMs (q 3) (d 3), aI G (d 3) 9 (M_125 3), oMs (q 4) (d 4), aI G (d 4) 9 (M_125 4), oMs (q 5) (d 5), aI G (d 5) 9 (M_125 5), oMs (q 6) (d 6), aI G (d 6) 9 (M_125 6), oMs (q 7) (d 7), aI G (d 7) 9 (M_125 7), oMs dr da, aI G da 9 f_123]) H126 := hP126
        have hD126 : va_D A ([oSe h pe ta sn sb s, oPe pe lc ls li lo dr p_119, oRo rh w p_125, aM G w 8 (krow q), oMs (q 0) (d 0), aI G (d 0) 9 (M_125 0), oMs (q 1) (d 1), aI G (d 1) 9 (M_125 1), oMs (q 2) (d 2), aI G (d 2) 9 (M_125 2), oMs (q 3) (d 3), aI G (d 3) 9 (M_125 3), oMs (q 4) (d 4), aI G (d 4) 9 (M_125 4), oMs (q 5) (d 5), aI G (d 5) 9 (M_125 5), oMs (q 6) (d 6), aI G (d 6) 9 (M_125 6), oMs (q 7) (d 7), aI G (d 7) 9 (M_125 7), oMs dr da, aI G da 9 f_123]) := hD126
        clear hP124 hD124 hS124
        have w125_0 : p_125 = ksendP L rp := hw125.1
        have w125_1 : M_125 = ksendM L M f_123 := hw125.2
        refine lv_aload_n hx hb dX5_sendGreeting_151 rfl (lv_at hl1 1 rfl) ?_
        refine kget F hK hP126 5 0 0 iX5 rfl rfl (by decide) (List.mem_of_getElem? (i := 1) rfl) rfl dX5_sendGreeting_152 ?_
        refine lv_iconst (v := 3) hx hb dX5_sendGreeting_155 (by decide) ?_
        refine kput F hK hP126 hD126 hS126 (ty0 := tyX3) 3 1 3 iX3 rfl tyX3_ok nmX3 (fun zz => [oSe h pe ta sn sb s, oPe pe lc ls li lo dr zz, oRo rh w p_125, aM G w 8 (krow q), oMs (q 0) (d 0), aI G (d 0) 9 (M_125 0), oMs (q 1) (d 1), aI G (d 1) 9 (M_125 1), oMs (q 2) (d 2), aI G (d 2) 9 (M_125 2), oMs (q 3) (d 3), aI G (d 3) 9 (M_125 3), oMs (q 4) (d 4), aI G (d 4) 9 (M_125 4), oMs (q 5) (d 5), aI G (d 5) 9 (M_125 5), oMs (q 6) (d 6), aI G (d 6) 9 (M_125 6), oMs (q 7) (d 7), aI G (d 7) 9 (M_125 7), oMs dr da, aI G da 9 f_123]) p_119 rfl (by decide) (List.mem_of_getElem? (i := 8) rfl) rfl rfl rfl (Nat.le_of_ble_eq_true rfl) rfl dX5_sendGreeting_156 (fun H127 locs127 p127 ep127 (hP127 : va_P G.1 vwCl ([oSe h pe ta sn sb s, oPe pe lc ls li lo dr p127, oRo rh w p_125, aM G w 8 (krow q), oMs (q 0) (d 0), aI G (d 0) 9 (M_125 0), oMs (q 1) (d 1), aI G (d 1) 9 (M_125 1), oMs (q 2) (d 2), aI G (d 2) 9 (M_125 2), oMs (q 3) (d 3), aI G (d 3) 9 (M_125 3), oMs (q 4) (d 4), aI G (d 4) 9 (M_125 4), oMs (q 5) (d 5), aI G (d 5) 9 (M_125 5), oMs (q 6) (d 6), aI G (d 6) 9 (M_125 6), oMs (q 7) (d 7), aI G (d 7) 9 (M_125 7), oMs dr da, aI G da 9 f_123]) H127) (hD127 : va_D A ([oSe h pe ta sn sb s, oPe pe lc ls li lo dr p127, oRo rh w p_125, aM G w 8 (krow q), oMs (q 0) (d 0), aI G (d 0) 9 (M_125 0), oMs (q 1) (d 1), aI G (d 1) 9 (M_125 1), oMs (q 2) (d 2), aI G (d 2) 9 (M_125 2), oMs (q 3) (d 3), aI G (d 3) 9 (M_125 3), oMs (q 4) (d 4), aI G (d 4) 9 (M_125 4), oMs (q 5) (d 5), aI G (d 5) 9 (M_125 5), oMs (q 6) (d 6), aI G (d 6) 9 (M_125 6), oMs (q 7) (d 7), aI G (d 7) 9 (M_125 7), oMs dr da, aI G da 9 f_123])) hS127 => ?_)
        clear hP126 hD126 hS126
        have q128 : (p127 = kgrP p f v) ∧ (f_123 = kgrF2 p f v) ∧ (p_125 = ksendP L rp) ∧ (M_125 = ksendM L M (kgrF2 p f v)) := by
          subst ep127
          subst w125_1
          subst w125_0
          subst w123_0
          subst w121_0
          subst w119_0
          subst w117_0
          subst w102_0
          subst w72_0
          subst w12_0
          subst w10_0
          subst w8_0
          subst w6_0
          subst w4_0
          subst w2_0
          first | (simp only [kgrP, kgrF2, kgrF, c14, c74, c104, eq_self, ↓reduceIte, and_self, and_true, true_and]; done) | (simp only [kgrP, kgrF2, kgrF, c14, c74, c104, eq_self, ↓reduceIte, and_self, and_true, true_and]; (try and_intros) <;> rfl) | exact ⟨rfl, rfl, rfl, rfl⟩
        exact kRv F hr hlocks hS127 dX5_sendGreeting_159 ⟨p127, f_123, p_125, M_125⟩ q128 (hP127.sub [0, 1, 20, 21, 2, 3, 4, 5, 6, 7, 8, 9, 10, 11, 12, 13, 14, 15, 16, 17, 18, 19] rfl) (hD127.sub [0, 1, 20, 21, 2, 3, 4, 5, 6, 7, 8, 9, 10, 11, 12, 13, 14, 15, 16, 17, 18, 19] (by decide) rfl)
