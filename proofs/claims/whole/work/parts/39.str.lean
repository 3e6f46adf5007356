set_option maxHeartbeats 1000000 in
set_option maxRecDepth 100000 in
theorem c_J0_coder (l : Launch) (G : kG) (Z : kZs) (lit : Nat) (hi : lit < 5) : kMz Z G l yJ0_coder_7d493 wsJ0_coder_7d493 ({ frames := 0, cells := 0, slots := 0, locals := 0 }) [.ref (Z.1 lit)] ([]) (kQi G (fun (rr : Int32) (uu : Unit) => rr = (0 : Int32)) (fun (uu : Unit) => [])) := by
  refine kzStart (cc := cJ0_coder_7d493) (maxL := 1) (ret := (some .byte)) (by decide) rfl (Nat.le_of_ble_eq_true rfl) (fun pg ev st mi bl mt cd A ls0 F hr hlocks hin hK hP0 hD0 hA hS0 hl0 hZ => ?_)
  obtain ⟨hx, hb, hml, hown, hts⟩ := id F
  have hl0 : lv_has ls0 1 [(0, .ref (Z.1 lit))] := hl0
  refine kzcs F hZ hS0 (List.mem_of_getElem? (i := 1) rfl) dJ0_coder_7d493_0 ?_
  refine lv_if_eq (tgt := 13) hx hb dJ0_coder_7d493_3 (by decide) (fun c1 => ?_) (fun c1 => ?_)
  · exact absurd c1 (by decide)
  · refine lv_aload_n hx hb dJ0_coder_7d493_6 rfl (lv_at hl0 0 rfl) ?_
    refine kzcod F hZ hS0 hi (List.mem_of_getElem? (i := 2) rfl) dJ0_coder_7d493_7 ?_
    refine lv_goto (tgt := 14) hx hb dJ0_coder_7d493_10 (by decide) ?_
    have q2 : 0 = (0 : Int32) := by
      rfl
    exact kRz F hr hlocks hS0 dJ0_coder_7d493_14 rfl () q2 hP0 hD0
set_option maxHeartbeats 1000000 in
set_option maxRecDepth 100000 in
theorem c_J0_isLatin1 (l : Launch) (G : kG) (Z : kZs) (lit : Nat) (hi : lit < 5) : kMz Z G l yJ0_isLatin1_aae02 wsJ0_isLatin1_aae02 ({ frames := 0, cells := 0, slots := 0, locals := 0 }) [.ref (Z.1 lit)] ([]) (kQi G (fun (rr : Int32) (uu : Unit) => rr = (1 : Int32)) (fun (uu : Unit) => [])) := by
  refine kzStart (cc := cJ0_isLatin1_aae02) (maxL := 1) (ret := (some .boolean)) (by decide) rfl (Nat.le_of_ble_eq_true rfl) (fun pg ev st mi bl mt cd A ls0 F hr hlocks hin hK hP0 hD0 hA hS0 hl0 hZ => ?_)
  obtain ⟨hx, hb, hml, hown, hts⟩ := id F
  have hl0 : lv_has ls0 1 [(0, .ref (Z.1 lit))] := hl0
  refine kzcs F hZ hS0 (List.mem_of_getElem? (i := 1) rfl) dJ0_isLatin1_aae02_0 ?_
  refine lv_if_eq (tgt := 17) hx hb dJ0_isLatin1_aae02_3 (by decide) (fun c1 => ?_) (fun c1 => ?_)
  · exact absurd c1 (by decide)
  · refine lv_aload_n hx hb dJ0_isLatin1_aae02_6 rfl (lv_at hl0 0 rfl) ?_
    refine kzcod F hZ hS0 hi (List.mem_of_getElem? (i := 2) rfl) dJ0_isLatin1_aae02_7 ?_
    refine lv_if_ne (tgt := 17) hx hb dJ0_isLatin1_aae02_10 (by decide) (fun c2 => ?_) (fun c2 => ?_)
    · exact absurd (by decide) c2
    · refine lv_iconst (v := 1) hx hb dJ0_isLatin1_aae02_13 (by decide) ?_
      refine lv_goto (tgt := 18) hx hb dJ0_isLatin1_aae02_14 (by decide) ?_
      have q3 : 1 = (1 : Int32) := by
        rfl
      exact kRz F hr hlocks hS0 dJ0_isLatin1_aae02_18 rfl () q3 hP0 hD0
set_option maxHeartbeats 1000000 in
set_option maxRecDepth 100000 in
theorem c_J0_length (l : Launch) (G : kG) (Z : kZs) (lit : Nat) (hi : lit < 5) : kMz Z G l yJ0_length_8abf5 wsJ0_length_8abf5 ({ frames := 1, cells := 0, slots := 0, locals := 20 }) [.ref (Z.1 lit)] ([]) (kQi G (fun (rr : Int32) (uu : Unit) => rr = nI (klen.getD lit 0)) (fun (uu : Unit) => [])) := by
  refine kzStart (cc := cJ0_length_8abf5) (maxL := 1) (ret := (some .int)) (by decide) rfl (Nat.le_of_ble_eq_true rfl) (fun pg ev st mi bl mt cd A ls0 F hr hlocks hin hK hP0 hD0 hA hS0 hl0 hZ => ?_)
  obtain ⟨hx, hb, hml, hown, hts⟩ := id F
  have hl0 : lv_has ls0 1 [(0, .ref (Z.1 lit))] := hl0
  refine lv_aload_n hx hb dJ0_length_8abf5_0 rfl (lv_at hl0 0 rfl) ?_
  refine kzval F hZ hS0 hi (List.mem_of_getElem? (i := 1) rfl) dJ0_length_8abf5_1 ?_
  refine kzlen F hZ hS0 hi dJ0_length_8abf5_4 ?_
  refine lv_aload_n hx hb dJ0_length_8abf5_5 rfl (lv_at hl0 0 rfl) ?_
  refine kzPUi F hK hP0 hD0 hS0 hA hl0.1 lit hi hZ (c_J0_coder l G Z lit (by first | assumption | decide | omega)) (fun _ => rfl) gJ0_length_8abf5_J0_coder_7d493 rfl 0 rfl (by decide +kernel) ⟨Nat.le_of_ble_eq_true rfl, Nat.le_of_ble_eq_true rfl⟩ ⟨Nat.zero_le _, Nat.zero_le _⟩ (Nat.le_of_ble_eq_true rfl) rfl dJ0_length_8abf5_6 (fun r1 u1 H2 locs2 hw1 (hP2 : va_P G.1 vwCl ([]) H2) (hD2 : va_D A ([])) hS2 => ?_)
  clear hP0 hD0 hS0
  have w1_0 : r1 = (0 : Int32) := hw1
  have g1 : r1 = 0 := w1_0
  clear w1_0
  subst g1
  refine lv_ishr hx hb dJ0_length_8abf5_9 ?_
  have q3 : ((nI (klen.getD lit 0)) >>> (0 &&& 31)) = nI (klen.getD lit 0) := by
    exact kb_shr lit hi
  exact kRi F hr hlocks hS2 dJ0_length_8abf5_10 () q3 hP2 hD2
set_option maxHeartbeats 1000000 in
set_option maxRecDepth 100000 in
theorem c_J3_n (l : Launch) (G : kG) (k : Nat) (n : Nat) (hkn : k < n) (hn : n ≤ 1000) : kM G l yJ3_checkIndex_8e157 wsJ3_checkIndex_8e157 ({ frames := 0, cells := 0, slots := 0, locals := 0 }) [.int (nI k), .int (nI n), .null] ([]) (kQi G (fun (rr : Int32) (uu : Unit) => True) (fun (uu : Unit) => [])) := by
  refine kStart (cc := cJ3_checkIndex_8e157) (maxL := 3) (ret := (some .int)) (by decide) rfl (Nat.le_of_ble_eq_true rfl) (fun pg ev st mi bl mt cd A ls0 F hr hlocks hin hK hP0 hD0 hA hS0 hl0 => ?_)
  obtain ⟨hx, hb, hml, hown, hts⟩ := id F
  have hl0 : lv_has ls0 3 [(0, .int (nI k)), (1, .int (nI n)), (2, .null)] := hl0
  refine lv_iload_n hx hb dJ3_checkIndex_8e157_0 rfl (lv_at hl0 0 rfl) ?_
  refine lv_if_lt (tgt := 9) hx hb dJ3_checkIndex_8e157_1 (by decide) (fun c1 => ?_) (fun c1 => ?_)
  · exact absurd c1 (nI_nlt (a := k) (b := 0) (by omega) (by omega))
  · refine lv_iload_n hx hb dJ3_checkIndex_8e157_4 rfl (lv_at hl0 0 rfl) ?_
    refine lv_iload_n hx hb dJ3_checkIndex_8e157_5 rfl (lv_at hl0 1 rfl) ?_
    refine lv_icmp_lt (tgt := 16) hx hb dJ3_checkIndex_8e157_6 (by decide) (fun c2 => ?_) (fun c2 => ?_)
    · refine lv_iload_n hx hb dJ3_checkIndex_8e157_16 rfl (lv_at hl0 0 rfl) ?_
      have q3 : True := by
        trivial
      exact kRi F hr hlocks hS0 dJ3_checkIndex_8e157_17 () q3 hP0 hD0
    · exact absurd (nI_lt hkn (by omega)) c2
set_option maxHeartbeats 1000000 in
set_option maxRecDepth 100000 in
theorem c_J3_r (l : Launch) (G : kG) (k : Nat) (n : Nat) (fmt : Nat) (hkn : k < n) (hn : n ≤ 1000) : kM G l yJ3_checkIndex_8e157 wsJ3_checkIndex_8e157 ({ frames := 0, cells := 0, slots := 0, locals := 0 }) [.int (nI k), .int (nI n), .ref fmt] ([]) (kQi G (fun (rr : Int32) (uu : Unit) => True) (fun (uu : Unit) => [])) := by
  refine kStart (cc := cJ3_checkIndex_8e157) (maxL := 3) (ret := (some .int)) (by decide) rfl (Nat.le_of_ble_eq_true rfl) (fun pg ev st mi bl mt cd A ls0 F hr hlocks hin hK hP0 hD0 hA hS0 hl0 => ?_)
  obtain ⟨hx, hb, hml, hown, hts⟩ := id F
  have hl0 : lv_has ls0 3 [(0, .int (nI k)), (1, .int (nI n)), (2, .ref fmt)] := hl0
  refine lv_iload_n hx hb dJ3_checkIndex_8e157_0 rfl (lv_at hl0 0 rfl) ?_
  refine lv_if_lt (tgt := 9) hx hb dJ3_checkIndex_8e157_1 (by decide) (fun c1 => ?_) (fun c1 => ?_)
  · exact absurd c1 (nI_nlt (a := k) (b := 0) (by omega) (by omega))
  · refine lv_iload_n hx hb dJ3_checkIndex_8e157_4 rfl (lv_at hl0 0 rfl) ?_
    refine lv_iload_n hx hb dJ3_checkIndex_8e157_5 rfl (lv_at hl0 1 rfl) ?_
    refine lv_icmp_lt (tgt := 16) hx hb dJ3_checkIndex_8e157_6 (by decide) (fun c2 => ?_) (fun c2 => ?_)
    · refine lv_iload_n hx hb dJ3_checkIndex_8e157_16 rfl (lv_at hl0 0 rfl) ?_
      have q3 : True := by
        trivial
      exact kRi F hr hlocks hS0 dJ3_checkIndex_8e157_17 () q3 hP0 hD0
    · exact absurd (nI_lt hkn (by omega)) c2
set_option maxHeartbeats 1000000 in
set_option maxRecDepth 100000 in
theorem c_J0_checkIndex (l : Launch) (G : kG) (Z : kZs) (k : Nat) (n : Nat) (hkn : k < n) (hn : n ≤ 1000) : kMz Z G l yJ0_checkIndex_df160 wsJ0_checkIndex_df160 ({ frames := 1, cells := 0, slots := 0, locals := 22 }) [.int (nI k), .int (nI n)] ([]) (kQv G (fun (uu : Unit) => True) (fun (uu : Unit) => [])) := by
  refine kzStart (cc := cJ0_checkIndex_df160) (maxL := 2) (ret := none) (by decide) rfl (Nat.le_of_ble_eq_true rfl) (fun pg ev st mi bl mt cd A ls0 F hr hlocks hin hK hP0 hD0 hA hS0 hl0 hZ => ?_)
  obtain ⟨hx, hb, hml, hown, hts⟩ := id F
  have hl0 : lv_has ls0 2 [(0, .int (nI k)), (1, .int (nI n))] := hl0
  refine lv_iload_n hx hb dJ0_checkIndex_df160_0 rfl (lv_at hl0 0 rfl) ?_
  refine lv_iload_n hx hb dJ0_checkIndex_df160_1 rfl (lv_at hl0 1 rfl) ?_
  refine kzsf F hZ hS0 (List.mem_of_getElem? (i := 1) rfl) dJ0_checkIndex_df160_2 ?_ (fun fmt => ?_)
  · refine kPSi F hK hP0 hD0 hS0 hA hl0.1 (c_J3_n l G k n (by first | assumption | decide | omega) (by first | assumption | decide | omega)) (fun _ => rfl) gJ0_checkIndex_df160_J3_checkIndex_8e157 rfl 3 rfl (by decide +kernel) ⟨Nat.le_of_ble_eq_true rfl, Nat.le_of_ble_eq_true rfl⟩ ⟨Nat.zero_le _, Nat.zero_le _⟩ (Nat.le_of_ble_eq_true rfl) rfl dJ0_checkIndex_df160_5 (fun r1 u1 H2 locs2 hw1 (hP2 : va_P G.1 vwCl ([]) H2) (hD2 : va_D A ([])) hS2 => ?_)
    clear hP0 hD0 hS0
    refine lv_pop hx hb dJ0_checkIndex_df160_8 rfl ?_
    have q3 : True := by
      trivial
    exact kRv F hr hlocks hS2 dJ0_checkIndex_df160_9 () q3 hP2 hD2
  · refine kPSi F hK hP0 hD0 hS0 hA hl0.1 (c_J3_r l G k n fmt (by first | assumption | decide | omega) (by first | assumption | decide | omega)) (fun _ => rfl) gJ0_checkIndex_df160_J3_checkIndex_8e157 rfl 3 rfl (by decide +kernel) ⟨Nat.le_of_ble_eq_true rfl, Nat.le_of_ble_eq_true rfl⟩ ⟨Nat.zero_le _, Nat.zero_le _⟩ (Nat.le_of_ble_eq_true rfl) rfl dJ0_checkIndex_df160_5 (fun r4 u4 H5 locs5 hw4 (hP5 : va_P G.1 vwCl ([]) H5) (hD5 : va_D A ([])) hS5 => ?_)
    clear hP0 hD0 hS0
    refine lv_pop hx hb dJ0_checkIndex_df160_8 rfl ?_
    have q6 : True := by
      trivial
    exact kRv F hr hlocks hS5 dJ0_checkIndex_df160_9 () q6 hP5 hD5
set_option maxHeartbeats 1000000 in
set_option maxRecDepth 100000 in
theorem c_J1_charAt (l : Launch) (G : kG) (Z : kZs) (lit : Nat) (k : Nat) (hi : lit < 5) (hk : k < klen.getD lit 0) : kMz Z G l yJ1_charAt_3b067 wsJ1_charAt_3b067 ({ frames := 2, cells := 0, slots := 0, locals := 43 }) [.ref (Z.2 lit), .int (nI k)] ([]) (kQi G (fun (rr : Int32) (uu : Unit) => rr = ((kbyt.getD lit []).getD k 0)) (fun (uu : Unit) => [])) := by
  refine kzStart (cc := cJ1_charAt_3b067) (maxL := 2) (ret := (some .char)) (by decide) rfl (Nat.le_of_ble_eq_true rfl) (fun pg ev st mi bl mt cd A ls0 F hr hlocks hin hK hP0 hD0 hA hS0 hl0 hZ => ?_)
  obtain ⟨hx, hb, hml, hown, hts⟩ := id F
  have hl0 : lv_has ls0 2 [(0, .ref (Z.2 lit)), (1, .int (nI k))] := hl0
  have h6 := klen_le lit
  refine lv_iload_n hx hb dJ1_charAt_3b067_0 rfl (lv_at hl0 1 rfl) ?_
  refine lv_aload_n hx hb dJ1_charAt_3b067_1 rfl (lv_at hl0 0 rfl) ?_
  refine kzlen F hZ hS0 hi dJ1_charAt_3b067_2 ?_
  refine kzPSv F hK hP0 hD0 hS0 hA hl0.1 hZ (c_J0_checkIndex l G Z k (klen.getD lit 0) hk (by omega)) (fun _ => rfl) gJ1_charAt_3b067_J0_checkIndex_df160 rfl 2 rfl (by decide +kernel) ⟨Nat.le_of_ble_eq_true rfl, Nat.le_of_ble_eq_true rfl⟩ ⟨Nat.zero_le _, Nat.zero_le _⟩ (Nat.le_of_ble_eq_true rfl) rfl dJ1_charAt_3b067_3 (fun u1 H2 locs2 hw1 (hP2 : va_P G.1 vwCl ([]) H2) (hD2 : va_D A ([])) hS2 => ?_)
  clear hP0 hD0 hS0
  refine lv_aload_n hx hb dJ1_charAt_3b067_6 rfl (lv_at hl0 0 rfl) ?_
  refine lv_iload_n hx hb dJ1_charAt_3b067_7 rfl (lv_at hl0 1 rfl) ?_
  refine kzbyt F hZ hS2 hi (k := k) (by assumption) dJ1_charAt_3b067_8 ?_
  refine lv_sipush (v := 255) hx hb dJ1_charAt_3b067_9 (by decide) ?_
  refine lv_iand hx hb dJ1_charAt_3b067_12 ?_
  refine lv_i2c (v := ((((kbyt.getD lit []).getD k 0) &&& 255).toUInt32 % 65536).toInt32) hx hb dJ1_charAt_3b067_13 rfl ?_
  rw [show ((((kbyt.getD lit []).getD k 0) &&& 255).toUInt32 % 65536).toInt32 = ((kbyt.getD lit []).getD k 0) from kb_c lit hi k hk]
  have q3 : ((kbyt.getD lit []).getD k 0) = ((kbyt.getD lit []).getD k 0) := by
    rfl
  exact kRz F hr hlocks hS2 dJ1_charAt_3b067_14 (kb_n lit hi k hk) () q3 hP2 hD2
set_option maxHeartbeats 1000000 in
set_option maxRecDepth 100000 in
theorem c_J0_charAt (l : Launch) (G : kG) (Z : kZs) (lit : Nat) (k : Nat) (hi : lit < 5) (hk : k < klen.getD lit 0) : kMz Z G l yJ0_charAt_5068e wsJ0_charAt_5068e ({ frames := 3, cells := 0, slots := 0, locals := 64 }) [.ref (Z.1 lit), .int (nI k)] ([]) (kQi G (fun (rr : Int32) (uu : Unit) => rr = ((kbyt.getD lit []).getD k 0)) (fun (uu : Unit) => [])) := by
  refine kzStart (cc := cJ0_charAt_5068e) (maxL := 2) (ret := (some .char)) (by decide) rfl (Nat.le_of_ble_eq_true rfl) (fun pg ev st mi bl mt cd A ls0 F hr hlocks hin hK hP0 hD0 hA hS0 hl0 hZ => ?_)
  obtain ⟨hx, hb, hml, hown, hts⟩ := id F
  have hl0 : lv_has ls0 2 [(0, .ref (Z.1 lit)), (1, .int (nI k))] := hl0
  refine lv_aload_n hx hb dJ0_charAt_5068e_0 rfl (lv_at hl0 0 rfl) ?_
  refine kzPUi F hK hP0 hD0 hS0 hA hl0.1 lit hi hZ (c_J0_isLatin1 l G Z lit (by first | assumption | decide | omega)) (fun _ => rfl) gJ0_charAt_5068e_J0_isLatin1_aae02 rfl 0 rfl (by decide +kernel) ⟨Nat.le_of_ble_eq_true rfl, Nat.le_of_ble_eq_true rfl⟩ ⟨Nat.zero_le _, Nat.zero_le _⟩ (Nat.le_of_ble_eq_true rfl) rfl dJ0_charAt_5068e_1 (fun r1 u1 H2 locs2 hw1 (hP2 : va_P G.1 vwCl ([]) H2) (hD2 : va_D A ([])) hS2 => ?_)
  clear hP0 hD0 hS0
  have w1_0 : r1 = (1 : Int32) := hw1
  have g1 : r1 = 1 := w1_0
  clear w1_0
  subst g1
  refine lv_if_eq (tgt := 16) hx hb dJ0_charAt_5068e_4 (by decide) (fun c3 => ?_) (fun c3 => ?_)
  · exact absurd c3 (by decide)
  · refine lv_aload_n hx hb dJ0_charAt_5068e_7 rfl (lv_at hl0 0 rfl) ?_
    refine kzval F hZ hS2 hi (List.mem_of_getElem? (i := 1) rfl) dJ0_charAt_5068e_8 ?_
    refine lv_iload_n hx hb dJ0_charAt_5068e_11 rfl (lv_at hl0 1 rfl) ?_
    refine kzPSi F hK hP2 hD2 hS2 hA hl0.1 hZ (c_J1_charAt l G Z lit k hi hk) (fun _ => rfl) gJ0_charAt_5068e_J1_charAt_3b067 rfl 2 rfl (by decide +kernel) ⟨Nat.le_of_ble_eq_true rfl, Nat.le_of_ble_eq_true rfl⟩ ⟨Nat.zero_le _, Nat.zero_le _⟩ (Nat.le_of_ble_eq_true rfl) rfl dJ0_charAt_5068e_12 (fun r4 u4 H5 locs5 hw4 (hP5 : va_P G.1 vwCl ([]) H5) (hD5 : va_D A ([])) hS5 => ?_)
    clear hP2 hD2 hS2
    have w4_0 : r4 = ((kbyt.getD lit []).getD k 0) := hw4
    have g4 : r4 = ((kbyt.getD lit []).getD k 0) := w4_0
    clear w4_0
    subst g4
    have q6 : ((kbyt.getD lit []).getD k 0) = ((kbyt.getD lit []).getD k 0) := by
      rfl
    exact kRz F hr hlocks hS5 dJ0_charAt_5068e_15 (kb_n lit hi k hk) () q6 hP5 hD5
