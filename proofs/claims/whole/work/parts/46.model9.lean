set_option maxHeartbeats 1000000 in
set_option maxRecDepth 100000 in
theorem c_X9_letterAt (l : Launch) (G : kG) (h : Nat) (a : Nat → Nat) (σ : kS) (n : Nat) (L : Nat) (hL : σ 36 0 = nI L) (lL : L ≤ 200) (hn : n ≤ 1000) : kM G l yX9_letterAt wsX9_letterAt ({ frames := 0, cells := 0, slots := 0, locals := 0 }) [.ref h, .int (nI n)] (mW G h a σ) (kQi G (fun (rr : Int32) (uu : Unit) => rr = mlet (σ 35) L n) (fun (uu : Unit) => mW G h a σ)) := by
  refine kStart (cc := cX9_letterAt) (maxL := 2) (ret := (some .int)) (by decide) rfl (Nat.le_of_ble_eq_true rfl) (fun pg ev st mi bl mt cd A ls0 F hr hlocks hin hK hP0 hD0 hA hS0 hl0 => ?_)
  obtain ⟨hx, hb, hml, hown, hts⟩ := id F
  have hl0 : lv_has ls0 2 [(0, .ref h), (1, .int (nI n))] := hl0
  have iX9 : ∀ w ∈ u_ws RX9 TX9 43, w ∈ wsX9_letterAt := fun w h => List.mem_cons_of_mem _ (List.mem_append_right _ h)
  refine lv_iload_n hx hb dX9_letterAt_0 rfl (lv_at hl0 1 rfl) ?_
  refine lv_aload_n hx hb dX9_letterAt_1 rfl (lv_at hl0 0 rfl) ?_
  refine kget F hK hP0 9 0 36 iX9 rfl rfl (by decide) (List.mem_of_getElem? (i := 1) rfl) rfl dX9_letterAt_2 ?_
  refine lv_icmp_ge (tgt := 17) hx hb dX9_letterAt_5 (by decide) (fun c1 => ?_) (fun c1 => ?_)
  · rw [hL] at c1
    have lE : L ≤ n := (nI_leI (a := L) (b := n) (by omega) (by omega)).mp c1
    refine lv_iconst (v := (-1)) hx hb dX9_letterAt_17 (by decide) ?_
    have q2 : (-1) = mlet (σ 35) L n := by
      first | exact (mlet_in lE).symm | exact (mlet_out lE).symm
    exact kRi F hr hlocks hS0 dX9_letterAt_18 () q2 hP0 hD0
  · rw [hL] at c1
    have lE : n < L := Nat.lt_of_not_le (fun z => c1 ((nI_leI (a := L) (b := n) (by omega) (by omega)).mpr z))
    refine lv_aload_n hx hb dX9_letterAt_8 rfl (lv_at hl0 0 rfl) ?_
    refine kget F hK hP0 9 0 35 iX9 rfl rfl (by decide) (List.mem_of_getElem? (i := 2) rfl) rfl dX9_letterAt_9 ?_
    refine lv_iload_n hx hb dX9_letterAt_12 rfl (lv_at hl0 1 rfl) ?_
    refine kild F hK hP0 23 n rfl rfl (by omega) (Nat.le_of_ble_eq_true rfl) dX9_letterAt_13 ?_
    refine lv_goto (tgt := 18) hx hb dX9_letterAt_14 (by decide) ?_
    have q3 : (σ 35 n) = mlet (σ 35) L n := by
      first | exact (mlet_in lE).symm | exact (mlet_out lE).symm
    exact kRi F hr hlocks hS0 dX9_letterAt_18 () q3 hP0 hD0
set_option maxHeartbeats 4000000 in
set_option maxRecDepth 100000 in
theorem c_X9_reads (l : Launch) (G : kG) (h : Nat) (a : Nat → Nat) (σ : kS) (L : Nat) (E : Nat) (hL : σ 36 0 = nI L) (lL : L ≤ 200) (hE : σ 37 0 = nI E) (hEL : E ≤ L) : kM G l yX9_reads wsX9_reads ({ frames := 1, cells := 0, slots := 0, locals := 25 }) [.ref h] (mW G h a σ) (kQv G (fun (uu : kS) => uu = mreads σ L E) (fun (uu : kS) => mW G h a uu)) := by
  refine kStart (cc := cX9_reads) (maxL := 1) (ret := none) (by decide) rfl (Nat.le_of_ble_eq_true rfl) (fun pg ev st mi bl mt cd A ls0 F hr hlocks hin hK hP0 hD0 hA hS0 hl0 => ?_)
  obtain ⟨hx, hb, hml, hown, hts⟩ := id F
  have hl0 : lv_has ls0 1 [(0, .ref h)] := hl0
  have iX9 : ∀ w ∈ u_ws RX9 TX9 43, w ∈ wsX9_reads := fun w h => List.mem_cons_of_mem _ (List.mem_append_right _ h)
  have LOOP1 : ∀ (fu k : Nat), k ≤ L → L + 1 ≤ k + fu → ∀ σ1 : kS, σ1 = mrw σ (nI k) (σ 38 0) (σ 39 0) (σ 40 0) (σ 41 0) → (kscan ksp (σ 35) L E = kscan ksp (σ 35) L k) → ∀ (H1 : Heap) (locs1 : List Loc) (ls1 : Array Slot), lv_has ls1 1 [(0, .ref h)] → va_P G.1 vwCl (mW G h a σ1) H1 → va_D A (mW G h a σ1) → va_S A st.heap H1 locs1 → W pg l ev ({ frames := 1, cells := 0, slots := 0, locals := 25 }) st mi ([.ref h] : List Value).toArray bl mt cd H1 locs1 0 0 (MQ bl (kQv G (fun (uu : kS) => uu = mreads σ L E) (fun (uu : kS) => mW G h a uu) A) ([.ref h] : List Value).toArray st 0 0 A) (F0 mi 0 ls1 []) := by
    intro fu
    induction fu with
    | zero => intro k h1 h2; exact absurd h2 (by omega)
    | succ fu ih =>
      intro k hk hnk σ1 eσ1 hI H1 locs1 ls1 hl1 hP1 hD1 hS1
      refine lv_aload_n hx hb dX9_reads_0 rfl (lv_at hl1 0 rfl) ?_
      refine lv_aload_n hx hb dX9_reads_1 rfl (lv_at hl1 0 rfl) ?_
      refine kget F hK hP1 9 0 37 iX9 rfl rfl (by decide) (List.mem_of_getElem? (i := 1) rfl) rfl dX9_reads_2 ?_
      rw [show (σ1 37 0) = nI k from (by subst eσ1; rfl)]
      refine kWVi F hK hP1 hD1 hS1 hA hl1.1 (c_X9_letterAt l G h a σ1 k L (by subst eσ1; exact hL) lL (by omega)) 9 0 gX9_reads_X9_letterAt rfl 1 rfl (by decide +kernel) ⟨Nat.le_of_ble_eq_true rfl, Nat.le_of_ble_eq_true rfl⟩ ⟨Nat.zero_le _, Nat.zero_le _⟩ rfl rfl (Nat.le_of_ble_eq_true rfl) rfl dX9_reads_5 (fun r2 u2 H3 locs3 hw2 (hP3 : va_P G.1 vwCl (mW G h a σ1) H3) (hD3 : va_D A (mW G h a σ1)) hS3 => ?_)
      clear hP1 hD1 hS1
      have w2_0 : r2 = mlet (σ1 35) L k := hw2
      have g2 : r2 = (mlet (σ 35) L k) := (by subst eσ1; exact w2_0)
      clear w2_0
      subst g2
      refine lv_bipush (v := 32) hx hb dX9_reads_8 (by decide) ?_
      refine lv_icmp_ne (tgt := 26) hx hb dX9_reads_10 (by decide) (fun c4 => ?_) (fun c4 => ?_)
      · have hS := hI.trans (msp_end c4)
        refine lv_aload_n hx hb dX9_reads_26 rfl (lv_at hl1 0 rfl) ?_
        refine lv_aload_n hx hb dX9_reads_27 rfl (lv_at hl1 0 rfl) ?_
        refine kget F hK hP3 9 0 37 iX9 rfl rfl (by decide) (List.mem_of_getElem? (i := 1) rfl) rfl dX9_reads_28 ?_
        refine kMput F hK hP3 hD3 hS3 38 iX9 rfl (by decide) (List.mem_of_getElem? (i := 2) rfl) rfl rfl rfl (Nat.le_of_ble_eq_true rfl) rfl dX9_reads_31 (fun H5 locs5 σ5 eσ5 hP5 hD5 hS5 => ?_)
        clear hP3 hD3 hS3
        refine lv_aload_n hx hb dX9_reads_34 rfl (lv_at hl1 0 rfl) ?_
        refine lv_aload_n hx hb dX9_reads_35 rfl (lv_at hl1 0 rfl) ?_
        refine lv_aload_n hx hb dX9_reads_36 rfl (lv_at hl1 0 rfl) ?_
        refine kget F hK hP5 9 0 37 iX9 rfl rfl (by decide) (List.mem_of_getElem? (i := 1) rfl) rfl dX9_reads_37 ?_
        rw [show (σ5 37 0) = nI k from (by subst eσ5; subst eσ1; rfl)]
        refine kWVi F hK hP5 hD5 hS5 hA hl1.1 (c_X9_letterAt l G h a σ5 k L (by subst eσ5; subst eσ1; exact hL) lL (by omega)) 9 0 gX9_reads_X9_letterAt rfl 1 rfl (by decide +kernel) ⟨Nat.le_of_ble_eq_true rfl, Nat.le_of_ble_eq_true rfl⟩ ⟨Nat.zero_le _, Nat.zero_le _⟩ rfl rfl (Nat.le_of_ble_eq_true rfl) rfl dX9_reads_40 (fun r6 u6 H7 locs7 hw6 (hP7 : va_P G.1 vwCl (mW G h a σ5) H7) (hD7 : va_D A (mW G h a σ5)) hS7 => ?_)
        clear hP5 hD5 hS5
        have w6_0 : r6 = mlet (σ5 35) L k := hw6
        have g6 : r6 = (mlet (σ 35) L k) := (by subst eσ5; subst eσ1; exact w6_0)
        clear w6_0
        subst g6
        refine kMput F hK hP7 hD7 hS7 40 iX9 rfl (by decide) (List.mem_of_getElem? (i := 3) rfl) rfl rfl rfl (Nat.le_of_ble_eq_true rfl) rfl dX9_reads_43 (fun H8 locs8 σ8 eσ8 hP8 hD8 hS8 => ?_)
        clear hP7 hD7 hS7
        refine lv_aload_n hx hb dX9_reads_46 rfl (lv_at hl1 0 rfl) ?_
        refine lv_iconst (v := 0) hx hb dX9_reads_47 (by decide) ?_
        refine kMput F hK hP8 hD8 hS8 41 iX9 rfl (by decide) (List.mem_of_getElem? (i := 4) rfl) rfl rfl rfl (Nat.le_of_ble_eq_true rfl) rfl dX9_reads_48 (fun H9 locs9 σ9 eσ9 hP9 hD9 hS9 => ?_)
        clear hP8 hD8 hS8
        refine lv_aload_n hx hb dX9_reads_51 rfl (lv_at hl1 0 rfl) ?_
        refine kget F hK hP9 9 0 37 iX9 rfl rfl (by decide) (List.mem_of_getElem? (i := 1) rfl) rfl dX9_reads_52 ?_
        refine lv_aload_n hx hb dX9_reads_55 rfl (lv_at hl1 0 rfl) ?_
        refine kget F hK hP9 9 0 36 iX9 rfl rfl (by decide) (List.mem_of_getElem? (i := 5) rfl) rfl dX9_reads_56 ?_
        refine lv_icmp_ne (tgt := 70) hx hb dX9_reads_59 (by decide) (fun c10 => ?_) (fun c10 => ?_)
        · have lE : k < L := Nat.lt_of_le_of_ne (by omega) (fun q => c10 (by subst eσ9; subst eσ8; subst eσ5; subst eσ1; show nI k = σ 36 0; rw [hL, q]))
          refine lv_aload_n hx hb dX9_reads_70 rfl (lv_at hl1 0 rfl) ?_
          refine kget F hK hP9 9 0 40 iX9 rfl rfl (by decide) (List.mem_of_getElem? (i := 3) rfl) rfl dX9_reads_71 ?_
          refine lv_i2l (v := (σ9 40 0).toInt64) hx hb dX9_reads_74 rfl ?_
          refine lv_ldc2 (v := 97) hx hb hown (hts _ (List.mem_of_getElem? (i := 7) rfl)) dX9_reads_75 ?_
          refine lv_ldc2 (v := 122) hx hb hown (hts _ (List.mem_of_getElem? (i := 8) rfl)) dX9_reads_78 ?_
          refine kPSi F hK hP9 hD9 hS9 hA hl1.1 (c_X9_in l G ((σ9 40 0).toInt64) 97 122) (fun _ => rfl) gX9_reads_X9_in rfl 3 rfl (by decide +kernel) ⟨Nat.le_of_ble_eq_true rfl, Nat.le_of_ble_eq_true rfl⟩ ⟨Nat.zero_le _, Nat.zero_le _⟩ (Nat.le_of_ble_eq_true rfl) rfl dX9_reads_81 (fun r11 u11 H12 locs12 hw11 (hP12 : va_P G.1 vwCl (mW G h a σ9) H12) (hD12 : va_D A (mW G h a σ9)) hS12 => ?_)
          clear hP9 hD9 hS9
          have w11_0 : r11 = kinL ((σ9 40 0).toInt64) 97 122 := hw11
          have g11 : r11 = (kinL (mlet (σ 35) L k).toInt64 97 122) := (by subst eσ9; subst eσ8; subst eσ5; subst eσ1; exact w11_0)
          clear w11_0
          subst g11
          refine lv_if_eq (tgt := 126) hx hb dX9_reads_84 (by decide) (fun c13 => ?_) (fun c13 => ?_)
          · have hs0 : ksm (σ 35 k) = false := ksm_f (by rw [← kinL_sm, ← mlet_in (xl := σ 35) lE]; exact c13)
            refine lv_aload_n hx hb dX9_reads_126 rfl (lv_at hl1 0 rfl) ?_
            refine kget F hK hP12 9 0 40 iX9 rfl rfl (by decide) (List.mem_of_getElem? (i := 3) rfl) rfl dX9_reads_127 ?_
            refine lv_i2l (v := (σ9 40 0).toInt64) hx hb dX9_reads_130 rfl ?_
            refine lv_ldc2 (v := 48) hx hb hown (hts _ (List.mem_of_getElem? (i := 9) rfl)) dX9_reads_131 ?_
            refine lv_ldc2 (v := 57) hx hb hown (hts _ (List.mem_of_getElem? (i := 10) rfl)) dX9_reads_134 ?_
            refine kPSi F hK hP12 hD12 hS12 hA hl1.1 (c_X9_in l G ((σ9 40 0).toInt64) 48 57) (fun _ => rfl) gX9_reads_X9_in rfl 3 rfl (by decide +kernel) ⟨Nat.le_of_ble_eq_true rfl, Nat.le_of_ble_eq_true rfl⟩ ⟨Nat.zero_le _, Nat.zero_le _⟩ (Nat.le_of_ble_eq_true rfl) rfl dX9_reads_137 (fun r14 u14 H15 locs15 hw14 (hP15 : va_P G.1 vwCl (mW G h a σ9) H15) (hD15 : va_D A (mW G h a σ9)) hS15 => ?_)
            clear hP12 hD12 hS12
            have w14_0 : r14 = kinL ((σ9 40 0).toInt64) 48 57 := hw14
            have g14 : r14 = (kinL (mlet (σ 35) L k).toInt64 48 57) := (by subst eσ9; subst eσ8; subst eσ5; subst eσ1; exact w14_0)
            clear w14_0
            subst g14
            refine lv_if_eq (tgt := 235) hx hb dX9_reads_140 (by decide) (fun c16 => ?_) (fun c16 => ?_)
            · have hd0 : kdg (σ 35 k) = false := kdg_f (by rw [← kinL_dg, ← mlet_in (xl := σ 35) lE]; exact c16)
              refine lv_aload_n hx hb dX9_reads_235 rfl (lv_at hl1 0 rfl) ?_
              refine lv_iconst (v := 3) hx hb dX9_reads_236 (by decide) ?_
              refine kMput F hK hP15 hD15 hS15 39 iX9 rfl (by decide) (List.mem_of_getElem? (i := 6) rfl) rfl rfl rfl (Nat.le_of_ble_eq_true rfl) rfl dX9_reads_237 (fun H17 locs17 σ17 eσ17 hP17 hD17 hS17 => ?_)
              clear hP15 hD15 hS15
              refine lv_aload_n hx hb dX9_reads_240 rfl (lv_at hl1 0 rfl) ?_
              refine lv_dup hx hb dX9_reads_241 rfl ?_
              refine kget F hK hP17 9 0 37 iX9 rfl rfl (by decide) (List.mem_of_getElem? (i := 1) rfl) rfl dX9_reads_242 ?_
              refine lv_iconst (v := 1) hx hb dX9_reads_245 (by decide) ?_
              refine lv_iadd hx hb dX9_reads_246 ?_
              refine kMput F hK hP17 hD17 hS17 37 iX9 rfl (by decide) (List.mem_of_getElem? (i := 1) rfl) rfl rfl rfl (Nat.le_of_ble_eq_true rfl) rfl dX9_reads_247 (fun H18 locs18 σ18 eσ18 hP18 hD18 hS18 => ?_)
              clear hP17 hD17 hS17
              have q19 : σ18 = mreads σ L E := by
                subst eσ18
                subst eσ17
                subst eσ9
                subst eσ8
                subst eσ5
                subst eσ1
                simp only [mrw_37, mrw_38, mrw_39, mrw_40, mrw_41]
                first | exact mreads_1 hS lE hs0 hd0 | (rw [nI_1]; exact mreads_1 hS lE hs0 hd0) | (rw [← mreads_1 hS lE hs0 hd0, ← nI_1]; rfl)
              exact kRv F hr hlocks hS18 dX9_reads_250 σ18 q19 hP18 hD18
            · have hd1 := (mdg_go c16).2
              refine lv_aload_n hx hb dX9_reads_143 rfl (lv_at hl1 0 rfl) ?_
              refine lv_iconst (v := 2) hx hb dX9_reads_144 (by decide) ?_
              refine kMput F hK hP15 hD15 hS15 39 iX9 rfl (by decide) (List.mem_of_getElem? (i := 6) rfl) rfl rfl rfl (Nat.le_of_ble_eq_true rfl) rfl dX9_reads_145 (fun H20 locs20 σ20 eσ20 hP20 hD20 hS20 => ?_)
              clear hP15 hD15 hS15
              refine lv_aload_n hx hb dX9_reads_148 rfl (lv_at hl1 0 rfl) ?_
              refine lv_iconst (v := 0) hx hb dX9_reads_149 (by decide) ?_
              refine kMput F hK hP20 hD20 hS20 40 iX9 rfl (by decide) (List.mem_of_getElem? (i := 3) rfl) rfl rfl rfl (Nat.le_of_ble_eq_true rfl) rfl dX9_reads_150 (fun H21 locs21 σ21 eσ21 hP21 hD21 hS21 => ?_)
              clear hP20 hD20 hS20
              have LOOP22 : ∀ (fu j : Nat), j ≤ L → L + 1 ≤ j + fu → ∀ σ22 : kS, σ22 = mrw σ (nI j) (nI k) 2 (mdc (σ 35) k (j - k)) (nI (j - k)) → (k ≤ j) → (kscan kdg (σ 35) L k = kscan kdg (σ 35) L j) → ∀ (H22 : Heap) (locs22 : List Loc) (ls22 : Array Slot), lv_has ls22 1 [(0, .ref h)] → va_P G.1 vwCl (mW G h a σ22) H22 → va_D A (mW G h a σ22) → va_S A st.heap H22 locs22 → W pg l ev ({ frames := 1, cells := 0, slots := 0, locals := 25 }) st mi ([.ref h] : List Value).toArray bl mt cd H22 locs22 0 0 (MQ bl (kQv G (fun (uu : kS) => uu = mreads σ L E) (fun (uu : kS) => mW G h a uu) A) ([.ref h] : List Value).toArray st 0 0 A) (F0 mi 153 ls22 []) := by
                intro fu
                induction fu with
                | zero => intro j h1 h2; exact absurd h2 (by omega)
                | succ fu ih =>
                  intro j hj hnj σ22 eσ22 hSk hJI H22 locs22 ls22 hl22 hP22 hD22 hS22
                  refine lv_aload_n hx hb dX9_reads_153 rfl (lv_at hl22 0 rfl) ?_
                  refine lv_aload_n hx hb dX9_reads_154 rfl (lv_at hl22 0 rfl) ?_
                  refine kget F hK hP22 9 0 37 iX9 rfl rfl (by decide) (List.mem_of_getElem? (i := 1) rfl) rfl dX9_reads_155 ?_
                  rw [show (σ22 37 0) = nI j from (by subst eσ22; subst eσ21; subst eσ20; subst eσ9; subst eσ8; subst eσ5; subst eσ1; rfl)]
                  refine kWVi F hK hP22 hD22 hS22 hA hl22.1 (c_X9_letterAt l G h a σ22 j L (by subst eσ22; subst eσ21; subst eσ20; subst eσ9; subst eσ8; subst eσ5; subst eσ1; exact hL) lL (by omega)) 9 0 gX9_reads_X9_letterAt rfl 1 rfl (by decide +kernel) ⟨Nat.le_of_ble_eq_true rfl, Nat.le_of_ble_eq_true rfl⟩ ⟨Nat.zero_le _, Nat.zero_le _⟩ rfl rfl (Nat.le_of_ble_eq_true rfl) rfl dX9_reads_158 (fun r23 u23 H24 locs24 hw23 (hP24 : va_P G.1 vwCl (mW G h a σ22) H24) (hD24 : va_D A (mW G h a σ22)) hS24 => ?_)
                  clear hP22 hD22 hS22
                  have w23_0 : r23 = mlet (σ22 35) L j := hw23
                  have g23 : r23 = (mlet (σ 35) L j) := (by subst eσ22; subst eσ21; subst eσ20; subst eσ9; subst eσ8; subst eσ5; subst eσ1; exact w23_0)
                  clear w23_0
                  subst g23
                  refine lv_i2l (v := (mlet (σ 35) L j).toInt64) hx hb dX9_reads_161 rfl ?_
                  refine lv_ldc2 (v := 48) hx hb hown (hts _ (List.mem_of_getElem? (i := 9) rfl)) dX9_reads_162 ?_
                  refine lv_ldc2 (v := 57) hx hb hown (hts _ (List.mem_of_getElem? (i := 10) rfl)) dX9_reads_165 ?_
                  refine kPSi F hK hP24 hD24 hS24 hA hl22.1 (c_X9_in l G ((mlet (σ 35) L j).toInt64) 48 57) (fun _ => rfl) gX9_reads_X9_in rfl 3 rfl (by decide +kernel) ⟨Nat.le_of_ble_eq_true rfl, Nat.le_of_ble_eq_true rfl⟩ ⟨Nat.zero_le _, Nat.zero_le _⟩ (Nat.le_of_ble_eq_true rfl) rfl dX9_reads_168 (fun r25 u25 H26 locs26 hw25 (hP26 : va_P G.1 vwCl (mW G h a σ22) H26) (hD26 : va_D A (mW G h a σ22)) hS26 => ?_)
                  clear hP24 hD24 hS24
                  have w25_0 : r25 = kinL ((mlet (σ 35) L j).toInt64) 48 57 := hw25
                  have g25 : r25 = (kinL (mlet (σ 35) L j).toInt64 48 57) := (by subst eσ22; subst eσ21; subst eσ20; subst eσ9; subst eσ8; subst eσ5; subst eσ1; exact w25_0)
                  clear w25_0
                  subst g25
                  refine lv_if_eq (tgt := 250) hx hb dX9_reads_171 (by decide) (fun c27 => ?_) (fun c27 => ?_)
                  · have hJ := hJI.trans (mdg_end c27)
                    have q28 : σ22 = mreads σ L E := by
                      subst eσ22
                      subst eσ21
                      subst eσ20
                      subst eσ9
                      subst eσ8
                      subst eσ5
                      subst eσ1
                      skip
                      exact mreads_d hS lE hs0 hd1 hJ
                    exact kRv F hr hlocks hS26 dX9_reads_250 σ22 q28 hP26 hD26
                  · have go := mdg_go c27
                    refine lv_aload_n hx hb dX9_reads_174 rfl (lv_at hl22 0 rfl) ?_
                    refine lv_aload_n hx hb dX9_reads_175 rfl (lv_at hl22 0 rfl) ?_
                    refine kget F hK hP26 9 0 41 iX9 rfl rfl (by decide) (List.mem_of_getElem? (i := 4) rfl) rfl dX9_reads_176 ?_
                    rw [show (σ22 41 0) = nI (j - k) from (by subst eσ22; subst eσ21; subst eσ20; subst eσ9; subst eσ8; subst eσ5; subst eσ1; rfl)]
                    refine lv_iconst (v := 3) hx hb dX9_reads_179 (by decide) ?_
                    refine lv_icmp_ge (tgt := 205) hx hb dX9_reads_180 (by decide) (fun c29 => ?_) (fun c29 => ?_)
                    · have hd3 : ¬ j - k < 3 := fun q => absurd ((nI_leI (a := 3) (b := j - k) (by omega) (by omega)).mp c29) (by omega)
                      refine lv_aload_n hx hb dX9_reads_205 rfl (lv_at hl22 0 rfl) ?_
                      refine kget F hK hP26 9 0 40 iX9 rfl rfl (by decide) (List.mem_of_getElem? (i := 3) rfl) rfl dX9_reads_206 ?_
                      refine kMput F hK hP26 hD26 hS26 40 iX9 rfl (by decide) (List.mem_of_getElem? (i := 3) rfl) rfl rfl rfl (Nat.le_of_ble_eq_true rfl) rfl dX9_reads_209 (fun H30 locs30 σ30 eσ30 hP30 hD30 hS30 => ?_)
                      clear hP26 hD26 hS26
                      refine lv_aload_n hx hb dX9_reads_212 rfl (lv_at hl22 0 rfl) ?_
                      refine lv_dup hx hb dX9_reads_213 rfl ?_
                      refine kget F hK hP30 9 0 41 iX9 rfl rfl (by decide) (List.mem_of_getElem? (i := 4) rfl) rfl dX9_reads_214 ?_
                      refine lv_iconst (v := 1) hx hb dX9_reads_217 (by decide) ?_
                      refine lv_iadd hx hb dX9_reads_218 ?_
                      refine kMput F hK hP30 hD30 hS30 41 iX9 rfl (by decide) (List.mem_of_getElem? (i := 4) rfl) rfl rfl rfl (Nat.le_of_ble_eq_true rfl) rfl dX9_reads_219 (fun H31 locs31 σ31 eσ31 hP31 hD31 hS31 => ?_)
                      clear hP30 hD30 hS30
                      refine lv_aload_n hx hb dX9_reads_222 rfl (lv_at hl22 0 rfl) ?_
                      refine lv_dup hx hb dX9_reads_223 rfl ?_
                      refine kget F hK hP31 9 0 37 iX9 rfl rfl (by decide) (List.mem_of_getElem? (i := 1) rfl) rfl dX9_reads_224 ?_
                      refine lv_iconst (v := 1) hx hb dX9_reads_227 (by decide) ?_
                      refine lv_iadd hx hb dX9_reads_228 ?_
                      refine kMput F hK hP31 hD31 hS31 37 iX9 rfl (by decide) (List.mem_of_getElem? (i := 1) rfl) rfl rfl rfl (Nat.le_of_ble_eq_true rfl) rfl dX9_reads_229 (fun H32 locs32 σ32 eσ32 hP32 hD32 hS32 => ?_)
                      clear hP31 hD31 hS31
                      refine lv_goto (tgt := 153) hx hb dX9_reads_232 (by decide) ?_
                      exact ih (j + 1) (by omega) (by omega) σ32 (by subst eσ32; subst eσ31; subst eσ30; subst eσ22; subst eσ21; subst eσ20; subst eσ9; subst eσ8; subst eσ5; subst eσ1; simp only [mrw_37, mrw_38, mrw_39, mrw_40, mrw_41]; exact mback_n hSk hd3) (by omega) (hJI.trans (kscan_yes go.1 go.2)) _ _ _ hl22 hP32 hD32 hS32
                    · have hd3 : j - k < 3 := Nat.lt_of_not_le (fun q => c29 ((nI_leI (a := 3) (b := j - k) (by omega) (by omega)).mpr q))
                      refine lv_bipush (v := 10) hx hb dX9_reads_183 (by decide) ?_
                      refine lv_aload_n hx hb dX9_reads_185 rfl (lv_at hl22 0 rfl) ?_
                      refine kget F hK hP26 9 0 40 iX9 rfl rfl (by decide) (List.mem_of_getElem? (i := 3) rfl) rfl dX9_reads_186 ?_
                      refine lv_imul hx hb dX9_reads_189 ?_
                      refine lv_aload_n hx hb dX9_reads_190 rfl (lv_at hl22 0 rfl) ?_
                      refine lv_aload_n hx hb dX9_reads_191 rfl (lv_at hl22 0 rfl) ?_
                      refine kget F hK hP26 9 0 37 iX9 rfl rfl (by decide) (List.mem_of_getElem? (i := 1) rfl) rfl dX9_reads_192 ?_
                      rw [show (σ22 37 0) = nI j from (by subst eσ22; subst eσ21; subst eσ20; subst eσ9; subst eσ8; subst eσ5; subst eσ1; rfl)]
                      refine kWVi F hK hP26 hD26 hS26 hA hl22.1 (c_X9_letterAt l G h a σ22 j L (by subst eσ22; subst eσ21; subst eσ20; subst eσ9; subst eσ8; subst eσ5; subst eσ1; exact hL) lL (by omega)) 9 0 gX9_reads_X9_letterAt rfl 1 rfl (by decide +kernel) ⟨Nat.le_of_ble_eq_true rfl, Nat.le_of_ble_eq_true rfl⟩ ⟨Nat.zero_le _, Nat.zero_le _⟩ rfl rfl (Nat.le_of_ble_eq_true rfl) rfl dX9_reads_195 (fun r33 u33 H34 locs34 hw33 (hP34 : va_P G.1 vwCl (mW G h a σ22) H34) (hD34 : va_D A (mW G h a σ22)) hS34 => ?_)
                      clear hP26 hD26 hS26
                      have w33_0 : r33 = mlet (σ22 35) L j := hw33
                      have g33 : r33 = (σ 35 j) := (by subst eσ22; subst eσ21; subst eσ20; subst eσ9; subst eσ8; subst eσ5; subst eσ1; exact w33_0.trans (mlet_in go.1))
                      clear w33_0
                      subst g33
                      refine lv_iadd hx hb dX9_reads_198 ?_
                      refine lv_bipush (v := 48) hx hb dX9_reads_199 (by decide) ?_
                      refine lv_isub hx hb dX9_reads_201 ?_
                      refine lv_goto (tgt := 209) hx hb dX9_reads_202 (by decide) ?_
                      refine kMput F hK hP34 hD34 hS34 40 iX9 rfl (by decide) (List.mem_of_getElem? (i := 3) rfl) rfl rfl rfl (Nat.le_of_ble_eq_true rfl) rfl dX9_reads_209 (fun H35 locs35 σ35 eσ35 hP35 hD35 hS35 => ?_)
                      clear hP34 hD34 hS34
                      refine lv_aload_n hx hb dX9_reads_212 rfl (lv_at hl22 0 rfl) ?_
                      refine lv_dup hx hb dX9_reads_213 rfl ?_
                      refine kget F hK hP35 9 0 41 iX9 rfl rfl (by decide) (List.mem_of_getElem? (i := 4) rfl) rfl dX9_reads_214 ?_
                      refine lv_iconst (v := 1) hx hb dX9_reads_217 (by decide) ?_
                      refine lv_iadd hx hb dX9_reads_218 ?_
                      refine kMput F hK hP35 hD35 hS35 41 iX9 rfl (by decide) (List.mem_of_getElem? (i := 4) rfl) rfl rfl rfl (Nat.le_of_ble_eq_true rfl) rfl dX9_reads_219 (fun H36 locs36 σ36 eσ36 hP36 hD36 hS36 => ?_)
                      clear hP35 hD35 hS35
                      refine lv_aload_n hx hb dX9_reads_222 rfl (lv_at hl22 0 rfl) ?_
                      refine lv_dup hx hb dX9_reads_223 rfl ?_
                      refine kget F hK hP36 9 0 37 iX9 rfl rfl (by decide) (List.mem_of_getElem? (i := 1) rfl) rfl dX9_reads_224 ?_
                      refine lv_iconst (v := 1) hx hb dX9_reads_227 (by decide) ?_
                      refine lv_iadd hx hb dX9_reads_228 ?_
                      refine kMput F hK hP36 hD36 hS36 37 iX9 rfl (by decide) (List.mem_of_getElem? (i := 1) rfl) rfl rfl rfl (Nat.le_of_ble_eq_true rfl) rfl dX9_reads_229 (fun H37 locs37 σ37 eσ37 hP37 hD37 hS37 => ?_)
                      clear hP36 hD36 hS36
                      refine lv_goto (tgt := 153) hx hb dX9_reads_232 (by decide) ?_
                      exact ih (j + 1) (by omega) (by omega) σ37 (by subst eσ37; subst eσ36; subst eσ35; subst eσ22; subst eσ21; subst eσ20; subst eσ9; subst eσ8; subst eσ5; subst eσ1; simp only [mrw_37, mrw_38, mrw_39, mrw_40, mrw_41]; exact mback_d hSk hd3) (by omega) (hJI.trans (kscan_yes go.1 go.2)) _ _ _ hl22 hP37 hD37 hS37
              exact LOOP22 (L + 1) k (by omega) (by omega) σ21 (by subst eσ21; subst eσ20; subst eσ9; subst eσ8; subst eσ5; subst eσ1; simp only [mrw_37, mrw_38, mrw_39, mrw_40, mrw_41, Nat.sub_self]; (try rfl)) (Nat.le_refl k) rfl _ _ _ hl1 hP21 hD21 hS21
          · have hs1 := (msm_go c13).2
            refine lv_aload_n hx hb dX9_reads_87 rfl (lv_at hl1 0 rfl) ?_
            refine lv_iconst (v := 1) hx hb dX9_reads_88 (by decide) ?_
            refine kMput F hK hP12 hD12 hS12 39 iX9 rfl (by decide) (List.mem_of_getElem? (i := 6) rfl) rfl rfl rfl (Nat.le_of_ble_eq_true rfl) rfl dX9_reads_89 (fun H38 locs38 σ38 eσ38 hP38 hD38 hS38 => ?_)
            clear hP12 hD12 hS12
            have LOOP39 : ∀ (fu j : Nat), j ≤ L → L + 1 ≤ j + fu → ∀ σ39 : kS, σ39 = mrw σ (nI j) (nI k) 1 (mlet (σ 35) L k) 0 → (kscan ksm (σ 35) L k = kscan ksm (σ 35) L j) → ∀ (H39 : Heap) (locs39 : List Loc) (ls39 : Array Slot), lv_has ls39 1 [(0, .ref h)] → va_P G.1 vwCl (mW G h a σ39) H39 → va_D A (mW G h a σ39) → va_S A st.heap H39 locs39 → W pg l ev ({ frames := 1, cells := 0, slots := 0, locals := 25 }) st mi ([.ref h] : List Value).toArray bl mt cd H39 locs39 0 0 (MQ bl (kQv G (fun (uu : kS) => uu = mreads σ L E) (fun (uu : kS) => mW G h a uu) A) ([.ref h] : List Value).toArray st 0 0 A) (F0 mi 92 ls39 []) := by
              intro fu
              induction fu with
              | zero => intro j h1 h2; exact absurd h2 (by omega)
              | succ fu ih =>
                intro j hj hnj σ39 eσ39 hJI H39 locs39 ls39 hl39 hP39 hD39 hS39
                refine lv_aload_n hx hb dX9_reads_92 rfl (lv_at hl39 0 rfl) ?_
                refine lv_aload_n hx hb dX9_reads_93 rfl (lv_at hl39 0 rfl) ?_
                refine kget F hK hP39 9 0 37 iX9 rfl rfl (by decide) (List.mem_of_getElem? (i := 1) rfl) rfl dX9_reads_94 ?_
                rw [show (σ39 37 0) = nI j from (by subst eσ39; subst eσ38; subst eσ9; subst eσ8; subst eσ5; subst eσ1; rfl)]
                refine kWVi F hK hP39 hD39 hS39 hA hl39.1 (c_X9_letterAt l G h a σ39 j L (by subst eσ39; subst eσ38; subst eσ9; subst eσ8; subst eσ5; subst eσ1; exact hL) lL (by omega)) 9 0 gX9_reads_X9_letterAt rfl 1 rfl (by decide +kernel) ⟨Nat.le_of_ble_eq_true rfl, Nat.le_of_ble_eq_true rfl⟩ ⟨Nat.zero_le _, Nat.zero_le _⟩ rfl rfl (Nat.le_of_ble_eq_true rfl) rfl dX9_reads_97 (fun r40 u40 H41 locs41 hw40 (hP41 : va_P G.1 vwCl (mW G h a σ39) H41) (hD41 : va_D A (mW G h a σ39)) hS41 => ?_)
                clear hP39 hD39 hS39
                have w40_0 : r40 = mlet (σ39 35) L j := hw40
                have g40 : r40 = (mlet (σ 35) L j) := (by subst eσ39; subst eσ38; subst eσ9; subst eσ8; subst eσ5; subst eσ1; exact w40_0)
                clear w40_0
                subst g40
                refine lv_i2l (v := (mlet (σ 35) L j).toInt64) hx hb dX9_reads_100 rfl ?_
                refine lv_ldc2 (v := 97) hx hb hown (hts _ (List.mem_of_getElem? (i := 7) rfl)) dX9_reads_101 ?_
                refine lv_ldc2 (v := 122) hx hb hown (hts _ (List.mem_of_getElem? (i := 8) rfl)) dX9_reads_104 ?_
                refine kPSi F hK hP41 hD41 hS41 hA hl39.1 (c_X9_in l G ((mlet (σ 35) L j).toInt64) 97 122) (fun _ => rfl) gX9_reads_X9_in rfl 3 rfl (by decide +kernel) ⟨Nat.le_of_ble_eq_true rfl, Nat.le_of_ble_eq_true rfl⟩ ⟨Nat.zero_le _, Nat.zero_le _⟩ (Nat.le_of_ble_eq_true rfl) rfl dX9_reads_107 (fun r42 u42 H43 locs43 hw42 (hP43 : va_P G.1 vwCl (mW G h a σ39) H43) (hD43 : va_D A (mW G h a σ39)) hS43 => ?_)
                clear hP41 hD41 hS41
                have w42_0 : r42 = kinL ((mlet (σ 35) L j).toInt64) 97 122 := hw42
                have g42 : r42 = (kinL (mlet (σ 35) L j).toInt64 97 122) := (by subst eσ39; subst eσ38; subst eσ9; subst eσ8; subst eσ5; subst eσ1; exact w42_0)
                clear w42_0
                subst g42
                refine lv_if_eq (tgt := 250) hx hb dX9_reads_110 (by decide) (fun c44 => ?_) (fun c44 => ?_)
                · have hJ := hJI.trans (msm_end c44)
                  have q45 : σ39 = mreads σ L E := by
                    subst eσ39
                    subst eσ38
                    subst eσ9
                    subst eσ8
                    subst eσ5
                    subst eσ1
                    skip
                    exact mreads_s hS lE hs1 hJ
                  exact kRv F hr hlocks hS43 dX9_reads_250 σ39 q45 hP43 hD43
                · have go := msm_go c44
                  refine lv_aload_n hx hb dX9_reads_113 rfl (lv_at hl39 0 rfl) ?_
                  refine lv_dup hx hb dX9_reads_114 rfl ?_
                  refine kget F hK hP43 9 0 37 iX9 rfl rfl (by decide) (List.mem_of_getElem? (i := 1) rfl) rfl dX9_reads_115 ?_
                  refine lv_iconst (v := 1) hx hb dX9_reads_118 (by decide) ?_
                  refine lv_iadd hx hb dX9_reads_119 ?_
                  refine kMput F hK hP43 hD43 hS43 37 iX9 rfl (by decide) (List.mem_of_getElem? (i := 1) rfl) rfl rfl rfl (Nat.le_of_ble_eq_true rfl) rfl dX9_reads_120 (fun H46 locs46 σ46 eσ46 hP46 hD46 hS46 => ?_)
                  clear hP43 hD43 hS43
                  refine lv_goto (tgt := 92) hx hb dX9_reads_123 (by decide) ?_
                  exact ih (j + 1) (by omega) (by omega) σ46 (by subst eσ46; subst eσ39; subst eσ38; subst eσ9; subst eσ8; subst eσ5; subst eσ1; show su (mrw σ (nI j) _ _ _ _) 37 0 (nI j + 1) = _; rw [mrw_37, nI_1]) (hJI.trans (kscan_yes go.1 go.2)) _ _ _ hl39 hP46 hD46 hS46
            exact LOOP39 (L + 1) k (by omega) (by omega) σ38 (by subst eσ38; subst eσ9; subst eσ8; subst eσ5; subst eσ1; simp only [mrw_37, mrw_38, mrw_39, mrw_40, mrw_41, Nat.sub_self]; (try rfl)) rfl _ _ _ hl1 hP38 hD38 hS38
        · have hkL : k = L := (nI_eq (a := k) (b := L) (by omega) (by omega)).mp (by rw [← hL]; subst eσ9; subst eσ8; subst eσ5; subst eσ1; exact c10)
          refine lv_aload_n hx hb dX9_reads_62 rfl (lv_at hl1 0 rfl) ?_
          refine lv_iconst (v := 0) hx hb dX9_reads_63 (by decide) ?_
          refine kMput F hK hP9 hD9 hS9 39 iX9 rfl (by decide) (List.mem_of_getElem? (i := 6) rfl) rfl rfl rfl (Nat.le_of_ble_eq_true rfl) rfl dX9_reads_64 (fun H47 locs47 σ47 eσ47 hP47 hD47 hS47 => ?_)
          clear hP9 hD9 hS9
          refine lv_goto (tgt := 250) hx hb dX9_reads_67 (by decide) ?_
          have q48 : σ47 = mreads σ L E := by
            subst eσ47
            subst eσ9
            subst eσ8
            subst eσ5
            subst eσ1
            simp only [mrw_37, mrw_38, mrw_39, mrw_40, mrw_41]
            exact mreads_A hS hkL
          exact kRv F hr hlocks hS47 dX9_reads_250 σ47 q48 hP47 hD47
      · have hgo := msp_go c4
        refine lv_aload_n hx hb dX9_reads_13 rfl (lv_at hl1 0 rfl) ?_
        refine lv_dup hx hb dX9_reads_14 rfl ?_
        refine kget F hK hP3 9 0 37 iX9 rfl rfl (by decide) (List.mem_of_getElem? (i := 1) rfl) rfl dX9_reads_15 ?_
        refine lv_iconst (v := 1) hx hb dX9_reads_18 (by decide) ?_
        refine lv_iadd hx hb dX9_reads_19 ?_
        refine kMput F hK hP3 hD3 hS3 37 iX9 rfl (by decide) (List.mem_of_getElem? (i := 1) rfl) rfl rfl rfl (Nat.le_of_ble_eq_true rfl) rfl dX9_reads_20 (fun H49 locs49 σ49 eσ49 hP49 hD49 hS49 => ?_)
        clear hP3 hD3 hS3
        refine lv_goto (tgt := 0) hx hb dX9_reads_23 (by decide) ?_
        exact ih (k + 1) (by omega) (by omega) σ49 (by subst eσ49; subst eσ1; show su (mrw σ (nI k) _ _ _ _) 37 0 (nI k + 1) = _; rw [mrw_37, nI_1]) (hI.trans (kscan_yes hgo.1 hgo.2)) _ _ _ hl1 hP49 hD49 hS49
  exact LOOP1 (L + 1) E (by omega) (by omega) σ (by rw [← hE]; exact (mrw_id σ).symm) rfl _ _ _ hl0 hP0 hD0 hS0
