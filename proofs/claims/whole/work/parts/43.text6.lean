set_option maxHeartbeats 4000000 in
set_option maxRecDepth 100000 in
theorem c_X6_read (l : Launch) (G : kG) (Z : kZs) (tx : Nat) (yl : Nat) (yk : Nat) (yf : Nat) (ys : Nat) (x : Nat → Int32) (xl : Nat → Int32) (fk : Nat → Int32) (ff : Nat → Int32) (fs : Nat → Int32) (L : Nat) (hL : x 1 = nI L) (lL : L ≤ 200) : kMz Z G l yX6_read wsX6_read ({ frames := 7, cells := 0, slots := 0, locals := 151 }) [.ref tx] ([oTx tx yl yk yf ys x, aI G yl 200 xl, aI G yk 24 fk, aI G yf 24 ff, aI G ys 24 fs]) (kQi G (fun (rr : Int32) (uu : (Nat → Int32) × (Nat → Int32) × (Nat → Int32) × (Nat → Int32)) => (rr = (krd xl L x fk ff fs).1) ∧ (uu.1 = (krd xl L x fk ff fs).2.1) ∧ (uu.2.1 = (krd xl L x fk ff fs).2.2.1) ∧ (uu.2.2.1 = (krd xl L x fk ff fs).2.2.2.1) ∧ (uu.2.2.2 = (krd xl L x fk ff fs).2.2.2.2)) (fun (uu : (Nat → Int32) × (Nat → Int32) × (Nat → Int32) × (Nat → Int32)) => [oTx tx yl yk yf ys uu.1, aI G yl 200 xl, aI G yk 24 uu.2.1, aI G yf 24 uu.2.2.1, aI G ys 24 uu.2.2.2])) := by
  refine kzStart (cc := cX6_read) (maxL := 2) (ret := (some .int)) (by decide) rfl (Nat.le_of_ble_eq_true rfl) (fun pg ev st mi bl mt cd A ls0 F hr hlocks hin hK hP0 hD0 hA hS0 hl0 hZ => ?_)
  obtain ⟨hx, hb, hml, hown, hts⟩ := id F
  have hl0 : lv_has ls0 2 [(0, .ref tx)] := hl0
  have iX6 : ∀ w ∈ u_ws RX6 TX6 8, w ∈ wsX6_read := fun w h => List.mem_cons_of_mem _ (List.mem_append_right _ h)
  refine lv_aload_n hx hb dX6_read_0 rfl (lv_at hl0 0 rfl) ?_
  refine lv_iconst (v := 0) hx hb dX6_read_1 (by decide) ?_
  refine kput F hK hP0 hD0 hS0 (ty0 := tyX6) 6 0 7 iX6 rfl tyX6_ok nmX6 (fun zz => [oTx tx yl yk yf ys zz, aI G yl 200 xl, aI G yk 24 fk, aI G yf 24 ff, aI G ys 24 fs]) x rfl (by decide) (List.mem_of_getElem? (i := 1) rfl) rfl rfl rfl (Nat.le_of_ble_eq_true rfl) rfl dX6_read_2 (fun H1 locs1 x1 ex1 (hP1 : va_P G.1 vwCl ([oTx tx yl yk yf ys x1, aI G yl 200 xl, aI G yk 24 fk, aI G yf 24 ff, aI G ys 24 fs]) H1) (hD1 : va_D A ([oTx tx yl yk yf ys x1, aI G yl 200 xl, aI G yk 24 fk, aI G yf 24 ff, aI G ys 24 fs])) hS1 => ?_)
  clear hP0 hD0 hS0
  refine lv_aload_n hx hb dX6_read_5 rfl (lv_at hl0 0 rfl) ?_
  refine lv_iconst (v := 0) hx hb dX6_read_6 (by decide) ?_
  refine kput F hK hP1 hD1 hS1 (ty0 := tyX6) 6 0 5 iX6 rfl tyX6_ok nmX6 (fun zz => [oTx tx yl yk yf ys zz, aI G yl 200 xl, aI G yk 24 fk, aI G yf 24 ff, aI G ys 24 fs]) x1 rfl (by decide) (List.mem_of_getElem? (i := 2) rfl) rfl rfl rfl (Nat.le_of_ble_eq_true rfl) rfl dX6_read_7 (fun H2 locs2 x2 ex2 (hP2 : va_P G.1 vwCl ([oTx tx yl yk yf ys x2, aI G yl 200 xl, aI G yk 24 fk, aI G yf 24 ff, aI G ys 24 fs]) H2) (hD2 : va_D A ([oTx tx yl yk yf ys x2, aI G yl 200 xl, aI G yk 24 fk, aI G yf 24 ff, aI G ys 24 fs])) hS2 => ?_)
  clear hP1 hD1 hS1
  refine lv_iconst (v := 0) hx hb dX6_read_10 (by decide) ?_
  refine lv_istore_n (lv' := [(1, .int 0), (0, .ref tx)]) hx hb dX6_read_11 rfl hl0 (by decide) rfl (fun ls3 hl3 => ?_)
  clear hl0
  have LOOP4 : ∀ (fu k : Nat), k ≤ 24 → 24 + 1 ≤ k + fu → ∀ E4 : Nat, ∀ x4 : Nat → Int32, ∀ fk4 : Nat → Int32, ∀ ff4 : Nat → Int32, ∀ fs4 : Nat → Int32, (x4 1 = nI L) → (x4 7 = nI E4) → (E4 ≤ L) → (kread xl L 24 0 0 (upd (upd x 7 0) 5 0, fk, ff, fs) = kread xl L (24 - k) k E4 (x4, fk4, ff4, fs4)) → ∀ (H4 : Heap) (locs4 : List Loc) (ls4 : Array Slot), lv_has ls4 2 [(1, .int (nI k)), (0, .ref tx)] → va_P G.1 vwCl ([oTx tx yl yk yf ys x4, aI G yl 200 xl, aI G yk 24 fk4, aI G yf 24 ff4, aI G ys 24 fs4]) H4 → va_D A ([oTx tx yl yk yf ys x4, aI G yl 200 xl, aI G yk 24 fk4, aI G yf 24 ff4, aI G ys 24 fs4]) → va_S A st.heap H4 locs4 → W pg l ev ({ frames := 7, cells := 0, slots := 0, locals := 151 }) st mi ([.ref tx] : List Value).toArray bl mt cd H4 locs4 0 0 (MQ bl (kQi G (fun (rr : Int32) (uu : (Nat → Int32) × (Nat → Int32) × (Nat → Int32) × (Nat → Int32)) => (rr = (krd xl L x fk ff fs).1) ∧ (uu.1 = (krd xl L x fk ff fs).2.1) ∧ (uu.2.1 = (krd xl L x fk ff fs).2.2.1) ∧ (uu.2.2.1 = (krd xl L x fk ff fs).2.2.2.1) ∧ (uu.2.2.2 = (krd xl L x fk ff fs).2.2.2.2)) (fun (uu : (Nat → Int32) × (Nat → Int32) × (Nat → Int32) × (Nat → Int32)) => [oTx tx yl yk yf ys uu.1, aI G yl 200 xl, aI G yk 24 uu.2.1, aI G yf 24 uu.2.2.1, aI G ys 24 uu.2.2.2]) A) ([.ref tx] : List Value).toArray st 0 0 A) (F0 mi 12 ls4 []) := by
    intro fu
    induction fu with
    | zero => intro k h1 h2; exact absurd h2 (by omega)
    | succ fu ih =>
      intro k hk hnk E4 x4 fk4 ff4 fs4 hXL hXE hEL hRd H4 locs4 ls4 hl4 hP4 hD4 hS4
      refine lv_iload_n hx hb dX6_read_12 rfl (lv_at hl4 0 rfl) ?_
      refine lv_bipush (v := 24) hx hb dX6_read_13 (by decide) ?_
      refine lv_icmp_ge (tgt := 82) hx hb dX6_read_15 (by decide) (fun c5 => ?_) (fun c5 => ?_)
      · have xk : k = 24 := k_exit (N := 24) hk (by decide) c5
        subst xk
        clear c5
        refine lv_aload_n hx hb dX6_read_82 rfl (lv_at hl4 1 rfl) ?_
        refine kget F hK hP4 6 0 6 iX6 rfl rfl (by decide) (List.mem_of_getElem? (i := 3) rfl) rfl dX6_read_83 ?_
        have q6 : ((x4 6) = (krd xl L x fk ff fs).1) ∧ (x4 = (krd xl L x fk ff fs).2.1) ∧ (fk4 = (krd xl L x fk ff fs).2.2.1) ∧ (ff4 = (krd xl L x fk ff fs).2.2.2.1) ∧ (fs4 = (krd xl L x fk ff fs).2.2.2.2) := by
          subst ex2
          subst ex1
          rw [show krd xl L x fk ff fs = _ from hRd]
          and_intros <;> rfl
        exact kRi F hr hlocks hS4 dX6_read_86 ⟨x4, fk4, ff4, fs4⟩ q6 hP4 hD4
      · have lk : k < 24 := k_body (N := 24) hk (by decide) c5
        refine lv_aload_n hx hb dX6_read_18 rfl (lv_at hl4 1 rfl) ?_
        refine lv_iload_n hx hb dX6_read_19 rfl (lv_at hl4 0 rfl) ?_
        refine kzVi (wr := []) F hK hP4 hD4 hS4 hA hl4.1 hZ (c_X6_readClause l G Z tx yl yk yf ys x4 xl fk4 ff4 fs4 L E4 k hXL lL hXE hEL lk) [0, 1, 2, 3, 4] [] 6 0 gX6_read_X6_readClause rfl 1 rfl (by decide +kernel) ⟨Nat.le_of_ble_eq_true rfl, Nat.le_of_ble_eq_true rfl⟩ ⟨Nat.zero_le _, Nat.zero_le _⟩ rfl rfl rfl rfl (by decide) (by decide) (by decide) (Nat.le_of_ble_eq_true rfl) rfl dX6_read_20 (fun r7 u7 H8 locs8 hw7 hP8 hD8 hS8 => ?_)
        obtain ⟨x_7, fk_7, ff_7, fs_7⟩ := u7
        have hP8 : va_P G.1 vwCl ([oTx tx yl yk yf ys x_7, aI G yl 200 xl, aI G yk 24 fk_7, aI G yf 24 ff_7, aI G ys 24 fs_7]) H8 := hP8
        have hD8 : va_D A ([oTx tx yl yk yf ys x_7, aI G yl 200 xl, aI G yk 24 fk_7, aI G yf 24 ff_7, aI G ys 24 fs_7]) := hD8
        clear hP4 hD4 hS4
        have w7_0 : r7 = kcR xl L E4 := hw7.1
        have w7_1 : x_7 = kset x4 (kcT xl L E4) := hw7.2.1
        have w7_2 : fk_7 = kcP fk4 k (kcK xl L E4) xl L E4 := hw7.2.2.1
        have w7_3 : ff_7 = kcP ff4 k (kcV xl L E4) xl L E4 := hw7.2.2.2.1
        have w7_4 : fs_7 = kcP fs4 k (kcS xl L E4) xl L E4 := hw7.2.2.2.2
        have g7 : r7 = (kcR xl L E4) := w7_0
        clear w7_0
        subst g7
        refine lv_if_ne (tgt := 31) hx hb dX6_read_23 (by decide) (fun c9 => ?_) (fun c9 => ?_)
        · have hR := c9
          refine lv_aload_n hx hb dX6_read_31 rfl (lv_at hl4 1 rfl) ?_
          refine lv_dup hx hb dX6_read_32 rfl ?_
          refine kget F hK hP8 6 0 5 iX6 rfl rfl (by decide) (List.mem_of_getElem? (i := 2) rfl) rfl dX6_read_33 ?_
          refine lv_iconst (v := 1) hx hb dX6_read_36 (by decide) ?_
          refine lv_iadd hx hb dX6_read_37 ?_
          refine kput F hK hP8 hD8 hS8 (ty0 := tyX6) 6 0 5 iX6 rfl tyX6_ok nmX6 (fun zz => [oTx tx yl yk yf ys zz, aI G yl 200 xl, aI G yk 24 fk_7, aI G yf 24 ff_7, aI G ys 24 fs_7]) x_7 rfl (by decide) (List.mem_of_getElem? (i := 2) rfl) rfl rfl rfl (Nat.le_of_ble_eq_true rfl) rfl dX6_read_38 (fun H10 locs10 x10 ex10 (hP10 : va_P G.1 vwCl ([oTx tx yl yk yf ys x10, aI G yl 200 xl, aI G yk 24 fk_7, aI G yf 24 ff_7, aI G ys 24 fs_7]) H10) (hD10 : va_D A ([oTx tx yl yk yf ys x10, aI G yl 200 xl, aI G yk 24 fk_7, aI G yf 24 ff_7, aI G ys 24 fs_7])) hS10 => ?_)
          clear hP8 hD8 hS8
          refine lv_aload_n hx hb dX6_read_41 rfl (lv_at hl4 1 rfl) ?_
          refine kVv (wr := [aI G yk 24 fk_7, aI G yf 24 ff_7, aI G ys 24 fs_7]) F hK hP10 hD10 hS10 hA hl4.1 (c_X6_nextToken l G tx yl yk yf ys x10 xl L ((kcT xl L E4).2) (by subst ex10; subst w7_4; subst w7_3; subst w7_2; subst w7_1; subst ex2; subst ex1; exact hXL) lL (by subst ex10; subst w7_4; subst w7_3; subst w7_2; subst w7_1; subst ex2; subst ex1; rfl) (kcT_le hEL).2) [0, 1] [2, 3, 4] 6 0 gX6_read_X6_nextToken rfl 0 rfl (by decide +kernel) ⟨Nat.le_of_ble_eq_true rfl, Nat.le_of_ble_eq_true rfl⟩ ⟨Nat.zero_le _, Nat.zero_le _⟩ rfl rfl rfl rfl (by decide) (by decide) (by decide) (Nat.le_of_ble_eq_true rfl) rfl dX6_read_42 (fun x_11 H12 locs12 hw11 (hP12 : va_P G.1 vwCl ([aI G yk 24 fk_7, aI G yf 24 ff_7, aI G ys 24 fs_7, oTx tx yl yk yf ys x_11, aI G yl 200 xl]) H12) (hD12 : va_D A ([aI G yk 24 fk_7, aI G yf 24 ff_7, aI G ys 24 fs_7, oTx tx yl yk yf ys x_11, aI G yl 200 xl])) hS12 => ?_)
          clear hP10 hD10 hS10
          have w11_0 : x_11 = upd (upd x10 6 (nI (ktok xl L ((kcT xl L E4).2)).1)) 7 (nI (ktok xl L ((kcT xl L E4).2)).2) := hw11
          have g11 : x_11 = krx xl L E4 x4 := w11_0.trans (by subst ex10; subst w7_4; subst w7_3; subst w7_2; subst w7_1; subst ex2; subst ex1; rfl)
          clear w11_0
          have t116 : x_11 6 = nI (ktok xl L (kcT xl L E4).2).1 := by rw [g11]; rfl
          have t111 : x_11 1 = nI L := by rw [g11]; exact hXL
          have tu := ktok_le (xl := xl) (kcT_le (xl := xl) hEL).2
          refine lv_aload_n hx hb dX6_read_45 rfl (lv_at hl4 1 rfl) ?_
          refine kget F hK hP12 6 3 6 iX6 rfl rfl (by decide) (List.mem_of_getElem? (i := 3) rfl) rfl dX6_read_46 ?_
          refine lv_aload_n hx hb dX6_read_49 rfl (lv_at hl4 1 rfl) ?_
          refine kget F hK hP12 6 3 1 iX6 rfl rfl (by decide) (List.mem_of_getElem? (i := 4) rfl) rfl dX6_read_50 ?_
          refine lv_icmp_ne (tgt := 58) hx hb dX6_read_53 (by decide) (fun c13 => ?_) (fun c13 => ?_)
          · have hu : ¬ (ktok xl L (kcT xl L E4).2).1 = L := fun q => c13 (by rw [t116, t111, q])
            refine lv_aload_n hx hb dX6_read_58 rfl (lv_at hl4 1 rfl) ?_
            refine lv_aload_n hx hb dX6_read_59 rfl (lv_at hl4 1 rfl) ?_
            refine kget F hK hP12 6 3 6 iX6 rfl rfl (by decide) (List.mem_of_getElem? (i := 3) rfl) rfl dX6_read_60 ?_
            rw [show (x_11 6) = nI (ktok xl L (kcT xl L E4).2).1 from t116]
            refine kVi (wr := [aI G yk 24 fk_7, aI G yf 24 ff_7, aI G ys 24 fs_7]) F hK hP12 hD12 hS12 hA hl4.1 (c_X6_letterAt l G tx yl yk yf ys x_11 xl L ((ktok xl L (kcT xl L E4).2).1) t111 lL (by omega)) [3, 4] [0, 1, 2] 6 0 gX6_read_X6_letterAt rfl 1 rfl (by decide +kernel) ⟨Nat.le_of_ble_eq_true rfl, Nat.le_of_ble_eq_true rfl⟩ ⟨Nat.zero_le _, Nat.zero_le _⟩ rfl rfl rfl rfl (by decide) (by decide) (by decide) (Nat.le_of_ble_eq_true rfl) rfl dX6_read_63 (fun r14 u14 H15 locs15 hw14 (hP15 : va_P G.1 vwCl ([aI G yk 24 fk_7, aI G yf 24 ff_7, aI G ys 24 fs_7, oTx tx yl yk yf ys x_11, aI G yl 200 xl]) H15) (hD15 : va_D A ([aI G yk 24 fk_7, aI G yf 24 ff_7, aI G ys 24 fs_7, oTx tx yl yk yf ys x_11, aI G yl 200 xl])) hS15 => ?_)
            clear hP12 hD12 hS12
            have w14_0 : r14 = if ((ktok xl L (kcT xl L E4).2).1) < L then xl ((ktok xl L (kcT xl L E4).2).1) else -1 := hw14
            have g14 : r14 = (xl (ktok xl L (kcT xl L E4).2).1) := w14_0.trans (if_pos (by omega))
            clear w14_0
            subst g14
            refine lv_bipush (v := 59) hx hb dX6_read_66 (by decide) ?_
            refine lv_icmp_eq (tgt := 76) hx hb dX6_read_68 (by decide) (fun c16 => ?_) (fun c16 => ?_)
            · have h9 := c16
              refine lv_iinc (v := nI (k + 1)) (lv' := [(1, .int (nI (k + 1))), (0, .ref tx)]) hx hb dX6_read_76 hl4 (k := 0) rfl (nI_1 _) (by decide) rfl (fun ls17 hl17 => ?_)
              clear hl4
              refine lv_goto (tgt := 12) hx hb dX6_read_79 (by decide) ?_
              exact ih (k + 1) (by omega) (by omega) ((ktok xl L (kcT xl L E4).2).2) x_11 fk_7 ff_7 fs_7 t111 (by rw [g11]; rfl) tu.2 (hRd.trans ((kread_D lk hR hu h9).trans (by subst g11; subst ex10; subst w7_4; subst w7_3; subst w7_2; subst w7_1; subst ex2; subst ex1; rfl))) _ _ _ hl17 (hP15.sub [3, 4, 0, 1, 2] rfl) (hD15.sub [3, 4, 0, 1, 2] (by decide) rfl) hS15
            · refine lv_aload_n hx hb dX6_read_71 rfl (lv_at hl4 1 rfl) ?_
              refine kget F hK hP15 6 3 6 iX6 rfl rfl (by decide) (List.mem_of_getElem? (i := 3) rfl) rfl dX6_read_72 ?_
              have q18 : ((x_11 6) = (krd xl L x fk ff fs).1) ∧ (x_11 = (krd xl L x fk ff fs).2.1) ∧ (fk_7 = (krd xl L x fk ff fs).2.2.1) ∧ (ff_7 = (krd xl L x fk ff fs).2.2.2.1) ∧ (fs_7 = (krd xl L x fk ff fs).2.2.2.2) := by
                subst g11
                subst ex10
                subst w7_4
                subst w7_3
                subst w7_2
                subst w7_1
                subst ex2
                subst ex1
                rw [show krd xl L x fk ff fs = _ from hRd.trans (kread_C lk hR hu c16)]
                and_intros <;> rfl
              exact kRi F hr hlocks hS15 dX6_read_75 ⟨x_11, fk_7, ff_7, fs_7⟩ q18 (hP15.sub [3, 4, 0, 1, 2] rfl) (hD15.sub [3, 4, 0, 1, 2] (by decide) rfl)
          · have hu : (ktok xl L (kcT xl L E4).2).1 = L := (nI_eq (a := (ktok xl L (kcT xl L E4).2).1) (b := L) (by omega) (by omega)).mp (by rw [← t116, ← t111]; exact c13)
            refine lv_iconst (v := (-1)) hx hb dX6_read_56 (by decide) ?_
            have q19 : ((-1) = (krd xl L x fk ff fs).1) ∧ (x_11 = (krd xl L x fk ff fs).2.1) ∧ (fk_7 = (krd xl L x fk ff fs).2.2.1) ∧ (ff_7 = (krd xl L x fk ff fs).2.2.2.1) ∧ (fs_7 = (krd xl L x fk ff fs).2.2.2.2) := by
              subst g11
              subst ex10
              subst w7_4
              subst w7_3
              subst w7_2
              subst w7_1
              subst ex2
              subst ex1
              rw [show krd xl L x fk ff fs = _ from hRd.trans (kread_B lk hR hu)]
              and_intros <;> rfl
            exact kRi F hr hlocks hS12 dX6_read_57 ⟨x_11, fk_7, ff_7, fs_7⟩ q19 (hP12.sub [3, 4, 0, 1, 2] rfl) (hD12.sub [3, 4, 0, 1, 2] (by decide) rfl)
        · refine lv_aload_n hx hb dX6_read_26 rfl (lv_at hl4 1 rfl) ?_
          refine kget F hK hP8 6 0 6 iX6 rfl rfl (by decide) (List.mem_of_getElem? (i := 3) rfl) rfl dX6_read_27 ?_
          have q20 : ((x_7 6) = (krd xl L x fk ff fs).1) ∧ (x_7 = (krd xl L x fk ff fs).2.1) ∧ (fk_7 = (krd xl L x fk ff fs).2.2.1) ∧ (ff_7 = (krd xl L x fk ff fs).2.2.2.1) ∧ (fs_7 = (krd xl L x fk ff fs).2.2.2.2) := by
            subst w7_4
            subst w7_3
            subst w7_2
            subst w7_1
            subst ex2
            subst ex1
            rw [show krd xl L x fk ff fs = _ from hRd.trans (kread_A lk c9)]
            and_intros <;> rfl
          exact kRi F hr hlocks hS8 dX6_read_30 ⟨x_7, fk_7, ff_7, fs_7⟩ q20 hP8 hD8
  exact LOOP4 (24 + 1) 0 (by omega) (by omega) 0 x2 fk ff fs (by subst_eqs; first | exact hL | (subst_vars; exact hL)) (by subst_vars; rfl) (Nat.zero_le _) (by subst_vars; rfl) _ _ _ hl3 hP2 hD2 hS2
