set_option maxHeartbeats 4000000 in
set_option maxRecDepth 100000 in
theorem c_X6_number (l : Launch) (G : kG) (tx : Nat) (yl : Nat) (yk : Nat) (yf : Nat) (ys : Nat) (x : Nat → Int32) (xl : Nat → Int32) (L : Nat) (S : Nat) (E : Nat) (a : Int32) (b : Int32) (hL : x 1 = nI L) (lL : L ≤ 200) (hS6 : x 6 = nI S) (hE : x 7 = nI E) (hSE : S ≤ E) (hEL : E ≤ L) : kM G l yX6_number wsX6_number ({ frames := 1, cells := 0, slots := 0, locals := 21 }) [.ref tx, .int a, .int b] ([oTx tx yl yk yf ys x, aI G yl 200 xl]) (kQi G (fun (rr : Int32) (uu : Unit) => rr = knum xl S E a b) (fun (uu : Unit) => [oTx tx yl yk yf ys x, aI G yl 200 xl])) := by
  refine kStart (cc := cX6_number) (maxL := 5) (ret := (some .int)) (by decide) rfl (Nat.le_of_ble_eq_true rfl) (fun pg ev st mi bl mt cd A ls0 F hr hlocks hin hK hP0 hD0 hA hS0 hl0 => ?_)
  obtain ⟨hx, hb, hml, hown, hts⟩ := id F
  have hl0 : lv_has ls0 5 [(0, .ref tx), (1, .int a), (2, .int b)] := hl0
  have iX6 : ∀ w ∈ u_ws RX6 TX6 8, w ∈ wsX6_number := fun w h => List.mem_cons_of_mem _ (List.mem_append_right _ h)
  refine lv_aload_n hx hb dX6_number_0 rfl (lv_at hl0 0 rfl) ?_
  refine kget F hK hP0 6 0 7 iX6 rfl rfl (by decide) (List.mem_of_getElem? (i := 1) rfl) rfl dX6_number_1 ?_
  refine lv_aload_n hx hb dX6_number_4 rfl (lv_at hl0 0 rfl) ?_
  refine kget F hK hP0 6 0 6 iX6 rfl rfl (by decide) (List.mem_of_getElem? (i := 2) rfl) rfl dX6_number_5 ?_
  refine lv_icmp_eq (tgt := 24) hx hb dX6_number_8 (by decide) (fun c1 => ?_) (fun c1 => ?_)
  · have he : S = E := ((nI_eq (a := E) (b := S) (by omega) (by omega)).mp (by rw [← hE, ← hS6]; exact c1)).symm
    refine lv_iconst (v := (-1)) hx hb dX6_number_24 (by decide) ?_
    have q2 : (-1) = knum xl S E a b := by
      simp only [knum, eq_true he, ↓reduceIte]
    exact kRi F hr hlocks hS0 dX6_number_25 () q2 hP0 hD0
  · have he : ¬ S = E := fun q => c1 (by rw [hE, hS6, q])
    refine lv_aload_n hx hb dX6_number_11 rfl (lv_at hl0 0 rfl) ?_
    refine kget F hK hP0 6 0 7 iX6 rfl rfl (by decide) (List.mem_of_getElem? (i := 1) rfl) rfl dX6_number_12 ?_
    refine lv_aload_n hx hb dX6_number_15 rfl (lv_at hl0 0 rfl) ?_
    refine kget F hK hP0 6 0 6 iX6 rfl rfl (by decide) (List.mem_of_getElem? (i := 2) rfl) rfl dX6_number_16 ?_
    refine lv_isub hx hb dX6_number_19 ?_
    refine lv_iconst (v := 3) hx hb dX6_number_20 (by decide) ?_
    refine lv_icmp_le (tgt := 26) hx hb dX6_number_21 (by decide) (fun c3 => ?_) (fun c3 => ?_)
    · rw [hE, hS6, nI_sub (by omega)] at c3
      have h3 : ¬ 3 < E - S := Nat.not_lt.mpr ((nI_leI (a := E - S) (b := 3) (by omega) (by omega)).mp c3)
      refine lv_iconst (v := 0) hx hb dX6_number_26 (by decide) ?_
      refine lv_istore_n (lv' := [(3, .int 0), (0, .ref tx), (1, .int a), (2, .int b)]) hx hb dX6_number_27 rfl hl0 (by decide) rfl (fun ls4 hl4 => ?_)
      clear hl0
      refine lv_aload_n hx hb dX6_number_28 rfl (lv_at hl4 1 rfl) ?_
      refine kget F hK hP0 6 0 6 iX6 rfl rfl (by decide) (List.mem_of_getElem? (i := 2) rfl) rfl dX6_number_29 ?_
      rw [show (x 6) = nI S from by exact hS6]
      refine lv_istore (lv' := [(4, .int (nI S)), (3, .int 0), (0, .ref tx), (1, .int a), (2, .int b)]) hx hb dX6_number_32 hl4 (by decide) rfl (fun ls5 hl5 => ?_)
      clear hl4
      have LOOP6 : ∀ (fu k : Nat), k ≤ E → E + 1 ≤ k + fu → ∀ y6 : Int32, y6 = kdec xl S k → (S ≤ k) → (kdgF xl S (k - S) = true) → ∀ (H6 : Heap) (locs6 : List Loc) (ls6 : Array Slot), lv_has ls6 5 [(4, .int (nI k)), (3, .int y6), (0, .ref tx), (1, .int a), (2, .int b)] → va_P G.1 vwCl ([oTx tx yl yk yf ys x, aI G yl 200 xl]) H6 → va_D A ([oTx tx yl yk yf ys x, aI G yl 200 xl]) → va_S A st.heap H6 locs6 → W pg l ev ({ frames := 1, cells := 0, slots := 0, locals := 21 }) st mi ([.ref tx, .int a, .int b] : List Value).toArray bl mt cd H6 locs6 0 0 (MQ bl (kQi G (fun (rr : Int32) (uu : Unit) => rr = knum xl S E a b) (fun (uu : Unit) => [oTx tx yl yk yf ys x, aI G yl 200 xl]) A) ([.ref tx, .int a, .int b] : List Value).toArray st 0 0 A) (F0 mi 34 ls6 []) := by
        intro fu
        induction fu with
        | zero => intro k h1 h2; exact absurd h2 (by omega)
        | succ fu ih =>
          intro k hk hnk y6 ey6 hSk hdg H6 locs6 ls6 hl6 hP6 hD6 hS6
          refine lv_iload hx hb dX6_number_34 (lv_at hl6 0 rfl) ?_
          refine lv_aload_n hx hb dX6_number_36 rfl (lv_at hl6 2 rfl) ?_
          refine kget F hK hP6 6 0 7 iX6 rfl rfl (by decide) (List.mem_of_getElem? (i := 1) rfl) rfl dX6_number_37 ?_
          refine lv_icmp_ge (tgt := 78) hx hb dX6_number_40 (by decide) (fun c7 => ?_) (fun c7 => ?_)
          · have xk : E = k := by have q := (nI_leI (a := E) (b := k) (by omega) (by omega)).mp (by rw [← hE]; exact c7); omega
            rw [xk] at he h3
            refine lv_iload_n hx hb dX6_number_78 rfl (lv_at hl6 1 rfl) ?_
            refine lv_iload_n hx hb dX6_number_79 rfl (lv_at hl6 3 rfl) ?_
            refine lv_icmp_lt (tgt := 88) hx hb dX6_number_80 (by decide) (fun c8 => ?_) (fun c8 => ?_)
            · refine lv_iconst (v := (-1)) hx hb dX6_number_88 (by decide) ?_
              refine lv_goto (tgt := 93) hx hb dX6_number_89 (by decide) ?_
              have q9 : (-1) = knum xl S E a b := by
                subst ey6
                rw [xk]
                simp only [knum, he, h3, hdg, eq_true c8, ↓reduceIte]
              exact kRi F hr hlocks hS6 dX6_number_93 () q9 hP6 hD6
            · refine lv_iload_n hx hb dX6_number_83 rfl (lv_at hl6 1 rfl) ?_
              refine lv_iload_n hx hb dX6_number_84 rfl (lv_at hl6 4 rfl) ?_
              refine lv_icmp_le (tgt := 92) hx hb dX6_number_85 (by decide) (fun c10 => ?_) (fun c10 => ?_)
              · refine lv_iload_n hx hb dX6_number_92 rfl (lv_at hl6 1 rfl) ?_
                have q11 : y6 = knum xl S E a b := by
                  subst ey6
                  rw [xk]
                  simp only [knum, he, h3, hdg, c8, eq_true c10, ↓reduceIte]
                exact kRi F hr hlocks hS6 dX6_number_93 () q11 hP6 hD6
              · refine lv_iconst (v := (-1)) hx hb dX6_number_88 (by decide) ?_
                refine lv_goto (tgt := 93) hx hb dX6_number_89 (by decide) ?_
                have q12 : (-1) = knum xl S E a b := by
                  subst ey6
                  rw [xk]
                  simp only [knum, he, h3, hdg, c8, c10, ↓reduceIte]
                exact kRi F hr hlocks hS6 dX6_number_93 () q12 hP6 hD6
          · have lk : k < E := Nat.lt_of_not_le (fun q => c7 (by rw [hE]; exact (nI_leI (a := E) (b := k) (by omega) (by omega)).mpr q))
            refine lv_aload_n hx hb dX6_number_43 rfl (lv_at hl6 2 rfl) ?_
            refine lv_iload hx hb dX6_number_44 (lv_at hl6 0 rfl) ?_
            refine kVi (wr := []) F hK hP6 hD6 hS6 hA hl6.1 (c_X6_letterAt l G tx yl yk yf ys x xl L k hL lL (by omega)) [0, 1] [] 6 0 gX6_number_X6_letterAt rfl 1 rfl (by decide +kernel) ⟨Nat.le_of_ble_eq_true rfl, Nat.le_of_ble_eq_true rfl⟩ ⟨Nat.zero_le _, Nat.zero_le _⟩ rfl rfl rfl rfl (by decide) (by decide) (by decide) (Nat.le_of_ble_eq_true rfl) rfl dX6_number_46 (fun r13 u13 H14 locs14 hw13 (hP14 : va_P G.1 vwCl ([oTx tx yl yk yf ys x, aI G yl 200 xl]) H14) (hD14 : va_D A ([oTx tx yl yk yf ys x, aI G yl 200 xl])) hS14 => ?_)
            clear hP6 hD6 hS6
            have w13_0 : r13 = if k < L then xl k else -1 := hw13
            have g13 : r13 = xl k := w13_0.trans (if_pos (by omega))
            clear w13_0
            subst g13
            refine kPSi F hK hP14 hD14 hS14 hA hl6.1 (c_X6_isDigit l G (xl k)) (fun _ => rfl) gX6_number_X6_isDigit rfl 1 rfl (by decide +kernel) ⟨Nat.le_of_ble_eq_true rfl, Nat.le_of_ble_eq_true rfl⟩ ⟨Nat.zero_le _, Nat.zero_le _⟩ (Nat.le_of_ble_eq_true rfl) rfl dX6_number_49 (fun r15 u15 H16 locs16 hw15 (hP16 : va_P G.1 vwCl ([oTx tx yl yk yf ys x, aI G yl 200 xl]) H16) (hD16 : va_D A ([oTx tx yl yk yf ys x, aI G yl 200 xl])) hS16 => ?_)
            clear hP14 hD14 hS14
            have w15_0 : r15 = kdigit (xl k) := hw15
            refine lv_if_ne (tgt := 57) hx hb dX6_number_52 (by decide) (fun c17 => ?_) (fun c17 => ?_)
            · have hdk : kdg (xl k) = true := by subst w15_0; subst ey6; exact kdg_t c17
              refine lv_iload_n hx hb dX6_number_57 rfl (lv_at hl6 1 rfl) ?_
              refine lv_bipush (v := 10) hx hb dX6_number_58 (by decide) ?_
              refine lv_imul hx hb dX6_number_60 ?_
              refine lv_aload_n hx hb dX6_number_61 rfl (lv_at hl6 2 rfl) ?_
              refine lv_iload hx hb dX6_number_62 (lv_at hl6 0 rfl) ?_
              refine kVi (wr := []) F hK hP16 hD16 hS16 hA hl6.1 (c_X6_letterAt l G tx yl yk yf ys x xl L k hL lL (by omega)) [0, 1] [] 6 0 gX6_number_X6_letterAt rfl 1 rfl (by decide +kernel) ⟨Nat.le_of_ble_eq_true rfl, Nat.le_of_ble_eq_true rfl⟩ ⟨Nat.zero_le _, Nat.zero_le _⟩ rfl rfl rfl rfl (by decide) (by decide) (by decide) (Nat.le_of_ble_eq_true rfl) rfl dX6_number_64 (fun r18 u18 H19 locs19 hw18 (hP19 : va_P G.1 vwCl ([oTx tx yl yk yf ys x, aI G yl 200 xl]) H19) (hD19 : va_D A ([oTx tx yl yk yf ys x, aI G yl 200 xl])) hS19 => ?_)
              clear hP16 hD16 hS16
              have w18_0 : r18 = if k < L then xl k else -1 := hw18
              have g18 : r18 = xl k := w18_0.trans (if_pos (by omega))
              clear w18_0
              subst g18
              refine lv_iadd hx hb dX6_number_67 ?_
              refine lv_bipush (v := 48) hx hb dX6_number_68 (by decide) ?_
              refine lv_isub hx hb dX6_number_70 ?_
              refine lv_istore_n (lv' := [(3, .int (((y6 * 10) + (xl k)) - 48)), (4, .int (nI k)), (0, .ref tx), (1, .int a), (2, .int b)]) hx hb dX6_number_71 rfl hl6 (by decide) rfl (fun ls20 hl20 => ?_)
              clear hl6
              refine lv_iinc (v := nI (k + 1)) (lv' := [(4, .int (nI (k + 1))), (3, .int (((y6 * 10) + (xl k)) - 48)), (0, .ref tx), (1, .int a), (2, .int b)]) hx hb dX6_number_72 hl20 (k := 1) rfl (nI_1 _) (by decide) rfl (fun ls21 hl21 => ?_)
              clear hl20
              refine lv_goto (tgt := 34) hx hb dX6_number_75 (by decide) ?_
              exact ih (k + 1) (by omega) (by omega) (((y6 * 10) + (xl k)) - 48) (by subst w15_0; subst ey6; exact (kdec_s hSk).symm) (by omega) (kdgF_yes hSk hdg hdk) _ _ _ hl21 hP19 hD19 hS19
            · have hdn : kdg (xl k) = false := by subst w15_0; subst ey6; exact kdg_f c17
              have hno : kdgF xl S (E - S) = false := kdgF_no (u := k - S) (by omega) (by rw [show S + (k - S) = k by omega]; exact hdn)
              refine lv_iconst (v := (-1)) hx hb dX6_number_55 (by decide) ?_
              have q22 : (-1) = knum xl S E a b := by
                subst w15_0
                subst ey6
                simp only [knum, he, h3, hno, Bool.false_eq_true, ↓reduceIte]
              exact kRi F hr hlocks hS16 dX6_number_56 () q22 hP16 hD16
      exact LOOP6 (E + 1) S (by omega) (by omega) 0 kdec_0.symm (Nat.le_refl S) (by rw [Nat.sub_self]; rfl) _ _ _ hl5 hP0 hD0 hS0
    · rw [hE, hS6, nI_sub (by omega)] at c3
      have h3 : 3 < E - S := Nat.lt_of_not_le (fun q => c3 ((nI_leI (a := E - S) (b := 3) (by omega) (by omega)).mpr q))
      refine lv_iconst (v := (-1)) hx hb dX6_number_24 (by decide) ?_
      have q23 : (-1) = knum xl S E a b := by
        simp only [knum, he, eq_true h3, ↓reduceIte]
      exact kRi F hr hlocks hS0 dX6_number_25 () q23 hP0 hD0
