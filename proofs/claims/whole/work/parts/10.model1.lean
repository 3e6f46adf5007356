set_option maxHeartbeats 1000000 in
set_option maxRecDepth 100000 in
theorem c_X9_mix (l : Launch) (G : kG) (x : Int32) (y : Int32) : kM G l yX9_mix wsX9_mix ({ frames := 0, cells := 0, slots := 0, locals := 0 }) [.int x, .int y] ([]) (kQi G (fun (rr : Int32) (uu : Unit) => rr = kmix x y) (fun (uu : Unit) => [])) := by
  refine kStart (cc := cX9_mix) (maxL := 3) (ret := (some .int)) (by decide) rfl (Nat.le_of_ble_eq_true rfl) (fun pg ev st mi bl mt cd A ls0 F hr hlocks hin hK hP0 hD0 hA hS0 hl0 => ?_)
  obtain ⟨hx, hb, hml, hown, hts⟩ := id F
  have hl0 : lv_has ls0 3 [(0, .int x), (1, .int y)] := hl0
  refine lv_iload_n hx hb dX9_mix_0 rfl (lv_at hl0 0 rfl) ?_
  refine lv_iload_n hx hb dX9_mix_1 rfl (lv_at hl0 1 rfl) ?_
  refine lv_ixor hx hb dX9_mix_2 ?_
  refine lv_ldc (v := 16777619) hx hb hown (hts _ (List.mem_of_getElem? (i := 1) rfl)) dX9_mix_3 ?_
  refine lv_imul hx hb dX9_mix_5 ?_
  refine lv_istore_n (lv' := [(2, .int ((x ^^^ y) * 16777619)), (0, .int x), (1, .int y)]) hx hb dX9_mix_6 rfl hl0 (by decide) rfl (fun ls1 hl1 => ?_)
  clear hl0
  refine lv_iload_n hx hb dX9_mix_7 rfl (lv_at hl1 0 rfl) ?_
  refine lv_iload_n hx hb dX9_mix_8 rfl (lv_at hl1 0 rfl) ?_
  refine lv_bipush (v := 15) hx hb dX9_mix_9 (by decide) ?_
  refine lv_iushr (v := (kushr ((x ^^^ y) * 16777619) 15)) hx hb dX9_mix_11 rfl ?_
  refine lv_ixor hx hb dX9_mix_12 ?_
  have q2 : (((x ^^^ y) * 16777619) ^^^ (kushr ((x ^^^ y) * 16777619) 15)) = kmix x y := by
    first | rfl | (simp only [↓reduceIte]; done) | (simp []; done)
  exact kRi F hr hlocks hS0 dX9_mix_13 () q2 hP0 hD0
set_option maxHeartbeats 1000000 in
set_option maxRecDepth 100000 in
theorem c_X9_in (l : Launch) (G : kG) (v : Int64) (x : Int64) (y : Int64) : kM G l yX9_in wsX9_in ({ frames := 0, cells := 0, slots := 0, locals := 0 }) [.long v, .long x, .long y] ([]) (kQi G (fun (rr : Int32) (uu : Unit) => rr = kinL v x y) (fun (uu : Unit) => [])) := by
  refine kStart (cc := cX9_in) (maxL := 6) (ret := (some .boolean)) (by decide) rfl (Nat.le_of_ble_eq_true rfl) (fun pg ev st mi bl mt cd A ls0 F hr hlocks hin hK hP0 hD0 hA hS0 hl0 => ?_)
  obtain ⟨hx, hb, hml, hown, hts⟩ := id F
  have hl0 : lv_has ls0 6 [(0, .long v), (2, .long x), (4, .long y)] := hl0
  refine lv_lload_n hx hb dX9_in_0 rfl (lv_at hl0 0 rfl) ?_
  refine lv_lload_n hx hb dX9_in_1 rfl (lv_at hl0 1 rfl) ?_
  refine W.lcmp hx hb dX9_in_2 ?_
  refine lv_if_lt (tgt := 17) hx hb dX9_in_3 (by decide) (fun c1 => ?_) (fun c1 => ?_)
  · refine lv_iconst (v := 0) hx hb dX9_in_17 (by decide) ?_
    have q2 : 0 = kinL v x y := by
      first | (simp only [kinL, c1, ↓reduceIte]; done) | (simp [kinL, c1]; done) | rfl
    exact kRz F hr hlocks hS0 dX9_in_18 rfl () q2 hP0 hD0
  · refine lv_lload_n hx hb dX9_in_6 rfl (lv_at hl0 0 rfl) ?_
    refine lv_lload hx hb dX9_in_7 (lv_at hl0 2 rfl) ?_
    refine W.lcmp hx hb dX9_in_9 ?_
    refine lv_if_gt (tgt := 17) hx hb dX9_in_10 (by decide) (fun c3 => ?_) (fun c3 => ?_)
    · refine lv_iconst (v := 0) hx hb dX9_in_17 (by decide) ?_
      have q4 : 0 = kinL v x y := by
        first | (simp only [kinL, c1, c3, ↓reduceIte]; done) | (simp [kinL, c1, c3]; done) | rfl
      exact kRz F hr hlocks hS0 dX9_in_18 rfl () q4 hP0 hD0
    · refine lv_iconst (v := 1) hx hb dX9_in_13 (by decide) ?_
      refine lv_goto (tgt := 18) hx hb dX9_in_14 (by decide) ?_
      have q5 : 1 = kinL v x y := by
        first | (simp only [kinL, c1, c3, ↓reduceIte]; done) | (simp [kinL, c1, c3]; done) | rfl
      exact kRz F hr hlocks hS0 dX9_in_18 rfl () q5 hP0 hD0
set_option maxHeartbeats 1000000 in
set_option maxRecDepth 100000 in
theorem c_X9_has (l : Launch) (G : kG) (t : Int32) (k : Int32) : kM G l yX9_has wsX9_has ({ frames := 0, cells := 0, slots := 0, locals := 0 }) [.int t, .int k] ([]) (kQi G (fun (rr : Int32) (uu : Unit) => rr = mhas t k) (fun (uu : Unit) => [])) := by
  refine kStart (cc := cX9_has) (maxL := 2) (ret := (some .boolean)) (by decide) rfl (Nat.le_of_ble_eq_true rfl) (fun pg ev st mi bl mt cd A ls0 F hr hlocks hin hK hP0 hD0 hA hS0 hl0 => ?_)
  obtain ⟨hx, hb, hml, hown, hts⟩ := id F
  have hl0 : lv_has ls0 2 [(0, .int t), (1, .int k)] := hl0
  refine lv_iload_n hx hb dX9_has_0 rfl (lv_at hl0 0 rfl) ?_
  refine lv_iload_n hx hb dX9_has_1 rfl (lv_at hl0 1 rfl) ?_
  refine lv_ishr hx hb dX9_has_2 ?_
  refine lv_iconst (v := 1) hx hb dX9_has_3 (by decide) ?_
  refine lv_iand hx hb dX9_has_4 ?_
  refine lv_iconst (v := 1) hx hb dX9_has_5 (by decide) ?_
  refine lv_icmp_ne (tgt := 13) hx hb dX9_has_6 (by decide) (fun c1 => ?_) (fun c1 => ?_)
  · refine lv_iconst (v := 0) hx hb dX9_has_13 (by decide) ?_
    have q2 : 0 = mhas t k := by
      first | (simp only [mhas, c1, ↓reduceIte]; done) | (simp [mhas, c1]; done) | rfl
    exact kRz F hr hlocks hS0 dX9_has_14 rfl () q2 hP0 hD0
  · refine lv_iconst (v := 1) hx hb dX9_has_9 (by decide) ?_
    refine lv_goto (tgt := 14) hx hb dX9_has_10 (by decide) ?_
    have q3 : 1 = mhas t k := by
      first | (simp only [mhas, c1, ↓reduceIte]; done) | (simp [mhas, c1]; done) | rfl
    exact kRz F hr hlocks hS0 dX9_has_14 rfl () q3 hP0 hD0
set_option maxHeartbeats 1000000 in
set_option maxRecDepth 100000 in
theorem c_X9_isSide (l : Launch) (G : kG) (i : Int32) : kM G l yX9_isSide wsX9_isSide ({ frames := 1, cells := 0, slots := 0, locals := 25 }) [.int i] ([]) (kQi G (fun (rr : Int32) (uu : Unit) => rr = kinL i.toInt64 0 1) (fun (uu : Unit) => [])) := by
  refine kStart (cc := cX9_isSide) (maxL := 1) (ret := (some .boolean)) (by decide) rfl (Nat.le_of_ble_eq_true rfl) (fun pg ev st mi bl mt cd A ls0 F hr hlocks hin hK hP0 hD0 hA hS0 hl0 => ?_)
  obtain ⟨hx, hb, hml, hown, hts⟩ := id F
  have hl0 : lv_has ls0 1 [(0, .int i)] := hl0
  refine lv_iload_n hx hb dX9_isSide_0 rfl (lv_at hl0 0 rfl) ?_
  refine lv_i2l (v := i.toInt64) hx hb dX9_isSide_1 rfl ?_
  refine lv_lconst (v := 0) hx hb dX9_isSide_2 (by decide) ?_
  refine lv_lconst (v := 1) hx hb dX9_isSide_3 (by decide) ?_
  refine kPSi F hK hP0 hD0 hS0 hA hl0.1 (c_X9_in l G i.toInt64 0 1) (fun _ => rfl) gX9_isSide_X9_in rfl 3 rfl (by decide +kernel) ⟨Nat.le_of_ble_eq_true rfl, Nat.le_of_ble_eq_true rfl⟩ ⟨Nat.zero_le _, Nat.zero_le _⟩ (Nat.le_of_ble_eq_true rfl) rfl dX9_isSide_4 (fun r1 u1 H2 locs2 hw1 (hP2 : va_P G.1 vwCl ([]) H2) (hD2 : va_D A ([])) hS2 => ?_)
  clear hP0 hD0 hS0
  have w1_0 : r1 = kinL i.toInt64 0 1 := hw1
  have q3 : r1 = kinL i.toInt64 0 1 := by
    subst w1_0
    first | rfl | (simp only [↓reduceIte]; done) | (simp []; done)
  exact kRz F hr hlocks hS2 dX9_isSide_7 (by rw [w1_0]; exact kinL_z _ _ _) () q3 hP2 hD2
set_option maxHeartbeats 1000000 in
set_option maxRecDepth 100000 in
theorem c_X9_prime (l : Launch) (G : kG) (g : Int32) : kM G l yX9_prime wsX9_prime ({ frames := 0, cells := 0, slots := 0, locals := 0 }) [.int g] ([]) (kQi G (fun (rr : Int32) (uu : Unit) => rr = kprime g) (fun (uu : Unit) => [])) := by
  refine kStart (cc := cX9_prime) (maxL := 1) (ret := (some .int)) (by decide) rfl (Nat.le_of_ble_eq_true rfl) (fun pg ev st mi bl mt cd A ls0 F hr hlocks hin hK hP0 hD0 hA hS0 hl0 => ?_)
  obtain ⟨hx, hb, hml, hown, hts⟩ := id F
  have hl0 : lv_has ls0 1 [(0, .int g)] := hl0
  refine lv_iload_n hx hb dX9_prime_0 rfl (lv_at hl0 0 rfl) ?_
  refine lv_if_ne (tgt := 9) hx hb dX9_prime_1 (by decide) (fun c1 => ?_) (fun c1 => ?_)
  · refine lv_iload_n hx hb dX9_prime_9 rfl (lv_at hl0 0 rfl) ?_
    refine lv_iconst (v := 1) hx hb dX9_prime_10 (by decide) ?_
    refine lv_icmp_ne (tgt := 19) hx hb dX9_prime_11 (by decide) (fun c2 => ?_) (fun c2 => ?_)
    · refine lv_iload_n hx hb dX9_prime_19 rfl (lv_at hl0 0 rfl) ?_
      refine lv_iconst (v := 2) hx hb dX9_prime_20 (by decide) ?_
      refine lv_icmp_ne (tgt := 29) hx hb dX9_prime_21 (by decide) (fun c3 => ?_) (fun c3 => ?_)
      · refine lv_bipush (v := 97) hx hb dX9_prime_29 (by decide) ?_
        have q4 : 97 = kprime g := by
          first | (simp only [kprime, c1, c2, c3, ↓reduceIte]; done) | (simp [kprime, c1, c2, c3]; done) | rfl
        exact kRi F hr hlocks hS0 dX9_prime_31 () q4 hP0 hD0
      · refine lv_bipush (v := 59) hx hb dX9_prime_24 (by decide) ?_
        refine lv_goto (tgt := 31) hx hb dX9_prime_26 (by decide) ?_
        have q5 : 59 = kprime g := by
          first | (subst c3; rfl) | (simp only [kprime, c1, c2, c3, ↓reduceIte]; done) | (simp [kprime, c1, c2, c3]; done) | rfl
        exact kRi F hr hlocks hS0 dX9_prime_31 () q5 hP0 hD0
    · refine lv_bipush (v := 47) hx hb dX9_prime_14 (by decide) ?_
      refine lv_goto (tgt := 31) hx hb dX9_prime_16 (by decide) ?_
      have q6 : 47 = kprime g := by
        first | (subst c2; rfl) | (simp only [kprime, c1, c2, ↓reduceIte]; done) | (simp [kprime, c1, c2]; done) | rfl
      exact kRi F hr hlocks hS0 dX9_prime_31 () q6 hP0 hD0
  · refine lv_bipush (v := 23) hx hb dX9_prime_4 (by decide) ?_
    refine lv_goto (tgt := 31) hx hb dX9_prime_6 (by decide) ?_
    have q7 : 23 = kprime g := by
      first | (subst c1; rfl) | (simp only [kprime, c1, ↓reduceIte]; done) | (simp [kprime, c1]; done) | rfl
    exact kRi F hr hlocks hS0 dX9_prime_31 () q7 hP0 hD0
set_option maxHeartbeats 1000000 in
set_option maxRecDepth 100000 in
theorem c_X9_power (l : Launch) (G : kG) (b : Int32) (t : Int32) (n : Int32) (S : Nat) (hp : 1 ≤ n) (ht : t = nI S) (hS : S ≤ 2147483646) : kM G l yX9_power wsX9_power ({ frames := 0, cells := 0, slots := 0, locals := 0 }) [.int b, .int t, .int n] ([]) (kQi G (fun (rr : Int32) (uu : Unit) => rr = mpw b n S) (fun (uu : Unit) => [])) := by
  refine kStart (cc := cX9_power) (maxL := 5) (ret := (some .int)) (by decide) rfl (Nat.le_of_ble_eq_true rfl) (fun pg ev st mi bl mt cd A ls0 F hr hlocks hin hK hP0 hD0 hA hS0 hl0 => ?_)
  obtain ⟨hx, hb, hml, hown, hts⟩ := id F
  have hl0 : lv_has ls0 5 [(0, .int b), (1, .int t), (2, .int n)] := hl0
  refine lv_iconst (v := 1) hx hb dX9_power_0 (by decide) ?_
  refine lv_istore_n (lv' := [(3, .int 1), (0, .int b), (1, .int t), (2, .int n)]) hx hb dX9_power_1 rfl hl0 (by decide) rfl (fun ls1 hl1 => ?_)
  clear hl0
  refine lv_iconst (v := 0) hx hb dX9_power_2 (by decide) ?_
  refine lv_istore (lv' := [(4, .int 0), (3, .int 1), (0, .int b), (1, .int t), (2, .int n)]) hx hb dX9_power_3 hl1 (by decide) rfl (fun ls2 hl2 => ?_)
  clear hl1
  have LOOP3 : ∀ (fu k : Nat), k ≤ S → S + 1 ≤ k + fu → ∀ r3 : Int32, r3 = mpw b n k → ∀ (H3 : Heap) (locs3 : List Loc) (ls3 : Array Slot), lv_has ls3 5 [(4, .int (nI k)), (3, .int r3), (0, .int b), (1, .int t), (2, .int n)] → va_P G.1 vwCl ([]) H3 → va_D A ([]) → va_S A st.heap H3 locs3 → W pg l ev ({ frames := 0, cells := 0, slots := 0, locals := 0 }) st mi ([.int b, .int t, .int n] : List Value).toArray bl mt cd H3 locs3 0 0 (MQ bl (kQi G (fun (rr : Int32) (uu : Unit) => rr = mpw b n S) (fun (uu : Unit) => []) A) ([.int b, .int t, .int n] : List Value).toArray st 0 0 A) (F0 mi 5 ls3 []) := by
    intro fu
    induction fu with
    | zero => intro k h1 h2; exact absurd h2 (by omega)
    | succ fu ih =>
      intro k hk hnk r3 er3 H3 locs3 ls3 hl3 hP3 hD3 hS3
      refine lv_iload hx hb dX9_power_5 (lv_at hl3 0 rfl) ?_
      refine lv_iload_n hx hb dX9_power_7 rfl (lv_at hl3 3 rfl) ?_
      refine lv_icmp_ge (tgt := 23) hx hb dX9_power_8 (by decide) (fun c4 => ?_) (fun c4 => ?_)
      · rw [ht] at c4
        have xk : S = k := (k_exit hk (by omega) c4).symm
        subst xk
        refine lv_iload_n hx hb dX9_power_23 rfl (lv_at hl3 1 rfl) ?_
        have q5 : r3 = mpw b n S := by
          subst er3
          first | rfl | (simp only [c4, ↓reduceIte]; done) | (simp [c4]; done)
        exact kRi F hr hlocks hS3 dX9_power_24 () q5 hP3 hD3
      · rw [ht] at c4
        have lk : k < S := k_body hk (by omega) c4
        refine lv_iload_n hx hb dX9_power_11 rfl (lv_at hl3 1 rfl) ?_
        refine lv_iload_n hx hb dX9_power_12 rfl (lv_at hl3 2 rfl) ?_
        refine lv_imul hx hb dX9_power_13 ?_
        refine lv_iload_n hx hb dX9_power_14 rfl (lv_at hl3 4 rfl) ?_
        refine lv_irem hx hb dX9_power_15 (k_ne0 hp) ?_
        refine lv_istore_n (lv' := [(3, .int (krem (r3 * b) n)), (4, .int (nI k)), (0, .int b), (1, .int t), (2, .int n)]) hx hb dX9_power_16 rfl hl3 (by decide) rfl (fun ls6 hl6 => ?_)
        clear hl3
        refine lv_iinc (v := nI (k + 1)) (lv' := [(4, .int (nI (k + 1))), (3, .int (krem (r3 * b) n)), (0, .int b), (1, .int t), (2, .int n)]) hx hb dX9_power_17 hl6 (k := 1) rfl (nI_1 _) (by decide) rfl (fun ls7 hl7 => ?_)
        clear hl6
        refine lv_goto (tgt := 5) hx hb dX9_power_20 (by decide) ?_
        exact ih (k + 1) (by omega) (by omega) (krem (r3 * b) n) (by subst er3; rfl)  _ _ _ hl7 hP3 hD3 hS3
  exact LOOP3 (S + 1) 0 (by omega) (by omega) 1 rfl  _ _ _ hl2 hP0 hD0 hS0
set_option maxHeartbeats 1000000 in
set_option maxRecDepth 100000 in
theorem c_X9_shareOf (l : Launch) (G : kG) (g : Int32) (t : Int32) (S : Nat) (ht : t = nI S) (hS : S ≤ 2147483646) : kM G l yX9_shareOf wsX9_shareOf ({ frames := 1, cells := 0, slots := 0, locals := 24 }) [.int g, .int t] ([]) (kQi G (fun (rr : Int32) (uu : Unit) => rr = mshare g S) (fun (uu : Unit) => [])) := by
  refine kStart (cc := cX9_shareOf) (maxL := 2) (ret := (some .int)) (by decide) rfl (Nat.le_of_ble_eq_true rfl) (fun pg ev st mi bl mt cd A ls0 F hr hlocks hin hK hP0 hD0 hA hS0 hl0 => ?_)
  obtain ⟨hx, hb, hml, hown, hts⟩ := id F
  have hl0 : lv_has ls0 2 [(0, .int g), (1, .int t)] := hl0
  refine lv_iload_n hx hb dX9_shareOf_0 rfl (lv_at hl0 0 rfl) ?_
  refine lv_iconst (v := 2) hx hb dX9_shareOf_1 (by decide) ?_
  refine lv_icmp_ne (tgt := 9) hx hb dX9_shareOf_2 (by decide) (fun c1 => ?_) (fun c1 => ?_)
  · refine lv_iconst (v := 5) hx hb dX9_shareOf_9 (by decide) ?_
    refine lv_iload_n hx hb dX9_shareOf_10 rfl (lv_at hl0 1 rfl) ?_
    refine lv_iload_n hx hb dX9_shareOf_11 rfl (lv_at hl0 0 rfl) ?_
    refine kPSi F hK hP0 hD0 hS0 hA hl0.1 (c_X9_prime l G g) (fun _ => rfl) gX9_shareOf_X9_prime rfl 1 rfl (by decide +kernel) ⟨Nat.le_of_ble_eq_true rfl, Nat.le_of_ble_eq_true rfl⟩ ⟨Nat.zero_le _, Nat.zero_le _⟩ (Nat.le_of_ble_eq_true rfl) rfl dX9_shareOf_12 (fun r2 u2 H3 locs3 hw2 (hP3 : va_P G.1 vwCl ([]) H3) (hD3 : va_D A ([])) hS3 => ?_)
    clear hP0 hD0 hS0
    have w2_0 : r2 = kprime g := hw2
    refine kPSi F hK hP3 hD3 hS3 hA hl0.1 (c_X9_power l G 5 t r2 S (by subst_vars; exact kprime_1 _) ht hS) (fun _ => rfl) gX9_shareOf_X9_power rfl 3 rfl (by decide +kernel) ⟨Nat.le_of_ble_eq_true rfl, Nat.le_of_ble_eq_true rfl⟩ ⟨Nat.zero_le _, Nat.zero_le _⟩ (Nat.le_of_ble_eq_true rfl) rfl dX9_shareOf_15 (fun r4 u4 H5 locs5 hw4 (hP5 : va_P G.1 vwCl ([]) H5) (hD5 : va_D A ([])) hS5 => ?_)
    clear hP3 hD3 hS3
    have w4_0 : r4 = mpw 5 r2 S := hw4
    have q6 : r4 = mshare g S := by
      subst w4_0
      subst w2_0
      first | (simp only [mshare, c1, ↓reduceIte]; done) | (simp [mshare, c1]; done) | rfl
    exact kRi F hr hlocks hS5 dX9_shareOf_18 () q6 hP5 hD5
  · refine lv_iconst (v := 2) hx hb dX9_shareOf_5 (by decide) ?_
    refine lv_goto (tgt := 10) hx hb dX9_shareOf_6 (by decide) ?_
    refine lv_iload_n hx hb dX9_shareOf_10 rfl (lv_at hl0 1 rfl) ?_
    refine lv_iload_n hx hb dX9_shareOf_11 rfl (lv_at hl0 0 rfl) ?_
    refine kPSi F hK hP0 hD0 hS0 hA hl0.1 (c_X9_prime l G g) (fun _ => rfl) gX9_shareOf_X9_prime rfl 1 rfl (by decide +kernel) ⟨Nat.le_of_ble_eq_true rfl, Nat.le_of_ble_eq_true rfl⟩ ⟨Nat.zero_le _, Nat.zero_le _⟩ (Nat.le_of_ble_eq_true rfl) rfl dX9_shareOf_12 (fun r7 u7 H8 locs8 hw7 (hP8 : va_P G.1 vwCl ([]) H8) (hD8 : va_D A ([])) hS8 => ?_)
    clear hP0 hD0 hS0
    have w7_0 : r7 = kprime g := hw7
    refine kPSi F hK hP8 hD8 hS8 hA hl0.1 (c_X9_power l G 2 t r7 S (by subst_vars; exact kprime_1 _) ht hS) (fun _ => rfl) gX9_shareOf_X9_power rfl 3 rfl (by decide +kernel) ⟨Nat.le_of_ble_eq_true rfl, Nat.le_of_ble_eq_true rfl⟩ ⟨Nat.zero_le _, Nat.zero_le _⟩ (Nat.le_of_ble_eq_true rfl) rfl dX9_shareOf_15 (fun r9 u9 H10 locs10 hw9 (hP10 : va_P G.1 vwCl ([]) H10) (hD10 : va_D A ([])) hS10 => ?_)
    clear hP8 hD8 hS8
    have w9_0 : r9 = mpw 2 r7 S := hw9
    have q11 : r9 = mshare g S := by
      subst w9_0
      subst w7_0
      first | (subst c1; rfl) | (simp only [mshare, c1, ↓reduceIte]; done) | (simp [mshare, c1]; done) | rfl
    exact kRi F hr hlocks hS10 dX9_shareOf_18 () q11 hP10 hD10
set_option maxHeartbeats 1000000 in
set_option maxRecDepth 100000 in
theorem c_X9_hasVersion (l : Launch) (G : kG) (t : Int32) (v : Int32) : kM G l yX9_hasVersion wsX9_hasVersion ({ frames := 1, cells := 0, slots := 0, locals := 25 }) [.int t, .int v] ([]) (kQi G (fun (rr : Int32) (uu : Unit) => rr = mhasV t v) (fun (uu : Unit) => [])) := by
  refine kStart (cc := cX9_hasVersion) (maxL := 2) (ret := (some .boolean)) (by decide) rfl (Nat.le_of_ble_eq_true rfl) (fun pg ev st mi bl mt cd A ls0 F hr hlocks hin hK hP0 hD0 hA hS0 hl0 => ?_)
  obtain ⟨hx, hb, hml, hown, hts⟩ := id F
  have hl0 : lv_has ls0 2 [(0, .int t), (1, .int v)] := hl0
  refine lv_iload_n hx hb dX9_hasVersion_0 rfl (lv_at hl0 1 rfl) ?_
  refine lv_i2l (v := v.toInt64) hx hb dX9_hasVersion_1 rfl ?_
  refine lv_lconst (v := 1) hx hb dX9_hasVersion_2 (by decide) ?_
  refine lv_ldc2 (v := 3) hx hb hown (hts _ (List.mem_of_getElem? (i := 1) rfl)) dX9_hasVersion_3 ?_
  refine kPSi F hK hP0 hD0 hS0 hA hl0.1 (c_X9_in l G v.toInt64 1 3) (fun _ => rfl) gX9_hasVersion_X9_in rfl 3 rfl (by decide +kernel) ⟨Nat.le_of_ble_eq_true rfl, Nat.le_of_ble_eq_true rfl⟩ ⟨Nat.zero_le _, Nat.zero_le _⟩ (Nat.le_of_ble_eq_true rfl) rfl dX9_hasVersion_6 (fun r1 u1 H2 locs2 hw1 (hP2 : va_P G.1 vwCl ([]) H2) (hD2 : va_D A ([])) hS2 => ?_)
  clear hP0 hD0 hS0
  have w1_0 : r1 = kinL v.toInt64 1 3 := hw1
  refine lv_if_eq (tgt := 26) hx hb dX9_hasVersion_9 (by decide) (fun c3 => ?_) (fun c3 => ?_)
  · refine lv_iconst (v := 0) hx hb dX9_hasVersion_26 (by decide) ?_
    have q4 : 0 = mhasV t v := by
      subst w1_0
      first | (subst c3; rfl) | (simp only [mhasV, c3, ↓reduceIte]; done) | (simp [mhasV, c3]; done) | rfl
    exact kRz F hr hlocks hS2 dX9_hasVersion_27 rfl () q4 hP2 hD2
  · refine lv_iload_n hx hb dX9_hasVersion_12 rfl (lv_at hl0 0 rfl) ?_
    refine lv_iload_n hx hb dX9_hasVersion_13 rfl (lv_at hl0 1 rfl) ?_
    refine lv_iconst (v := 1) hx hb dX9_hasVersion_14 (by decide) ?_
    refine lv_isub hx hb dX9_hasVersion_15 ?_
    refine kPSi F hK hP2 hD2 hS2 hA hl0.1 (c_X9_has l G t (v - 1)) (fun _ => rfl) gX9_hasVersion_X9_has rfl 2 rfl (by decide +kernel) ⟨Nat.le_of_ble_eq_true rfl, Nat.le_of_ble_eq_true rfl⟩ ⟨Nat.zero_le _, Nat.zero_le _⟩ (Nat.le_of_ble_eq_true rfl) rfl dX9_hasVersion_16 (fun r5 u5 H6 locs6 hw5 (hP6 : va_P G.1 vwCl ([]) H6) (hD6 : va_D A ([])) hS6 => ?_)
    clear hP2 hD2 hS2
    have w5_0 : r5 = mhas t (v - 1) := hw5
    refine lv_if_eq (tgt := 26) hx hb dX9_hasVersion_19 (by decide) (fun c7 => ?_) (fun c7 => ?_)
    · refine lv_iconst (v := 0) hx hb dX9_hasVersion_26 (by decide) ?_
      have q8 : 0 = mhasV t v := by
        subst w5_0
        subst w1_0
        first | (subst c7; rfl) | (simp only [mhasV, c3, c7, ↓reduceIte]; done) | (simp [mhasV, c3, c7]; done) | rfl
      exact kRz F hr hlocks hS6 dX9_hasVersion_27 rfl () q8 hP6 hD6
    · refine lv_iconst (v := 1) hx hb dX9_hasVersion_22 (by decide) ?_
      refine lv_goto (tgt := 27) hx hb dX9_hasVersion_23 (by decide) ?_
      have q9 : 1 = mhasV t v := by
        subst w5_0
        subst w1_0
        first | (simp only [mhasV, c3, c7, ↓reduceIte]; done) | (simp [mhasV, c3, c7]; done) | rfl
      exact kRz F hr hlocks hS6 dX9_hasVersion_27 rfl () q9 hP6 hD6
set_option maxHeartbeats 1000000 in
set_option maxRecDepth 100000 in
theorem c_X9_hasAbove (l : Launch) (G : kG) (t : Int32) (v : Int32) (hv : v = 1 ∨ v = 2 ∨ v = 3) : kM G l yX9_hasAbove wsX9_hasAbove ({ frames := 2, cells := 0, slots := 0, locals := 46 }) [.int t, .int v] ([]) (kQi G (fun (rr : Int32) (uu : Unit) => rr = mab t v) (fun (uu : Unit) => [])) := by
  refine kStart (cc := cX9_hasAbove) (maxL := 4) (ret := (some .boolean)) (by decide) rfl (Nat.le_of_ble_eq_true rfl) (fun pg ev st mi bl mt cd A ls0 F hr hlocks hin hK hP0 hD0 hA hS0 hl0 => ?_)
  obtain ⟨hx, hb, hml, hown, hts⟩ := id F
  have hl0 : lv_has ls0 4 [(0, .int t), (1, .int v)] := hl0
  rcases hv with rfl | rfl | rfl
  · skip
    refine lv_iconst (v := 0) hx hb dX9_hasAbove_0 (by decide) ?_
    refine lv_istore_n (lv' := [(2, .int 0), (0, .int t), (1, .int 1)]) hx hb dX9_hasAbove_1 rfl hl0 (by decide) rfl (fun ls1 hl1 => ?_)
    clear hl0
    refine lv_iload_n hx hb dX9_hasAbove_2 rfl (lv_at hl1 2 rfl) ?_
    refine lv_iconst (v := 1) hx hb dX9_hasAbove_3 (by decide) ?_
    refine lv_iadd hx hb dX9_hasAbove_4 ?_
    rw [show (1 + 1 : Int32) = 2 from by decide]
    refine lv_istore_n (lv' := [(3, .int 2), (2, .int 0), (0, .int t), (1, .int 1)]) hx hb dX9_hasAbove_5 rfl hl1 (by decide) rfl (fun ls3 hl3 => ?_)
    clear hl1
    refine lv_iload_n hx hb dX9_hasAbove_6 rfl (lv_at hl3 0 rfl) ?_
    refine lv_iconst (v := 4) hx hb dX9_hasAbove_7 (by decide) ?_
    refine lv_icmp_ge (tgt := 35) hx hb dX9_hasAbove_8 (by decide) (fun c4 => ?_) (fun c4 => ?_)
    · exact absurd c4 (by decide)
    · refine lv_iload_n hx hb dX9_hasAbove_11 rfl (lv_at hl3 1 rfl) ?_
      refine lv_if_ne (tgt := 23) hx hb dX9_hasAbove_12 (by decide) (fun c5 => ?_) (fun c5 => ?_)
      · exact absurd (by decide) c5
      · refine lv_iload_n hx hb dX9_hasAbove_15 rfl (lv_at hl3 2 rfl) ?_
        refine lv_iload_n hx hb dX9_hasAbove_16 rfl (lv_at hl3 0 rfl) ?_
        refine kPSi F hK hP0 hD0 hS0 hA hl3.1 (c_X9_hasVersion l G t 2) (fun _ => rfl) gX9_hasAbove_X9_hasVersion rfl 2 rfl (by decide +kernel) ⟨Nat.le_of_ble_eq_true rfl, Nat.le_of_ble_eq_true rfl⟩ ⟨Nat.zero_le _, Nat.zero_le _⟩ (Nat.le_of_ble_eq_true rfl) rfl dX9_hasAbove_17 (fun r6 u6 H7 locs7 hw6 (hP7 : va_P G.1 vwCl ([]) H7) (hD7 : va_D A ([])) hS7 => ?_)
        clear hP0 hD0 hS0
        have w6_0 : r6 = mhasV t 2 := hw6
        refine lv_if_eq (tgt := 27) hx hb dX9_hasAbove_20 (by decide) (fun c8 => ?_) (fun c8 => ?_)
        · refine lv_iconst (v := 0) hx hb dX9_hasAbove_27 (by decide) ?_
          refine lv_istore_n (lv' := [(2, .int 0), (3, .int 2), (0, .int t), (1, .int 1)]) hx hb dX9_hasAbove_28 rfl hl3 (by decide) rfl (fun ls9 hl9 => ?_)
          clear hl3
          refine lv_iinc (v := 3) (lv' := [(3, .int 3), (2, .int 0), (0, .int t), (1, .int 1)]) hx hb dX9_hasAbove_29 hl9 (k := 1) rfl (by decide) (by decide) rfl (fun ls10 hl10 => ?_)
          clear hl9
          refine lv_goto (tgt := 6) hx hb dX9_hasAbove_32 (by decide) ?_
          refine lv_iload_n hx hb dX9_hasAbove_6 rfl (lv_at hl10 0 rfl) ?_
          refine lv_iconst (v := 4) hx hb dX9_hasAbove_7 (by decide) ?_
          refine lv_icmp_ge (tgt := 35) hx hb dX9_hasAbove_8 (by decide) (fun c11 => ?_) (fun c11 => ?_)
          · exact absurd c11 (by decide)
          · refine lv_iload_n hx hb dX9_hasAbove_11 rfl (lv_at hl10 1 rfl) ?_
            refine lv_if_ne (tgt := 23) hx hb dX9_hasAbove_12 (by decide) (fun c12 => ?_) (fun c12 => ?_)
            · exact absurd (by decide) c12
            · refine lv_iload_n hx hb dX9_hasAbove_15 rfl (lv_at hl10 2 rfl) ?_
              refine lv_iload_n hx hb dX9_hasAbove_16 rfl (lv_at hl10 0 rfl) ?_
              refine kPSi F hK hP7 hD7 hS7 hA hl10.1 (c_X9_hasVersion l G t 3) (fun _ => rfl) gX9_hasAbove_X9_hasVersion rfl 2 rfl (by decide +kernel) ⟨Nat.le_of_ble_eq_true rfl, Nat.le_of_ble_eq_true rfl⟩ ⟨Nat.zero_le _, Nat.zero_le _⟩ (Nat.le_of_ble_eq_true rfl) rfl dX9_hasAbove_17 (fun r13 u13 H14 locs14 hw13 (hP14 : va_P G.1 vwCl ([]) H14) (hD14 : va_D A ([])) hS14 => ?_)
              clear hP7 hD7 hS7
              have w13_0 : r13 = mhasV t 3 := hw13
              refine lv_if_eq (tgt := 27) hx hb dX9_hasAbove_20 (by decide) (fun c15 => ?_) (fun c15 => ?_)
              · refine lv_iconst (v := 0) hx hb dX9_hasAbove_27 (by decide) ?_
                refine lv_istore_n (lv' := [(2, .int 0), (3, .int 3), (0, .int t), (1, .int 1)]) hx hb dX9_hasAbove_28 rfl hl10 (by decide) rfl (fun ls16 hl16 => ?_)
                clear hl10
                refine lv_iinc (v := 4) (lv' := [(3, .int 4), (2, .int 0), (0, .int t), (1, .int 1)]) hx hb dX9_hasAbove_29 hl16 (k := 1) rfl (by decide) (by decide) rfl (fun ls17 hl17 => ?_)
                clear hl16
                refine lv_goto (tgt := 6) hx hb dX9_hasAbove_32 (by decide) ?_
                refine lv_iload_n hx hb dX9_hasAbove_6 rfl (lv_at hl17 0 rfl) ?_
                refine lv_iconst (v := 4) hx hb dX9_hasAbove_7 (by decide) ?_
                refine lv_icmp_ge (tgt := 35) hx hb dX9_hasAbove_8 (by decide) (fun c18 => ?_) (fun c18 => ?_)
                · refine lv_iload_n hx hb dX9_hasAbove_35 rfl (lv_at hl17 1 rfl) ?_
                  have q19 : 0 = mab t 1 := by
                    subst w13_0
                    subst w6_0
                    first | (subst c5; rfl) | (subst c8; rfl) | (subst c12; rfl) | (subst c15; rfl) | (simp only [mab, kd21, kd31, kd32, c4, c5, c8, c11, c12, c15, c18, ↓reduceIte]; done) | (simp [mab, kd21, kd31, kd32, c4, c5, c8, c11, c12, c15, c18]; done) | rfl
                  exact kRz F hr hlocks hS14 dX9_hasAbove_36 rfl () q19 hP14 hD14
                · exact absurd (by decide) c18
              · refine lv_iconst (v := 1) hx hb dX9_hasAbove_23 (by decide) ?_
                refine lv_goto (tgt := 28) hx hb dX9_hasAbove_24 (by decide) ?_
                refine lv_istore_n (lv' := [(2, .int 1), (3, .int 3), (0, .int t), (1, .int 1)]) hx hb dX9_hasAbove_28 rfl hl10 (by decide) rfl (fun ls20 hl20 => ?_)
                clear hl10
                refine lv_iinc (v := 4) (lv' := [(3, .int 4), (2, .int 1), (0, .int t), (1, .int 1)]) hx hb dX9_hasAbove_29 hl20 (k := 1) rfl (by decide) (by decide) rfl (fun ls21 hl21 => ?_)
                clear hl20
                refine lv_goto (tgt := 6) hx hb dX9_hasAbove_32 (by decide) ?_
                refine lv_iload_n hx hb dX9_hasAbove_6 rfl (lv_at hl21 0 rfl) ?_
                refine lv_iconst (v := 4) hx hb dX9_hasAbove_7 (by decide) ?_
                refine lv_icmp_ge (tgt := 35) hx hb dX9_hasAbove_8 (by decide) (fun c22 => ?_) (fun c22 => ?_)
                · refine lv_iload_n hx hb dX9_hasAbove_35 rfl (lv_at hl21 1 rfl) ?_
                  have q23 : 1 = mab t 1 := by
                    subst w13_0
                    subst w6_0
                    first | (subst c5; rfl) | (subst c8; rfl) | (subst c12; rfl) | (simp only [mab, kd21, kd31, kd32, c4, c5, c8, c11, c12, c15, c22, ↓reduceIte]; done) | (simp [mab, kd21, kd31, kd32, c4, c5, c8, c11, c12, c15, c22]; done) | rfl
                  exact kRz F hr hlocks hS14 dX9_hasAbove_36 rfl () q23 hP14 hD14
                · exact absurd (by decide) c22
        · refine lv_iconst (v := 1) hx hb dX9_hasAbove_23 (by decide) ?_
          refine lv_goto (tgt := 28) hx hb dX9_hasAbove_24 (by decide) ?_
          refine lv_istore_n (lv' := [(2, .int 1), (3, .int 2), (0, .int t), (1, .int 1)]) hx hb dX9_hasAbove_28 rfl hl3 (by decide) rfl (fun ls24 hl24 => ?_)
          clear hl3
          refine lv_iinc (v := 3) (lv' := [(3, .int 3), (2, .int 1), (0, .int t), (1, .int 1)]) hx hb dX9_hasAbove_29 hl24 (k := 1) rfl (by decide) (by decide) rfl (fun ls25 hl25 => ?_)
          clear hl24
          refine lv_goto (tgt := 6) hx hb dX9_hasAbove_32 (by decide) ?_
          refine lv_iload_n hx hb dX9_hasAbove_6 rfl (lv_at hl25 0 rfl) ?_
          refine lv_iconst (v := 4) hx hb dX9_hasAbove_7 (by decide) ?_
          refine lv_icmp_ge (tgt := 35) hx hb dX9_hasAbove_8 (by decide) (fun c26 => ?_) (fun c26 => ?_)
          · exact absurd c26 (by decide)
          · refine lv_iload_n hx hb dX9_hasAbove_11 rfl (lv_at hl25 1 rfl) ?_
            refine lv_if_ne (tgt := 23) hx hb dX9_hasAbove_12 (by decide) (fun c27 => ?_) (fun c27 => ?_)
            · refine lv_iconst (v := 1) hx hb dX9_hasAbove_23 (by decide) ?_
              refine lv_goto (tgt := 28) hx hb dX9_hasAbove_24 (by decide) ?_
              refine lv_istore_n (lv' := [(2, .int 1), (3, .int 3), (0, .int t), (1, .int 1)]) hx hb dX9_hasAbove_28 rfl hl25 (by decide) rfl (fun ls28 hl28 => ?_)
              clear hl25
              refine lv_iinc (v := 4) (lv' := [(3, .int 4), (2, .int 1), (0, .int t), (1, .int 1)]) hx hb dX9_hasAbove_29 hl28 (k := 1) rfl (by decide) (by decide) rfl (fun ls29 hl29 => ?_)
              clear hl28
              refine lv_goto (tgt := 6) hx hb dX9_hasAbove_32 (by decide) ?_
              refine lv_iload_n hx hb dX9_hasAbove_6 rfl (lv_at hl29 0 rfl) ?_
              refine lv_iconst (v := 4) hx hb dX9_hasAbove_7 (by decide) ?_
              refine lv_icmp_ge (tgt := 35) hx hb dX9_hasAbove_8 (by decide) (fun c30 => ?_) (fun c30 => ?_)
              · refine lv_iload_n hx hb dX9_hasAbove_35 rfl (lv_at hl29 1 rfl) ?_
                have q31 : 1 = mab t 1 := by
                  subst w6_0
                  first | (subst c5; rfl) | (simp only [mab, kd21, kd31, kd32, c4, c5, c8, c26, c27, c30, ↓reduceIte]; done) | (simp [mab, kd21, kd31, kd32, c4, c5, c8, c26, c27, c30]; done) | rfl
                exact kRz F hr hlocks hS7 dX9_hasAbove_36 rfl () q31 hP7 hD7
              · exact absurd (by decide) c30
            · exact absurd c27 (by decide)
  · skip
    refine lv_iconst (v := 0) hx hb dX9_hasAbove_0 (by decide) ?_
    refine lv_istore_n (lv' := [(2, .int 0), (0, .int t), (1, .int 2)]) hx hb dX9_hasAbove_1 rfl hl0 (by decide) rfl (fun ls32 hl32 => ?_)
    clear hl0
    refine lv_iload_n hx hb dX9_hasAbove_2 rfl (lv_at hl32 2 rfl) ?_
    refine lv_iconst (v := 1) hx hb dX9_hasAbove_3 (by decide) ?_
    refine lv_iadd hx hb dX9_hasAbove_4 ?_
    rw [show (2 + 1 : Int32) = 3 from by decide]
    refine lv_istore_n (lv' := [(3, .int 3), (2, .int 0), (0, .int t), (1, .int 2)]) hx hb dX9_hasAbove_5 rfl hl32 (by decide) rfl (fun ls34 hl34 => ?_)
    clear hl32
    refine lv_iload_n hx hb dX9_hasAbove_6 rfl (lv_at hl34 0 rfl) ?_
    refine lv_iconst (v := 4) hx hb dX9_hasAbove_7 (by decide) ?_
    refine lv_icmp_ge (tgt := 35) hx hb dX9_hasAbove_8 (by decide) (fun c35 => ?_) (fun c35 => ?_)
    · exact absurd c35 (by decide)
    · refine lv_iload_n hx hb dX9_hasAbove_11 rfl (lv_at hl34 1 rfl) ?_
      refine lv_if_ne (tgt := 23) hx hb dX9_hasAbove_12 (by decide) (fun c36 => ?_) (fun c36 => ?_)
      · exact absurd (by decide) c36
      · refine lv_iload_n hx hb dX9_hasAbove_15 rfl (lv_at hl34 2 rfl) ?_
        refine lv_iload_n hx hb dX9_hasAbove_16 rfl (lv_at hl34 0 rfl) ?_
        refine kPSi F hK hP0 hD0 hS0 hA hl34.1 (c_X9_hasVersion l G t 3) (fun _ => rfl) gX9_hasAbove_X9_hasVersion rfl 2 rfl (by decide +kernel) ⟨Nat.le_of_ble_eq_true rfl, Nat.le_of_ble_eq_true rfl⟩ ⟨Nat.zero_le _, Nat.zero_le _⟩ (Nat.le_of_ble_eq_true rfl) rfl dX9_hasAbove_17 (fun r37 u37 H38 locs38 hw37 (hP38 : va_P G.1 vwCl ([]) H38) (hD38 : va_D A ([])) hS38 => ?_)
        clear hP0 hD0 hS0
        have w37_0 : r37 = mhasV t 3 := hw37
        refine lv_if_eq (tgt := 27) hx hb dX9_hasAbove_20 (by decide) (fun c39 => ?_) (fun c39 => ?_)
        · refine lv_iconst (v := 0) hx hb dX9_hasAbove_27 (by decide) ?_
          refine lv_istore_n (lv' := [(2, .int 0), (3, .int 3), (0, .int t), (1, .int 2)]) hx hb dX9_hasAbove_28 rfl hl34 (by decide) rfl (fun ls40 hl40 => ?_)
          clear hl34
          refine lv_iinc (v := 4) (lv' := [(3, .int 4), (2, .int 0), (0, .int t), (1, .int 2)]) hx hb dX9_hasAbove_29 hl40 (k := 1) rfl (by decide) (by decide) rfl (fun ls41 hl41 => ?_)
          clear hl40
          refine lv_goto (tgt := 6) hx hb dX9_hasAbove_32 (by decide) ?_
          refine lv_iload_n hx hb dX9_hasAbove_6 rfl (lv_at hl41 0 rfl) ?_
          refine lv_iconst (v := 4) hx hb dX9_hasAbove_7 (by decide) ?_
          refine lv_icmp_ge (tgt := 35) hx hb dX9_hasAbove_8 (by decide) (fun c42 => ?_) (fun c42 => ?_)
          · refine lv_iload_n hx hb dX9_hasAbove_35 rfl (lv_at hl41 1 rfl) ?_
            have q43 : 0 = mab t 2 := by
              subst w37_0
              first | (subst c36; rfl) | (subst c39; rfl) | (simp only [mab, kd21, kd31, kd32, c35, c36, c39, c42, ↓reduceIte]; done) | (simp [mab, kd21, kd31, kd32, c35, c36, c39, c42]; done) | rfl
            exact kRz F hr hlocks hS38 dX9_hasAbove_36 rfl () q43 hP38 hD38
          · exact absurd (by decide) c42
        · refine lv_iconst (v := 1) hx hb dX9_hasAbove_23 (by decide) ?_
          refine lv_goto (tgt := 28) hx hb dX9_hasAbove_24 (by decide) ?_
          refine lv_istore_n (lv' := [(2, .int 1), (3, .int 3), (0, .int t), (1, .int 2)]) hx hb dX9_hasAbove_28 rfl hl34 (by decide) rfl (fun ls44 hl44 => ?_)
          clear hl34
          refine lv_iinc (v := 4) (lv' := [(3, .int 4), (2, .int 1), (0, .int t), (1, .int 2)]) hx hb dX9_hasAbove_29 hl44 (k := 1) rfl (by decide) (by decide) rfl (fun ls45 hl45 => ?_)
          clear hl44
          refine lv_goto (tgt := 6) hx hb dX9_hasAbove_32 (by decide) ?_
          refine lv_iload_n hx hb dX9_hasAbove_6 rfl (lv_at hl45 0 rfl) ?_
          refine lv_iconst (v := 4) hx hb dX9_hasAbove_7 (by decide) ?_
          refine lv_icmp_ge (tgt := 35) hx hb dX9_hasAbove_8 (by decide) (fun c46 => ?_) (fun c46 => ?_)
          · refine lv_iload_n hx hb dX9_hasAbove_35 rfl (lv_at hl45 1 rfl) ?_
            have q47 : 1 = mab t 2 := by
              subst w37_0
              first | (subst c36; rfl) | (simp only [mab, kd21, kd31, kd32, c35, c36, c39, c46, ↓reduceIte]; done) | (simp [mab, kd21, kd31, kd32, c35, c36, c39, c46]; done) | rfl
            exact kRz F hr hlocks hS38 dX9_hasAbove_36 rfl () q47 hP38 hD38
          · exact absurd (by decide) c46
  · skip
    refine lv_iconst (v := 0) hx hb dX9_hasAbove_0 (by decide) ?_
    refine lv_istore_n (lv' := [(2, .int 0), (0, .int t), (1, .int 3)]) hx hb dX9_hasAbove_1 rfl hl0 (by decide) rfl (fun ls48 hl48 => ?_)
    clear hl0
    refine lv_iload_n hx hb dX9_hasAbove_2 rfl (lv_at hl48 2 rfl) ?_
    refine lv_iconst (v := 1) hx hb dX9_hasAbove_3 (by decide) ?_
    refine lv_iadd hx hb dX9_hasAbove_4 ?_
    rw [show (3 + 1 : Int32) = 4 from by decide]
    refine lv_istore_n (lv' := [(3, .int 4), (2, .int 0), (0, .int t), (1, .int 3)]) hx hb dX9_hasAbove_5 rfl hl48 (by decide) rfl (fun ls50 hl50 => ?_)
    clear hl48
    refine lv_iload_n hx hb dX9_hasAbove_6 rfl (lv_at hl50 0 rfl) ?_
    refine lv_iconst (v := 4) hx hb dX9_hasAbove_7 (by decide) ?_
    refine lv_icmp_ge (tgt := 35) hx hb dX9_hasAbove_8 (by decide) (fun c51 => ?_) (fun c51 => ?_)
    · refine lv_iload_n hx hb dX9_hasAbove_35 rfl (lv_at hl50 1 rfl) ?_
      have q52 : 0 = mab t 3 := by
        first | (simp only [mab, kd21, kd31, kd32, c51, ↓reduceIte]; done) | (simp [mab, kd21, kd31, kd32, c51]; done) | rfl
      exact kRz F hr hlocks hS0 dX9_hasAbove_36 rfl () q52 hP0 hD0
    · exact absurd (by decide) c51
set_option maxHeartbeats 1000000 in
set_option maxRecDepth 100000 in
theorem c_X9_greatest (l : Launch) (G : kG) (t : Int32) : kM G l yX9_greatest wsX9_greatest ({ frames := 1, cells := 0, slots := 0, locals := 21 }) [.int t] ([]) (kQi G (fun (rr : Int32) (uu : Unit) => rr = mgreat t) (fun (uu : Unit) => [])) := by
  refine kStart (cc := cX9_greatest) (maxL := 3) (ret := (some .int)) (by decide) rfl (Nat.le_of_ble_eq_true rfl) (fun pg ev st mi bl mt cd A ls0 F hr hlocks hin hK hP0 hD0 hA hS0 hl0 => ?_)
  obtain ⟨hx, hb, hml, hown, hts⟩ := id F
  have hl0 : lv_has ls0 3 [(0, .int t)] := hl0
  refine lv_iconst (v := (-1)) hx hb dX9_greatest_0 (by decide) ?_
  refine lv_istore_n (lv' := [(1, .int (-1)), (0, .int t)]) hx hb dX9_greatest_1 rfl hl0 (by decide) rfl (fun ls1 hl1 => ?_)
  clear hl0
  refine lv_iconst (v := 0) hx hb dX9_greatest_2 (by decide) ?_
  refine lv_istore_n (lv' := [(2, .int 0), (1, .int (-1)), (0, .int t)]) hx hb dX9_greatest_3 rfl hl1 (by decide) rfl (fun ls2 hl2 => ?_)
  clear hl1
  refine lv_iload_n hx hb dX9_greatest_4 rfl (lv_at hl2 0 rfl) ?_
  refine lv_iconst (v := 4) hx hb dX9_greatest_5 (by decide) ?_
  refine lv_icmp_ge (tgt := 29) hx hb dX9_greatest_6 (by decide) (fun c3 => ?_) (fun c3 => ?_)
  · exact absurd c3 (by decide)
  · refine lv_iload_n hx hb dX9_greatest_9 rfl (lv_at hl2 2 rfl) ?_
    refine lv_iload_n hx hb dX9_greatest_10 rfl (lv_at hl2 0 rfl) ?_
    refine kPSi F hK hP0 hD0 hS0 hA hl2.1 (c_X9_has l G t 0) (fun _ => rfl) gX9_greatest_X9_has rfl 2 rfl (by decide +kernel) ⟨Nat.le_of_ble_eq_true rfl, Nat.le_of_ble_eq_true rfl⟩ ⟨Nat.zero_le _, Nat.zero_le _⟩ (Nat.le_of_ble_eq_true rfl) rfl dX9_greatest_11 (fun r4 u4 H5 locs5 hw4 (hP5 : va_P G.1 vwCl ([]) H5) (hD5 : va_D A ([])) hS5 => ?_)
    clear hP0 hD0 hS0
    have w4_0 : r4 = mhas t 0 := hw4
    refine lv_if_eq (tgt := 21) hx hb dX9_greatest_14 (by decide) (fun c6 => ?_) (fun c6 => ?_)
    · refine lv_iload_n hx hb dX9_greatest_21 rfl (lv_at hl2 1 rfl) ?_
      refine lv_istore_n (lv' := [(1, .int (-1)), (2, .int 0), (0, .int t)]) hx hb dX9_greatest_22 rfl hl2 (by decide) rfl (fun ls7 hl7 => ?_)
      clear hl2
      refine lv_iinc (v := 1) (lv' := [(2, .int 1), (1, .int (-1)), (0, .int t)]) hx hb dX9_greatest_23 hl7 (k := 1) rfl (by decide) (by decide) rfl (fun ls8 hl8 => ?_)
      clear hl7
      refine lv_goto (tgt := 4) hx hb dX9_greatest_26 (by decide) ?_
      refine lv_iload_n hx hb dX9_greatest_4 rfl (lv_at hl8 0 rfl) ?_
      refine lv_iconst (v := 4) hx hb dX9_greatest_5 (by decide) ?_
      refine lv_icmp_ge (tgt := 29) hx hb dX9_greatest_6 (by decide) (fun c9 => ?_) (fun c9 => ?_)
      · exact absurd c9 (by decide)
      · refine lv_iload_n hx hb dX9_greatest_9 rfl (lv_at hl8 2 rfl) ?_
        refine lv_iload_n hx hb dX9_greatest_10 rfl (lv_at hl8 0 rfl) ?_
        refine kPSi F hK hP5 hD5 hS5 hA hl8.1 (c_X9_has l G t 1) (fun _ => rfl) gX9_greatest_X9_has rfl 2 rfl (by decide +kernel) ⟨Nat.le_of_ble_eq_true rfl, Nat.le_of_ble_eq_true rfl⟩ ⟨Nat.zero_le _, Nat.zero_le _⟩ (Nat.le_of_ble_eq_true rfl) rfl dX9_greatest_11 (fun r10 u10 H11 locs11 hw10 (hP11 : va_P G.1 vwCl ([]) H11) (hD11 : va_D A ([])) hS11 => ?_)
        clear hP5 hD5 hS5
        have w10_0 : r10 = mhas t 1 := hw10
        refine lv_if_eq (tgt := 21) hx hb dX9_greatest_14 (by decide) (fun c12 => ?_) (fun c12 => ?_)
        · refine lv_iload_n hx hb dX9_greatest_21 rfl (lv_at hl8 1 rfl) ?_
          refine lv_istore_n (lv' := [(1, .int (-1)), (2, .int 1), (0, .int t)]) hx hb dX9_greatest_22 rfl hl8 (by decide) rfl (fun ls13 hl13 => ?_)
          clear hl8
          refine lv_iinc (v := 2) (lv' := [(2, .int 2), (1, .int (-1)), (0, .int t)]) hx hb dX9_greatest_23 hl13 (k := 1) rfl (by decide) (by decide) rfl (fun ls14 hl14 => ?_)
          clear hl13
          refine lv_goto (tgt := 4) hx hb dX9_greatest_26 (by decide) ?_
          refine lv_iload_n hx hb dX9_greatest_4 rfl (lv_at hl14 0 rfl) ?_
          refine lv_iconst (v := 4) hx hb dX9_greatest_5 (by decide) ?_
          refine lv_icmp_ge (tgt := 29) hx hb dX9_greatest_6 (by decide) (fun c15 => ?_) (fun c15 => ?_)
          · exact absurd c15 (by decide)
          · refine lv_iload_n hx hb dX9_greatest_9 rfl (lv_at hl14 2 rfl) ?_
            refine lv_iload_n hx hb dX9_greatest_10 rfl (lv_at hl14 0 rfl) ?_
            refine kPSi F hK hP11 hD11 hS11 hA hl14.1 (c_X9_has l G t 2) (fun _ => rfl) gX9_greatest_X9_has rfl 2 rfl (by decide +kernel) ⟨Nat.le_of_ble_eq_true rfl, Nat.le_of_ble_eq_true rfl⟩ ⟨Nat.zero_le _, Nat.zero_le _⟩ (Nat.le_of_ble_eq_true rfl) rfl dX9_greatest_11 (fun r16 u16 H17 locs17 hw16 (hP17 : va_P G.1 vwCl ([]) H17) (hD17 : va_D A ([])) hS17 => ?_)
            clear hP11 hD11 hS11
            have w16_0 : r16 = mhas t 2 := hw16
            refine lv_if_eq (tgt := 21) hx hb dX9_greatest_14 (by decide) (fun c18 => ?_) (fun c18 => ?_)
            · refine lv_iload_n hx hb dX9_greatest_21 rfl (lv_at hl14 1 rfl) ?_
              refine lv_istore_n (lv' := [(1, .int (-1)), (2, .int 2), (0, .int t)]) hx hb dX9_greatest_22 rfl hl14 (by decide) rfl (fun ls19 hl19 => ?_)
              clear hl14
              refine lv_iinc (v := 3) (lv' := [(2, .int 3), (1, .int (-1)), (0, .int t)]) hx hb dX9_greatest_23 hl19 (k := 1) rfl (by decide) (by decide) rfl (fun ls20 hl20 => ?_)
              clear hl19
              refine lv_goto (tgt := 4) hx hb dX9_greatest_26 (by decide) ?_
              refine lv_iload_n hx hb dX9_greatest_4 rfl (lv_at hl20 0 rfl) ?_
              refine lv_iconst (v := 4) hx hb dX9_greatest_5 (by decide) ?_
              refine lv_icmp_ge (tgt := 29) hx hb dX9_greatest_6 (by decide) (fun c21 => ?_) (fun c21 => ?_)
              · exact absurd c21 (by decide)
              · refine lv_iload_n hx hb dX9_greatest_9 rfl (lv_at hl20 2 rfl) ?_
                refine lv_iload_n hx hb dX9_greatest_10 rfl (lv_at hl20 0 rfl) ?_
                refine kPSi F hK hP17 hD17 hS17 hA hl20.1 (c_X9_has l G t 3) (fun _ => rfl) gX9_greatest_X9_has rfl 2 rfl (by decide +kernel) ⟨Nat.le_of_ble_eq_true rfl, Nat.le_of_ble_eq_true rfl⟩ ⟨Nat.zero_le _, Nat.zero_le _⟩ (Nat.le_of_ble_eq_true rfl) rfl dX9_greatest_11 (fun r22 u22 H23 locs23 hw22 (hP23 : va_P G.1 vwCl ([]) H23) (hD23 : va_D A ([])) hS23 => ?_)
                clear hP17 hD17 hS17
                have w22_0 : r22 = mhas t 3 := hw22
                refine lv_if_eq (tgt := 21) hx hb dX9_greatest_14 (by decide) (fun c24 => ?_) (fun c24 => ?_)
                · refine lv_iload_n hx hb dX9_greatest_21 rfl (lv_at hl20 1 rfl) ?_
                  refine lv_istore_n (lv' := [(1, .int (-1)), (2, .int 3), (0, .int t)]) hx hb dX9_greatest_22 rfl hl20 (by decide) rfl (fun ls25 hl25 => ?_)
                  clear hl20
                  refine lv_iinc (v := 4) (lv' := [(2, .int 4), (1, .int (-1)), (0, .int t)]) hx hb dX9_greatest_23 hl25 (k := 1) rfl (by decide) (by decide) rfl (fun ls26 hl26 => ?_)
                  clear hl25
                  refine lv_goto (tgt := 4) hx hb dX9_greatest_26 (by decide) ?_
                  refine lv_iload_n hx hb dX9_greatest_4 rfl (lv_at hl26 0 rfl) ?_
                  refine lv_iconst (v := 4) hx hb dX9_greatest_5 (by decide) ?_
                  refine lv_icmp_ge (tgt := 29) hx hb dX9_greatest_6 (by decide) (fun c27 => ?_) (fun c27 => ?_)
                  · refine lv_iload_n hx hb dX9_greatest_29 rfl (lv_at hl26 1 rfl) ?_
                    have q28 : (-1) = mgreat t := by
                      subst w22_0
                      subst w16_0
                      subst w10_0
                      subst w4_0
                      first | (subst c6; rfl) | (subst c12; rfl) | (subst c18; rfl) | (subst c24; rfl) | (simp only [mgreat, c3, c6, c9, c12, c15, c18, c21, c24, c27, ↓reduceIte]; done) | (simp [mgreat, c3, c6, c9, c12, c15, c18, c21, c24, c27]; done) | rfl
                    exact kRi F hr hlocks hS23 dX9_greatest_30 () q28 hP23 hD23
                  · exact absurd (by decide) c27
                · refine lv_iload_n hx hb dX9_greatest_17 rfl (lv_at hl20 0 rfl) ?_
                  refine lv_goto (tgt := 22) hx hb dX9_greatest_18 (by decide) ?_
                  refine lv_istore_n (lv' := [(1, .int 3), (2, .int 3), (0, .int t)]) hx hb dX9_greatest_22 rfl hl20 (by decide) rfl (fun ls29 hl29 => ?_)
                  clear hl20
                  refine lv_iinc (v := 4) (lv' := [(2, .int 4), (1, .int 3), (0, .int t)]) hx hb dX9_greatest_23 hl29 (k := 1) rfl (by decide) (by decide) rfl (fun ls30 hl30 => ?_)
                  clear hl29
                  refine lv_goto (tgt := 4) hx hb dX9_greatest_26 (by decide) ?_
                  refine lv_iload_n hx hb dX9_greatest_4 rfl (lv_at hl30 0 rfl) ?_
                  refine lv_iconst (v := 4) hx hb dX9_greatest_5 (by decide) ?_
                  refine lv_icmp_ge (tgt := 29) hx hb dX9_greatest_6 (by decide) (fun c31 => ?_) (fun c31 => ?_)
                  · refine lv_iload_n hx hb dX9_greatest_29 rfl (lv_at hl30 1 rfl) ?_
                    have q32 : 3 = mgreat t := by
                      subst w22_0
                      subst w16_0
                      subst w10_0
                      subst w4_0
                      first | (subst c6; rfl) | (subst c12; rfl) | (subst c18; rfl) | (simp only [mgreat, c3, c6, c9, c12, c15, c18, c21, c24, c31, ↓reduceIte]; done) | (simp [mgreat, c3, c6, c9, c12, c15, c18, c21, c24, c31]; done) | rfl
                    exact kRi F hr hlocks hS23 dX9_greatest_30 () q32 hP23 hD23
                  · exact absurd (by decide) c31
            · refine lv_iload_n hx hb dX9_greatest_17 rfl (lv_at hl14 0 rfl) ?_
              refine lv_goto (tgt := 22) hx hb dX9_greatest_18 (by decide) ?_
              refine lv_istore_n (lv' := [(1, .int 2), (2, .int 2), (0, .int t)]) hx hb dX9_greatest_22 rfl hl14 (by decide) rfl (fun ls33 hl33 => ?_)
              clear hl14
              refine lv_iinc (v := 3) (lv' := [(2, .int 3), (1, .int 2), (0, .int t)]) hx hb dX9_greatest_23 hl33 (k := 1) rfl (by decide) (by decide) rfl (fun ls34 hl34 => ?_)
              clear hl33
              refine lv_goto (tgt := 4) hx hb dX9_greatest_26 (by decide) ?_
              refine lv_iload_n hx hb dX9_greatest_4 rfl (lv_at hl34 0 rfl) ?_
              refine lv_iconst (v := 4) hx hb dX9_greatest_5 (by decide) ?_
              refine lv_icmp_ge (tgt := 29) hx hb dX9_greatest_6 (by decide) (fun c35 => ?_) (fun c35 => ?_)
              · exact absurd c35 (by decide)
              · refine lv_iload_n hx hb dX9_greatest_9 rfl (lv_at hl34 2 rfl) ?_
                refine lv_iload_n hx hb dX9_greatest_10 rfl (lv_at hl34 0 rfl) ?_
                refine kPSi F hK hP17 hD17 hS17 hA hl34.1 (c_X9_has l G t 3) (fun _ => rfl) gX9_greatest_X9_has rfl 2 rfl (by decide +kernel) ⟨Nat.le_of_ble_eq_true rfl, Nat.le_of_ble_eq_true rfl⟩ ⟨Nat.zero_le _, Nat.zero_le _⟩ (Nat.le_of_ble_eq_true rfl) rfl dX9_greatest_11 (fun r36 u36 H37 locs37 hw36 (hP37 : va_P G.1 vwCl ([]) H37) (hD37 : va_D A ([])) hS37 => ?_)
                clear hP17 hD17 hS17
                have w36_0 : r36 = mhas t 3 := hw36
                refine lv_if_eq (tgt := 21) hx hb dX9_greatest_14 (by decide) (fun c38 => ?_) (fun c38 => ?_)
                · refine lv_iload_n hx hb dX9_greatest_21 rfl (lv_at hl34 1 rfl) ?_
                  refine lv_istore_n (lv' := [(1, .int 2), (2, .int 3), (0, .int t)]) hx hb dX9_greatest_22 rfl hl34 (by decide) rfl (fun ls39 hl39 => ?_)
                  clear hl34
                  refine lv_iinc (v := 4) (lv' := [(2, .int 4), (1, .int 2), (0, .int t)]) hx hb dX9_greatest_23 hl39 (k := 1) rfl (by decide) (by decide) rfl (fun ls40 hl40 => ?_)
                  clear hl39
                  refine lv_goto (tgt := 4) hx hb dX9_greatest_26 (by decide) ?_
                  refine lv_iload_n hx hb dX9_greatest_4 rfl (lv_at hl40 0 rfl) ?_
                  refine lv_iconst (v := 4) hx hb dX9_greatest_5 (by decide) ?_
                  refine lv_icmp_ge (tgt := 29) hx hb dX9_greatest_6 (by decide) (fun c41 => ?_) (fun c41 => ?_)
                  · refine lv_iload_n hx hb dX9_greatest_29 rfl (lv_at hl40 1 rfl) ?_
                    have q42 : 2 = mgreat t := by
                      subst w36_0
                      subst w16_0
                      subst w10_0
                      subst w4_0
                      first | (subst c6; rfl) | (subst c12; rfl) | (subst c38; rfl) | (simp only [mgreat, c3, c6, c9, c12, c15, c18, c35, c38, c41, ↓reduceIte]; done) | (simp [mgreat, c3, c6, c9, c12, c15, c18, c35, c38, c41]; done) | rfl
                    exact kRi F hr hlocks hS37 dX9_greatest_30 () q42 hP37 hD37
                  · exact absurd (by decide) c41
                · refine lv_iload_n hx hb dX9_greatest_17 rfl (lv_at hl34 0 rfl) ?_
                  refine lv_goto (tgt := 22) hx hb dX9_greatest_18 (by decide) ?_
                  refine lv_istore_n (lv' := [(1, .int 3), (2, .int 3), (0, .int t)]) hx hb dX9_greatest_22 rfl hl34 (by decide) rfl (fun ls43 hl43 => ?_)
                  clear hl34
                  refine lv_iinc (v := 4) (lv' := [(2, .int 4), (1, .int 3), (0, .int t)]) hx hb dX9_greatest_23 hl43 (k := 1) rfl (by decide) (by decide) rfl (fun ls44 hl44 => ?_)
                  clear hl43
                  refine lv_goto (tgt := 4) hx hb dX9_greatest_26 (by decide) ?_
                  refine lv_iload_n hx hb dX9_greatest_4 rfl (lv_at hl44 0 rfl) ?_
                  refine lv_iconst (v := 4) hx hb dX9_greatest_5 (by decide) ?_
                  refine lv_icmp_ge (tgt := 29) hx hb dX9_greatest_6 (by decide) (fun c45 => ?_) (fun c45 => ?_)
                  · refine lv_iload_n hx hb dX9_greatest_29 rfl (lv_at hl44 1 rfl) ?_
                    have q46 : 3 = mgreat t := by
                      subst w36_0
                      subst w16_0
                      subst w10_0
                      subst w4_0
                      first | (subst c6; rfl) | (subst c12; rfl) | (simp only [mgreat, c3, c6, c9, c12, c15, c18, c35, c38, c45, ↓reduceIte]; done) | (simp [mgreat, c3, c6, c9, c12, c15, c18, c35, c38, c45]; done) | rfl
                    exact kRi F hr hlocks hS37 dX9_greatest_30 () q46 hP37 hD37
                  · exact absurd (by decide) c45
        · refine lv_iload_n hx hb dX9_greatest_17 rfl (lv_at hl8 0 rfl) ?_
          refine lv_goto (tgt := 22) hx hb dX9_greatest_18 (by decide) ?_
          refine lv_istore_n (lv' := [(1, .int 1), (2, .int 1), (0, .int t)]) hx hb dX9_greatest_22 rfl hl8 (by decide) rfl (fun ls47 hl47 => ?_)
          clear hl8
          refine lv_iinc (v := 2) (lv' := [(2, .int 2), (1, .int 1), (0, .int t)]) hx hb dX9_greatest_23 hl47 (k := 1) rfl (by decide) (by decide) rfl (fun ls48 hl48 => ?_)
          clear hl47
          refine lv_goto (tgt := 4) hx hb dX9_greatest_26 (by decide) ?_
          refine lv_iload_n hx hb dX9_greatest_4 rfl (lv_at hl48 0 rfl) ?_
          refine lv_iconst (v := 4) hx hb dX9_greatest_5 (by decide) ?_
          refine lv_icmp_ge (tgt := 29) hx hb dX9_greatest_6 (by decide) (fun c49 => ?_) (fun c49 => ?_)
          · exact absurd c49 (by decide)
          · refine lv_iload_n hx hb dX9_greatest_9 rfl (lv_at hl48 2 rfl) ?_
            refine lv_iload_n hx hb dX9_greatest_10 rfl (lv_at hl48 0 rfl) ?_
            refine kPSi F hK hP11 hD11 hS11 hA hl48.1 (c_X9_has l G t 2) (fun _ => rfl) gX9_greatest_X9_has rfl 2 rfl (by decide +kernel) ⟨Nat.le_of_ble_eq_true rfl, Nat.le_of_ble_eq_true rfl⟩ ⟨Nat.zero_le _, Nat.zero_le _⟩ (Nat.le_of_ble_eq_true rfl) rfl dX9_greatest_11 (fun r50 u50 H51 locs51 hw50 (hP51 : va_P G.1 vwCl ([]) H51) (hD51 : va_D A ([])) hS51 => ?_)
            clear hP11 hD11 hS11
            have w50_0 : r50 = mhas t 2 := hw50
            refine lv_if_eq (tgt := 21) hx hb dX9_greatest_14 (by decide) (fun c52 => ?_) (fun c52 => ?_)
            · refine lv_iload_n hx hb dX9_greatest_21 rfl (lv_at hl48 1 rfl) ?_
              refine lv_istore_n (lv' := [(1, .int 1), (2, .int 2), (0, .int t)]) hx hb dX9_greatest_22 rfl hl48 (by decide) rfl (fun ls53 hl53 => ?_)
              clear hl48
              refine lv_iinc (v := 3) (lv' := [(2, .int 3), (1, .int 1), (0, .int t)]) hx hb dX9_greatest_23 hl53 (k := 1) rfl (by decide) (by decide) rfl (fun ls54 hl54 => ?_)
              clear hl53
              refine lv_goto (tgt := 4) hx hb dX9_greatest_26 (by decide) ?_
              refine lv_iload_n hx hb dX9_greatest_4 rfl (lv_at hl54 0 rfl) ?_
              refine lv_iconst (v := 4) hx hb dX9_greatest_5 (by decide) ?_
              refine lv_icmp_ge (tgt := 29) hx hb dX9_greatest_6 (by decide) (fun c55 => ?_) (fun c55 => ?_)
              · exact absurd c55 (by decide)
              · refine lv_iload_n hx hb dX9_greatest_9 rfl (lv_at hl54 2 rfl) ?_
                refine lv_iload_n hx hb dX9_greatest_10 rfl (lv_at hl54 0 rfl) ?_
                refine kPSi F hK hP51 hD51 hS51 hA hl54.1 (c_X9_has l G t 3) (fun _ => rfl) gX9_greatest_X9_has rfl 2 rfl (by decide +kernel) ⟨Nat.le_of_ble_eq_true rfl, Nat.le_of_ble_eq_true rfl⟩ ⟨Nat.zero_le _, Nat.zero_le _⟩ (Nat.le_of_ble_eq_true rfl) rfl dX9_greatest_11 (fun r56 u56 H57 locs57 hw56 (hP57 : va_P G.1 vwCl ([]) H57) (hD57 : va_D A ([])) hS57 => ?_)
                clear hP51 hD51 hS51
                have w56_0 : r56 = mhas t 3 := hw56
                refine lv_if_eq (tgt := 21) hx hb dX9_greatest_14 (by decide) (fun c58 => ?_) (fun c58 => ?_)
                · refine lv_iload_n hx hb dX9_greatest_21 rfl (lv_at hl54 1 rfl) ?_
                  refine lv_istore_n (lv' := [(1, .int 1), (2, .int 3), (0, .int t)]) hx hb dX9_greatest_22 rfl hl54 (by decide) rfl (fun ls59 hl59 => ?_)
                  clear hl54
                  refine lv_iinc (v := 4) (lv' := [(2, .int 4), (1, .int 1), (0, .int t)]) hx hb dX9_greatest_23 hl59 (k := 1) rfl (by decide) (by decide) rfl (fun ls60 hl60 => ?_)
                  clear hl59
                  refine lv_goto (tgt := 4) hx hb dX9_greatest_26 (by decide) ?_
                  refine lv_iload_n hx hb dX9_greatest_4 rfl (lv_at hl60 0 rfl) ?_
                  refine lv_iconst (v := 4) hx hb dX9_greatest_5 (by decide) ?_
                  refine lv_icmp_ge (tgt := 29) hx hb dX9_greatest_6 (by decide) (fun c61 => ?_) (fun c61 => ?_)
                  · refine lv_iload_n hx hb dX9_greatest_29 rfl (lv_at hl60 1 rfl) ?_
                    have q62 : 1 = mgreat t := by
                      subst w56_0
                      subst w50_0
                      subst w10_0
                      subst w4_0
                      first | (subst c6; rfl) | (subst c52; rfl) | (subst c58; rfl) | (simp only [mgreat, c3, c6, c9, c12, c49, c52, c55, c58, c61, ↓reduceIte]; done) | (simp [mgreat, c3, c6, c9, c12, c49, c52, c55, c58, c61]; done) | rfl
                    exact kRi F hr hlocks hS57 dX9_greatest_30 () q62 hP57 hD57
                  · exact absurd (by decide) c61
                · refine lv_iload_n hx hb dX9_greatest_17 rfl (lv_at hl54 0 rfl) ?_
                  refine lv_goto (tgt := 22) hx hb dX9_greatest_18 (by decide) ?_
                  refine lv_istore_n (lv' := [(1, .int 3), (2, .int 3), (0, .int t)]) hx hb dX9_greatest_22 rfl hl54 (by decide) rfl (fun ls63 hl63 => ?_)
                  clear hl54
                  refine lv_iinc (v := 4) (lv' := [(2, .int 4), (1, .int 3), (0, .int t)]) hx hb dX9_greatest_23 hl63 (k := 1) rfl (by decide) (by decide) rfl (fun ls64 hl64 => ?_)
                  clear hl63
                  refine lv_goto (tgt := 4) hx hb dX9_greatest_26 (by decide) ?_
                  refine lv_iload_n hx hb dX9_greatest_4 rfl (lv_at hl64 0 rfl) ?_
                  refine lv_iconst (v := 4) hx hb dX9_greatest_5 (by decide) ?_
                  refine lv_icmp_ge (tgt := 29) hx hb dX9_greatest_6 (by decide) (fun c65 => ?_) (fun c65 => ?_)
                  · refine lv_iload_n hx hb dX9_greatest_29 rfl (lv_at hl64 1 rfl) ?_
                    have q66 : 3 = mgreat t := by
                      subst w56_0
                      subst w50_0
                      subst w10_0
                      subst w4_0
                      first | (subst c6; rfl) | (subst c52; rfl) | (simp only [mgreat, c3, c6, c9, c12, c49, c52, c55, c58, c65, ↓reduceIte]; done) | (simp [mgreat, c3, c6, c9, c12, c49, c52, c55, c58, c65]; done) | rfl
                    exact kRi F hr hlocks hS57 dX9_greatest_30 () q66 hP57 hD57
                  · exact absurd (by decide) c65
            · refine lv_iload_n hx hb dX9_greatest_17 rfl (lv_at hl48 0 rfl) ?_
              refine lv_goto (tgt := 22) hx hb dX9_greatest_18 (by decide) ?_
              refine lv_istore_n (lv' := [(1, .int 2), (2, .int 2), (0, .int t)]) hx hb dX9_greatest_22 rfl hl48 (by decide) rfl (fun ls67 hl67 => ?_)
              clear hl48
              refine lv_iinc (v := 3) (lv' := [(2, .int 3), (1, .int 2), (0, .int t)]) hx hb dX9_greatest_23 hl67 (k := 1) rfl (by decide) (by decide) rfl (fun ls68 hl68 => ?_)
              clear hl67
              refine lv_goto (tgt := 4) hx hb dX9_greatest_26 (by decide) ?_
              refine lv_iload_n hx hb dX9_greatest_4 rfl (lv_at hl68 0 rfl) ?_
              refine lv_iconst (v := 4) hx hb dX9_greatest_5 (by decide) ?_
              refine lv_icmp_ge (tgt := 29) hx hb dX9_greatest_6 (by decide) (fun c69 => ?_) (fun c69 => ?_)
              · exact absurd c69 (by decide)
              · refine lv_iload_n hx hb dX9_greatest_9 rfl (lv_at hl68 2 rfl) ?_
                refine lv_iload_n hx hb dX9_greatest_10 rfl (lv_at hl68 0 rfl) ?_
                refine kPSi F hK hP51 hD51 hS51 hA hl68.1 (c_X9_has l G t 3) (fun _ => rfl) gX9_greatest_X9_has rfl 2 rfl (by decide +kernel) ⟨Nat.le_of_ble_eq_true rfl, Nat.le_of_ble_eq_true rfl⟩ ⟨Nat.zero_le _, Nat.zero_le _⟩ (Nat.le_of_ble_eq_true rfl) rfl dX9_greatest_11 (fun r70 u70 H71 locs71 hw70 (hP71 : va_P G.1 vwCl ([]) H71) (hD71 : va_D A ([])) hS71 => ?_)
                clear hP51 hD51 hS51
                have w70_0 : r70 = mhas t 3 := hw70
                refine lv_if_eq (tgt := 21) hx hb dX9_greatest_14 (by decide) (fun c72 => ?_) (fun c72 => ?_)
                · refine lv_iload_n hx hb dX9_greatest_21 rfl (lv_at hl68 1 rfl) ?_
                  refine lv_istore_n (lv' := [(1, .int 2), (2, .int 3), (0, .int t)]) hx hb dX9_greatest_22 rfl hl68 (by decide) rfl (fun ls73 hl73 => ?_)
                  clear hl68
                  refine lv_iinc (v := 4) (lv' := [(2, .int 4), (1, .int 2), (0, .int t)]) hx hb dX9_greatest_23 hl73 (k := 1) rfl (by decide) (by decide) rfl (fun ls74 hl74 => ?_)
                  clear hl73
                  refine lv_goto (tgt := 4) hx hb dX9_greatest_26 (by decide) ?_
                  refine lv_iload_n hx hb dX9_greatest_4 rfl (lv_at hl74 0 rfl) ?_
                  refine lv_iconst (v := 4) hx hb dX9_greatest_5 (by decide) ?_
                  refine lv_icmp_ge (tgt := 29) hx hb dX9_greatest_6 (by decide) (fun c75 => ?_) (fun c75 => ?_)
                  · refine lv_iload_n hx hb dX9_greatest_29 rfl (lv_at hl74 1 rfl) ?_
                    have q76 : 2 = mgreat t := by
                      subst w70_0
                      subst w50_0
                      subst w10_0
                      subst w4_0
                      first | (subst c6; rfl) | (subst c72; rfl) | (simp only [mgreat, c3, c6, c9, c12, c49, c52, c69, c72, c75, ↓reduceIte]; done) | (simp [mgreat, c3, c6, c9, c12, c49, c52, c69, c72, c75]; done) | rfl
                    exact kRi F hr hlocks hS71 dX9_greatest_30 () q76 hP71 hD71
                  · exact absurd (by decide) c75
                · refine lv_iload_n hx hb dX9_greatest_17 rfl (lv_at hl68 0 rfl) ?_
                  refine lv_goto (tgt := 22) hx hb dX9_greatest_18 (by decide) ?_
                  refine lv_istore_n (lv' := [(1, .int 3), (2, .int 3), (0, .int t)]) hx hb dX9_greatest_22 rfl hl68 (by decide) rfl (fun ls77 hl77 => ?_)
                  clear hl68
                  refine lv_iinc (v := 4) (lv' := [(2, .int 4), (1, .int 3), (0, .int t)]) hx hb dX9_greatest_23 hl77 (k := 1) rfl (by decide) (by decide) rfl (fun ls78 hl78 => ?_)
                  clear hl77
                  refine lv_goto (tgt := 4) hx hb dX9_greatest_26 (by decide) ?_
                  refine lv_iload_n hx hb dX9_greatest_4 rfl (lv_at hl78 0 rfl) ?_
                  refine lv_iconst (v := 4) hx hb dX9_greatest_5 (by decide) ?_
                  refine lv_icmp_ge (tgt := 29) hx hb dX9_greatest_6 (by decide) (fun c79 => ?_) (fun c79 => ?_)
                  · refine lv_iload_n hx hb dX9_greatest_29 rfl (lv_at hl78 1 rfl) ?_
                    have q80 : 3 = mgreat t := by
                      subst w70_0
                      subst w50_0
                      subst w10_0
                      subst w4_0
                      first | (subst c6; rfl) | (simp only [mgreat, c3, c6, c9, c12, c49, c52, c69, c72, c79, ↓reduceIte]; done) | (simp [mgreat, c3, c6, c9, c12, c49, c52, c69, c72, c79]; done) | rfl
                    exact kRi F hr hlocks hS71 dX9_greatest_30 () q80 hP71 hD71
                  · exact absurd (by decide) c79
    · refine lv_iload_n hx hb dX9_greatest_17 rfl (lv_at hl2 0 rfl) ?_
      refine lv_goto (tgt := 22) hx hb dX9_greatest_18 (by decide) ?_
      refine lv_istore_n (lv' := [(1, .int 0), (2, .int 0), (0, .int t)]) hx hb dX9_greatest_22 rfl hl2 (by decide) rfl (fun ls81 hl81 => ?_)
      clear hl2
      refine lv_iinc (v := 1) (lv' := [(2, .int 1), (1, .int 0), (0, .int t)]) hx hb dX9_greatest_23 hl81 (k := 1) rfl (by decide) (by decide) rfl (fun ls82 hl82 => ?_)
      clear hl81
      refine lv_goto (tgt := 4) hx hb dX9_greatest_26 (by decide) ?_
      refine lv_iload_n hx hb dX9_greatest_4 rfl (lv_at hl82 0 rfl) ?_
      refine lv_iconst (v := 4) hx hb dX9_greatest_5 (by decide) ?_
      refine lv_icmp_ge (tgt := 29) hx hb dX9_greatest_6 (by decide) (fun c83 => ?_) (fun c83 => ?_)
      · exact absurd c83 (by decide)
      · refine lv_iload_n hx hb dX9_greatest_9 rfl (lv_at hl82 2 rfl) ?_
        refine lv_iload_n hx hb dX9_greatest_10 rfl (lv_at hl82 0 rfl) ?_
        refine kPSi F hK hP5 hD5 hS5 hA hl82.1 (c_X9_has l G t 1) (fun _ => rfl) gX9_greatest_X9_has rfl 2 rfl (by decide +kernel) ⟨Nat.le_of_ble_eq_true rfl, Nat.le_of_ble_eq_true rfl⟩ ⟨Nat.zero_le _, Nat.zero_le _⟩ (Nat.le_of_ble_eq_true rfl) rfl dX9_greatest_11 (fun r84 u84 H85 locs85 hw84 (hP85 : va_P G.1 vwCl ([]) H85) (hD85 : va_D A ([])) hS85 => ?_)
        clear hP5 hD5 hS5
        have w84_0 : r84 = mhas t 1 := hw84
        refine lv_if_eq (tgt := 21) hx hb dX9_greatest_14 (by decide) (fun c86 => ?_) (fun c86 => ?_)
        · refine lv_iload_n hx hb dX9_greatest_21 rfl (lv_at hl82 1 rfl) ?_
          refine lv_istore_n (lv' := [(1, .int 0), (2, .int 1), (0, .int t)]) hx hb dX9_greatest_22 rfl hl82 (by decide) rfl (fun ls87 hl87 => ?_)
          clear hl82
          refine lv_iinc (v := 2) (lv' := [(2, .int 2), (1, .int 0), (0, .int t)]) hx hb dX9_greatest_23 hl87 (k := 1) rfl (by decide) (by decide) rfl (fun ls88 hl88 => ?_)
          clear hl87
          refine lv_goto (tgt := 4) hx hb dX9_greatest_26 (by decide) ?_
          refine lv_iload_n hx hb dX9_greatest_4 rfl (lv_at hl88 0 rfl) ?_
          refine lv_iconst (v := 4) hx hb dX9_greatest_5 (by decide) ?_
          refine lv_icmp_ge (tgt := 29) hx hb dX9_greatest_6 (by decide) (fun c89 => ?_) (fun c89 => ?_)
          · exact absurd c89 (by decide)
          · refine lv_iload_n hx hb dX9_greatest_9 rfl (lv_at hl88 2 rfl) ?_
            refine lv_iload_n hx hb dX9_greatest_10 rfl (lv_at hl88 0 rfl) ?_
            refine kPSi F hK hP85 hD85 hS85 hA hl88.1 (c_X9_has l G t 2) (fun _ => rfl) gX9_greatest_X9_has rfl 2 rfl (by decide +kernel) ⟨Nat.le_of_ble_eq_true rfl, Nat.le_of_ble_eq_true rfl⟩ ⟨Nat.zero_le _, Nat.zero_le _⟩ (Nat.le_of_ble_eq_true rfl) rfl dX9_greatest_11 (fun r90 u90 H91 locs91 hw90 (hP91 : va_P G.1 vwCl ([]) H91) (hD91 : va_D A ([])) hS91 => ?_)
            clear hP85 hD85 hS85
            have w90_0 : r90 = mhas t 2 := hw90
            refine lv_if_eq (tgt := 21) hx hb dX9_greatest_14 (by decide) (fun c92 => ?_) (fun c92 => ?_)
            · refine lv_iload_n hx hb dX9_greatest_21 rfl (lv_at hl88 1 rfl) ?_
              refine lv_istore_n (lv' := [(1, .int 0), (2, .int 2), (0, .int t)]) hx hb dX9_greatest_22 rfl hl88 (by decide) rfl (fun ls93 hl93 => ?_)
              clear hl88
              refine lv_iinc (v := 3) (lv' := [(2, .int 3), (1, .int 0), (0, .int t)]) hx hb dX9_greatest_23 hl93 (k := 1) rfl (by decide) (by decide) rfl (fun ls94 hl94 => ?_)
              clear hl93
              refine lv_goto (tgt := 4) hx hb dX9_greatest_26 (by decide) ?_
              refine lv_iload_n hx hb dX9_greatest_4 rfl (lv_at hl94 0 rfl) ?_
              refine lv_iconst (v := 4) hx hb dX9_greatest_5 (by decide) ?_
              refine lv_icmp_ge (tgt := 29) hx hb dX9_greatest_6 (by decide) (fun c95 => ?_) (fun c95 => ?_)
              · exact absurd c95 (by decide)
              · refine lv_iload_n hx hb dX9_greatest_9 rfl (lv_at hl94 2 rfl) ?_
                refine lv_iload_n hx hb dX9_greatest_10 rfl (lv_at hl94 0 rfl) ?_
                refine kPSi F hK hP91 hD91 hS91 hA hl94.1 (c_X9_has l G t 3) (fun _ => rfl) gX9_greatest_X9_has rfl 2 rfl (by decide +kernel) ⟨Nat.le_of_ble_eq_true rfl, Nat.le_of_ble_eq_true rfl⟩ ⟨Nat.zero_le _, Nat.zero_le _⟩ (Nat.le_of_ble_eq_true rfl) rfl dX9_greatest_11 (fun r96 u96 H97 locs97 hw96 (hP97 : va_P G.1 vwCl ([]) H97) (hD97 : va_D A ([])) hS97 => ?_)
                clear hP91 hD91 hS91
                have w96_0 : r96 = mhas t 3 := hw96
                refine lv_if_eq (tgt := 21) hx hb dX9_greatest_14 (by decide) (fun c98 => ?_) (fun c98 => ?_)
                · refine lv_iload_n hx hb dX9_greatest_21 rfl (lv_at hl94 1 rfl) ?_
                  refine lv_istore_n (lv' := [(1, .int 0), (2, .int 3), (0, .int t)]) hx hb dX9_greatest_22 rfl hl94 (by decide) rfl (fun ls99 hl99 => ?_)
                  clear hl94
                  refine lv_iinc (v := 4) (lv' := [(2, .int 4), (1, .int 0), (0, .int t)]) hx hb dX9_greatest_23 hl99 (k := 1) rfl (by decide) (by decide) rfl (fun ls100 hl100 => ?_)
                  clear hl99
                  refine lv_goto (tgt := 4) hx hb dX9_greatest_26 (by decide) ?_
                  refine lv_iload_n hx hb dX9_greatest_4 rfl (lv_at hl100 0 rfl) ?_
                  refine lv_iconst (v := 4) hx hb dX9_greatest_5 (by decide) ?_
                  refine lv_icmp_ge (tgt := 29) hx hb dX9_greatest_6 (by decide) (fun c101 => ?_) (fun c101 => ?_)
                  · refine lv_iload_n hx hb dX9_greatest_29 rfl (lv_at hl100 1 rfl) ?_
                    have q102 : 0 = mgreat t := by
                      subst w96_0
                      subst w90_0
                      subst w84_0
                      subst w4_0
                      first | (subst c86; rfl) | (subst c92; rfl) | (subst c98; rfl) | (simp only [mgreat, c3, c6, c83, c86, c89, c92, c95, c98, c101, ↓reduceIte]; done) | (simp [mgreat, c3, c6, c83, c86, c89, c92, c95, c98, c101]; done) | rfl
                    exact kRi F hr hlocks hS97 dX9_greatest_30 () q102 hP97 hD97
                  · exact absurd (by decide) c101
                · refine lv_iload_n hx hb dX9_greatest_17 rfl (lv_at hl94 0 rfl) ?_
                  refine lv_goto (tgt := 22) hx hb dX9_greatest_18 (by decide) ?_
                  refine lv_istore_n (lv' := [(1, .int 3), (2, .int 3), (0, .int t)]) hx hb dX9_greatest_22 rfl hl94 (by decide) rfl (fun ls103 hl103 => ?_)
                  clear hl94
                  refine lv_iinc (v := 4) (lv' := [(2, .int 4), (1, .int 3), (0, .int t)]) hx hb dX9_greatest_23 hl103 (k := 1) rfl (by decide) (by decide) rfl (fun ls104 hl104 => ?_)
                  clear hl103
                  refine lv_goto (tgt := 4) hx hb dX9_greatest_26 (by decide) ?_
                  refine lv_iload_n hx hb dX9_greatest_4 rfl (lv_at hl104 0 rfl) ?_
                  refine lv_iconst (v := 4) hx hb dX9_greatest_5 (by decide) ?_
                  refine lv_icmp_ge (tgt := 29) hx hb dX9_greatest_6 (by decide) (fun c105 => ?_) (fun c105 => ?_)
                  · refine lv_iload_n hx hb dX9_greatest_29 rfl (lv_at hl104 1 rfl) ?_
                    have q106 : 3 = mgreat t := by
                      subst w96_0
                      subst w90_0
                      subst w84_0
                      subst w4_0
                      first | (subst c86; rfl) | (subst c92; rfl) | (simp only [mgreat, c3, c6, c83, c86, c89, c92, c95, c98, c105, ↓reduceIte]; done) | (simp [mgreat, c3, c6, c83, c86, c89, c92, c95, c98, c105]; done) | rfl
                    exact kRi F hr hlocks hS97 dX9_greatest_30 () q106 hP97 hD97
                  · exact absurd (by decide) c105
            · refine lv_iload_n hx hb dX9_greatest_17 rfl (lv_at hl88 0 rfl) ?_
              refine lv_goto (tgt := 22) hx hb dX9_greatest_18 (by decide) ?_
              refine lv_istore_n (lv' := [(1, .int 2), (2, .int 2), (0, .int t)]) hx hb dX9_greatest_22 rfl hl88 (by decide) rfl (fun ls107 hl107 => ?_)
              clear hl88
              refine lv_iinc (v := 3) (lv' := [(2, .int 3), (1, .int 2), (0, .int t)]) hx hb dX9_greatest_23 hl107 (k := 1) rfl (by decide) (by decide) rfl (fun ls108 hl108 => ?_)
              clear hl107
              refine lv_goto (tgt := 4) hx hb dX9_greatest_26 (by decide) ?_
              refine lv_iload_n hx hb dX9_greatest_4 rfl (lv_at hl108 0 rfl) ?_
              refine lv_iconst (v := 4) hx hb dX9_greatest_5 (by decide) ?_
              refine lv_icmp_ge (tgt := 29) hx hb dX9_greatest_6 (by decide) (fun c109 => ?_) (fun c109 => ?_)
              · exact absurd c109 (by decide)
              · refine lv_iload_n hx hb dX9_greatest_9 rfl (lv_at hl108 2 rfl) ?_
                refine lv_iload_n hx hb dX9_greatest_10 rfl (lv_at hl108 0 rfl) ?_
                refine kPSi F hK hP91 hD91 hS91 hA hl108.1 (c_X9_has l G t 3) (fun _ => rfl) gX9_greatest_X9_has rfl 2 rfl (by decide +kernel) ⟨Nat.le_of_ble_eq_true rfl, Nat.le_of_ble_eq_true rfl⟩ ⟨Nat.zero_le _, Nat.zero_le _⟩ (Nat.le_of_ble_eq_true rfl) rfl dX9_greatest_11 (fun r110 u110 H111 locs111 hw110 (hP111 : va_P G.1 vwCl ([]) H111) (hD111 : va_D A ([])) hS111 => ?_)
                clear hP91 hD91 hS91
                have w110_0 : r110 = mhas t 3 := hw110
                refine lv_if_eq (tgt := 21) hx hb dX9_greatest_14 (by decide) (fun c112 => ?_) (fun c112 => ?_)
                · refine lv_iload_n hx hb dX9_greatest_21 rfl (lv_at hl108 1 rfl) ?_
                  refine lv_istore_n (lv' := [(1, .int 2), (2, .int 3), (0, .int t)]) hx hb dX9_greatest_22 rfl hl108 (by decide) rfl (fun ls113 hl113 => ?_)
                  clear hl108
                  refine lv_iinc (v := 4) (lv' := [(2, .int 4), (1, .int 2), (0, .int t)]) hx hb dX9_greatest_23 hl113 (k := 1) rfl (by decide) (by decide) rfl (fun ls114 hl114 => ?_)
                  clear hl113
                  refine lv_goto (tgt := 4) hx hb dX9_greatest_26 (by decide) ?_
                  refine lv_iload_n hx hb dX9_greatest_4 rfl (lv_at hl114 0 rfl) ?_
                  refine lv_iconst (v := 4) hx hb dX9_greatest_5 (by decide) ?_
                  refine lv_icmp_ge (tgt := 29) hx hb dX9_greatest_6 (by decide) (fun c115 => ?_) (fun c115 => ?_)
                  · refine lv_iload_n hx hb dX9_greatest_29 rfl (lv_at hl114 1 rfl) ?_
                    have q116 : 2 = mgreat t := by
                      subst w110_0
                      subst w90_0
                      subst w84_0
                      subst w4_0
                      first | (subst c86; rfl) | (subst c112; rfl) | (simp only [mgreat, c3, c6, c83, c86, c89, c92, c109, c112, c115, ↓reduceIte]; done) | (simp [mgreat, c3, c6, c83, c86, c89, c92, c109, c112, c115]; done) | rfl
                    exact kRi F hr hlocks hS111 dX9_greatest_30 () q116 hP111 hD111
                  · exact absurd (by decide) c115
                · refine lv_iload_n hx hb dX9_greatest_17 rfl (lv_at hl108 0 rfl) ?_
                  refine lv_goto (tgt := 22) hx hb dX9_greatest_18 (by decide) ?_
                  refine lv_istore_n (lv' := [(1, .int 3), (2, .int 3), (0, .int t)]) hx hb dX9_greatest_22 rfl hl108 (by decide) rfl (fun ls117 hl117 => ?_)
                  clear hl108
                  refine lv_iinc (v := 4) (lv' := [(2, .int 4), (1, .int 3), (0, .int t)]) hx hb dX9_greatest_23 hl117 (k := 1) rfl (by decide) (by decide) rfl (fun ls118 hl118 => ?_)
                  clear hl117
                  refine lv_goto (tgt := 4) hx hb dX9_greatest_26 (by decide) ?_
                  refine lv_iload_n hx hb dX9_greatest_4 rfl (lv_at hl118 0 rfl) ?_
                  refine lv_iconst (v := 4) hx hb dX9_greatest_5 (by decide) ?_
                  refine lv_icmp_ge (tgt := 29) hx hb dX9_greatest_6 (by decide) (fun c119 => ?_) (fun c119 => ?_)
                  · refine lv_iload_n hx hb dX9_greatest_29 rfl (lv_at hl118 1 rfl) ?_
                    have q120 : 3 = mgreat t := by
                      subst w110_0
                      subst w90_0
                      subst w84_0
                      subst w4_0
                      first | (subst c86; rfl) | (simp only [mgreat, c3, c6, c83, c86, c89, c92, c109, c112, c119, ↓reduceIte]; done) | (simp [mgreat, c3, c6, c83, c86, c89, c92, c109, c112, c119]; done) | rfl
                    exact kRi F hr hlocks hS111 dX9_greatest_30 () q120 hP111 hD111
                  · exact absurd (by decide) c119
        · refine lv_iload_n hx hb dX9_greatest_17 rfl (lv_at hl82 0 rfl) ?_
          refine lv_goto (tgt := 22) hx hb dX9_greatest_18 (by decide) ?_
          refine lv_istore_n (lv' := [(1, .int 1), (2, .int 1), (0, .int t)]) hx hb dX9_greatest_22 rfl hl82 (by decide) rfl (fun ls121 hl121 => ?_)
          clear hl82
          refine lv_iinc (v := 2) (lv' := [(2, .int 2), (1, .int 1), (0, .int t)]) hx hb dX9_greatest_23 hl121 (k := 1) rfl (by decide) (by decide) rfl (fun ls122 hl122 => ?_)
          clear hl121
          refine lv_goto (tgt := 4) hx hb dX9_greatest_26 (by decide) ?_
          refine lv_iload_n hx hb dX9_greatest_4 rfl (lv_at hl122 0 rfl) ?_
          refine lv_iconst (v := 4) hx hb dX9_greatest_5 (by decide) ?_
          refine lv_icmp_ge (tgt := 29) hx hb dX9_greatest_6 (by decide) (fun c123 => ?_) (fun c123 => ?_)
          · exact absurd c123 (by decide)
          · refine lv_iload_n hx hb dX9_greatest_9 rfl (lv_at hl122 2 rfl) ?_
            refine lv_iload_n hx hb dX9_greatest_10 rfl (lv_at hl122 0 rfl) ?_
            refine kPSi F hK hP85 hD85 hS85 hA hl122.1 (c_X9_has l G t 2) (fun _ => rfl) gX9_greatest_X9_has rfl 2 rfl (by decide +kernel) ⟨Nat.le_of_ble_eq_true rfl, Nat.le_of_ble_eq_true rfl⟩ ⟨Nat.zero_le _, Nat.zero_le _⟩ (Nat.le_of_ble_eq_true rfl) rfl dX9_greatest_11 (fun r124 u124 H125 locs125 hw124 (hP125 : va_P G.1 vwCl ([]) H125) (hD125 : va_D A ([])) hS125 => ?_)
            clear hP85 hD85 hS85
            have w124_0 : r124 = mhas t 2 := hw124
            refine lv_if_eq (tgt := 21) hx hb dX9_greatest_14 (by decide) (fun c126 => ?_) (fun c126 => ?_)
            · refine lv_iload_n hx hb dX9_greatest_21 rfl (lv_at hl122 1 rfl) ?_
              refine lv_istore_n (lv' := [(1, .int 1), (2, .int 2), (0, .int t)]) hx hb dX9_greatest_22 rfl hl122 (by decide) rfl (fun ls127 hl127 => ?_)
              clear hl122
              refine lv_iinc (v := 3) (lv' := [(2, .int 3), (1, .int 1), (0, .int t)]) hx hb dX9_greatest_23 hl127 (k := 1) rfl (by decide) (by decide) rfl (fun ls128 hl128 => ?_)
              clear hl127
              refine lv_goto (tgt := 4) hx hb dX9_greatest_26 (by decide) ?_
              refine lv_iload_n hx hb dX9_greatest_4 rfl (lv_at hl128 0 rfl) ?_
              refine lv_iconst (v := 4) hx hb dX9_greatest_5 (by decide) ?_
              refine lv_icmp_ge (tgt := 29) hx hb dX9_greatest_6 (by decide) (fun c129 => ?_) (fun c129 => ?_)
              · exact absurd c129 (by decide)
              · refine lv_iload_n hx hb dX9_greatest_9 rfl (lv_at hl128 2 rfl) ?_
                refine lv_iload_n hx hb dX9_greatest_10 rfl (lv_at hl128 0 rfl) ?_
                refine kPSi F hK hP125 hD125 hS125 hA hl128.1 (c_X9_has l G t 3) (fun _ => rfl) gX9_greatest_X9_has rfl 2 rfl (by decide +kernel) ⟨Nat.le_of_ble_eq_true rfl, Nat.le_of_ble_eq_true rfl⟩ ⟨Nat.zero_le _, Nat.zero_le _⟩ (Nat.le_of_ble_eq_true rfl) rfl dX9_greatest_11 (fun r130 u130 H131 locs131 hw130 (hP131 : va_P G.1 vwCl ([]) H131) (hD131 : va_D A ([])) hS131 => ?_)
                clear hP125 hD125 hS125
                have w130_0 : r130 = mhas t 3 := hw130
                refine lv_if_eq (tgt := 21) hx hb dX9_greatest_14 (by decide) (fun c132 => ?_) (fun c132 => ?_)
                · refine lv_iload_n hx hb dX9_greatest_21 rfl (lv_at hl128 1 rfl) ?_
                  refine lv_istore_n (lv' := [(1, .int 1), (2, .int 3), (0, .int t)]) hx hb dX9_greatest_22 rfl hl128 (by decide) rfl (fun ls133 hl133 => ?_)
                  clear hl128
                  refine lv_iinc (v := 4) (lv' := [(2, .int 4), (1, .int 1), (0, .int t)]) hx hb dX9_greatest_23 hl133 (k := 1) rfl (by decide) (by decide) rfl (fun ls134 hl134 => ?_)
                  clear hl133
                  refine lv_goto (tgt := 4) hx hb dX9_greatest_26 (by decide) ?_
                  refine lv_iload_n hx hb dX9_greatest_4 rfl (lv_at hl134 0 rfl) ?_
                  refine lv_iconst (v := 4) hx hb dX9_greatest_5 (by decide) ?_
                  refine lv_icmp_ge (tgt := 29) hx hb dX9_greatest_6 (by decide) (fun c135 => ?_) (fun c135 => ?_)
                  · refine lv_iload_n hx hb dX9_greatest_29 rfl (lv_at hl134 1 rfl) ?_
                    have q136 : 1 = mgreat t := by
                      subst w130_0
                      subst w124_0
                      subst w84_0
                      subst w4_0
                      first | (subst c126; rfl) | (subst c132; rfl) | (simp only [mgreat, c3, c6, c83, c86, c123, c126, c129, c132, c135, ↓reduceIte]; done) | (simp [mgreat, c3, c6, c83, c86, c123, c126, c129, c132, c135]; done) | rfl
                    exact kRi F hr hlocks hS131 dX9_greatest_30 () q136 hP131 hD131
                  · exact absurd (by decide) c135
                · refine lv_iload_n hx hb dX9_greatest_17 rfl (lv_at hl128 0 rfl) ?_
                  refine lv_goto (tgt := 22) hx hb dX9_greatest_18 (by decide) ?_
                  refine lv_istore_n (lv' := [(1, .int 3), (2, .int 3), (0, .int t)]) hx hb dX9_greatest_22 rfl hl128 (by decide) rfl (fun ls137 hl137 => ?_)
                  clear hl128
                  refine lv_iinc (v := 4) (lv' := [(2, .int 4), (1, .int 3), (0, .int t)]) hx hb dX9_greatest_23 hl137 (k := 1) rfl (by decide) (by decide) rfl (fun ls138 hl138 => ?_)
                  clear hl137
                  refine lv_goto (tgt := 4) hx hb dX9_greatest_26 (by decide) ?_
                  refine lv_iload_n hx hb dX9_greatest_4 rfl (lv_at hl138 0 rfl) ?_
                  refine lv_iconst (v := 4) hx hb dX9_greatest_5 (by decide) ?_
                  refine lv_icmp_ge (tgt := 29) hx hb dX9_greatest_6 (by decide) (fun c139 => ?_) (fun c139 => ?_)
                  · refine lv_iload_n hx hb dX9_greatest_29 rfl (lv_at hl138 1 rfl) ?_
                    have q140 : 3 = mgreat t := by
                      subst w130_0
                      subst w124_0
                      subst w84_0
                      subst w4_0
                      first | (subst c126; rfl) | (simp only [mgreat, c3, c6, c83, c86, c123, c126, c129, c132, c139, ↓reduceIte]; done) | (simp [mgreat, c3, c6, c83, c86, c123, c126, c129, c132, c139]; done) | rfl
                    exact kRi F hr hlocks hS131 dX9_greatest_30 () q140 hP131 hD131
                  · exact absurd (by decide) c139
            · refine lv_iload_n hx hb dX9_greatest_17 rfl (lv_at hl122 0 rfl) ?_
              refine lv_goto (tgt := 22) hx hb dX9_greatest_18 (by decide) ?_
              refine lv_istore_n (lv' := [(1, .int 2), (2, .int 2), (0, .int t)]) hx hb dX9_greatest_22 rfl hl122 (by decide) rfl (fun ls141 hl141 => ?_)
              clear hl122
              refine lv_iinc (v := 3) (lv' := [(2, .int 3), (1, .int 2), (0, .int t)]) hx hb dX9_greatest_23 hl141 (k := 1) rfl (by decide) (by decide) rfl (fun ls142 hl142 => ?_)
              clear hl141
              refine lv_goto (tgt := 4) hx hb dX9_greatest_26 (by decide) ?_
              refine lv_iload_n hx hb dX9_greatest_4 rfl (lv_at hl142 0 rfl) ?_
              refine lv_iconst (v := 4) hx hb dX9_greatest_5 (by decide) ?_
              refine lv_icmp_ge (tgt := 29) hx hb dX9_greatest_6 (by decide) (fun c143 => ?_) (fun c143 => ?_)
              · exact absurd c143 (by decide)
              · refine lv_iload_n hx hb dX9_greatest_9 rfl (lv_at hl142 2 rfl) ?_
                refine lv_iload_n hx hb dX9_greatest_10 rfl (lv_at hl142 0 rfl) ?_
                refine kPSi F hK hP125 hD125 hS125 hA hl142.1 (c_X9_has l G t 3) (fun _ => rfl) gX9_greatest_X9_has rfl 2 rfl (by decide +kernel) ⟨Nat.le_of_ble_eq_true rfl, Nat.le_of_ble_eq_true rfl⟩ ⟨Nat.zero_le _, Nat.zero_le _⟩ (Nat.le_of_ble_eq_true rfl) rfl dX9_greatest_11 (fun r144 u144 H145 locs145 hw144 (hP145 : va_P G.1 vwCl ([]) H145) (hD145 : va_D A ([])) hS145 => ?_)
                clear hP125 hD125 hS125
                have w144_0 : r144 = mhas t 3 := hw144
                refine lv_if_eq (tgt := 21) hx hb dX9_greatest_14 (by decide) (fun c146 => ?_) (fun c146 => ?_)
                · refine lv_iload_n hx hb dX9_greatest_21 rfl (lv_at hl142 1 rfl) ?_
                  refine lv_istore_n (lv' := [(1, .int 2), (2, .int 3), (0, .int t)]) hx hb dX9_greatest_22 rfl hl142 (by decide) rfl (fun ls147 hl147 => ?_)
                  clear hl142
                  refine lv_iinc (v := 4) (lv' := [(2, .int 4), (1, .int 2), (0, .int t)]) hx hb dX9_greatest_23 hl147 (k := 1) rfl (by decide) (by decide) rfl (fun ls148 hl148 => ?_)
                  clear hl147
                  refine lv_goto (tgt := 4) hx hb dX9_greatest_26 (by decide) ?_
                  refine lv_iload_n hx hb dX9_greatest_4 rfl (lv_at hl148 0 rfl) ?_
                  refine lv_iconst (v := 4) hx hb dX9_greatest_5 (by decide) ?_
                  refine lv_icmp_ge (tgt := 29) hx hb dX9_greatest_6 (by decide) (fun c149 => ?_) (fun c149 => ?_)
                  · refine lv_iload_n hx hb dX9_greatest_29 rfl (lv_at hl148 1 rfl) ?_
                    have q150 : 2 = mgreat t := by
                      subst w144_0
                      subst w124_0
                      subst w84_0
                      subst w4_0
                      first | (subst c146; rfl) | (simp only [mgreat, c3, c6, c83, c86, c123, c126, c143, c146, c149, ↓reduceIte]; done) | (simp [mgreat, c3, c6, c83, c86, c123, c126, c143, c146, c149]; done) | rfl
                    exact kRi F hr hlocks hS145 dX9_greatest_30 () q150 hP145 hD145
                  · exact absurd (by decide) c149
                · refine lv_iload_n hx hb dX9_greatest_17 rfl (lv_at hl142 0 rfl) ?_
                  refine lv_goto (tgt := 22) hx hb dX9_greatest_18 (by decide) ?_
                  refine lv_istore_n (lv' := [(1, .int 3), (2, .int 3), (0, .int t)]) hx hb dX9_greatest_22 rfl hl142 (by decide) rfl (fun ls151 hl151 => ?_)
                  clear hl142
                  refine lv_iinc (v := 4) (lv' := [(2, .int 4), (1, .int 3), (0, .int t)]) hx hb dX9_greatest_23 hl151 (k := 1) rfl (by decide) (by decide) rfl (fun ls152 hl152 => ?_)
                  clear hl151
                  refine lv_goto (tgt := 4) hx hb dX9_greatest_26 (by decide) ?_
                  refine lv_iload_n hx hb dX9_greatest_4 rfl (lv_at hl152 0 rfl) ?_
                  refine lv_iconst (v := 4) hx hb dX9_greatest_5 (by decide) ?_
                  refine lv_icmp_ge (tgt := 29) hx hb dX9_greatest_6 (by decide) (fun c153 => ?_) (fun c153 => ?_)
                  · refine lv_iload_n hx hb dX9_greatest_29 rfl (lv_at hl152 1 rfl) ?_
                    have q154 : 3 = mgreat t := by
                      subst w144_0
                      subst w124_0
                      subst w84_0
                      subst w4_0
                      first | (simp only [mgreat, c3, c6, c83, c86, c123, c126, c143, c146, c153, ↓reduceIte]; done) | (simp [mgreat, c3, c6, c83, c86, c123, c126, c143, c146, c153]; done) | rfl
                    exact kRi F hr hlocks hS145 dX9_greatest_30 () q154 hP145 hD145
                  · exact absurd (by decide) c153
set_option maxHeartbeats 1000000 in
set_option maxRecDepth 100000 in
theorem c_X9_leastOf (l : Launch) (G : kG) (t : Int32) : kM G l yX9_leastOf wsX9_leastOf ({ frames := 1, cells := 0, slots := 0, locals := 21 }) [.int t] ([]) (kQi G (fun (rr : Int32) (uu : Unit) => rr = mleast t) (fun (uu : Unit) => [])) := by
  refine kStart (cc := cX9_leastOf) (maxL := 2) (ret := (some .int)) (by decide) rfl (Nat.le_of_ble_eq_true rfl) (fun pg ev st mi bl mt cd A ls0 F hr hlocks hin hK hP0 hD0 hA hS0 hl0 => ?_)
  obtain ⟨hx, hb, hml, hown, hts⟩ := id F
  have hl0 : lv_has ls0 2 [(0, .int t)] := hl0
  refine lv_iconst (v := 0) hx hb dX9_leastOf_0 (by decide) ?_
  refine lv_istore_n (lv' := [(1, .int 0), (0, .int t)]) hx hb dX9_leastOf_1 rfl hl0 (by decide) rfl (fun ls1 hl1 => ?_)
  clear hl0
  refine lv_iload_n hx hb dX9_leastOf_2 rfl (lv_at hl1 0 rfl) ?_
  refine lv_iconst (v := 4) hx hb dX9_leastOf_3 (by decide) ?_
  refine lv_icmp_ge (tgt := 21) hx hb dX9_leastOf_4 (by decide) (fun c2 => ?_) (fun c2 => ?_)
  · exact absurd c2 (by decide)
  · refine lv_iload_n hx hb dX9_leastOf_7 rfl (lv_at hl1 1 rfl) ?_
    refine lv_iload_n hx hb dX9_leastOf_8 rfl (lv_at hl1 0 rfl) ?_
    refine kPSi F hK hP0 hD0 hS0 hA hl1.1 (c_X9_has l G t 0) (fun _ => rfl) gX9_leastOf_X9_has rfl 2 rfl (by decide +kernel) ⟨Nat.le_of_ble_eq_true rfl, Nat.le_of_ble_eq_true rfl⟩ ⟨Nat.zero_le _, Nat.zero_le _⟩ (Nat.le_of_ble_eq_true rfl) rfl dX9_leastOf_9 (fun r3 u3 H4 locs4 hw3 (hP4 : va_P G.1 vwCl ([]) H4) (hD4 : va_D A ([])) hS4 => ?_)
    clear hP0 hD0 hS0
    have w3_0 : r3 = mhas t 0 := hw3
    refine lv_if_ne (tgt := 21) hx hb dX9_leastOf_12 (by decide) (fun c5 => ?_) (fun c5 => ?_)
    · refine lv_iload_n hx hb dX9_leastOf_21 rfl (lv_at hl1 0 rfl) ?_
      have q6 : 0 = mleast t := by
        subst w3_0
        first | (simp only [mleast, c2, c5, ↓reduceIte]; done) | (simp [mleast, c2, c5]; done) | rfl
      exact kRi F hr hlocks hS4 dX9_leastOf_22 () q6 hP4 hD4
    · refine lv_iinc (v := 1) (lv' := [(1, .int 1), (0, .int t)]) hx hb dX9_leastOf_15 hl1 (k := 0) rfl (by decide) (by decide) rfl (fun ls7 hl7 => ?_)
      clear hl1
      refine lv_goto (tgt := 2) hx hb dX9_leastOf_18 (by decide) ?_
      refine lv_iload_n hx hb dX9_leastOf_2 rfl (lv_at hl7 0 rfl) ?_
      refine lv_iconst (v := 4) hx hb dX9_leastOf_3 (by decide) ?_
      refine lv_icmp_ge (tgt := 21) hx hb dX9_leastOf_4 (by decide) (fun c8 => ?_) (fun c8 => ?_)
      · exact absurd c8 (by decide)
      · refine lv_iload_n hx hb dX9_leastOf_7 rfl (lv_at hl7 1 rfl) ?_
        refine lv_iload_n hx hb dX9_leastOf_8 rfl (lv_at hl7 0 rfl) ?_
        refine kPSi F hK hP4 hD4 hS4 hA hl7.1 (c_X9_has l G t 1) (fun _ => rfl) gX9_leastOf_X9_has rfl 2 rfl (by decide +kernel) ⟨Nat.le_of_ble_eq_true rfl, Nat.le_of_ble_eq_true rfl⟩ ⟨Nat.zero_le _, Nat.zero_le _⟩ (Nat.le_of_ble_eq_true rfl) rfl dX9_leastOf_9 (fun r9 u9 H10 locs10 hw9 (hP10 : va_P G.1 vwCl ([]) H10) (hD10 : va_D A ([])) hS10 => ?_)
        clear hP4 hD4 hS4
        have w9_0 : r9 = mhas t 1 := hw9
        refine lv_if_ne (tgt := 21) hx hb dX9_leastOf_12 (by decide) (fun c11 => ?_) (fun c11 => ?_)
        · refine lv_iload_n hx hb dX9_leastOf_21 rfl (lv_at hl7 0 rfl) ?_
          have q12 : 1 = mleast t := by
            subst w9_0
            subst w3_0
            first | (subst c5; rfl) | (simp only [mleast, c2, c5, c8, c11, ↓reduceIte]; done) | (simp [mleast, c2, c5, c8, c11]; done) | rfl
          exact kRi F hr hlocks hS10 dX9_leastOf_22 () q12 hP10 hD10
        · refine lv_iinc (v := 2) (lv' := [(1, .int 2), (0, .int t)]) hx hb dX9_leastOf_15 hl7 (k := 0) rfl (by decide) (by decide) rfl (fun ls13 hl13 => ?_)
          clear hl7
          refine lv_goto (tgt := 2) hx hb dX9_leastOf_18 (by decide) ?_
          refine lv_iload_n hx hb dX9_leastOf_2 rfl (lv_at hl13 0 rfl) ?_
          refine lv_iconst (v := 4) hx hb dX9_leastOf_3 (by decide) ?_
          refine lv_icmp_ge (tgt := 21) hx hb dX9_leastOf_4 (by decide) (fun c14 => ?_) (fun c14 => ?_)
          · exact absurd c14 (by decide)
          · refine lv_iload_n hx hb dX9_leastOf_7 rfl (lv_at hl13 1 rfl) ?_
            refine lv_iload_n hx hb dX9_leastOf_8 rfl (lv_at hl13 0 rfl) ?_
            refine kPSi F hK hP10 hD10 hS10 hA hl13.1 (c_X9_has l G t 2) (fun _ => rfl) gX9_leastOf_X9_has rfl 2 rfl (by decide +kernel) ⟨Nat.le_of_ble_eq_true rfl, Nat.le_of_ble_eq_true rfl⟩ ⟨Nat.zero_le _, Nat.zero_le _⟩ (Nat.le_of_ble_eq_true rfl) rfl dX9_leastOf_9 (fun r15 u15 H16 locs16 hw15 (hP16 : va_P G.1 vwCl ([]) H16) (hD16 : va_D A ([])) hS16 => ?_)
            clear hP10 hD10 hS10
            have w15_0 : r15 = mhas t 2 := hw15
            refine lv_if_ne (tgt := 21) hx hb dX9_leastOf_12 (by decide) (fun c17 => ?_) (fun c17 => ?_)
            · refine lv_iload_n hx hb dX9_leastOf_21 rfl (lv_at hl13 0 rfl) ?_
              have q18 : 2 = mleast t := by
                subst w15_0
                subst w9_0
                subst w3_0
                first | (subst c5; rfl) | (subst c11; rfl) | (simp only [mleast, c2, c5, c8, c11, c14, c17, ↓reduceIte]; done) | (simp [mleast, c2, c5, c8, c11, c14, c17]; done) | rfl
              exact kRi F hr hlocks hS16 dX9_leastOf_22 () q18 hP16 hD16
            · refine lv_iinc (v := 3) (lv' := [(1, .int 3), (0, .int t)]) hx hb dX9_leastOf_15 hl13 (k := 0) rfl (by decide) (by decide) rfl (fun ls19 hl19 => ?_)
              clear hl13
              refine lv_goto (tgt := 2) hx hb dX9_leastOf_18 (by decide) ?_
              refine lv_iload_n hx hb dX9_leastOf_2 rfl (lv_at hl19 0 rfl) ?_
              refine lv_iconst (v := 4) hx hb dX9_leastOf_3 (by decide) ?_
              refine lv_icmp_ge (tgt := 21) hx hb dX9_leastOf_4 (by decide) (fun c20 => ?_) (fun c20 => ?_)
              · exact absurd c20 (by decide)
              · refine lv_iload_n hx hb dX9_leastOf_7 rfl (lv_at hl19 1 rfl) ?_
                refine lv_iload_n hx hb dX9_leastOf_8 rfl (lv_at hl19 0 rfl) ?_
                refine kPSi F hK hP16 hD16 hS16 hA hl19.1 (c_X9_has l G t 3) (fun _ => rfl) gX9_leastOf_X9_has rfl 2 rfl (by decide +kernel) ⟨Nat.le_of_ble_eq_true rfl, Nat.le_of_ble_eq_true rfl⟩ ⟨Nat.zero_le _, Nat.zero_le _⟩ (Nat.le_of_ble_eq_true rfl) rfl dX9_leastOf_9 (fun r21 u21 H22 locs22 hw21 (hP22 : va_P G.1 vwCl ([]) H22) (hD22 : va_D A ([])) hS22 => ?_)
                clear hP16 hD16 hS16
                have w21_0 : r21 = mhas t 3 := hw21
                refine lv_if_ne (tgt := 21) hx hb dX9_leastOf_12 (by decide) (fun c23 => ?_) (fun c23 => ?_)
                · refine lv_iload_n hx hb dX9_leastOf_21 rfl (lv_at hl19 0 rfl) ?_
                  have q24 : 3 = mleast t := by
                    subst w21_0
                    subst w15_0
                    subst w9_0
                    subst w3_0
                    first | (subst c5; rfl) | (subst c11; rfl) | (subst c17; rfl) | (simp only [mleast, c2, c5, c8, c11, c14, c17, c20, c23, ↓reduceIte]; done) | (simp [mleast, c2, c5, c8, c11, c14, c17, c20, c23]; done) | rfl
                  exact kRi F hr hlocks hS22 dX9_leastOf_22 () q24 hP22 hD22
                · refine lv_iinc (v := 4) (lv' := [(1, .int 4), (0, .int t)]) hx hb dX9_leastOf_15 hl19 (k := 0) rfl (by decide) (by decide) rfl (fun ls25 hl25 => ?_)
                  clear hl19
                  refine lv_goto (tgt := 2) hx hb dX9_leastOf_18 (by decide) ?_
                  refine lv_iload_n hx hb dX9_leastOf_2 rfl (lv_at hl25 0 rfl) ?_
                  refine lv_iconst (v := 4) hx hb dX9_leastOf_3 (by decide) ?_
                  refine lv_icmp_ge (tgt := 21) hx hb dX9_leastOf_4 (by decide) (fun c26 => ?_) (fun c26 => ?_)
                  · refine lv_iload_n hx hb dX9_leastOf_21 rfl (lv_at hl25 0 rfl) ?_
                    have q27 : 4 = mleast t := by
                      subst w21_0
                      subst w15_0
                      subst w9_0
                      subst w3_0
                      first | (subst c5; rfl) | (subst c11; rfl) | (subst c17; rfl) | (subst c23; rfl) | (simp only [mleast, c2, c5, c8, c11, c14, c17, c20, c23, c26, ↓reduceIte]; done) | (simp [mleast, c2, c5, c8, c11, c14, c17, c20, c23, c26]; done) | rfl
                    exact kRi F hr hlocks hS22 dX9_leastOf_22 () q27 hP22 hD22
                  · exact absurd (by decide) c26
set_option maxHeartbeats 1000000 in
set_option maxRecDepth 100000 in
theorem c_X9_keyOf (l : Launch) (G : kG) (x : Int32) (v : Int32) : kM G l yX9_keyOf wsX9_keyOf ({ frames := 1, cells := 0, slots := 0, locals := 22 }) [.int x, .int v] ([]) (kQi G (fun (rr : Int32) (uu : Unit) => rr = kmix (kmix 7 x) v) (fun (uu : Unit) => [])) := by
  refine kStart (cc := cX9_keyOf) (maxL := 2) (ret := (some .int)) (by decide) rfl (Nat.le_of_ble_eq_true rfl) (fun pg ev st mi bl mt cd A ls0 F hr hlocks hin hK hP0 hD0 hA hS0 hl0 => ?_)
  obtain ⟨hx, hb, hml, hown, hts⟩ := id F
  have hl0 : lv_has ls0 2 [(0, .int x), (1, .int v)] := hl0
  refine lv_bipush (v := 7) hx hb dX9_keyOf_0 (by decide) ?_
  refine lv_iload_n hx hb dX9_keyOf_2 rfl (lv_at hl0 0 rfl) ?_
  refine kPSi F hK hP0 hD0 hS0 hA hl0.1 (c_X9_mix l G 7 x) (fun _ => rfl) gX9_keyOf_X9_mix rfl 2 rfl (by decide +kernel) ⟨Nat.le_of_ble_eq_true rfl, Nat.le_of_ble_eq_true rfl⟩ ⟨Nat.zero_le _, Nat.zero_le _⟩ (Nat.le_of_ble_eq_true rfl) rfl dX9_keyOf_3 (fun r1 u1 H2 locs2 hw1 (hP2 : va_P G.1 vwCl ([]) H2) (hD2 : va_D A ([])) hS2 => ?_)
  clear hP0 hD0 hS0
  have w1_0 : r1 = kmix 7 x := hw1
  refine lv_iload_n hx hb dX9_keyOf_6 rfl (lv_at hl0 1 rfl) ?_
  refine kPSi F hK hP2 hD2 hS2 hA hl0.1 (c_X9_mix l G r1 v) (fun _ => rfl) gX9_keyOf_X9_mix rfl 2 rfl (by decide +kernel) ⟨Nat.le_of_ble_eq_true rfl, Nat.le_of_ble_eq_true rfl⟩ ⟨Nat.zero_le _, Nat.zero_le _⟩ (Nat.le_of_ble_eq_true rfl) rfl dX9_keyOf_7 (fun r3 u3 H4 locs4 hw3 (hP4 : va_P G.1 vwCl ([]) H4) (hD4 : va_D A ([])) hS4 => ?_)
  clear hP2 hD2 hS2
  have w3_0 : r3 = kmix r1 v := hw3
  have q5 : r3 = kmix (kmix 7 x) v := by
    subst w3_0
    subst w1_0
    first | rfl | (simp only [↓reduceIte]; done) | (simp []; done)
  exact kRi F hr hlocks hS4 dX9_keyOf_10 () q5 hP4 hD4
set_option maxHeartbeats 1000000 in
set_option maxRecDepth 100000 in
theorem c_X9_clears (l : Launch) (G : kG) (h : Nat) (a : Nat → Nat) (σ : kS) (v : Int32) : kM G l yX9_clears wsX9_clears ({ frames := 0, cells := 0, slots := 0, locals := 0 }) [.ref h, .int v] (mW G h a σ) (kQv G (fun (uu : kS) => uu = mclr σ v) (fun (uu : kS) => mW G h a uu)) := by
  refine kStart (cc := cX9_clears) (maxL := 3) (ret := none) (by decide) rfl (Nat.le_of_ble_eq_true rfl) (fun pg ev st mi bl mt cd A ls0 F hr hlocks hin hK hP0 hD0 hA hS0 hl0 => ?_)
  obtain ⟨hx, hb, hml, hown, hts⟩ := id F
  have hl0 : lv_has ls0 3 [(0, .ref h), (1, .int v)] := hl0
  have iX9 : ∀ w ∈ u_ws RX9 TX9 43, w ∈ wsX9_clears := fun w h => List.mem_cons_of_mem _ (List.mem_append_right _ h)
  refine lv_iconst (v := 0) hx hb dX9_clears_0 (by decide) ?_
  refine lv_istore_n (lv' := [(2, .int 0), (0, .ref h), (1, .int v)]) hx hb dX9_clears_1 rfl hl0 (by decide) rfl (fun ls1 hl1 => ?_)
  clear hl0
  have LOOP2 : ∀ (fu k : Nat), k ≤ 9 → 9 + 1 ≤ k + fu → ∀ σ2 : kS, σ2 = va_up σ 29 (kclr (σ 29) k) → ∀ (H2 : Heap) (locs2 : List Loc) (ls2 : Array Slot), lv_has ls2 3 [(2, .int (nI k)), (0, .ref h), (1, .int v)] → va_P G.1 vwCl (mW G h a σ2) H2 → va_D A (mW G h a σ2) → va_S A st.heap H2 locs2 → W pg l ev ({ frames := 0, cells := 0, slots := 0, locals := 0 }) st mi ([.ref h, .int v] : List Value).toArray bl mt cd H2 locs2 0 0 (MQ bl (kQv G (fun (uu : kS) => uu = mclr σ v) (fun (uu : kS) => mW G h a uu) A) ([.ref h, .int v] : List Value).toArray st 0 0 A) (F0 mi 2 ls2 []) := by
    intro fu
    induction fu with
    | zero => intro k h1 h2; exact absurd h2 (by omega)
    | succ fu ih =>
      intro k hk hnk σ2 eσ2 H2 locs2 ls2 hl2 hP2 hD2 hS2
      refine lv_iload_n hx hb dX9_clears_2 rfl (lv_at hl2 0 rfl) ?_
      refine lv_bipush (v := 9) hx hb dX9_clears_3 (by decide) ?_
      refine lv_icmp_ge (tgt := 21) hx hb dX9_clears_5 (by decide) (fun c3 => ?_) (fun c3 => ?_)
      · have xk : k = 9 := k_exit (N := 9) hk (by decide) c3
        subst xk
        clear c3
        refine lv_aload_n hx hb dX9_clears_21 rfl (lv_at hl2 1 rfl) ?_
        refine kget F hK hP2 9 0 29 iX9 rfl rfl (by decide) (List.mem_of_getElem? (i := 1) rfl) rfl dX9_clears_22 ?_
        refine lv_iconst (v := 0) hx hb dX9_clears_25 (by decide) ?_
        refine lv_iload_n hx hb dX9_clears_26 rfl (lv_at hl2 2 rfl) ?_
        refine kMst F hK hP2 hD2 hS2 29 20 0 rfl rfl (by decide) (Nat.le_of_ble_eq_true rfl) rfl dX9_clears_27 (fun H4 locs4 σ4 eσ4 hP4 hD4 hS4 => ?_)
        clear hP2 hD2 hS2
        have q5 : σ4 = mclr σ v := by
          subst eσ4
          subst eσ2
          exact su_up _ _ _ _ _
        exact kRv F hr hlocks hS4 dX9_clears_28 σ4 q5 hP4 hD4
      · have lk : k < 9 := k_body (N := 9) hk (by decide) c3
        refine lv_aload_n hx hb dX9_clears_8 rfl (lv_at hl2 1 rfl) ?_
        refine kget F hK hP2 9 0 29 iX9 rfl rfl (by decide) (List.mem_of_getElem? (i := 1) rfl) rfl dX9_clears_9 ?_
        refine lv_iload_n hx hb dX9_clears_12 rfl (lv_at hl2 0 rfl) ?_
        refine lv_iconst (v := 0) hx hb dX9_clears_13 (by decide) ?_
        refine kMst F hK hP2 hD2 hS2 29 20 k rfl rfl lk (Nat.le_of_ble_eq_true rfl) rfl dX9_clears_14 (fun H6 locs6 σ6 eσ6 hP6 hD6 hS6 => ?_)
        clear hP2 hD2 hS2
        refine lv_iinc (v := nI (k + 1)) (lv' := [(2, .int (nI (k + 1))), (0, .ref h), (1, .int v)]) hx hb dX9_clears_15 hl2 (k := 0) rfl (nI_1 _) (by decide) rfl (fun ls7 hl7 => ?_)
        clear hl2
        refine lv_goto (tgt := 2) hx hb dX9_clears_18 (by decide) ?_
        exact ih (k + 1) (by omega) (by omega) σ6 (by subst eσ6; subst eσ2; exact su_up _ _ _ _ _)  _ _ _ hl7 hP6 hD6 hS6
  exact LOOP2 (9 + 1) 0 (by omega) (by omega) σ (va_upid _ _).symm  _ _ _ hl1 hP0 hD0 hS0
set_option maxHeartbeats 1000000 in
set_option maxRecDepth 100000 in
theorem c_X9_takes (l : Launch) (G : kG) (h : Nat) (a : Nat → Nat) (σ : kS) (sd : Nat) (n : Nat) (hsd : sd < 2) (hn : n < 9) : kM G l yX9_takes wsX9_takes ({ frames := 1, cells := 0, slots := 0, locals := 22 }) [.ref h, .int (nI sd), .int (nI n)] (mW G h a σ) (kQv G (fun (uu : kS) => uu = mtakes σ sd (n + 1)) (fun (uu : kS) => mW G h a uu)) := by
  refine kStart (cc := cX9_takes) (maxL := 4) (ret := none) (by decide) rfl (Nat.le_of_ble_eq_true rfl) (fun pg ev st mi bl mt cd A ls0 F hr hlocks hin hK hP0 hD0 hA hS0 hl0 => ?_)
  obtain ⟨hx, hb, hml, hown, hts⟩ := id F
  have hl0 : lv_has ls0 4 [(0, .ref h), (1, .int (nI sd)), (2, .int (nI n))] := hl0
  have iX9 : ∀ w ∈ u_ws RX9 TX9 43, w ∈ wsX9_takes := fun w h => List.mem_cons_of_mem _ (List.mem_append_right _ h)
  refine lv_iconst (v := 0) hx hb dX9_takes_0 (by decide) ?_
  refine lv_istore_n (lv' := [(3, .int 0), (0, .ref h), (1, .int (nI sd)), (2, .int (nI n))]) hx hb dX9_takes_1 rfl hl0 (by decide) rfl (fun ls1 hl1 => ?_)
  clear hl0
  have LOOP2 : ∀ (fu k : Nat), k ≤ (n + 1) → (n + 1) + 1 ≤ k + fu → ∀ σ2 : kS, σ2 = va_up σ 5 (upd (σ 5) sd (kmixN (σ 29) (σ 5 sd) k)) → ∀ (H2 : Heap) (locs2 : List Loc) (ls2 : Array Slot), lv_has ls2 4 [(3, .int (nI k)), (0, .ref h), (1, .int (nI sd)), (2, .int (nI n))] → va_P G.1 vwCl (mW G h a σ2) H2 → va_D A (mW G h a σ2) → va_S A st.heap H2 locs2 → W pg l ev ({ frames := 1, cells := 0, slots := 0, locals := 22 }) st mi ([.ref h, .int (nI sd), .int (nI n)] : List Value).toArray bl mt cd H2 locs2 0 0 (MQ bl (kQv G (fun (uu : kS) => uu = mtakes σ sd (n + 1)) (fun (uu : kS) => mW G h a uu) A) ([.ref h, .int (nI sd), .int (nI n)] : List Value).toArray st 0 0 A) (F0 mi 2 ls2 []) := by
    intro fu
    induction fu with
    | zero => intro k h1 h2; exact absurd h2 (by omega)
    | succ fu ih =>
      intro k hk hnk σ2 eσ2 H2 locs2 ls2 hl2 hP2 hD2 hS2
      refine lv_iload_n hx hb dX9_takes_2 rfl (lv_at hl2 0 rfl) ?_
      refine lv_iload_n hx hb dX9_takes_3 rfl (lv_at hl2 3 rfl) ?_
      refine lv_icmp_gt (tgt := 34) hx hb dX9_takes_4 (by decide) (fun c3 => ?_) (fun c3 => ?_)
      · have xk : k = n + 1 := k_exit1 hk (by omega) c3
        subst xk
        have q4 : σ2 = mtakes σ sd (n + 1) := by
          subst eσ2
          first | rfl | (simp only [c3, ↓reduceIte]; done) | (simp [c3]; done)
        exact kRv F hr hlocks hS2 dX9_takes_34 σ2 q4 hP2 hD2
      · have lk : k < n + 1 := k_body1 hk (by omega) c3
        refine lv_aload_n hx hb dX9_takes_7 rfl (lv_at hl2 1 rfl) ?_
        refine kget F hK hP2 9 0 5 iX9 rfl rfl (by decide) (List.mem_of_getElem? (i := 1) rfl) rfl dX9_takes_8 ?_
        refine lv_iload_n hx hb dX9_takes_11 rfl (lv_at hl2 2 rfl) ?_
        refine lv_aload_n hx hb dX9_takes_12 rfl (lv_at hl2 1 rfl) ?_
        refine kget F hK hP2 9 0 5 iX9 rfl rfl (by decide) (List.mem_of_getElem? (i := 1) rfl) rfl dX9_takes_13 ?_
        refine lv_iload_n hx hb dX9_takes_16 rfl (lv_at hl2 2 rfl) ?_
        refine kild F hK hP2 6 sd rfl rfl hsd (Nat.le_of_ble_eq_true rfl) dX9_takes_17 ?_
        refine lv_aload_n hx hb dX9_takes_18 rfl (lv_at hl2 1 rfl) ?_
        refine kget F hK hP2 9 0 29 iX9 rfl rfl (by decide) (List.mem_of_getElem? (i := 2) rfl) rfl dX9_takes_19 ?_
        refine lv_iload_n hx hb dX9_takes_22 rfl (lv_at hl2 0 rfl) ?_
        refine kild F hK hP2 20 k rfl rfl (by omega) (Nat.le_of_ble_eq_true rfl) dX9_takes_23 ?_
        refine kPSi F hK hP2 hD2 hS2 hA hl2.1 (c_X9_mix l G (σ2 5 sd) (σ2 29 k)) (fun _ => rfl) gX9_takes_X9_mix rfl 2 rfl (by decide +kernel) ⟨Nat.le_of_ble_eq_true rfl, Nat.le_of_ble_eq_true rfl⟩ ⟨Nat.zero_le _, Nat.zero_le _⟩ (Nat.le_of_ble_eq_true rfl) rfl dX9_takes_24 (fun r5 u5 H6 locs6 hw5 (hP6 : va_P G.1 vwCl (mW G h a σ2) H6) (hD6 : va_D A (mW G h a σ2)) hS6 => ?_)
        clear hP2 hD2 hS2
        have w5_0 : r5 = kmix (σ2 5 sd) (σ2 29 k) := hw5
        refine kMst F hK hP6 hD6 hS6 5 6 sd rfl rfl hsd (Nat.le_of_ble_eq_true rfl) rfl dX9_takes_27 (fun H7 locs7 σ7 eσ7 hP7 hD7 hS7 => ?_)
        clear hP6 hD6 hS6
        refine lv_iinc (v := nI (k + 1)) (lv' := [(3, .int (nI (k + 1))), (0, .ref h), (1, .int (nI sd)), (2, .int (nI n))]) hx hb dX9_takes_28 hl2 (k := 0) rfl (nI_1 _) (by decide) rfl (fun ls8 hl8 => ?_)
        clear hl2
        refine lv_goto (tgt := 2) hx hb dX9_takes_31 (by decide) ?_
        exact ih (k + 1) (by omega) (by omega) σ7 (by subst eσ7; subst w5_0; subst eσ2; exact mtk_back _ _ _)  _ _ _ hl8 hP7 hD7 hS7
  exact LOOP2 ((n + 1) + 1) 0 (by omega) (by omega) σ (mtk_0 _ _)  _ _ _ hl1 hP0 hD0 hS0
set_option maxHeartbeats 1000000 in
set_option maxRecDepth 100000 in
theorem c_X9_sends (l : Launch) (G : kG) (h : Nat) (a : Nat → Nat) (σ : kS) (sd : Nat) (Mn : Nat) (hsd : sd < 2) (hM : σ 26 sd = nI Mn) (hM8 : Mn ≤ 8) : kM G l yX9_sends wsX9_sends ({ frames := 0, cells := 0, slots := 0, locals := 0 }) [.ref h, .int (nI sd)] (mW G h a σ) (kQv G (fun (uu : kS) => uu = msend σ sd Mn) (fun (uu : kS) => mW G h a uu)) := by
  refine kStart (cc := cX9_sends) (maxL := 3) (ret := none) (by decide) rfl (Nat.le_of_ble_eq_true rfl) (fun pg ev st mi bl mt cd A ls0 F hr hlocks hin hK hP0 hD0 hA hS0 hl0 => ?_)
  obtain ⟨hx, hb, hml, hown, hts⟩ := id F
  have hl0 : lv_has ls0 3 [(0, .ref h), (1, .int (nI sd))] := hl0
  have iX9 : ∀ w ∈ u_ws RX9 TX9 43, w ∈ wsX9_sends := fun w h => List.mem_cons_of_mem _ (List.mem_append_right _ h)
  refine lv_aload_n hx hb dX9_sends_0 rfl (lv_at hl0 0 rfl) ?_
  refine kget F hK hP0 9 0 26 iX9 rfl rfl (by decide) (List.mem_of_getElem? (i := 1) rfl) rfl dX9_sends_1 ?_
  refine lv_iload_n hx hb dX9_sends_4 rfl (lv_at hl0 1 rfl) ?_
  refine kild F hK hP0 17 sd rfl rfl hsd (Nat.le_of_ble_eq_true rfl) dX9_sends_5 ?_
  refine lv_bipush (v := 8) hx hb dX9_sends_6 (by decide) ?_
  refine lv_icmp_ne (tgt := 22) hx hb dX9_sends_8 (by decide) (fun c1 => ?_) (fun c1 => ?_)
  · rw [hM] at c1
    have lM : ¬ Mn = 8 := fun z => c1 (by rw [z]; rfl)
    refine lv_iconst (v := 0) hx hb dX9_sends_22 (by decide) ?_
    refine lv_istore_n (lv' := [(2, .int 0), (0, .ref h), (1, .int (nI sd))]) hx hb dX9_sends_23 rfl hl0 (by decide) rfl (fun ls2 hl2 => ?_)
    clear hl0
    have LOOP3 : ∀ (fu k : Nat), k ≤ 9 → 9 + 1 ≤ k + fu → ∀ σ3 : kS, σ3 = va_up σ 27 (mcpy (σ 27) (σ 29) (72 * sd + 9 * Mn) k) → ∀ (H3 : Heap) (locs3 : List Loc) (ls3 : Array Slot), lv_has ls3 3 [(2, .int (nI k)), (0, .ref h), (1, .int (nI sd))] → va_P G.1 vwCl (mW G h a σ3) H3 → va_D A (mW G h a σ3) → va_S A st.heap H3 locs3 → W pg l ev ({ frames := 0, cells := 0, slots := 0, locals := 0 }) st mi ([.ref h, .int (nI sd)] : List Value).toArray bl mt cd H3 locs3 0 0 (MQ bl (kQv G (fun (uu : kS) => uu = msend σ sd Mn) (fun (uu : kS) => mW G h a uu) A) ([.ref h, .int (nI sd)] : List Value).toArray st 0 0 A) (F0 mi 24 ls3 []) := by
      intro fu
      induction fu with
      | zero => intro k h1 h2; exact absurd h2 (by omega)
      | succ fu ih =>
        intro k hk hnk σ3 eσ3 H3 locs3 ls3 hl3 hP3 hD3 hS3
        refine lv_iload_n hx hb dX9_sends_24 rfl (lv_at hl3 0 rfl) ?_
        refine lv_bipush (v := 9) hx hb dX9_sends_25 (by decide) ?_
        refine lv_icmp_ge (tgt := 63) hx hb dX9_sends_27 (by decide) (fun c4 => ?_) (fun c4 => ?_)
        · have xk : k = 9 := k_exit (N := 9) hk (by decide) c4
          subst xk
          clear c4
          refine lv_aload_n hx hb dX9_sends_63 rfl (lv_at hl3 1 rfl) ?_
          refine kget F hK hP3 9 0 26 iX9 rfl rfl (by decide) (List.mem_of_getElem? (i := 1) rfl) rfl dX9_sends_64 ?_
          refine lv_iload_n hx hb dX9_sends_67 rfl (lv_at hl3 2 rfl) ?_
          refine lv_dup2_11 hx hb dX9_sends_68 rfl rfl ?_
          refine kild F hK hP3 17 sd rfl rfl hsd (Nat.le_of_ble_eq_true rfl) dX9_sends_69 ?_
          refine lv_iconst (v := 1) hx hb dX9_sends_70 (by decide) ?_
          refine lv_iadd hx hb dX9_sends_71 ?_
          refine kMst F hK hP3 hD3 hS3 26 17 sd rfl rfl hsd (Nat.le_of_ble_eq_true rfl) rfl dX9_sends_72 (fun H5 locs5 σ5 eσ5 hP5 hD5 hS5 => ?_)
          clear hP3 hD3 hS3
          have q6 : σ5 = msend σ sd Mn := by
            subst eσ5
            subst eσ3
            first | exact (if_pos lM).symm | exact (if_neg lM).symm
          exact kRv F hr hlocks hS5 dX9_sends_73 σ5 q6 hP5 hD5
        · have lk : k < 9 := k_body (N := 9) hk (by decide) c4
          refine lv_aload_n hx hb dX9_sends_30 rfl (lv_at hl3 1 rfl) ?_
          refine kget F hK hP3 9 0 27 iX9 rfl rfl (by decide) (List.mem_of_getElem? (i := 3) rfl) rfl dX9_sends_31 ?_
          refine lv_bipush (v := 72) hx hb dX9_sends_34 (by decide) ?_
          refine lv_iload_n hx hb dX9_sends_36 rfl (lv_at hl3 2 rfl) ?_
          refine lv_imul hx hb dX9_sends_37 ?_
          refine lv_bipush (v := 9) hx hb dX9_sends_38 (by decide) ?_
          refine lv_aload_n hx hb dX9_sends_40 rfl (lv_at hl3 1 rfl) ?_
          refine kget F hK hP3 9 0 26 iX9 rfl rfl (by decide) (List.mem_of_getElem? (i := 1) rfl) rfl dX9_sends_41 ?_
          refine lv_iload_n hx hb dX9_sends_44 rfl (lv_at hl3 2 rfl) ?_
          refine kild F hK hP3 17 sd rfl rfl hsd (Nat.le_of_ble_eq_true rfl) dX9_sends_45 ?_
          refine lv_imul hx hb dX9_sends_46 ?_
          refine lv_iadd hx hb dX9_sends_47 ?_
          refine lv_iload_n hx hb dX9_sends_48 rfl (lv_at hl3 0 rfl) ?_
          refine lv_iadd hx hb dX9_sends_49 ?_
          refine lv_aload_n hx hb dX9_sends_50 rfl (lv_at hl3 1 rfl) ?_
          refine kget F hK hP3 9 0 29 iX9 rfl rfl (by decide) (List.mem_of_getElem? (i := 4) rfl) rfl dX9_sends_51 ?_
          refine lv_iload_n hx hb dX9_sends_54 rfl (lv_at hl3 0 rfl) ?_
          refine kild F hK hP3 20 k rfl rfl (by omega) (Nat.le_of_ble_eq_true rfl) dX9_sends_55 ?_
          refine kMst F hK hP3 hD3 hS3 27 18 (72 * sd + 9 * Mn + k) rfl (mix_s (by subst eσ3; exact hM)) (by omega) (Nat.le_of_ble_eq_true rfl) rfl dX9_sends_56 (fun H7 locs7 σ7 eσ7 hP7 hD7 hS7 => ?_)
          clear hP3 hD3 hS3
          refine lv_iinc (v := nI (k + 1)) (lv' := [(2, .int (nI (k + 1))), (0, .ref h), (1, .int (nI sd))]) hx hb dX9_sends_57 hl3 (k := 0) rfl (nI_1 _) (by decide) rfl (fun ls8 hl8 => ?_)
          clear hl3
          refine lv_goto (tgt := 24) hx hb dX9_sends_60 (by decide) ?_
          exact ih (k + 1) (by omega) (by omega) σ7 (by subst eσ7; subst eσ3; exact su_up _ _ _ _ _)  _ _ _ hl8 hP7 hD7 hS7
    exact LOOP3 (9 + 1) 0 (by omega) (by omega) σ (va_upid _ _).symm  _ _ _ hl2 hP0 hD0 hS0
  · rw [hM] at c1
    have lM : Mn = 8 := (nI_eq (by omega) (by omega)).mp (show nI Mn = nI 8 from c1)
    refine lv_aload_n hx hb dX9_sends_11 rfl (lv_at hl0 0 rfl) ?_
    refine lv_dup hx hb dX9_sends_12 rfl ?_
    refine kget F hK hP0 9 0 30 iX9 rfl rfl (by decide) (List.mem_of_getElem? (i := 2) rfl) rfl dX9_sends_13 ?_
    refine lv_iconst (v := 1) hx hb dX9_sends_16 (by decide) ?_
    refine lv_iadd hx hb dX9_sends_17 ?_
    refine kMput F hK hP0 hD0 hS0 30 iX9 rfl (by decide) (List.mem_of_getElem? (i := 2) rfl) rfl rfl rfl (Nat.le_of_ble_eq_true rfl) rfl dX9_sends_18 (fun H9 locs9 σ9 eσ9 hP9 hD9 hS9 => ?_)
    clear hP0 hD0 hS0
    have q10 : σ9 = msend σ sd Mn := by
      subst eσ9
      first | exact (if_pos lM).symm | exact (if_neg lM).symm
    exact kRv F hr hlocks hS9 dX9_sends_21 σ9 q10 hP9 hD9
set_option maxHeartbeats 1000000 in
set_option maxRecDepth 100000 in
theorem c_X9_drops (l : Launch) (G : kG) (h : Nat) (a : Nat → Nat) (σ : kS) (sd : Nat) (hsd : sd < 2) : kM G l yX9_drops wsX9_drops ({ frames := 0, cells := 0, slots := 0, locals := 0 }) [.ref h, .int (nI sd)] (mW G h a σ) (kQv G (fun (uu : kS) => uu = mdrop σ sd) (fun (uu : kS) => mW G h a uu)) := by
  refine kStart (cc := cX9_drops) (maxL := 3) (ret := none) (by decide) rfl (Nat.le_of_ble_eq_true rfl) (fun pg ev st mi bl mt cd A ls0 F hr hlocks hin hK hP0 hD0 hA hS0 hl0 => ?_)
  obtain ⟨hx, hb, hml, hown, hts⟩ := id F
  have hl0 : lv_has ls0 3 [(0, .ref h), (1, .int (nI sd))] := hl0
  have iX9 : ∀ w ∈ u_ws RX9 TX9 43, w ∈ wsX9_drops := fun w h => List.mem_cons_of_mem _ (List.mem_append_right _ h)
  refine lv_iconst (v := 0) hx hb dX9_drops_0 (by decide) ?_
  refine lv_istore_n (lv' := [(2, .int 0), (0, .ref h), (1, .int (nI sd))]) hx hb dX9_drops_1 rfl hl0 (by decide) rfl (fun ls1 hl1 => ?_)
  clear hl0
  have LOOP2 : ∀ (fu k : Nat), k ≤ 63 → 63 + 1 ≤ k + fu → ∀ σ2 : kS, σ2 = va_up σ 27 (mshf (σ 27) (72 * sd) k) → ∀ (H2 : Heap) (locs2 : List Loc) (ls2 : Array Slot), lv_has ls2 3 [(2, .int (nI k)), (0, .ref h), (1, .int (nI sd))] → va_P G.1 vwCl (mW G h a σ2) H2 → va_D A (mW G h a σ2) → va_S A st.heap H2 locs2 → W pg l ev ({ frames := 0, cells := 0, slots := 0, locals := 0 }) st mi ([.ref h, .int (nI sd)] : List Value).toArray bl mt cd H2 locs2 0 0 (MQ bl (kQv G (fun (uu : kS) => uu = mdrop σ sd) (fun (uu : kS) => mW G h a uu) A) ([.ref h, .int (nI sd)] : List Value).toArray st 0 0 A) (F0 mi 2 ls2 []) := by
    intro fu
    induction fu with
    | zero => intro k h1 h2; exact absurd h2 (by omega)
    | succ fu ih =>
      intro k hk hnk σ2 eσ2 H2 locs2 ls2 hl2 hP2 hD2 hS2
      refine lv_iload_n hx hb dX9_drops_2 rfl (lv_at hl2 0 rfl) ?_
      refine lv_bipush (v := 63) hx hb dX9_drops_3 (by decide) ?_
      refine lv_icmp_ge (tgt := 39) hx hb dX9_drops_5 (by decide) (fun c3 => ?_) (fun c3 => ?_)
      · have xk : k = 63 := k_exit (N := 63) hk (by decide) c3
        subst xk
        clear c3
        refine lv_aload_n hx hb dX9_drops_39 rfl (lv_at hl2 1 rfl) ?_
        refine kget F hK hP2 9 0 26 iX9 rfl rfl (by decide) (List.mem_of_getElem? (i := 2) rfl) rfl dX9_drops_40 ?_
        refine lv_iload_n hx hb dX9_drops_43 rfl (lv_at hl2 2 rfl) ?_
        refine lv_dup2_11 hx hb dX9_drops_44 rfl rfl ?_
        refine kild F hK hP2 17 sd rfl rfl hsd (Nat.le_of_ble_eq_true rfl) dX9_drops_45 ?_
        refine lv_iconst (v := 1) hx hb dX9_drops_46 (by decide) ?_
        refine lv_isub hx hb dX9_drops_47 ?_
        refine kMst F hK hP2 hD2 hS2 26 17 sd rfl rfl hsd (Nat.le_of_ble_eq_true rfl) rfl dX9_drops_48 (fun H4 locs4 σ4 eσ4 hP4 hD4 hS4 => ?_)
        clear hP2 hD2 hS2
        have q5 : σ4 = mdrop σ sd := by
          subst eσ4
          subst eσ2
          first | rfl | (simp only [↓reduceIte]; done) | (simp []; done)
        exact kRv F hr hlocks hS4 dX9_drops_49 σ4 q5 hP4 hD4
      · have lk : k < 63 := k_body (N := 63) hk (by decide) c3
        refine lv_aload_n hx hb dX9_drops_8 rfl (lv_at hl2 1 rfl) ?_
        refine kget F hK hP2 9 0 27 iX9 rfl rfl (by decide) (List.mem_of_getElem? (i := 1) rfl) rfl dX9_drops_9 ?_
        refine lv_bipush (v := 72) hx hb dX9_drops_12 (by decide) ?_
        refine lv_iload_n hx hb dX9_drops_14 rfl (lv_at hl2 2 rfl) ?_
        refine lv_imul hx hb dX9_drops_15 ?_
        refine lv_iload_n hx hb dX9_drops_16 rfl (lv_at hl2 0 rfl) ?_
        refine lv_iadd hx hb dX9_drops_17 ?_
        refine lv_aload_n hx hb dX9_drops_18 rfl (lv_at hl2 1 rfl) ?_
        refine kget F hK hP2 9 0 27 iX9 rfl rfl (by decide) (List.mem_of_getElem? (i := 1) rfl) rfl dX9_drops_19 ?_
        refine lv_bipush (v := 72) hx hb dX9_drops_22 (by decide) ?_
        refine lv_iload_n hx hb dX9_drops_24 rfl (lv_at hl2 2 rfl) ?_
        refine lv_imul hx hb dX9_drops_25 ?_
        refine lv_iload_n hx hb dX9_drops_26 rfl (lv_at hl2 0 rfl) ?_
        refine lv_iadd hx hb dX9_drops_27 ?_
        refine lv_bipush (v := 9) hx hb dX9_drops_28 (by decide) ?_
        refine lv_iadd hx hb dX9_drops_30 ?_
        refine kild F hK hP2 18 (72 * sd + k + 9) rfl mix_9 (by omega) (Nat.le_of_ble_eq_true rfl) dX9_drops_31 ?_
        refine kMst F hK hP2 hD2 hS2 27 18 (72 * sd + k) rfl mix_w (by omega) (Nat.le_of_ble_eq_true rfl) rfl dX9_drops_32 (fun H6 locs6 σ6 eσ6 hP6 hD6 hS6 => ?_)
        clear hP2 hD2 hS2
        refine lv_iinc (v := nI (k + 1)) (lv' := [(2, .int (nI (k + 1))), (0, .ref h), (1, .int (nI sd))]) hx hb dX9_drops_33 hl2 (k := 0) rfl (nI_1 _) (by decide) rfl (fun ls7 hl7 => ?_)
        clear hl2
        refine lv_goto (tgt := 2) hx hb dX9_drops_36 (by decide) ?_
        exact ih (k + 1) (by omega) (by omega) σ6 (by subst eσ6; subst eσ2; exact su_up _ _ _ _ _)  _ _ _ hl7 hP6 hD6 hS6
  exact LOOP2 (63 + 1) 0 (by omega) (by omega) σ (va_upid _ _).symm  _ _ _ hl1 hP0 hD0 hS0
set_option maxHeartbeats 1000000 in
set_option maxRecDepth 100000 in
theorem c_X9_fails (l : Launch) (G : kG) (h : Nat) (a : Nat → Nat) (σ : kS) (sd : Nat) (v : Int32) (hsd : sd < 2) : kM G l yX9_fails wsX9_fails ({ frames := 0, cells := 0, slots := 0, locals := 0 }) [.ref h, .int (nI sd), .int v] (mW G h a σ) (kQv G (fun (uu : kS) => uu = mfail σ sd v) (fun (uu : kS) => mW G h a uu)) := by
  refine kStart (cc := cX9_fails) (maxL := 3) (ret := none) (by decide) rfl (Nat.le_of_ble_eq_true rfl) (fun pg ev st mi bl mt cd A ls0 F hr hlocks hin hK hP0 hD0 hA hS0 hl0 => ?_)
  obtain ⟨hx, hb, hml, hown, hts⟩ := id F
  have hl0 : lv_has ls0 3 [(0, .ref h), (1, .int (nI sd)), (2, .int v)] := hl0
  have iX9 : ∀ w ∈ u_ws RX9 TX9 43, w ∈ wsX9_fails := fun w h => List.mem_cons_of_mem _ (List.mem_append_right _ h)
  refine lv_aload_n hx hb dX9_fails_0 rfl (lv_at hl0 0 rfl) ?_
  refine kget F hK hP0 9 0 3 iX9 rfl rfl (by decide) (List.mem_of_getElem? (i := 1) rfl) rfl dX9_fails_1 ?_
  refine lv_iload_n hx hb dX9_fails_4 rfl (lv_at hl0 1 rfl) ?_
  refine lv_iconst (v := 5) hx hb dX9_fails_5 (by decide) ?_
  refine kMst F hK hP0 hD0 hS0 3 4 sd rfl rfl hsd (Nat.le_of_ble_eq_true rfl) rfl dX9_fails_6 (fun H1 locs1 σ1 eσ1 hP1 hD1 hS1 => ?_)
  clear hP0 hD0 hS0
  refine lv_aload_n hx hb dX9_fails_7 rfl (lv_at hl0 0 rfl) ?_
  refine kget F hK hP1 9 0 4 iX9 rfl rfl (by decide) (List.mem_of_getElem? (i := 2) rfl) rfl dX9_fails_8 ?_
  refine lv_iload_n hx hb dX9_fails_11 rfl (lv_at hl0 1 rfl) ?_
  refine lv_iload_n hx hb dX9_fails_12 rfl (lv_at hl0 2 rfl) ?_
  refine kMst F hK hP1 hD1 hS1 4 5 sd rfl rfl hsd (Nat.le_of_ble_eq_true rfl) rfl dX9_fails_13 (fun H2 locs2 σ2 eσ2 hP2 hD2 hS2 => ?_)
  clear hP1 hD1 hS1
  have q3 : σ2 = mfail σ sd v := by
    subst eσ2
    subst eσ1
    first | rfl | (simp only [↓reduceIte]; done) | (simp []; done)
  exact kRv F hr hlocks hS2 dX9_fails_14 σ2 q3 hP2 hD2
set_option maxHeartbeats 1000000 in
set_option maxRecDepth 100000 in
theorem c_X9_binder (l : Launch) (G : kG) (h : Nat) (a : Nat → Nat) (σ : kS) (v : Int32) (x : Int32) : kM G l yX9_binder wsX9_binder ({ frames := 1, cells := 0, slots := 0, locals := 22 }) [.ref h, .int v, .int x] (mW G h a σ) (kQi G (fun (rr : Int32) (uu : Unit) => rr = kbind v x (σ 29)) (fun (uu : Unit) => mW G h a σ)) := by
  refine kStart (cc := cX9_binder) (maxL := 5) (ret := (some .int)) (by decide) rfl (Nat.le_of_ble_eq_true rfl) (fun pg ev st mi bl mt cd A ls0 F hr hlocks hin hK hP0 hD0 hA hS0 hl0 => ?_)
  obtain ⟨hx, hb, hml, hown, hts⟩ := id F
  have hl0 : lv_has ls0 5 [(0, .ref h), (1, .int v), (2, .int x)] := hl0
  have iX9 : ∀ w ∈ u_ws RX9 TX9 43, w ∈ wsX9_binder := fun w h => List.mem_cons_of_mem _ (List.mem_append_right _ h)
  refine lv_iload_n hx hb dX9_binder_0 rfl (lv_at hl0 1 rfl) ?_
  refine lv_iload_n hx hb dX9_binder_1 rfl (lv_at hl0 2 rfl) ?_
  refine kPSi F hK hP0 hD0 hS0 hA hl0.1 (c_X9_mix l G v x) (fun _ => rfl) gX9_binder_X9_mix rfl 2 rfl (by decide +kernel) ⟨Nat.le_of_ble_eq_true rfl, Nat.le_of_ble_eq_true rfl⟩ ⟨Nat.zero_le _, Nat.zero_le _⟩ (Nat.le_of_ble_eq_true rfl) rfl dX9_binder_2 (fun r1 u1 H2 locs2 hw1 (hP2 : va_P G.1 vwCl (mW G h a σ) H2) (hD2 : va_D A (mW G h a σ)) hS2 => ?_)
  clear hP0 hD0 hS0
  have w1_0 : r1 = kmix v x := hw1
  refine lv_istore_n (lv' := [(3, .int r1), (0, .ref h), (1, .int v), (2, .int x)]) hx hb dX9_binder_5 rfl hl0 (by decide) rfl (fun ls3 hl3 => ?_)
  clear hl0
  refine lv_iconst (v := 0) hx hb dX9_binder_6 (by decide) ?_
  refine lv_istore (lv' := [(4, .int 0), (3, .int r1), (0, .ref h), (1, .int v), (2, .int x)]) hx hb dX9_binder_7 hl3 (by decide) rfl (fun ls4 hl4 => ?_)
  clear hl3
  have LOOP5 : ∀ (fu k : Nat), k ≤ 7 → 7 + 1 ≤ k + fu → ∀ y5 : Int32, y5 = kmixN (σ 29) (kmix v x) k → ∀ (H5 : Heap) (locs5 : List Loc) (ls5 : Array Slot), lv_has ls5 5 [(4, .int (nI k)), (3, .int y5), (0, .ref h), (1, .int v), (2, .int x)] → va_P G.1 vwCl (mW G h a σ) H5 → va_D A (mW G h a σ) → va_S A st.heap H5 locs5 → W pg l ev ({ frames := 1, cells := 0, slots := 0, locals := 22 }) st mi ([.ref h, .int v, .int x] : List Value).toArray bl mt cd H5 locs5 0 0 (MQ bl (kQi G (fun (rr : Int32) (uu : Unit) => rr = kbind v x (σ 29)) (fun (uu : Unit) => mW G h a σ) A) ([.ref h, .int v, .int x] : List Value).toArray st 0 0 A) (F0 mi 9 ls5 []) := by
    intro fu
    induction fu with
    | zero => intro k h1 h2; exact absurd h2 (by omega)
    | succ fu ih =>
      intro k hk hnk y5 ey5 H5 locs5 ls5 hl5 hP5 hD5 hS5
      refine lv_iload hx hb dX9_binder_9 (lv_at hl5 0 rfl) ?_
      refine lv_bipush (v := 7) hx hb dX9_binder_11 (by decide) ?_
      refine lv_icmp_ge (tgt := 34) hx hb dX9_binder_13 (by decide) (fun c6 => ?_) (fun c6 => ?_)
      · have xk : k = 7 := k_exit (N := 7) hk (by decide) c6
        subst xk
        clear c6
        refine lv_iload_n hx hb dX9_binder_34 rfl (lv_at hl5 1 rfl) ?_
        have q7 : y5 = kbind v x (σ 29) := by
          subst ey5
          subst w1_0
          first | rfl | (simp only [↓reduceIte]; done) | (simp []; done)
        exact kRi F hr hlocks hS5 dX9_binder_35 () q7 hP5 hD5
      · have lk : k < 7 := k_body (N := 7) hk (by decide) c6
        refine lv_iload_n hx hb dX9_binder_16 rfl (lv_at hl5 1 rfl) ?_
        refine lv_aload_n hx hb dX9_binder_17 rfl (lv_at hl5 2 rfl) ?_
        refine kget F hK hP5 9 0 29 iX9 rfl rfl (by decide) (List.mem_of_getElem? (i := 1) rfl) rfl dX9_binder_18 ?_
        refine lv_iload hx hb dX9_binder_21 (lv_at hl5 0 rfl) ?_
        refine kild F hK hP5 20 k rfl rfl (by omega) (Nat.le_of_ble_eq_true rfl) dX9_binder_23 ?_
        refine kPSi F hK hP5 hD5 hS5 hA hl5.1 (c_X9_mix l G y5 (σ 29 k)) (fun _ => rfl) gX9_binder_X9_mix rfl 2 rfl (by decide +kernel) ⟨Nat.le_of_ble_eq_true rfl, Nat.le_of_ble_eq_true rfl⟩ ⟨Nat.zero_le _, Nat.zero_le _⟩ (Nat.le_of_ble_eq_true rfl) rfl dX9_binder_24 (fun r8 u8 H9 locs9 hw8 (hP9 : va_P G.1 vwCl (mW G h a σ) H9) (hD9 : va_D A (mW G h a σ)) hS9 => ?_)
        clear hP5 hD5 hS5
        have w8_0 : r8 = kmix y5 (σ 29 k) := hw8
        refine lv_istore_n (lv' := [(3, .int r8), (4, .int (nI k)), (0, .ref h), (1, .int v), (2, .int x)]) hx hb dX9_binder_27 rfl hl5 (by decide) rfl (fun ls10 hl10 => ?_)
        clear hl5
        refine lv_iinc (v := nI (k + 1)) (lv' := [(4, .int (nI (k + 1))), (3, .int r8), (0, .ref h), (1, .int v), (2, .int x)]) hx hb dX9_binder_28 hl10 (k := 1) rfl (nI_1 _) (by decide) rfl (fun ls11 hl11 => ?_)
        clear hl10
        refine lv_goto (tgt := 9) hx hb dX9_binder_31 (by decide) ?_
        exact ih (k + 1) (by omega) (by omega) r8 (by subst w8_0; subst ey5; subst w1_0; rfl)  _ _ _ hl11 hP9 hD9 hS9
  exact LOOP5 (7 + 1) 0 (by omega) (by omega) r1 (by subst w1_0; rfl)  _ _ _ hl4 hP2 hD2 hS2
set_option maxHeartbeats 1000000 in
set_option maxRecDepth 100000 in
theorem c_X9_joins (l : Launch) (G : kG) (h : Nat) (a : Nat → Nat) (σ : kS) (sd : Nat) (hsd : sd < 2) : kM G l yX9_joins wsX9_joins ({ frames := 0, cells := 0, slots := 0, locals := 0 }) [.ref h, .int (nI sd)] (mW G h a σ) (kQv G (fun (uu : kS) => uu = mjoin σ sd) (fun (uu : kS) => mW G h a uu)) := by
  refine kStart (cc := cX9_joins) (maxL := 3) (ret := none) (by decide) rfl (Nat.le_of_ble_eq_true rfl) (fun pg ev st mi bl mt cd A ls0 F hr hlocks hin hK hP0 hD0 hA hS0 hl0 => ?_)
  obtain ⟨hx, hb, hml, hown, hts⟩ := id F
  have hl0 : lv_has ls0 3 [(0, .ref h), (1, .int (nI sd))] := hl0
  have iX9 : ∀ w ∈ u_ws RX9 TX9 43, w ∈ wsX9_joins := fun w h => List.mem_cons_of_mem _ (List.mem_append_right _ h)
  refine lv_aload_n hx hb dX9_joins_0 rfl (lv_at hl0 0 rfl) ?_
  refine kget F hK hP0 9 0 3 iX9 rfl rfl (by decide) (List.mem_of_getElem? (i := 1) rfl) rfl dX9_joins_1 ?_
  refine lv_iload_n hx hb dX9_joins_4 rfl (lv_at hl0 1 rfl) ?_
  refine lv_iconst (v := 4) hx hb dX9_joins_5 (by decide) ?_
  refine kMst F hK hP0 hD0 hS0 3 4 sd rfl rfl hsd (Nat.le_of_ble_eq_true rfl) rfl dX9_joins_6 (fun H1 locs1 σ1 eσ1 hP1 hD1 hS1 => ?_)
  clear hP0 hD0 hS0
  refine lv_iconst (v := 0) hx hb dX9_joins_7 (by decide) ?_
  refine lv_istore_n (lv' := [(2, .int 0), (0, .ref h), (1, .int (nI sd))]) hx hb dX9_joins_8 rfl hl0 (by decide) rfl (fun ls2 hl2 => ?_)
  clear hl0
  refine lv_iload_n hx hb dX9_joins_9 rfl (lv_at hl2 0 rfl) ?_
  refine lv_iconst (v := 2) hx hb dX9_joins_10 (by decide) ?_
  refine lv_icmp_ge (tgt := 42) hx hb dX9_joins_11 (by decide) (fun c3 => ?_) (fun c3 => ?_)
  · exact absurd c3 (by decide)
  · refine lv_aload_n hx hb dX9_joins_14 rfl (lv_at hl2 1 rfl) ?_
    refine kget F hK hP1 9 0 10 iX9 rfl rfl (by decide) (List.mem_of_getElem? (i := 2) rfl) rfl dX9_joins_15 ?_
    refine lv_iconst (v := 2) hx hb dX9_joins_18 (by decide) ?_
    refine lv_iload_n hx hb dX9_joins_19 rfl (lv_at hl2 2 rfl) ?_
    refine lv_imul hx hb dX9_joins_20 ?_
    refine lv_iload_n hx hb dX9_joins_21 rfl (lv_at hl2 0 rfl) ?_
    refine lv_iadd hx hb dX9_joins_22 ?_
    refine lv_iconst (v := 0) hx hb dX9_joins_23 (by decide) ?_
    refine kMst F hK hP1 hD1 hS1 10 11 (2 * sd) rfl mix_20 (by omega) (Nat.le_of_ble_eq_true rfl) rfl dX9_joins_24 (fun H4 locs4 σ4 eσ4 hP4 hD4 hS4 => ?_)
    clear hP1 hD1 hS1
    refine lv_aload_n hx hb dX9_joins_25 rfl (lv_at hl2 1 rfl) ?_
    refine kget F hK hP4 9 0 11 iX9 rfl rfl (by decide) (List.mem_of_getElem? (i := 3) rfl) rfl dX9_joins_26 ?_
    refine lv_iconst (v := 2) hx hb dX9_joins_29 (by decide) ?_
    refine lv_iload_n hx hb dX9_joins_30 rfl (lv_at hl2 2 rfl) ?_
    refine lv_imul hx hb dX9_joins_31 ?_
    refine lv_iload_n hx hb dX9_joins_32 rfl (lv_at hl2 0 rfl) ?_
    refine lv_iadd hx hb dX9_joins_33 ?_
    refine lv_iconst (v := 0) hx hb dX9_joins_34 (by decide) ?_
    refine kMst F hK hP4 hD4 hS4 11 12 (2 * sd) rfl mix_20 (by omega) (Nat.le_of_ble_eq_true rfl) rfl dX9_joins_35 (fun H5 locs5 σ5 eσ5 hP5 hD5 hS5 => ?_)
    clear hP4 hD4 hS4
    refine lv_iinc (v := 1) (lv' := [(2, .int 1), (0, .ref h), (1, .int (nI sd))]) hx hb dX9_joins_36 hl2 (k := 0) rfl (by decide) (by decide) rfl (fun ls6 hl6 => ?_)
    clear hl2
    refine lv_goto (tgt := 9) hx hb dX9_joins_39 (by decide) ?_
    refine lv_iload_n hx hb dX9_joins_9 rfl (lv_at hl6 0 rfl) ?_
    refine lv_iconst (v := 2) hx hb dX9_joins_10 (by decide) ?_
    refine lv_icmp_ge (tgt := 42) hx hb dX9_joins_11 (by decide) (fun c7 => ?_) (fun c7 => ?_)
    · exact absurd c7 (by decide)
    · refine lv_aload_n hx hb dX9_joins_14 rfl (lv_at hl6 1 rfl) ?_
      refine kget F hK hP5 9 0 10 iX9 rfl rfl (by decide) (List.mem_of_getElem? (i := 2) rfl) rfl dX9_joins_15 ?_
      refine lv_iconst (v := 2) hx hb dX9_joins_18 (by decide) ?_
      refine lv_iload_n hx hb dX9_joins_19 rfl (lv_at hl6 2 rfl) ?_
      refine lv_imul hx hb dX9_joins_20 ?_
      refine lv_iload_n hx hb dX9_joins_21 rfl (lv_at hl6 0 rfl) ?_
      refine lv_iadd hx hb dX9_joins_22 ?_
      refine lv_iconst (v := 0) hx hb dX9_joins_23 (by decide) ?_
      refine kMst F hK hP5 hD5 hS5 10 11 (2 * sd + 1) rfl mix_21 (by omega) (Nat.le_of_ble_eq_true rfl) rfl dX9_joins_24 (fun H8 locs8 σ8 eσ8 hP8 hD8 hS8 => ?_)
      clear hP5 hD5 hS5
      refine lv_aload_n hx hb dX9_joins_25 rfl (lv_at hl6 1 rfl) ?_
      refine kget F hK hP8 9 0 11 iX9 rfl rfl (by decide) (List.mem_of_getElem? (i := 3) rfl) rfl dX9_joins_26 ?_
      refine lv_iconst (v := 2) hx hb dX9_joins_29 (by decide) ?_
      refine lv_iload_n hx hb dX9_joins_30 rfl (lv_at hl6 2 rfl) ?_
      refine lv_imul hx hb dX9_joins_31 ?_
      refine lv_iload_n hx hb dX9_joins_32 rfl (lv_at hl6 0 rfl) ?_
      refine lv_iadd hx hb dX9_joins_33 ?_
      refine lv_iconst (v := 0) hx hb dX9_joins_34 (by decide) ?_
      refine kMst F hK hP8 hD8 hS8 11 12 (2 * sd + 1) rfl mix_21 (by omega) (Nat.le_of_ble_eq_true rfl) rfl dX9_joins_35 (fun H9 locs9 σ9 eσ9 hP9 hD9 hS9 => ?_)
      clear hP8 hD8 hS8
      refine lv_iinc (v := 2) (lv' := [(2, .int 2), (0, .ref h), (1, .int (nI sd))]) hx hb dX9_joins_36 hl6 (k := 0) rfl (by decide) (by decide) rfl (fun ls10 hl10 => ?_)
      clear hl6
      refine lv_goto (tgt := 9) hx hb dX9_joins_39 (by decide) ?_
      refine lv_iload_n hx hb dX9_joins_9 rfl (lv_at hl10 0 rfl) ?_
      refine lv_iconst (v := 2) hx hb dX9_joins_10 (by decide) ?_
      refine lv_icmp_ge (tgt := 42) hx hb dX9_joins_11 (by decide) (fun c11 => ?_) (fun c11 => ?_)
      · have q12 : σ9 = mjoin σ sd := by
          subst eσ9
          subst eσ8
          subst eσ5
          subst eσ4
          subst eσ1
          first | rfl | (simp only [c3, c7, c11, ↓reduceIte]; done) | (simp [c3, c7, c11]; done)
        exact kRv F hr hlocks hS9 dX9_joins_42 σ9 q12 hP9 hD9
      · exact absurd (by decide) c11
set_option maxHeartbeats 1000000 in
set_option maxRecDepth 100000 in
theorem c_X9_mainOf (l : Launch) (G : kG) (h : Nat) (a : Nat → Nat) (σ : kS) (sd : Nat) (hsd : sd < 2) : kM G l yX9_mainOf wsX9_mainOf ({ frames := 1, cells := 0, slots := 0, locals := 22 }) [.ref h, .int (nI sd)] (mW G h a σ) (kQi G (fun (rr : Int32) (uu : Unit) => rr = mmain σ sd) (fun (uu : Unit) => mW G h a σ)) := by
  refine kStart (cc := cX9_mainOf) (maxL := 2) (ret := (some .int)) (by decide) rfl (Nat.le_of_ble_eq_true rfl) (fun pg ev st mi bl mt cd A ls0 F hr hlocks hin hK hP0 hD0 hA hS0 hl0 => ?_)
  obtain ⟨hx, hb, hml, hown, hts⟩ := id F
  have hl0 : lv_has ls0 2 [(0, .ref h), (1, .int (nI sd))] := hl0
  have iX9 : ∀ w ∈ u_ws RX9 TX9 43, w ∈ wsX9_mainOf := fun w h => List.mem_cons_of_mem _ (List.mem_append_right _ h)
  refine lv_aload_n hx hb dX9_mainOf_0 rfl (lv_at hl0 0 rfl) ?_
  refine kget F hK hP0 9 0 9 iX9 rfl rfl (by decide) (List.mem_of_getElem? (i := 1) rfl) rfl dX9_mainOf_1 ?_
  refine lv_iload_n hx hb dX9_mainOf_4 rfl (lv_at hl0 1 rfl) ?_
  refine kild F hK hP0 10 sd rfl rfl hsd (Nat.le_of_ble_eq_true rfl) dX9_mainOf_5 ?_
  refine lv_aload_n hx hb dX9_mainOf_6 rfl (lv_at hl0 0 rfl) ?_
  refine kget F hK hP0 9 0 5 iX9 rfl rfl (by decide) (List.mem_of_getElem? (i := 2) rfl) rfl dX9_mainOf_7 ?_
  refine lv_iload_n hx hb dX9_mainOf_10 rfl (lv_at hl0 1 rfl) ?_
  refine kild F hK hP0 6 sd rfl rfl hsd (Nat.le_of_ble_eq_true rfl) dX9_mainOf_11 ?_
  refine kPSi F hK hP0 hD0 hS0 hA hl0.1 (c_X9_mix l G (σ 9 sd) (σ 5 sd)) (fun _ => rfl) gX9_mainOf_X9_mix rfl 2 rfl (by decide +kernel) ⟨Nat.le_of_ble_eq_true rfl, Nat.le_of_ble_eq_true rfl⟩ ⟨Nat.zero_le _, Nat.zero_le _⟩ (Nat.le_of_ble_eq_true rfl) rfl dX9_mainOf_12 (fun r1 u1 H2 locs2 hw1 (hP2 : va_P G.1 vwCl (mW G h a σ) H2) (hD2 : va_D A (mW G h a σ)) hS2 => ?_)
  clear hP0 hD0 hS0
  have w1_0 : r1 = kmix (σ 9 sd) (σ 5 sd) := hw1
  have q3 : r1 = mmain σ sd := by
    subst w1_0
    first | rfl | (simp only [↓reduceIte]; done) | (simp []; done)
  exact kRi F hr hlocks hS2 dX9_mainOf_15 () q3 hP2 hD2
set_option maxHeartbeats 1000000 in
set_option maxRecDepth 100000 in
theorem c_X9_lock (l : Launch) (G : kG) (h : Nat) (a : Nat → Nat) (σ : kS) (sd : Nat) (w : Nat) (hsd : sd < 2) (hw : w < 2) : kM G l yX9_lock wsX9_lock ({ frames := 2, cells := 0, slots := 0, locals := 43 }) [.ref h, .int (nI sd), .int (nI w)] (mW G h a σ) (kQi G (fun (rr : Int32) (uu : Unit) => rr = mlock σ sd w) (fun (uu : Unit) => mW G h a σ)) := by
  refine kStart (cc := cX9_lock) (maxL := 3) (ret := (some .int)) (by decide) rfl (Nat.le_of_ble_eq_true rfl) (fun pg ev st mi bl mt cd A ls0 F hr hlocks hin hK hP0 hD0 hA hS0 hl0 => ?_)
  obtain ⟨hx, hb, hml, hown, hts⟩ := id F
  have hl0 : lv_has ls0 3 [(0, .ref h), (1, .int (nI sd)), (2, .int (nI w))] := hl0
  have iX9 : ∀ w ∈ u_ws RX9 TX9 43, w ∈ wsX9_lock := fun w h => List.mem_cons_of_mem _ (List.mem_append_right _ h)
  refine lv_aload_n hx hb dX9_lock_0 rfl (lv_at hl0 0 rfl) ?_
  refine lv_iload_n hx hb dX9_lock_1 rfl (lv_at hl0 1 rfl) ?_
  refine kWVi F hK hP0 hD0 hS0 hA hl0.1 (c_X9_mainOf l G h a σ sd (by first | assumption | decide | omega)) 9 0 gX9_lock_X9_mainOf rfl 1 rfl (by decide +kernel) ⟨Nat.le_of_ble_eq_true rfl, Nat.le_of_ble_eq_true rfl⟩ ⟨Nat.zero_le _, Nat.zero_le _⟩ rfl rfl (Nat.le_of_ble_eq_true rfl) rfl dX9_lock_2 (fun r1 u1 H2 locs2 hw1 (hP2 : va_P G.1 vwCl (mW G h a σ) H2) (hD2 : va_D A (mW G h a σ)) hS2 => ?_)
  clear hP0 hD0 hS0
  have w1_0 : r1 = mmain σ sd := hw1
  refine lv_iload_n hx hb dX9_lock_5 rfl (lv_at hl0 2 rfl) ?_
  refine kPSi F hK hP2 hD2 hS2 hA hl0.1 (c_X9_mix l G r1 (nI w)) (fun _ => rfl) gX9_lock_X9_mix rfl 2 rfl (by decide +kernel) ⟨Nat.le_of_ble_eq_true rfl, Nat.le_of_ble_eq_true rfl⟩ ⟨Nat.zero_le _, Nat.zero_le _⟩ (Nat.le_of_ble_eq_true rfl) rfl dX9_lock_6 (fun r3 u3 H4 locs4 hw3 (hP4 : va_P G.1 vwCl (mW G h a σ) H4) (hD4 : va_D A (mW G h a σ)) hS4 => ?_)
  clear hP2 hD2 hS2
  have w3_0 : r3 = kmix r1 (nI w) := hw3
  refine lv_aload_n hx hb dX9_lock_9 rfl (lv_at hl0 0 rfl) ?_
  refine kget F hK hP4 9 0 10 iX9 rfl rfl (by decide) (List.mem_of_getElem? (i := 1) rfl) rfl dX9_lock_10 ?_
  refine lv_iconst (v := 2) hx hb dX9_lock_13 (by decide) ?_
  refine lv_iload_n hx hb dX9_lock_14 rfl (lv_at hl0 1 rfl) ?_
  refine lv_imul hx hb dX9_lock_15 ?_
  refine lv_iload_n hx hb dX9_lock_16 rfl (lv_at hl0 2 rfl) ?_
  refine lv_iadd hx hb dX9_lock_17 ?_
  refine kild F hK hP4 11 (2 * sd + w) rfl mix_2 (by omega) (Nat.le_of_ble_eq_true rfl) dX9_lock_18 ?_
  refine kPSi F hK hP4 hD4 hS4 hA hl0.1 (c_X9_mix l G r3 (σ 10 (2 * sd + w))) (fun _ => rfl) gX9_lock_X9_mix rfl 2 rfl (by decide +kernel) ⟨Nat.le_of_ble_eq_true rfl, Nat.le_of_ble_eq_true rfl⟩ ⟨Nat.zero_le _, Nat.zero_le _⟩ (Nat.le_of_ble_eq_true rfl) rfl dX9_lock_19 (fun r5 u5 H6 locs6 hw5 (hP6 : va_P G.1 vwCl (mW G h a σ) H6) (hD6 : va_D A (mW G h a σ)) hS6 => ?_)
  clear hP4 hD4 hS4
  have w5_0 : r5 = kmix r3 (σ 10 (2 * sd + w)) := hw5
  have q7 : r5 = mlock σ sd w := by
    subst w5_0
    subst w3_0
    subst w1_0
    first | rfl | (simp only [↓reduceIte]; done) | (simp []; done)
  exact kRi F hr hlocks hS6 dX9_lock_22 () q7 hP6 hD6
set_option maxHeartbeats 1000000 in
set_option maxRecDepth 100000 in
theorem c_X9_proof (l : Launch) (G : kG) (h : Nat) (a : Nat → Nat) (σ : kS) (sd : Nat) (v : Int32) (hsd : sd < 2) : kM G l yX9_proof wsX9_proof ({ frames := 1, cells := 0, slots := 0, locals := 22 }) [.ref h, .int (nI sd), .int v] (mW G h a σ) (kQi G (fun (rr : Int32) (uu : Unit) => rr = mproof σ sd v) (fun (uu : Unit) => mW G h a σ)) := by
  refine kStart (cc := cX9_proof) (maxL := 3) (ret := (some .int)) (by decide) rfl (Nat.le_of_ble_eq_true rfl) (fun pg ev st mi bl mt cd A ls0 F hr hlocks hin hK hP0 hD0 hA hS0 hl0 => ?_)
  obtain ⟨hx, hb, hml, hown, hts⟩ := id F
  have hl0 : lv_has ls0 3 [(0, .ref h), (1, .int (nI sd)), (2, .int v)] := hl0
  have iX9 : ∀ w ∈ u_ws RX9 TX9 43, w ∈ wsX9_proof := fun w h => List.mem_cons_of_mem _ (List.mem_append_right _ h)
  refine lv_aload_n hx hb dX9_proof_0 rfl (lv_at hl0 0 rfl) ?_
  refine kget F hK hP0 9 0 9 iX9 rfl rfl (by decide) (List.mem_of_getElem? (i := 1) rfl) rfl dX9_proof_1 ?_
  refine lv_iload_n hx hb dX9_proof_4 rfl (lv_at hl0 1 rfl) ?_
  refine kild F hK hP0 10 sd rfl rfl hsd (Nat.le_of_ble_eq_true rfl) dX9_proof_5 ?_
  refine lv_aload_n hx hb dX9_proof_6 rfl (lv_at hl0 0 rfl) ?_
  refine kget F hK hP0 9 0 5 iX9 rfl rfl (by decide) (List.mem_of_getElem? (i := 2) rfl) rfl dX9_proof_7 ?_
  refine lv_iload_n hx hb dX9_proof_10 rfl (lv_at hl0 1 rfl) ?_
  refine kild F hK hP0 6 sd rfl rfl hsd (Nat.le_of_ble_eq_true rfl) dX9_proof_11 ?_
  refine kPSi F hK hP0 hD0 hS0 hA hl0.1 (c_X9_mix l G (σ 9 sd) (σ 5 sd)) (fun _ => rfl) gX9_proof_X9_mix rfl 2 rfl (by decide +kernel) ⟨Nat.le_of_ble_eq_true rfl, Nat.le_of_ble_eq_true rfl⟩ ⟨Nat.zero_le _, Nat.zero_le _⟩ (Nat.le_of_ble_eq_true rfl) rfl dX9_proof_12 (fun r1 u1 H2 locs2 hw1 (hP2 : va_P G.1 vwCl (mW G h a σ) H2) (hD2 : va_D A (mW G h a σ)) hS2 => ?_)
  clear hP0 hD0 hS0
  have w1_0 : r1 = kmix (σ 9 sd) (σ 5 sd) := hw1
  refine lv_iload_n hx hb dX9_proof_15 rfl (lv_at hl0 2 rfl) ?_
  refine kPSi F hK hP2 hD2 hS2 hA hl0.1 (c_X9_mix l G r1 v) (fun _ => rfl) gX9_proof_X9_mix rfl 2 rfl (by decide +kernel) ⟨Nat.le_of_ble_eq_true rfl, Nat.le_of_ble_eq_true rfl⟩ ⟨Nat.zero_le _, Nat.zero_le _⟩ (Nat.le_of_ble_eq_true rfl) rfl dX9_proof_16 (fun r3 u3 H4 locs4 hw3 (hP4 : va_P G.1 vwCl (mW G h a σ) H4) (hD4 : va_D A (mW G h a σ)) hS4 => ?_)
  clear hP2 hD2 hS2
  have w3_0 : r3 = kmix r1 v := hw3
  have q5 : r3 = mproof σ sd v := by
    subst w3_0
    subst w1_0
    first | rfl | (simp only [↓reduceIte]; done) | (simp []; done)
  exact kRi F hr hlocks hS4 dX9_proof_19 () q5 hP4 hD4
