/-! the law: its switch, its loop -/
section
variable {pg : Program} {l : Launch} {ev : Env} {st : State} {mi : MethodId} {bl : List Frame} {mt : Method} {cd : Code} {bb : Nat} {G : kG} {Z : kZs} {Q : State → Prop} {kc ks Lx : Nat} {xs : Nat → Int32} {A : Nat → Prop}
variable {h cl se rc rs ar co cz tx pe ti lc ls dr dd pr ta sn sb mc ms er ee wc wd az yl yk yf ys mh : Nat} {yq yd am : Nat → Nat}

theorem lw_len {Lx k : Nat} (hL : Lx ≤ 2048) (hk : 4 * k ≤ Lx) (cc : ¬ (nI Lx - 4 < nI (4 * k))) : 4 * k + 4 ≤ Lx := by
  have e : (nI Lx - nI 4).toInt = (Lx : Int) - (4 : Nat) := pk_sub_toInt (by omega) (by omega)
  have e2 : (nI (4 * k)).toInt = ((4 * k : Nat) : Int) := nI_toInt (by omega)
  have c2 : ¬ (nI Lx - nI 4 < nI (4 * k)) := cc
  rw [Int32.lt_iff_toInt_lt, e, e2] at c2
  omega
set_option maxHeartbeats 8000000 in
set_option maxRecDepth 100000 in
theorem law_body {ls0 : Array Slot} (F : CallFix pg mi cd cL_law 4 st #[Value.ref bb] wsL_law RL) (hK : kK G st) (hZ : kZ Z A st st.heap) (hX : va_X bb Lx xs st st.heap) (hbl : bb < st.heap.size) (hbA : ¬ A bb) (hA : ∀ q : Nat, st.heap.size ≤ q → A q) (hkc : kc ≤ 600000) (hks : ks ≤ 7302250) {n i : Nat} (hn : n < 19000) (hi : i + 4 ≤ Lx) (hLx : Lx ≤ 2048) (hl0 : lv_has ls0 4 [(3, .int (nI i)), (2, .ref mh), (1, .ref h), (0, .ref bb)]) (qc dc qd de kq : Nat → Nat) (nw c p a b f t s r a2 b2 g N B rp rq z zf x xl fk ff fs : kF) (T M M2 Y : kFF) (σ : kS) (hR : Rel n nw c t p a b s N B T r a2 b2 rp M rq M2 Y zf x xl σ) (H0 : Heap) (locs0 : List Loc) (hP0 : va_P G.1 vwCl (mW G mh am σ ++ [oTo h cl se rc rs ar co cz tx nw, oCl cl pe ti c, oPe pe lc ls lc ls dr p, oLa lc a, oLa ls b, oMs dr dd, aI G dd 9 f, oTi ti t, oSe se pr ta sn sb s, oPe pr mc ms ms mc er r, oLa mc a2, oLa ms b2, oMs er ee, aI G ee 9 g, aT G ta 3 (krow3 kq), oTi (kq 0) (T 0), oTi (kq 1) (T 1), oTi (kq 2) (T 2), aI G sn 4 N, aI G sb 4 B, oRo rc wc rp, aM G wc 8 (krow qc), oMs (qc 0) (dc 0), aI G (dc 0) 9 (M 0), oMs (qc 1) (dc 1), aI G (dc 1) 9 (M 1), oMs (qc 2) (dc 2), aI G (dc 2) 9 (M 2), oMs (qc 3) (dc 3), aI G (dc 3) 9 (M 3), oMs (qc 4) (dc 4), aI G (dc 4) 9 (M 4), oMs (qc 5) (dc 5), aI G (dc 5) 9 (M 5), oMs (qc 6) (dc 6), aI G (dc 6) 9 (M 6), oMs (qc 7) (dc 7), aI G (dc 7) 9 (M 7), oRo rs wd rq, aM G wd 8 (krow qd), oMs (qd 0) (de 0), aI G (de 0) 9 (M2 0), oMs (qd 1) (de 1), aI G (de 1) 9 (M2 1), oMs (qd 2) (de 2), aI G (de 2) 9 (M2 2), oMs (qd 3) (de 3), aI G (de 3) 9 (M2 3), oMs (qd 4) (de 4), aI G (de 4) 9 (M2 4), oMs (qd 5) (de 5), aI G (de 5) 9 (M2 5), oMs (qd 6) (de 6), aI G (de 6) 9 (M2 6), oMs (qd 7) (de 7), aI G (de 7) 9 (M2 7), oMs ar az, aI G az 9 z, aM G co 4 (krow4 yq), oMs (yq 0) (yd 0), aI G (yd 0) 9 (Y 0), oMs (yq 1) (yd 1), aI G (yd 1) 9 (Y 1), oMs (yq 2) (yd 2), aI G (yd 2) 9 (Y 2), oMs (yq 3) (yd 3), aI G (yd 3) 9 (Y 3), aZ G cz 4 zf, oTx tx yl yk yf ys x, aI G yl 200 xl, aI G yk 24 fk, aI G yf 24 ff, aI G ys 24 fs]) H0) (hD0 : va_D A (mW G mh am σ ++ [oTo h cl se rc rs ar co cz tx nw, oCl cl pe ti c, oPe pe lc ls lc ls dr p, oLa lc a, oLa ls b, oMs dr dd, aI G dd 9 f, oTi ti t, oSe se pr ta sn sb s, oPe pr mc ms ms mc er r, oLa mc a2, oLa ms b2, oMs er ee, aI G ee 9 g, aT G ta 3 (krow3 kq), oTi (kq 0) (T 0), oTi (kq 1) (T 1), oTi (kq 2) (T 2), aI G sn 4 N, aI G sb 4 B, oRo rc wc rp, aM G wc 8 (krow qc), oMs (qc 0) (dc 0), aI G (dc 0) 9 (M 0), oMs (qc 1) (dc 1), aI G (dc 1) 9 (M 1), oMs (qc 2) (dc 2), aI G (dc 2) 9 (M 2), oMs (qc 3) (dc 3), aI G (dc 3) 9 (M 3), oMs (qc 4) (dc 4), aI G (dc 4) 9 (M 4), oMs (qc 5) (dc 5), aI G (dc 5) 9 (M 5), oMs (qc 6) (dc 6), aI G (dc 6) 9 (M 6), oMs (qc 7) (dc 7), aI G (dc 7) 9 (M 7), oRo rs wd rq, aM G wd 8 (krow qd), oMs (qd 0) (de 0), aI G (de 0) 9 (M2 0), oMs (qd 1) (de 1), aI G (de 1) 9 (M2 1), oMs (qd 2) (de 2), aI G (de 2) 9 (M2 2), oMs (qd 3) (de 3), aI G (de 3) 9 (M2 3), oMs (qd 4) (de 4), aI G (de 4) 9 (M2 4), oMs (qd 5) (de 5), aI G (de 5) 9 (M2 5), oMs (qd 6) (de 6), aI G (de 6) 9 (M2 6), oMs (qd 7) (de 7), aI G (de 7) 9 (M2 7), oMs ar az, aI G az 9 z, aM G co 4 (krow4 yq), oMs (yq 0) (yd 0), aI G (yd 0) 9 (Y 0), oMs (yq 1) (yd 1), aI G (yd 1) 9 (Y 1), oMs (yq 2) (yd 2), aI G (yd 2) 9 (Y 2), oMs (yq 3) (yd 3), aI G (yd 3) 9 (Y 3), aZ G cz 4 zf, oTx tx yl yk yf ys x, aI G yl 200 xl, aI G yk 24 fk, aI G yf 24 ff, aI G ys 24 fs])) (hS0 : va_S A st.heap H0 locs0)
    (KK : ∀ (n2 : Nat) (qc dc qd de kq : Nat → Nat) (nw c p a b f t s r a2 b2 g N B rp rq z zf x xl fk ff fs : kF) (T M M2 Y : kFF) (σ : kS) (H : Heap) (locs : List Loc), n2 ≤ n + 25 → Rel n2 nw c t p a b s N B T r a2 b2 rp M rq M2 Y zf x xl σ → va_P G.1 vwCl (mW G mh am σ ++ [oTo h cl se rc rs ar co cz tx nw, oCl cl pe ti c, oPe pe lc ls lc ls dr p, oLa lc a, oLa ls b, oMs dr dd, aI G dd 9 f, oTi ti t, oSe se pr ta sn sb s, oPe pr mc ms ms mc er r, oLa mc a2, oLa ms b2, oMs er ee, aI G ee 9 g, aT G ta 3 (krow3 kq), oTi (kq 0) (T 0), oTi (kq 1) (T 1), oTi (kq 2) (T 2), aI G sn 4 N, aI G sb 4 B, oRo rc wc rp, aM G wc 8 (krow qc), oMs (qc 0) (dc 0), aI G (dc 0) 9 (M 0), oMs (qc 1) (dc 1), aI G (dc 1) 9 (M 1), oMs (qc 2) (dc 2), aI G (dc 2) 9 (M 2), oMs (qc 3) (dc 3), aI G (dc 3) 9 (M 3), oMs (qc 4) (dc 4), aI G (dc 4) 9 (M 4), oMs (qc 5) (dc 5), aI G (dc 5) 9 (M 5), oMs (qc 6) (dc 6), aI G (dc 6) 9 (M 6), oMs (qc 7) (dc 7), aI G (dc 7) 9 (M 7), oRo rs wd rq, aM G wd 8 (krow qd), oMs (qd 0) (de 0), aI G (de 0) 9 (M2 0), oMs (qd 1) (de 1), aI G (de 1) 9 (M2 1), oMs (qd 2) (de 2), aI G (de 2) 9 (M2 2), oMs (qd 3) (de 3), aI G (de 3) 9 (M2 3), oMs (qd 4) (de 4), aI G (de 4) 9 (M2 4), oMs (qd 5) (de 5), aI G (de 5) 9 (M2 5), oMs (qd 6) (de 6), aI G (de 6) 9 (M2 6), oMs (qd 7) (de 7), aI G (de 7) 9 (M2 7), oMs ar az, aI G az 9 z, aM G co 4 (krow4 yq), oMs (yq 0) (yd 0), aI G (yd 0) 9 (Y 0), oMs (yq 1) (yd 1), aI G (yd 1) 9 (Y 1), oMs (yq 2) (yd 2), aI G (yd 2) 9 (Y 2), oMs (yq 3) (yd 3), aI G (yd 3) 9 (Y 3), aZ G cz 4 zf, oTx tx yl yk yf ys x, aI G yl 200 xl, aI G yk 24 fk, aI G yf 24 ff, aI G ys 24 fs]) H → va_D A (mW G mh am σ ++ [oTo h cl se rc rs ar co cz tx nw, oCl cl pe ti c, oPe pe lc ls lc ls dr p, oLa lc a, oLa ls b, oMs dr dd, aI G dd 9 f, oTi ti t, oSe se pr ta sn sb s, oPe pr mc ms ms mc er r, oLa mc a2, oLa ms b2, oMs er ee, aI G ee 9 g, aT G ta 3 (krow3 kq), oTi (kq 0) (T 0), oTi (kq 1) (T 1), oTi (kq 2) (T 2), aI G sn 4 N, aI G sb 4 B, oRo rc wc rp, aM G wc 8 (krow qc), oMs (qc 0) (dc 0), aI G (dc 0) 9 (M 0), oMs (qc 1) (dc 1), aI G (dc 1) 9 (M 1), oMs (qc 2) (dc 2), aI G (dc 2) 9 (M 2), oMs (qc 3) (dc 3), aI G (dc 3) 9 (M 3), oMs (qc 4) (dc 4), aI G (dc 4) 9 (M 4), oMs (qc 5) (dc 5), aI G (dc 5) 9 (M 5), oMs (qc 6) (dc 6), aI G (dc 6) 9 (M 6), oMs (qc 7) (dc 7), aI G (dc 7) 9 (M 7), oRo rs wd rq, aM G wd 8 (krow qd), oMs (qd 0) (de 0), aI G (de 0) 9 (M2 0), oMs (qd 1) (de 1), aI G (de 1) 9 (M2 1), oMs (qd 2) (de 2), aI G (de 2) 9 (M2 2), oMs (qd 3) (de 3), aI G (de 3) 9 (M2 3), oMs (qd 4) (de 4), aI G (de 4) 9 (M2 4), oMs (qd 5) (de 5), aI G (de 5) 9 (M2 5), oMs (qd 6) (de 6), aI G (de 6) 9 (M2 6), oMs (qd 7) (de 7), aI G (de 7) 9 (M2 7), oMs ar az, aI G az 9 z, aM G co 4 (krow4 yq), oMs (yq 0) (yd 0), aI G (yd 0) 9 (Y 0), oMs (yq 1) (yd 1), aI G (yd 1) 9 (Y 1), oMs (yq 2) (yd 2), aI G (yd 2) 9 (Y 2), oMs (yq 3) (yd 3), aI G (yd 3) 9 (Y 3), aZ G cz 4 zf, oTx tx yl yk yf ys x, aI G yl 200 xl, aI G yk 24 fk, aI G yf 24 ff, aI G ys 24 fs]) → va_S A st.heap H locs → W pg l ev room_1 st mi #[Value.ref bb] bl mt cd H locs kc ks Q (F0 mi 820 ls0 [])) : W pg l ev room_1 st mi #[Value.ref bb] bl mt cd H0 locs0 kc ks Q (F0 mi 26 ls0 []) := by
  obtain ⟨hx, hb, hml, hown, hts⟩ := id F
  refine lv_aload_n hx hb dL_law_26 rfl (lv_at hl0 3 rfl) ?_
  refine lv_iload_n hx hb dL_law_27 rfl (lv_at hl0 0 rfl) ?_
  refine klx F hX hbl hbA hS0 (j := i) (by omega) (by omega) rfl dL_law_28 ?_
  refine lv_bipush (v := 31) hx hb dL_law_29 (by decide) ?_
  refine lv_iand hx hb dL_law_31 ?_
  generalize xs i &&& 31 = w0
  rcases ksw w0 0 25 with c1 | c1
  · exact lv_tableOut (tgt := 820) hx hb dL_law_32 c1 (by decide) (KK n qc dc qd de kq nw c p a b f t s r a2 b2 g N B rp rq z zf x xl fk ff fs T M M2 Y σ H0 locs0 (by omega) hR hP0 hD0 hS0)
  obtain ⟨c1a, c1b⟩ := c1
  rcases kswE w0 0 (v := 0) (by decide) with e0 | n0
  · refine lv_tableIn (off := 120) (tgt := 152) hx hb dL_law_32 c1a c1b (by rw [e0]; rfl) (by decide) ?_
    exact lc_type F hK hZ hX hbl hbA hA hkc hks hn hi hLx hl0 _ rfl qc dc qd de kq nw c p a b f t s r a2 b2 g N B rp rq z zf x xl fk ff fs T M M2 Y σ hR H0 locs0 hP0 hD0 hS0 KK
  rcases kswE w0 1 (v := 1) (by decide) with e0 | n1
  · refine lv_tableIn (off := 143) (tgt := 175) hx hb dL_law_32 c1a c1b (by rw [e0]; rfl) (by decide) ?_
    exact lc_erase F hK hZ hX hbl hbA hA hkc hks hn hi hLx hl0 qc dc qd de kq nw c p a b f t s r a2 b2 g N B rp rq z zf x xl fk ff fs T M M2 Y σ hR H0 locs0 hP0 hD0 hS0 KK
  rcases kswE w0 2 (v := 2) (by decide) with e0 | n2
  · refine lv_tableIn (off := 156) (tgt := 188) hx hb dL_law_32 c1a c1b (by rw [e0]; rfl) (by decide) ?_
    exact lc_fault F hK hZ hX hbl hbA hA hkc hks hn hi hLx hl0 qc dc qd de kq nw c p a b f t s r a2 b2 g N B rp rq z zf x xl fk ff fs T M M2 Y σ hR H0 locs0 hP0 hD0 hS0 KK
  rcases kswE w0 3 (v := 3) (by decide) with e0 | n3
  · refine lv_tableIn (off := 169) (tgt := 201) hx hb dL_law_32 c1a c1b (by rw [e0]; rfl) (by decide) ?_
    exact lc_settings F hK hZ hX hbl hbA hA hkc hks hn hi hLx hl0 qc dc qd de kq nw c p a b f t s r a2 b2 g N B rp rq z zf x xl fk ff fs T M M2 Y σ hR H0 locs0 hP0 hD0 hS0 KK
  rcases kswE w0 4 (v := 4) (by decide) with e0 | n4
  · refine lv_tableIn (off := 182) (tgt := 214) hx hb dL_law_32 c1a c1b (by rw [e0]; rfl) (by decide) ?_
    exact lc_offer F hK hZ hX hbl hbA hA hkc hks hn hi hLx hl0 _ rfl _ rfl _ rfl qc dc qd de kq nw c p a b f t s r a2 b2 g N B rp rq z zf x xl fk ff fs T M M2 Y σ hR H0 locs0 hP0 hD0 hS0 KK
  rcases kswE w0 5 (v := 5) (by decide) with e0 | n5
  · refine lv_tableIn (off := 225) (tgt := 257) hx hb dL_law_32 c1a c1b (by rw [e0]; rfl) (by decide) ?_
    exact lc_secret F hK hZ hX hbl hbA hA hkc hks hn hi hLx hl0 _ rfl _ rfl qc dc qd de kq nw c p a b f t s r a2 b2 g N B rp rq z zf x xl fk ff fs T M M2 Y σ hR H0 locs0 hP0 hD0 hS0 KK
  rcases kswE w0 6 (v := 6) (by decide) with e0 | n6
  · refine lv_tableIn (off := 258) (tgt := 290) hx hb dL_law_32 c1a c1b (by rw [e0]; rfl) (by decide) ?_
    exact lc_guess F hK hZ hX hbl hbA hA hkc hks hn hi hLx hl0 _ rfl qc dc qd de kq nw c p a b f t s r a2 b2 g N B rp rq z zf x xl fk ff fs T M M2 Y σ hR H0 locs0 hP0 hD0 hS0 KK
  rcases kswE w0 7 (v := 7) (by decide) with e0 | n7
  · refine lv_tableIn (off := 281) (tgt := 313) hx hb dL_law_32 c1a c1b (by rw [e0]; rfl) (by decide) ?_
    exact lc_early F hK hZ hX hbl hbA hA hkc hks hn hi hLx hl0 _ rfl qc dc qd de kq nw c p a b f t s r a2 b2 g N B rp rq z zf x xl fk ff fs T M M2 Y σ hR H0 locs0 hP0 hD0 hS0 KK
  rcases kswE w0 8 (v := 8) (by decide) with e0 | n8
  · refine lv_tableIn (off := 304) (tgt := 336) hx hb dL_law_32 c1a c1b (by rw [e0]; rfl) (by decide) ?_
    exact lc_hello F hK hZ hX hbl hbA hA hkc hks hn hi hLx hl0 qc dc qd de kq nw c p a b f t s r a2 b2 g N B rp rq z zf x xl fk ff fs T M M2 Y σ hR H0 locs0 hP0 hD0 hS0 KK
  rcases kswE w0 9 (v := 9) (by decide) with e0 | n9
  · refine lv_tableIn (off := 317) (tgt := 349) hx hb dL_law_32 c1a c1b (by rw [e0]; rfl) (by decide) ?_
    exact lc_step F hK hZ hX hbl hbA hA hkc hks hn hi hLx hl0 _ rfl qc dc qd de kq nw c p a b f t s r a2 b2 g N B rp rq z zf x xl fk ff fs T M M2 Y σ hR H0 locs0 hP0 hD0 hS0 KK
  rcases kswE w0 10 (v := 10) (by decide) with e0 | n10
  · refine lv_tableIn (off := 340) (tgt := 372) hx hb dL_law_32 c1a c1b (by rw [e0]; rfl) (by decide) ?_
    exact lc_ticket F hK hZ hX hbl hbA hA hkc hks hn hi hLx hl0 _ rfl qc dc qd de kq nw c p a b f t s r a2 b2 g N B rp rq z zf x xl fk ff fs T M M2 Y σ hR H0 locs0 hP0 hD0 hS0 KK
  rcases kswE w0 11 (v := 11) (by decide) with e0 | n11
  · refine lv_tableIn (off := 363) (tgt := 395) hx hb dL_law_32 c1a c1b (by rw [e0]; rfl) (by decide) ?_
    exact lc_forget F hK hZ hX hbl hbA hA hkc hks hn hi hLx hl0 qc dc qd de kq nw c p a b f t s r a2 b2 g N B rp rq z zf x xl fk ff fs T M M2 Y σ hR H0 locs0 hP0 hD0 hS0 KK
  rcases kswE w0 12 (v := 12) (by decide) with e0 | n12
  · refine lv_tableIn (off := 376) (tgt := 408) hx hb dL_law_32 c1a c1b (by rw [e0]; rfl) (by decide) ?_
    exact lc_say F hK hZ hX hbl hbA hA hkc hks hn hi hLx hl0 _ rfl _ rfl qc dc qd de kq nw c p a b f t s r a2 b2 g N B rp rq z zf x xl fk ff fs T M M2 Y σ hR H0 locs0 hP0 hD0 hS0 KK
  rcases kswE w0 13 (v := 13) (by decide) with e0 | n13
  · refine lv_tableIn (off := 409) (tgt := 441) hx hb dL_law_32 c1a c1b (by rw [e0]; rfl) (by decide) ?_
    exact lc_update F hK hZ hX hbl hbA hA hkc hks hn hi hLx hl0 _ rfl qc dc qd de kq nw c p a b f t s r a2 b2 g N B rp rq z zf x xl fk ff fs T M M2 Y σ hR H0 locs0 hP0 hD0 hS0 KK
  rcases kswE w0 14 (v := 14) (by decide) with e0 | n14
  · refine lv_tableIn (off := 432) (tgt := 464) hx hb dL_law_32 c1a c1b (by rw [e0]; rfl) (by decide) ?_
    exact lc_fresh F hK hZ hX hbl hbA hA hkc hks hn hi hLx hl0 _ rfl qc dc qd de kq nw c p a b f t s r a2 b2 g N B rp rq z zf x xl fk ff fs T M M2 Y σ hR H0 locs0 hP0 hD0 hS0 KK
  rcases kswE w0 15 (v := 15) (by decide) with e0 | n15
  · refine lv_tableIn (off := 455) (tgt := 487) hx hb dL_law_32 c1a c1b (by rw [e0]; rfl) (by decide) ?_
    exact lc_pass F hK hZ hX hbl hbA hA hkc hks hn hi hLx hl0 _ rfl qc dc qd de kq nw c p a b f t s r a2 b2 g N B rp rq z zf x xl fk ff fs T M M2 Y σ hR H0 locs0 hP0 hD0 hS0 KK
  rcases kswE w0 16 (v := 16) (by decide) with e0 | n16
  · refine lv_tableIn (off := 478) (tgt := 510) hx hb dL_law_32 c1a c1b (by rw [e0]; rfl) (by decide) ?_
    exact lc_alter F hK hZ hX hbl hbA hA hkc hks hn hi hLx hl0 _ rfl _ rfl _ rfl qc dc qd de kq nw c p a b f t s r a2 b2 g N B rp rq z zf x xl fk ff fs T M M2 Y σ hR H0 locs0 hP0 hD0 hS0 KK
  rcases kswE w0 17 (v := 17) (by decide) with e0 | n17
  · refine lv_tableIn (off := 521) (tgt := 553) hx hb dL_law_32 c1a c1b (by rw [e0]; rfl) (by decide) ?_
    exact lc_drop F hK hZ hX hbl hbA hA hkc hks hn hi hLx hl0 _ rfl qc dc qd de kq nw c p a b f t s r a2 b2 g N B rp rq z zf x xl fk ff fs T M M2 Y σ hR H0 locs0 hP0 hD0 hS0 KK
  rcases kswE w0 18 (v := 18) (by decide) with e0 | n18
  · refine lv_tableIn (off := 544) (tgt := 576) hx hb dL_law_32 c1a c1b (by rw [e0]; rfl) (by decide) ?_
    exact lc_copy F hK hZ hX hbl hbA hA hkc hks hn hi hLx hl0 _ rfl _ rfl qc dc qd de kq nw c p a b f t s r a2 b2 g N B rp rq z zf x xl fk ff fs T M M2 Y σ hR H0 locs0 hP0 hD0 hS0 KK
  rcases kswE w0 19 (v := 19) (by decide) with e0 | n19
  · refine lv_tableIn (off := 577) (tgt := 609) hx hb dL_law_32 c1a c1b (by rw [e0]; rfl) (by decide) ?_
    exact lc_inject F hK hZ hX hbl hbA hA hkc hks hn hi hLx hl0 _ rfl _ rfl qc dc qd de kq nw c p a b f t s r a2 b2 g N B rp rq z zf x xl fk ff fs T M M2 Y σ hR H0 locs0 hP0 hD0 hS0 KK
  rcases kswE w0 20 (v := 20) (by decide) with e0 | n20
  · refine lv_tableIn (off := 610) (tgt := 642) hx hb dL_law_32 c1a c1b (by rw [e0]; rfl) (by decide) ?_
    exact lc_side F hK hZ hX hbl hbA hA hkc hks hn hi hLx hl0 _ rfl _ rfl qc dc qd de kq nw c p a b f t s r a2 b2 g N B rp rq z zf x xl fk ff fs T M M2 Y σ hR H0 locs0 hP0 hD0 hS0 KK
  rcases kswE w0 21 (v := 21) (by decide) with e0 | n21
  · refine lv_tableIn (off := 643) (tgt := 675) hx hb dL_law_32 c1a c1b (by rw [e0]; rfl) (by decide) ?_
    exact lc_message F hK hZ hX hbl hbA hA hkc hks hn hi hLx hl0 _ rfl _ rfl qc dc qd de kq nw c p a b f t s r a2 b2 g N B rp rq z zf x xl fk ff fs T M M2 Y σ hR H0 locs0 hP0 hD0 hS0 KK
  rcases kswE w0 22 (v := 22) (by decide) with e0 | n22
  · refine lv_tableIn (off := 676) (tgt := 708) hx hb dL_law_32 c1a c1b (by rw [e0]; rfl) (by decide) ?_
    exact lc_kept F hK hZ hX hbl hbA hA hkc hks hn hi hLx hl0 _ rfl _ rfl qc dc qd de kq nw c p a b f t s r a2 b2 g N B rp rq z zf x xl fk ff fs T M M2 Y σ hR H0 locs0 hP0 hD0 hS0 KK
  rcases kswE w0 23 (v := 23) (by decide) with e0 | n23
  · refine lv_tableIn (off := 709) (tgt := 741) hx hb dL_law_32 c1a c1b (by rw [e0]; rfl) (by decide) ?_
    exact lc_held F hK hZ hX hbl hbA hA hkc hks hn hi hLx hl0 _ rfl qc dc qd de kq nw c p a b f t s r a2 b2 g N B rp rq z zf x xl fk ff fs T M M2 Y σ hR H0 locs0 hP0 hD0 hS0 KK
  rcases kswE w0 24 (v := 24) (by decide) with e0 | n24
  · refine lv_tableIn (off := 732) (tgt := 764) hx hb dL_law_32 c1a c1b (by rw [e0]; rfl) (by decide) ?_
    exact lc_share F hK hZ hX hbl hbA hA hkc hks hn hi hLx hl0 _ rfl _ rfl qc dc qd de kq nw c p a b f t s r a2 b2 g N B rp rq z zf x xl fk ff fs T M M2 Y σ hR H0 locs0 hP0 hD0 hS0 KK
  rcases kswE w0 25 (v := 25) (by decide) with e0 | n25
  · refine lv_tableIn (off := 765) (tgt := 797) hx hb dL_law_32 c1a c1b (by rw [e0]; rfl) (by decide) ?_
    exact lc_count F hK hZ hX hbl hbA hA hkc hks hn hi hLx hl0 _ rfl qc dc qd de kq nw c p a b f t s r a2 b2 g N B rp rq z zf x xl fk ff fs T M M2 Y σ hR H0 locs0 hP0 hD0 hS0 KK
  exact absurd c1b (by omega)
set_option maxHeartbeats 8000000 in
set_option maxRecDepth 100000 in
theorem law_loop (F : CallFix pg mi cd cL_law 4 st #[Value.ref bb] wsL_law RL) (hK : kK G st) (hZ : kZ Z A st st.heap) (hX : va_X bb Lx xs st st.heap) (hbl : bb < st.heap.size) (hbA : ¬ A bb) (hA : ∀ q : Nat, st.heap.size ≤ q → A q) (hkc : kc ≤ 600000) (hks : ks ≤ 7302250) (hLx : Lx ≤ 2048) (KE : ∀ (H : Heap) (locs : List Loc) (ls : Array Slot), va_S A st.heap H locs → W pg l ev room_1 st mi #[Value.ref bb] bl mt cd H locs kc ks Q (F0 mi 826 ls [])) :
    ∀ (fu k n : Nat), 513 ≤ k + fu → 4 * k ≤ Lx → n ≤ 25 * k → ∀ (ls0 : Array Slot), lv_has ls0 4 [(3, .int (nI (4 * k))), (2, .ref mh), (1, .ref h), (0, .ref bb)] → ∀ (qc dc qd de kq : Nat → Nat) (nw c p a b f t s r a2 b2 g N B rp rq z zf x xl fk ff fs : kF) (T M M2 Y : kFF) (σ : kS), Rel n nw c t p a b s N B T r a2 b2 rp M rq M2 Y zf x xl σ → ∀ (H0 : Heap) (locs0 : List Loc), va_P G.1 vwCl (mW G mh am σ ++ [oTo h cl se rc rs ar co cz tx nw, oCl cl pe ti c, oPe pe lc ls lc ls dr p, oLa lc a, oLa ls b, oMs dr dd, aI G dd 9 f, oTi ti t, oSe se pr ta sn sb s, oPe pr mc ms ms mc er r, oLa mc a2, oLa ms b2, oMs er ee, aI G ee 9 g, aT G ta 3 (krow3 kq), oTi (kq 0) (T 0), oTi (kq 1) (T 1), oTi (kq 2) (T 2), aI G sn 4 N, aI G sb 4 B, oRo rc wc rp, aM G wc 8 (krow qc), oMs (qc 0) (dc 0), aI G (dc 0) 9 (M 0), oMs (qc 1) (dc 1), aI G (dc 1) 9 (M 1), oMs (qc 2) (dc 2), aI G (dc 2) 9 (M 2), oMs (qc 3) (dc 3), aI G (dc 3) 9 (M 3), oMs (qc 4) (dc 4), aI G (dc 4) 9 (M 4), oMs (qc 5) (dc 5), aI G (dc 5) 9 (M 5), oMs (qc 6) (dc 6), aI G (dc 6) 9 (M 6), oMs (qc 7) (dc 7), aI G (dc 7) 9 (M 7), oRo rs wd rq, aM G wd 8 (krow qd), oMs (qd 0) (de 0), aI G (de 0) 9 (M2 0), oMs (qd 1) (de 1), aI G (de 1) 9 (M2 1), oMs (qd 2) (de 2), aI G (de 2) 9 (M2 2), oMs (qd 3) (de 3), aI G (de 3) 9 (M2 3), oMs (qd 4) (de 4), aI G (de 4) 9 (M2 4), oMs (qd 5) (de 5), aI G (de 5) 9 (M2 5), oMs (qd 6) (de 6), aI G (de 6) 9 (M2 6), oMs (qd 7) (de 7), aI G (de 7) 9 (M2 7), oMs ar az, aI G az 9 z, aM G co 4 (krow4 yq), oMs (yq 0) (yd 0), aI G (yd 0) 9 (Y 0), oMs (yq 1) (yd 1), aI G (yd 1) 9 (Y 1), oMs (yq 2) (yd 2), aI G (yd 2) 9 (Y 2), oMs (yq 3) (yd 3), aI G (yd 3) 9 (Y 3), aZ G cz 4 zf, oTx tx yl yk yf ys x, aI G yl 200 xl, aI G yk 24 fk, aI G yf 24 ff, aI G ys 24 fs]) H0 → va_D A (mW G mh am σ ++ [oTo h cl se rc rs ar co cz tx nw, oCl cl pe ti c, oPe pe lc ls lc ls dr p, oLa lc a, oLa ls b, oMs dr dd, aI G dd 9 f, oTi ti t, oSe se pr ta sn sb s, oPe pr mc ms ms mc er r, oLa mc a2, oLa ms b2, oMs er ee, aI G ee 9 g, aT G ta 3 (krow3 kq), oTi (kq 0) (T 0), oTi (kq 1) (T 1), oTi (kq 2) (T 2), aI G sn 4 N, aI G sb 4 B, oRo rc wc rp, aM G wc 8 (krow qc), oMs (qc 0) (dc 0), aI G (dc 0) 9 (M 0), oMs (qc 1) (dc 1), aI G (dc 1) 9 (M 1), oMs (qc 2) (dc 2), aI G (dc 2) 9 (M 2), oMs (qc 3) (dc 3), aI G (dc 3) 9 (M 3), oMs (qc 4) (dc 4), aI G (dc 4) 9 (M 4), oMs (qc 5) (dc 5), aI G (dc 5) 9 (M 5), oMs (qc 6) (dc 6), aI G (dc 6) 9 (M 6), oMs (qc 7) (dc 7), aI G (dc 7) 9 (M 7), oRo rs wd rq, aM G wd 8 (krow qd), oMs (qd 0) (de 0), aI G (de 0) 9 (M2 0), oMs (qd 1) (de 1), aI G (de 1) 9 (M2 1), oMs (qd 2) (de 2), aI G (de 2) 9 (M2 2), oMs (qd 3) (de 3), aI G (de 3) 9 (M2 3), oMs (qd 4) (de 4), aI G (de 4) 9 (M2 4), oMs (qd 5) (de 5), aI G (de 5) 9 (M2 5), oMs (qd 6) (de 6), aI G (de 6) 9 (M2 6), oMs (qd 7) (de 7), aI G (de 7) 9 (M2 7), oMs ar az, aI G az 9 z, aM G co 4 (krow4 yq), oMs (yq 0) (yd 0), aI G (yd 0) 9 (Y 0), oMs (yq 1) (yd 1), aI G (yd 1) 9 (Y 1), oMs (yq 2) (yd 2), aI G (yd 2) 9 (Y 2), oMs (yq 3) (yd 3), aI G (yd 3) 9 (Y 3), aZ G cz 4 zf, oTx tx yl yk yf ys x, aI G yl 200 xl, aI G yk 24 fk, aI G yf 24 ff, aI G ys 24 fs]) → va_S A st.heap H0 locs0 → W pg l ev room_1 st mi #[Value.ref bb] bl mt cd H0 locs0 kc ks Q (F0 mi 18 ls0 []) := by
  intro fu
  induction fu with
  | zero =>
    intro k n hf hk
    exact absurd hf (by omega)
  | succ fu ih =>
    intro k n hf hk hn ls0 hl0 qc dc qd de kq nw c p a b f t s r a2 b2 g N B rp rq z zf x xl fk ff fs T M M2 Y σ hR H0 locs0 hP0 hD0 hS0
    obtain ⟨hx, hb, hml, hown, hts⟩ := id F
    refine lv_iload_n hx hb dL_law_18 rfl (lv_at hl0 0 rfl) ?_
    refine lv_aload_n hx hb dL_law_19 rfl (lv_at hl0 3 rfl) ?_
    refine va_slen hx hb hX hbl hbA hS0 dL_law_20 ?_
    refine lv_iconst (v := 4) hx hb dL_law_21 (by decide) ?_
    refine lv_isub hx hb dL_law_22 ?_
    refine lv_icmp_gt (tgt := 826) hx hb dL_law_23 (by decide) (fun cc => ?_) (fun cc => ?_)
    · exact KE H0 locs0 ls0 hS0
    · have hi : 4 * k + 4 ≤ Lx := lw_len hLx hk cc
      refine law_body F hK hZ hX hbl hbA hA hkc hks (n := n) (i := 4 * k) (by omega) hi hLx hl0 qc dc qd de kq nw c p a b f t s r a2 b2 g N B rp rq z zf x xl fk ff fs T M M2 Y σ hR H0 locs0 hP0 hD0 hS0 ?_
      clear hP0 hD0 hS0 hR
      intro n2 qc dc qd de kq nw c p a b f t s r a2 b2 g N B rp rq z zf x xl fk ff fs T M M2 Y σ H locs hn2 hR hP hD hS
      refine lv_iinc (v := nI (4 * (k + 1))) (lv' := [(3, .int (nI (4 * (k + 1)))), (2, .ref mh), (1, .ref h), (0, .ref bb)]) hx hb dL_law_820 hl0 (k := 0) rfl (nI_add (4 * k) 4) (by decide) rfl (fun ls1 hl1 => ?_)
      refine lv_goto (tgt := 18) hx hb dL_law_823 (by decide) ?_
      exact ih (k + 1) n2 (by omega) (by omega) (by omega) ls1 hl1 qc dc qd de kq nw c p a b f t s r a2 b2 g N B rp rq z zf x xl fk ff fs T M M2 Y σ hR H locs hP hD hS
end
