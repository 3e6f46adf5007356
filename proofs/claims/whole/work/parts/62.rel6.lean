/-! tickets; what comes to the client -/
section
variable {n : Nat} {nw c t p a b s N B : kF} {T : kFF} {r a2 b2 rp : kF} {M : kFF} {rq : kF} {M2 Y : kFF} {zf x xl : kF} {σ : kS}
theorem rel_ticketN (h : Rel n nw c t p a b s N B T r a2 b2 rp M rq M2 Y zf x xl σ) {v : Int32} {Mn : Nat → Nat} {K : Nat} (hno : v < 0 ∨ ¬ v ≤ 99 ∨ ¬ r 3 = 4 ∨ ¬ r 6 = 3) : ktickN r v = (mtick σ v Mn K).1 ∧ Rel (n + 1) nw c t p a b s N B T r a2 b2 rp M rq M2 Y zf x xl (mtick σ v Mn K).2 := by
  unfold ktickN mtick
  rw [kinC 0 99, h.r.1.2.2.2.1]
  by_cases h1 : v < 0
  · simp only [h1, ↓reduceIte]; exact ⟨by trivial, h.up⟩
  by_cases h2 : 99 < v
  · simp only [h1, h2, Int32.not_le.mpr h2, ↓reduceIte]; exact ⟨by trivial, h.up⟩
  simp only [h1, h2, Int32.not_lt.mp h2, show ¬ ((1 : Int32) = 0) from by decide, ↓reduceIte]
  by_cases h4 : r 3 = 4
  · have e6 := (h.r.2.2.2.2.2.1 (Or.inl h4)).1
    have h63 : ¬ r 6 = 3 := by
      rcases hno with q | q | q | q
      · exact absurd q h1
      · exact absurd (Int32.not_lt.mp h2) q
      · exact absurd h4 q
      · exact q
    rw [if_pos h4, e6, if_neg h63]
    exact ⟨rfl, h.up⟩
  · rw [if_neg h4]
    exact ⟨rfl, h.up⟩
theorem five_at (w : kF) (K : Nat) (v0 v1 v2 v3 v4 : Int32) (i j : Nat) (hj : j < 5) : upd (upd (upd (upd (upd w (5 * K) v0) (5 * K + 1) v1) (5 * K + 2) v2) (5 * K + 3) v3) (5 * K + 4) v4 (5 * i + j) = if i = K then upd (upd (upd (upd (upd (fun _ => 0) 0 v0) 1 v1) 2 v2) 3 v3) 4 v4 j else w (5 * i + j) := by
  by_cases h : i = K
  · subst h
    rw [if_pos rfl]
    rcases (show j = 0 ∨ j = 1 ∨ j = 2 ∨ j = 3 ∨ j = 4 by omega) with rfl | rfl | rfl | rfl | rfl
    · rw [pk_un (by omega), pk_un (by omega), pk_un (by omega), pk_un (by omega)]
      exact pk_us
    · rw [pk_un (by omega), pk_un (by omega), pk_un (by omega)]
      exact pk_us
    · rw [pk_un (by omega), pk_un (by omega)]
      exact pk_us
    · rw [pk_un (by omega)]
      exact pk_us
    · exact pk_us
  · rw [if_neg h, pk_un (by omega), pk_un (by omega), pk_un (by omega), pk_un (by omega), pk_un (by omega)]
theorem ktk_at (t0 : kF) (m life now v d : Int32) {j : Nat} (hj : j < 5) : ktk t0 m life now v d j = upd (upd (upd (upd (upd (fun _ => 0) 0 m) 1 life) 2 now) 3 v) 4 d j := by
  rcases (show j = 0 ∨ j = 1 ∨ j = 2 ∨ j = 3 ∨ j = 4 by omega) with rfl | rfl | rfl | rfl | rfl <;> rfl
theorem r_main (h : RPeer 1 r a2 b2 σ) (h4 : r 3 = 4) : mmain σ 1 = r 10 := by
  have j1 := h.2.2.2.2.2.1 (Or.inl h4)
  have j2 := h.2.2.2.2.2.2 h4
  unfold mmain
  rw [j2.1, j1.2.2.2.2, h.1.2.2.2.2.2.1]
theorem rel_ticketA (h : Rel n nw c t p a b s N B T r a2 b2 rp M rq M2 Y zf x xl σ) {v : Int32} {Mn : Nat → Nat} {K L : Nat} {f : kF} (hn : n < 20000) (hK : s 2 = nI K) (lK : K < 3) (hL : rp 1 = nI L) (hL8 : L ≤ 8) (hM : Mn 0 = L) (h0 : ¬ v < 0) (h99 : v ≤ 99) (h4 : r 3 = 4) (h63 : r 6 = 3) :
    s 3 + 1 = (mtick σ v Mn K).1 ∧ Rel (n + 1) nw c t p a b (upd (upd s 3 (s 3 + 1)) 2 (s 2 + 1)) N B (va_up T K (ktk (T K) (s 3 + 1) v (nw 8) (kmix (r 10) (s 3 + 1)) (kmix (s 3 + 1) 77))) r a2 b2 (ksendP L rp) (ksendM L M (ktkm r f (s 3 + 1) v)) rq M2 Y zf x xl (mtick σ v Mn K).2 := by
  obtain ⟨K', E, m, w, ⟨z1, z2, z3, z4, z5⟩, ⟨k1, k2⟩, e67, ⟨m1, m2⟩, w8, hT, hT0, hT2, hNB, s7, s8⟩ := h.srv
  have eK : K' = K := (nI_eq (by omega) (by omega)).mp (k1.symm.trans hK)
  subst eK
  have e14 : σ 14 0 = nw 8 := by
    obtain ⟨w', -, w1, w2⟩ := h.now
    rw [w1, w2]
  unfold mtick
  rw [if_neg (show ¬ kinL v.toInt64 0 99 = 0 from kin_ok (lo := 0) (hi := 99) (Int32.not_lt.mp h0) h99), h.r.1.2.2.2.1, if_pos h4, (h.r.2.2.2.2.2.1 (Or.inl h4)).1, if_pos h63, if_neg (show ¬ K' = 3 by omega), hM]
  have e3 : σ 21 0 = s 3 := by rw [m1, m2]
  have hsrv : RSrv (n + 1) nw (upd (upd s 3 (s 3 + 1)) 2 (s 2 + 1)) N B (va_up T K' (ktk (T K') (s 3 + 1) v (nw 8) (kmix (r 10) (s 3 + 1)) (kmix (s 3 + 1) 77))) (mtickY σ σ K' v) := by
    refine ⟨K' + 1, E, m + 1, w, ⟨by omega, z2, by omega, by omega, by omega⟩, ⟨?_, rfl⟩, e67, ⟨?_, ?_⟩, w8, ?_, ?_, ?_, hNB, s7, s8⟩
    · show s 2 + 1 = _
      rw [k1, nI_1]
    · show s 3 + 1 = _
      rw [m1, nI_1]
    · show σ 21 0 + 1 = _
      rw [m2, nI_1]
    · intro i hi j hj
      show upd (upd (upd (upd (upd (σ 22) (5 * K') (σ 21 0 + 1)) (5 * K' + 1) v) (5 * K' + 2) (σ 14 0)) (5 * K' + 3) (kmix (mmain σ 1) (σ 21 0 + 1))) (5 * K' + 4) (kmix (σ 21 0 + 1) 77) (5 * i + j) = _
      rw [five_at _ _ _ _ _ _ _ _ _ hj, e3, e14, r_main h.r h4]
      by_cases hi2 : i = K'
      · subst hi2
        rw [if_pos rfl]
        simp only [va_up, ↓reduceIte]
        exact (ktk_at _ _ _ _ _ _ hj).symm
      · rw [if_neg hi2]
        simp only [va_up, if_neg hi2]
        exact hT i (by omega) j hj
    · intro i hi
      by_cases hi2 : i = K'
      · subst hi2
        simp only [va_up, ↓reduceIte]
        show s 3 + 1 = _
        rw [m1, nI_1, show m + 1 - (i + 1) + 1 + i = m + 1 by omega]
      · simp only [va_up, if_neg hi2]
        rw [hT0 i (by omega), show m + 1 - (K' + 1) + 1 + i = m - K' + 1 + i by omega]
    · intro i hi
      by_cases hi2 : i = K'
      · subst hi2
        simp only [va_up, ↓reduceIte]
        exact ⟨w, Nat.le_refl w, w8⟩
      · simp only [va_up, if_neg hi2]
        exact hT2 i (by omega)
  have hr : Rel (n + 1) nw c t p a b (upd (upd s 3 (s 3 + 1)) 2 (s 2 + 1)) N B (va_up T K' (ktk (T K') (s 3 + 1) v (nw 8) (kmix (r 10) (s 3 + 1)) (kmix (s 3 + 1) 77))) r a2 b2 rp M rq M2 Y zf x xl (mtickY σ σ K' v) := ⟨h.now.up, h.cli, h.p, hsrv, h.r, h.rc, h.rs, h.cop, h.txt, h.gone⟩
  refine ⟨?_, rel_send0 (rel_su29 (rel_su29 (rel_su29 (rel_clr hr 5) 1 (σ 21 0 + 1)) 2 (kmix (σ 21 0 + 1) 77)) 3 v) hL hL8 ?_⟩
  · show s 3 + 1 = σ 21 0 + 1
    rw [e3]
  · unfold ktkm
    rw [e3]
    exact (((E9.beg 5).put 1 _).put 2 _).put 3 _
theorem shift_at (i j : Nat) (hi : i < 2) (hj : j < 5) : mshift σ 22 (5 * i + j) = σ 22 (5 * (i + 1) + j) := by
  rcases (show i = 0 ∨ i = 1 by omega) with rfl | rfl <;> rcases (show j = 0 ∨ j = 1 ∨ j = 2 ∨ j = 3 ∨ j = 4 by omega) with rfl | rfl | rfl | rfl | rfl <;> rfl
theorem rel_ticketB (h : Rel n nw c t p a b s N B T r a2 b2 rp M rq M2 Y zf x xl σ) {v : Int32} {Mn : Nat → Nat} {L : Nat} {f : kF} (hn : n < 20000) (hK : s 2 = nI 3) (hL : rp 1 = nI L) (hL8 : L ≤ 8) (hM : Mn 0 = L) (h0 : ¬ v < 0) (h99 : v ≤ 99) (h4 : r 3 = 4) (h63 : r 6 = 3) :
    s 3 + 1 = (mtick σ v Mn 3).1 ∧ Rel (n + 1) nw c t p a b (upd s 3 (s 3 + 1)) N B (va_up (krot3 T) 2 (ktk (T 0) (s 3 + 1) v (nw 8) (kmix (r 10) (s 3 + 1)) (kmix (s 3 + 1) 77))) r a2 b2 (ksendP L rp) (ksendM L M (ktkm r f (s 3 + 1) v)) rq M2 Y zf x xl (mtick σ v Mn 3).2 := by
  obtain ⟨K', E, m, w, ⟨z1, z2, z3, z4, z5⟩, ⟨k1, k2⟩, e67, ⟨m1, m2⟩, w8, hT, hT0, hT2, hNB, s7, s8⟩ := h.srv
  have eK : K' = 3 := (nI_eq (by omega) (by omega)).mp (k1.symm.trans hK)
  subst eK
  have e14 : σ 14 0 = nw 8 := by
    obtain ⟨w', -, w1, w2⟩ := h.now
    rw [w1, w2]
  unfold mtick
  rw [if_neg (show ¬ kinL v.toInt64 0 99 = 0 from kin_ok (lo := 0) (hi := 99) (Int32.not_lt.mp h0) h99), h.r.1.2.2.2.1, if_pos h4, (h.r.2.2.2.2.2.1 (Or.inl h4)).1, if_pos h63, if_pos rfl, hM]
  have e3 : σ 21 0 = s 3 := by rw [m1, m2]
  have hsrv : RSrv (n + 1) nw (upd s 3 (s 3 + 1)) N B (va_up (krot3 T) 2 (ktk (T 0) (s 3 + 1) v (nw 8) (kmix (r 10) (s 3 + 1)) (kmix (s 3 + 1) 77))) (mtickY (su (mshift σ) 20 0 2) σ 2 v) := by
    refine ⟨3, E, m + 1, w, ⟨by omega, z2, by omega, by omega, by omega⟩, ⟨k1, rfl⟩, e67, ⟨?_, ?_⟩, w8, ?_, ?_, ?_, hNB, s7, s8⟩
    · show s 3 + 1 = _
      rw [m1, nI_1]
    · show σ 21 0 + 1 = _
      rw [m2, nI_1]
    · intro i hi j hj
      show upd (upd (upd (upd (upd (mshift σ 22) (5 * 2) (σ 21 0 + 1)) (5 * 2 + 1) v) (5 * 2 + 2) (σ 14 0)) (5 * 2 + 3) (kmix (mmain σ 1) (σ 21 0 + 1))) (5 * 2 + 4) (kmix (σ 21 0 + 1) 77) (5 * i + j) = _
      rw [five_at _ _ _ _ _ _ _ _ _ hj, e3, e14, r_main h.r h4]
      by_cases hi2 : i = 2
      · subst hi2
        rw [if_pos rfl]
        simp only [va_up, ↓reduceIte]
        exact (ktk_at _ _ _ _ _ _ hj).symm
      · rw [if_neg hi2, shift_at i j (by omega) hj]
        simp only [va_up, if_neg hi2, krot3]
        exact hT (i + 1) (by omega) j hj
    · intro i hi
      by_cases hi2 : i = 2
      · subst hi2
        simp only [va_up, ↓reduceIte]
        show s 3 + 1 = _
        rw [m1, nI_1, show m + 1 - 3 + 1 + 2 = m + 1 by omega]
      · simp only [va_up, if_neg hi2, krot3]
        rw [hT0 (i + 1) (by omega), show m - 3 + 1 + (i + 1) = m + 1 - 3 + 1 + i by omega]
    · intro i hi
      by_cases hi2 : i = 2
      · subst hi2
        simp only [va_up, ↓reduceIte]
        exact ⟨w, Nat.le_refl w, w8⟩
      · simp only [va_up, if_neg hi2, krot3]
        exact hT2 (i + 1) (by omega)
  have hr : Rel (n + 1) nw c t p a b (upd s 3 (s 3 + 1)) N B (va_up (krot3 T) 2 (ktk (T 0) (s 3 + 1) v (nw 8) (kmix (r 10) (s 3 + 1)) (kmix (s 3 + 1) 77))) r a2 b2 rp M rq M2 Y zf x xl (mtickY (su (mshift σ) 20 0 2) σ 2 v) := ⟨h.now.up, h.cli, h.p, hsrv, h.r, h.rc, h.rs, h.cop, h.txt, h.gone⟩
  refine ⟨?_, rel_send0 (rel_su29 (rel_su29 (rel_su29 (rel_clr hr 5) 1 (σ 21 0 + 1)) 2 (kmix (σ 21 0 + 1) 77)) 3 v) hL hL8 ?_⟩
  · show s 3 + 1 = σ 21 0 + 1
    rw [e3]
  · unfold ktkm
    rw [e3]
    exact (((E9.beg 5).put 1 _).put 2 _).put 3 _
/-- a side fails -/
theorem peer_fail0 (hp : RPeer 0 p a b σ) (w : Int32) : RPeer 0 (kfail p w) a b (mfail σ 0 w) := ⟨⟨hp.1.1, hp.1.2.1, hp.1.2.2.1, rfl, rfl, hp.1.2.2.2.2.2⟩, hp.2.1, hp.2.2.1, hp.2.2.2.1, hp.2.2.2.2.1, fun q => absurd q (show ¬ ((5 : Int32) = 4 ∨ (5 : Int32) = 3) from by decide), fun q => absurd q (show ¬ ((5 : Int32) = 4) from by decide)⟩
theorem peer_fail1 (hp : RPeer 1 p a b σ) (w : Int32) : RPeer 1 (kfail p w) a b (mfail σ 1 w) := ⟨⟨hp.1.1, hp.1.2.1, hp.1.2.2.1, rfl, rfl, hp.1.2.2.2.2.2⟩, hp.2.1, hp.2.2.1, hp.2.2.2.1, hp.2.2.2.2.1, fun q => absurd q (show ¬ ((5 : Int32) = 4 ∨ (5 : Int32) = 3) from by decide), fun q => absurd q (show ¬ ((5 : Int32) = 4) from by decide)⟩
theorem rel_fail0 (h : Rel n nw c t p a b s N B T r a2 b2 rp M rq M2 Y zf x xl σ) (w : Int32) : Rel n nw c t (kfail p w) a b s N B T r a2 b2 rp M rq M2 Y zf x xl (mfail σ 0 w) := ⟨h.now, h.cli, peer_fail0 h.p w, h.srv, h.r, h.rc, h.rs, h.cop, h.txt, h.gone⟩
theorem rel_fail1 (h : Rel n nw c t p a b s N B T r a2 b2 rp M rq M2 Y zf x xl σ) (w : Int32) : Rel n nw c t p a b s N B T (kfail r w) a2 b2 rp M rq M2 Y zf x xl (mfail σ 1 w) := ⟨h.now, h.cli, h.p, h.srv, peer_fail1 h.r w, h.rc, h.rs, h.cop, h.txt, h.gone⟩
/-- letters and new keys come -/
theorem rel_let0 (h : Rel n nw c t p a b s N B T r a2 b2 rp M rq M2 Y zf x xl σ) (h4 : p 3 = 4) {z : kF} (hz : E9 z (σ 29)) : Rel n nw c t (krlet p a (z 1) (z 2)).1 (krlet p a (z 1) (z 2)).2 b s N B T r a2 b2 rp M rq M2 Y zf x xl (mlett σ 0) := by
  have hl := peer_lock0 h.p h4
  have h2c : σ 11 (2 * 0 + 0) = a 2 := (h.p.2.2.2.2.2.2 h4).2.2.2.1
  have e1 := hz 1 (by decide)
  have e2 := hz 2 (by decide)
  unfold krlet mlett
  have et : ktag a (p 10) (z 1) = kmix (kmix (mlock σ 0 0) (σ 29 1)) (σ 11 (2 * 0 + 0)) := by
    unfold ktag
    rw [hl, h2c, e1]
  have ev : kveil a (p 10) (z 1) = σ 29 1 ^^^ (kmix (mlock σ 0 0) (σ 11 (2 * 0 + 0)) &&& 1023) := by
    unfold kveil
    rw [hl, h2c, e1]
  rw [et, ev, e2]
  by_cases q : σ 29 2 = kmix (kmix (mlock σ 0 0) (σ 29 1)) (σ 11 (2 * 0 + 0))
  · rw [if_pos q, if_pos q]
    obtain ⟨⟨q0, q1, q2, q3, q4, q5, q11, q12⟩, h2, h3, h5, h6, j1, j2⟩ := h.p
    obtain ⟨m10, m1, m2, m3, m4⟩ := j2 h4
    refine ⟨h.now, h.cli, ⟨⟨q0, q1, q2, q3, q4, q5, ?_, ?_⟩, h2, h3, h5, h6, j1, fun _ => ⟨m10, m1, m2, ?_, m4⟩⟩, h.srv, h.r, h.rc, h.rs, h.cop, h.txt, h.gone⟩
    · show σ 33 0 + 1 = p 11 + 1
      rw [q11]
    · show σ 34 0 + _ = p 12 + _
      rw [q12]
    · show σ 11 (2 * 0 + 0) + 1 = a 2 + 1
      rw [h2c]
  · rw [if_neg q, if_neg q]
    exact rel_fail0 h 9
theorem rel_let1 (h : Rel n nw c t p a b s N B T r a2 b2 rp M rq M2 Y zf x xl σ) (h4 : r 3 = 4) {z : kF} (hz : E9 z (σ 29)) : Rel n nw c t p a b s N B T (krlet r b2 (z 1) (z 2)).1 a2 (krlet r b2 (z 1) (z 2)).2 rp M rq M2 Y zf x xl (mlett σ 1) := by
  have hl := peer_lock1 h.r h4
  have h2c : σ 11 (2 * 1 + 1) = b2 2 := (h.r.2.2.2.2.2.2 h4).2.2.2.2
  have e1 := hz 1 (by decide)
  have e2 := hz 2 (by decide)
  unfold krlet mlett
  have et : ktag b2 (r 10) (z 1) = kmix (kmix (mlock σ 1 1) (σ 29 1)) (σ 11 (2 * 1 + 1)) := by
    unfold ktag
    rw [hl, h2c, e1]
  have ev : kveil b2 (r 10) (z 1) = σ 29 1 ^^^ (kmix (mlock σ 1 1) (σ 11 (2 * 1 + 1)) &&& 1023) := by
    unfold kveil
    rw [hl, h2c, e1]
  rw [et, ev, e2]
  by_cases q : σ 29 2 = kmix (kmix (mlock σ 1 1) (σ 29 1)) (σ 11 (2 * 1 + 1))
  · rw [if_pos q, if_pos q]
    obtain ⟨⟨q0, q1, q2, q3, q4, q5, q11, q12⟩, h2, h3, h5, h6, j1, j2⟩ := h.r
    obtain ⟨m10, m1, m2, m3, m4⟩ := j2 h4
    refine ⟨h.now, h.cli, h.p, h.srv, ⟨⟨q0, q1, q2, q3, q4, q5, ?_, ?_⟩, h2, h3, h5, h6, j1, fun _ => ⟨m10, m1, m2, m3, ?_⟩⟩, h.rc, h.rs, h.cop, h.txt, h.gone⟩
    · show σ 33 1 + 1 = r 11 + 1
      rw [q11]
    · show σ 34 1 + _ = r 12 + _
      rw [q12]
    · show σ 11 (2 * 1 + 1) + 1 = b2 2 + 1
      rw [h2c]
  · rw [if_neg q, if_neg q]
    exact rel_fail1 h 9
theorem rel_upd0 (h : Rel n nw c t p a b s N B T r a2 b2 rp M rq M2 Y zf x xl σ) (h4 : p 3 = 4) {z : kF} (hz : E9 z (σ 29)) : Rel n nw c t (krupd p a (z 1)).1 (krupd p a (z 1)).2 b s N B T r a2 b2 rp M rq M2 Y zf x xl (mupd σ 0) := by
  have hl := peer_lock0 h.p h4
  have h2c : σ 11 (2 * 0 + 0) = a 2 := (h.p.2.2.2.2.2.2 h4).2.2.2.1
  have h1c : σ 10 (2 * 0 + 0) = a 1 := (h.p.2.2.2.2.2.2 h4).2.1
  have e1 := hz 1 (by decide)
  unfold krupd mupd
  have et : ktag a (p 10) (-1) = kmix (kmix (mlock σ 0 0) (-1)) (σ 11 (2 * 0 + 0)) := by
    unfold ktag
    rw [hl, h2c]
  rw [et, e1]
  by_cases q : σ 29 1 = kmix (kmix (mlock σ 0 0) (-1)) (σ 11 (2 * 0 + 0))
  · rw [if_pos q, if_pos q]
    obtain ⟨q0, h2, h3, h5, h6, j1, j2⟩ := h.p
    obtain ⟨m10, m1, m2, m3, m4⟩ := j2 h4
    refine ⟨h.now, h.cli, ⟨q0, h2, h3, h5, h6, j1, fun _ => ⟨m10, ?_, m2, ?_, m4⟩⟩, h.srv, h.r, h.rc, h.rs, h.cop, h.txt, h.gone⟩
    · show σ 10 (2 * 0 + 0) + 1 = a 1 + 1
      rw [h1c]
    · show σ 11 (2 * 0 + 0) + 1 = a 2 + 1
      rw [h2c]
  · rw [if_neg q, if_neg q]
    exact rel_fail0 h 9
theorem rel_upd1 (h : Rel n nw c t p a b s N B T r a2 b2 rp M rq M2 Y zf x xl σ) (h4 : r 3 = 4) {z : kF} (hz : E9 z (σ 29)) : Rel n nw c t p a b s N B T (krupd r b2 (z 1)).1 a2 (krupd r b2 (z 1)).2 rp M rq M2 Y zf x xl (mupd σ 1) := by
  have hl := peer_lock1 h.r h4
  have h2c : σ 11 (2 * 1 + 1) = b2 2 := (h.r.2.2.2.2.2.2 h4).2.2.2.2
  have h1c : σ 10 (2 * 1 + 1) = b2 1 := (h.r.2.2.2.2.2.2 h4).2.2.1
  have e1 := hz 1 (by decide)
  unfold krupd mupd
  have et : ktag b2 (r 10) (-1) = kmix (kmix (mlock σ 1 1) (-1)) (σ 11 (2 * 1 + 1)) := by
    unfold ktag
    rw [hl, h2c]
  rw [et, e1]
  by_cases q : σ 29 1 = kmix (kmix (mlock σ 1 1) (-1)) (σ 11 (2 * 1 + 1))
  · rw [if_pos q, if_pos q]
    obtain ⟨q0, h2, h3, h5, h6, j1, j2⟩ := h.r
    obtain ⟨m10, m1, m2, m3, m4⟩ := j2 h4
    refine ⟨h.now, h.cli, h.p, h.srv, ⟨q0, h2, h3, h5, h6, j1, fun _ => ⟨m10, m1, ?_, m3, ?_⟩⟩, h.rc, h.rs, h.cop, h.txt, h.gone⟩
    · show σ 10 (2 * 1 + 1) + 1 = b2 1 + 1
      rw [h1c]
    · show σ 11 (2 * 1 + 1) + 1 = b2 2 + 1
      rw [h2c]
  · rw [if_neg q, if_neg q]
    exact rel_fail1 h 9
/-- a ticket comes -/
theorem rel_tick0 (h : Rel n nw c t p a b s N B T r a2 b2 rp M rq M2 Y zf x xl σ) (h4 : p 3 = 4) {z : kF} (hz : E9 z (σ 29)) : Rel n nw (upd c 2 1) (kticket p t z (nw 8)) p a b s N B T r a2 b2 rp M rq M2 Y zf x xl (mticket σ) := by
  obtain ⟨⟨c12, c13, c15, t0, t1, t2, t3, t4, c16, c17, c18, c19⟩, b2', b5, b7, b3⟩ := h.cli
  obtain ⟨w', -, w1, w2⟩ := h.now
  have hm : mmain σ 0 = p 10 := by
    have j1 := h.p.2.2.2.2.2.1 (Or.inl h4)
    have j2 := h.p.2.2.2.2.2.2 h4
    unfold mmain
    rw [j2.1, j1.2.2.2.2, h.p.1.2.2.2.2.2.1]
  refine ⟨h.now, ⟨⟨c12, c13, rfl, (hz 1 (by decide)).symm, (hz 3 (by decide)).symm, ?_, ?_, (hz 2 (by decide)).symm, c16, c17, c18, c19⟩, Or.inr rfl, b5, b7, b3⟩, h.p, h.srv, h.r, h.rc, h.rs, h.cop, h.txt, h.gone⟩
  · show σ 14 0 = nw 8
    rw [w1, w2]
  · show kmix (mmain σ 0) (σ 29 1) = kmix (p 10) (z 1)
    rw [hm, hz 1 (by decide)]
end
