/-! saying, new keys, tickets, the greeting's begin -/
section
variable {n : Nat} {nw c t p a b s N B : kF} {T : kFF} {r a2 b2 rp : kF} {M : kFF} {rq : kF} {M2 Y : kFF} {zf x xl : kF} {σ : kS}
theorem rel_su29 (h : Rel n nw c t p a b s N B T r a2 b2 rp M rq M2 Y zf x xl σ) (j : Nat) (v : Int32) : Rel n nw c t p a b s N B T r a2 b2 rp M rq M2 Y zf x xl (su σ 29 j v) := rel_29 h _
theorem rel_clr (h : Rel n nw c t p a b s N B T r a2 b2 rp M rq M2 Y zf x xl σ) (k : Int32) : Rel n nw c t p a b s N B T r a2 b2 rp M rq M2 Y zf x xl (mclr σ k) := rel_29 h _
theorem peer_lock0 {sd : Nat} (hp : RPeer sd p a b σ) (h4 : p 3 = 4) : klock a (p 10) = mlock σ sd 0 := by
  obtain ⟨⟨-, -, -, -, -, q5, -⟩, -, -, -, ⟨a0, -⟩, j1, j2⟩ := hp
  obtain ⟨-, -, -, -, g9⟩ := j1 (Or.inl h4)
  obtain ⟨m10, m1, -⟩ := j2 h4
  unfold klock mlock mmain
  rw [m10, g9, q5, a0, Nat.add_zero, m1]
  rfl
theorem peer_lock1 {sd : Nat} (hp : RPeer sd p a b σ) (h4 : p 3 = 4) : klock b (p 10) = mlock σ sd 1 := by
  obtain ⟨⟨-, -, -, -, -, q5, -⟩, -, -, -, ⟨-, b0⟩, j1, j2⟩ := hp
  obtain ⟨-, -, -, -, g9⟩ := j1 (Or.inl h4)
  obtain ⟨m10, -, m2, -⟩ := j2 h4
  unfold klock mlock mmain
  rw [m10, g9, q5, b0, m2]
  rfl
theorem peer_b0 (hp : RPeer 0 p a b σ) (v : Int32) (hv : v = b 2 + 1) (h4 : p 3 = 4) : RPeer 0 p a (upd b 2 (b 2 + 1)) (su σ 11 1 v) := by
  obtain ⟨h1, h2, h3, h5, h6, j1, j2⟩ := hp
  obtain ⟨m10, m1, m2, m3, m4⟩ := j2 h4
  exact ⟨h1, h2, h3, h5, h6, j1, fun _ => ⟨m10, m1, m2, m3, hv⟩⟩
theorem peer_a1 (hp : RPeer 1 p a b σ) (v : Int32) (hv : v = a 2 + 1) (h4 : p 3 = 4) : RPeer 1 p (upd a 2 (a 2 + 1)) b (su σ 11 2 v) := by
  obtain ⟨h1, h2, h3, h5, h6, j1, j2⟩ := hp
  obtain ⟨m10, m1, m2, m3, m4⟩ := j2 h4
  exact ⟨h1, h2, h3, h5, h6, j1, fun _ => ⟨m10, m1, m2, hv, m4⟩⟩
theorem kin999s {v : Int32} : (if kinL v.toInt64 0 999 = 0 then True else False) ↔ (v < 0 ∨ 999 < v) := by
  rw [kinC 0 999]
  by_cases h1 : v < 0
  · simp [h1]
  · by_cases h2 : 999 < v
    · simp [h1, h2]
    · simp [h1, h2]
theorem rel_say0 (h : Rel n nw c t p a b s N B T r a2 b2 rp M rq M2 Y zf x xl σ) {L : Nat} {Mn : Nat → Nat} {f : kF} (hL : rq 1 = nI L) (hL8 : L ≤ 8) (hM : Mn 1 = L) (v : Int32) : (ksay L p b f rq M2 v).1 = (msay σ 0 v Mn).1 ∧ Rel (n + 1) nw c t p a (ksay L p b f rq M2 v).2.1 s N B T r a2 b2 rp M (ksay L p b f rq M2 v).2.2.2.1 (ksay L p b f rq M2 v).2.2.2.2 Y zf x xl (msay σ 0 v Mn).2 := by
  unfold ksay msay msayX
  rw [if_pos (show (0 : Int32) = 0 from rfl), kinC 0 999, hM, h.p.1.2.2.2.1]
  by_cases h1 : v < 0
  · simp only [h1, ↓reduceIte]; exact ⟨by trivial, h.up⟩
  by_cases h2 : 999 < v
  · simp only [h1, h2, Int32.not_le.mpr h2, ↓reduceIte]; exact ⟨by trivial, h.up⟩
  by_cases h4 : p 3 = 4
  · simp only [h1, h2, Int32.not_lt.mp h2, h4, show ¬ ((1 : Int32) = 0) from by decide, ↓reduceIte]
    have hl := peer_lock1 h.p h4
    have h2c : σ 11 (2 * 0 + 1) = b 2 := (h.p.2.2.2.2.2.2 h4).2.2.2.2
    have ev : kveil b (p 10) v = msayV σ 0 1 v := by
      unfold kveil msayV
      rw [hl, h2c]
    have et : ktag b (p 10) (kveil b (p 10) v) = kmix (kmix (mlock σ 0 1) (msayV σ 0 1 v)) (σ 11 (2 * 0 + 1)) := by
      unfold ktag
      rw [hl, h2c, ev]
    have hs := rel_send1 (g := klet p b f v) (rel_su29 (rel_su29 (rel_clr h.up 6) 1 (msayV σ 0 1 v)) 2 (kmix (kmix (mlock σ 0 1) (msayV σ 0 1 v)) (σ 11 (2 * 0 + 1)))) hL hL8 (by
      unfold klet
      rw [et, ev]
      exact ((E9.beg 6).put 1 _).put 2 _)
    exact ⟨ev, ⟨hs.now, hs.cli, peer_b0 hs.p _ (by rw [h2c]) h4, hs.srv, hs.r, hs.rc, hs.rs, hs.cop, hs.txt, hs.gone⟩⟩
  · simp only [h1, h2, Int32.not_lt.mp h2, h4, show ¬ ((1 : Int32) = 0) from by decide, ↓reduceIte]; exact ⟨by trivial, h.up⟩
theorem rel_say1 (h : Rel n nw c t p a b s N B T r a2 b2 rp M rq M2 Y zf x xl σ) {L : Nat} {Mn : Nat → Nat} {f : kF} (hL : rp 1 = nI L) (hL8 : L ≤ 8) (hM : Mn 0 = L) (v : Int32) : (ksay L r a2 f rp M v).1 = (msay σ 1 v Mn).1 ∧ Rel (n + 1) nw c t p a b s N B T r (ksay L r a2 f rp M v).2.1 b2 (ksay L r a2 f rp M v).2.2.2.1 (ksay L r a2 f rp M v).2.2.2.2 rq M2 Y zf x xl (msay σ 1 v Mn).2 := by
  unfold ksay msay msayX
  rw [if_neg (show ¬ (1 : Int32) = 0 from by decide), if_pos (show (1 : Int32) = 1 from rfl), kinC 0 999, hM, h.r.1.2.2.2.1]
  by_cases h1 : v < 0
  · simp only [h1, ↓reduceIte]; exact ⟨by trivial, h.up⟩
  by_cases h2 : 999 < v
  · simp only [h1, h2, Int32.not_le.mpr h2, ↓reduceIte]; exact ⟨by trivial, h.up⟩
  by_cases h4 : r 3 = 4
  · simp only [h1, h2, Int32.not_lt.mp h2, h4, show ¬ ((1 : Int32) = 0) from by decide, ↓reduceIte]
    have hl := peer_lock0 h.r h4
    have h2c : σ 11 (2 * 1 + 0) = a2 2 := (h.r.2.2.2.2.2.2 h4).2.2.2.1
    have ev : kveil a2 (r 10) v = msayV σ 1 0 v := by
      unfold kveil msayV
      rw [hl, h2c]
    have et : ktag a2 (r 10) (kveil a2 (r 10) v) = kmix (kmix (mlock σ 1 0) (msayV σ 1 0 v)) (σ 11 (2 * 1 + 0)) := by
      unfold ktag
      rw [hl, h2c, ev]
    have hs := rel_send0 (g := klet r a2 f v) (rel_su29 (rel_su29 (rel_clr h.up 6) 1 (msayV σ 1 0 v)) 2 (kmix (kmix (mlock σ 1 0) (msayV σ 1 0 v)) (σ 11 (2 * 1 + 0)))) hL hL8 (by
      unfold klet
      rw [et, ev]
      exact ((E9.beg 6).put 1 _).put 2 _)
    exact ⟨ev, ⟨hs.now, hs.cli, hs.p, hs.srv, peer_a1 hs.r _ (by rw [h2c]) h4, hs.rc, hs.rs, hs.cop, hs.txt, hs.gone⟩⟩
  · simp only [h1, h2, Int32.not_lt.mp h2, h4, show ¬ ((1 : Int32) = 0) from by decide, ↓reduceIte]; exact ⟨by trivial, h.up⟩
theorem msay_no {i v : Int32} {Mn : Nat → Nat} (h0 : ¬ i = 0) (h1 : ¬ i = 1) : msay σ i v Mn = (-2, σ) := by
  unfold msay
  rw [if_neg h0, if_neg h1]
theorem mupdate_no {i : Int32} {Mn : Nat → Nat} (h0 : ¬ i = 0) (h1 : ¬ i = 1) : mupdate σ i Mn = (-2, σ) := by
  unfold mupdate
  rw [if_neg h0, if_neg h1]
theorem peer_ub0 (hp : RPeer 0 p a b σ) (v w : Int32) (hv : v = b 2 + 1) (hw : w = b 1 + 1) (h4 : p 3 = 4) : RPeer 0 p a (upd (upd b 1 (b 1 + 1)) 2 (b 2 + 1)) (su (su σ 11 1 v) 10 1 w) := by
  obtain ⟨h1, h2, h3, h5, h6, j1, j2⟩ := hp
  obtain ⟨m10, m1, m2, m3, m4⟩ := j2 h4
  exact ⟨h1, h2, h3, h5, h6, j1, fun _ => ⟨m10, m1, hw, m3, hv⟩⟩
theorem peer_ua1 (hp : RPeer 1 p a b σ) (v w : Int32) (hv : v = a 2 + 1) (hw : w = a 1 + 1) (h4 : p 3 = 4) : RPeer 1 p (upd (upd a 1 (a 1 + 1)) 2 (a 2 + 1)) b (su (su σ 11 2 v) 10 2 w) := by
  obtain ⟨h1, h2, h3, h5, h6, j1, j2⟩ := hp
  obtain ⟨m10, m1, m2, m3, m4⟩ := j2 h4
  exact ⟨h1, h2, h3, h5, h6, j1, fun _ => ⟨m10, hw, m2, hv, m4⟩⟩
theorem rel_update0 (h : Rel n nw c t p a b s N B T r a2 b2 rp M rq M2 Y zf x xl σ) {L : Nat} {Mn : Nat → Nat} {f : kF} (hL : rq 1 = nI L) (hL8 : L ≤ 8) (hM : Mn 1 = L) : (kupdate L p b f rq M2).1 = (mupdate σ 0 Mn).1 ∧ Rel (n + 1) nw c t p a (kupdate L p b f rq M2).2.1 s N B T r a2 b2 rp M (kupdate L p b f rq M2).2.2.2.1 (kupdate L p b f rq M2).2.2.2.2 Y zf x xl (mupdate σ 0 Mn).2 := by
  unfold kupdate mupdate mupdX
  rw [if_pos (show (0 : Int32) = 0 from rfl), hM, h.p.1.2.2.2.1]
  by_cases h4 : p 3 = 4
  · simp only [h4, ↓reduceIte]
    have hl := peer_lock1 h.p h4
    have h2c : σ 11 (2 * 0 + 1) = b 2 := (h.p.2.2.2.2.2.2 h4).2.2.2.2
    have h1c : σ 10 (2 * 0 + 1) = b 1 := (h.p.2.2.2.2.2.2 h4).2.2.1
    have et : ktag b (p 10) (-1) = kmix (kmix (mlock σ 0 1) (-1)) (σ 11 (2 * 0 + 1)) := by
      unfold ktag
      rw [hl, h2c]
    have hs := rel_send1 (g := kupm p b f) (rel_su29 (rel_clr h.up 7) 1 (kmix (kmix (mlock σ 0 1) (-1)) (σ 11 (2 * 0 + 1)))) hL hL8 (by
      unfold kupm
      rw [et]
      exact (E9.beg 7).put 1 _)
    exact ⟨by rw [h1c], ⟨hs.now, hs.cli, peer_ub0 hs.p _ _ (by rw [h2c]) (by rw [h1c]) h4, hs.srv, hs.r, hs.rc, hs.rs, hs.cop, hs.txt, hs.gone⟩⟩
  · simp only [h4, ↓reduceIte]; exact ⟨by trivial, h.up⟩
theorem rel_update1 (h : Rel n nw c t p a b s N B T r a2 b2 rp M rq M2 Y zf x xl σ) {L : Nat} {Mn : Nat → Nat} {f : kF} (hL : rp 1 = nI L) (hL8 : L ≤ 8) (hM : Mn 0 = L) : (kupdate L r a2 f rp M).1 = (mupdate σ 1 Mn).1 ∧ Rel (n + 1) nw c t p a b s N B T r (kupdate L r a2 f rp M).2.1 b2 (kupdate L r a2 f rp M).2.2.2.1 (kupdate L r a2 f rp M).2.2.2.2 rq M2 Y zf x xl (mupdate σ 1 Mn).2 := by
  unfold kupdate mupdate mupdX
  rw [if_neg (show ¬ (1 : Int32) = 0 from by decide), if_pos (show (1 : Int32) = 1 from rfl), hM, h.r.1.2.2.2.1]
  by_cases h4 : r 3 = 4
  · simp only [h4, ↓reduceIte]
    have hl := peer_lock0 h.r h4
    have h2c : σ 11 (2 * 1 + 0) = a2 2 := (h.r.2.2.2.2.2.2 h4).2.2.2.1
    have h1c : σ 10 (2 * 1 + 0) = a2 1 := (h.r.2.2.2.2.2.2 h4).2.1
    have et : ktag a2 (r 10) (-1) = kmix (kmix (mlock σ 1 0) (-1)) (σ 11 (2 * 1 + 0)) := by
      unfold ktag
      rw [hl, h2c]
    have hs := rel_send0 (g := kupm r a2 f) (rel_su29 (rel_clr h.up 7) 1 (kmix (kmix (mlock σ 1 0) (-1)) (σ 11 (2 * 1 + 0)))) hL hL8 (by
      unfold kupm
      rw [et]
      exact (E9.beg 7).put 1 _)
    exact ⟨by rw [h1c], ⟨hs.now, hs.cli, hs.p, hs.srv, peer_ua1 hs.r _ _ (by rw [h2c]) (by rw [h1c]) h4, hs.rc, hs.rs, hs.cop, hs.txt, hs.gone⟩⟩
  · simp only [h4, ↓reduceIte]; exact ⟨by trivial, h.up⟩
/-- a side takes a message in -/
theorem peer_take0 (hp : RPeer 0 p a b σ) (h3 : ¬ p 3 = 4) {g : kF} {k : Nat} (hk : (if g 0 = 3 then 7 else 9) = k) (hg : E9 g (σ 29)) (hk9 : k ≤ 9) : RPeer 0 (ktake p g) a b (mtakes σ 0 k) := by
  obtain ⟨⟨q0, q1, q2, q3, q4, q5, q6⟩, h2, h3', h5, h6, j1, j2⟩ := hp
  refine ⟨⟨q0, q1, q2, q3, q4, ?_, q6⟩, h2, h3', h5, h6, j1, fun z => absurd z h3⟩
  show kmixN (σ 29) (σ 5 0) k = kmixN g (p 5) (if g 0 = 3 then 7 else 9)
  rw [hk, q5]
  exact (hg.mix _ hk9).symm
theorem peer_take1 (hp : RPeer 1 p a b σ) (h3 : ¬ p 3 = 4) {g : kF} {k : Nat} (hk : (if g 0 = 3 then 7 else 9) = k) (hg : E9 g (σ 29)) (hk9 : k ≤ 9) : RPeer 1 (ktake p g) a b (mtakes σ 1 k) := by
  obtain ⟨⟨q0, q1, q2, q3, q4, q5, q6⟩, h2, h3', h5, h6, j1, j2⟩ := hp
  refine ⟨⟨q0, q1, q2, q3, q4, ?_, q6⟩, h2, h3', h5, h6, j1, fun z => absurd z h3⟩
  show kmixN (σ 29) (σ 5 1) k = kmixN g (p 5) (if g 0 = 3 then 7 else 9)
  rw [hk, q5]
  exact (hg.mix _ hk9).symm
theorem rel_take0 (h : Rel n nw c t p a b s N B T r a2 b2 rp M rq M2 Y zf x xl σ) (h3 : ¬ p 3 = 4) {g : kF} {k : Nat} (hk : (if g 0 = 3 then 7 else 9) = k) (hg : E9 g (σ 29)) (hk9 : k ≤ 9) : Rel n nw c t (ktake p g) a b s N B T r a2 b2 rp M rq M2 Y zf x xl (mtakes σ 0 k) := ⟨h.now, h.cli, peer_take0 h.p h3 hk hg hk9, h.srv, h.r, h.rc, h.rs, h.cop, h.txt, h.gone⟩
theorem rel_take1 (h : Rel n nw c t p a b s N B T r a2 b2 rp M rq M2 Y zf x xl σ) (h3 : ¬ r 3 = 4) {g : kF} {k : Nat} (hk : (if g 0 = 3 then 7 else 9) = k) (hg : E9 g (σ 29)) (hk9 : k ≤ 9) : Rel n nw c t p a b s N B T (ktake r g) a2 b2 rp M rq M2 Y zf x xl (mtakes σ 1 k) := ⟨h.now, h.cli, h.p, h.srv, peer_take1 h.r h3 hk hg hk9, h.rc, h.rs, h.cop, h.txt, h.gone⟩
/-- the greeting's first message -/
theorem ask_29 (h : Rel n nw c t p a b s N B T r a2 b2 rp M rq M2 Y zf x xl σ) {S : Nat} (hS : p 2 = nI S) (hS2 : S ≤ 999) (f : kF) (g : Int32) : E9 (kaskF c p t f g (nw 8)) (mhelX σ g S 29) := by
  obtain ⟨⟨c12, c13, c15, t0, t1, t2, t3, t4, c16, c17, c18, c19⟩, b2', b5, b7, -⟩ := h.cli
  obtain ⟨⟨p0, p1, p2, p3, p4, p5, -⟩, -⟩ := h.p
  obtain ⟨w, -, w1, w2⟩ := h.now
  have sh : kshareC g (p 2) = mshare g S := kshare_eq hS (by omega)
  have base : ∀ (τ : kS) (ht : Int32), E9 (upd (upd (upd (upd (kbeg f 1) 1 (p 0)) 2 (p 1)) 3 g) 4 (mshare g S)) (upd (upd (upd (upd (kbeg (σ 29) 1) 1 (p 0)) 2 (p 1)) 3 g) 4 (mshare g S)) := fun _ _ => ((((E9.beg 1).put 1 _).put 2 _).put 3 _).put 4 _
  unfold kaskF kaskG mhelX
  rw [sh, c15]
  rcases b2' with z | z
  · rw [if_pos z, if_pos z, if_neg (by rw [z]; decide)]
    show E9 _ (upd (upd (upd (upd (upd (kbeg (σ 29) 1) 1 (σ 0 0)) 2 (σ 1 0)) 3 g) 4 (mshare g S)) 8 (-1))
    rw [p0, p1]
    exact (base σ 0).put 8 _
  · rw [if_neg (by rw [z]; decide), if_neg (by rw [z]; decide), if_pos z]
    have e5 : σ 15 1 = t 0 := t0
    have e6 : σ 14 0 - σ 15 3 + σ 15 5 = nw 8 - t 2 + t 4 := by rw [w2, t2, t4, ← w1]
    have e8 : (if σ 19 0 = 0 then σ 13 0 else -1) = (if c 5 = 0 then c 4 else -1) := by rw [c19, c13]
    -- the reference's numbers, the eighth set at first
    have hm2 : mhel2 σ (mhel1 σ g S 1) 29 = upd (upd (upd (upd (upd (upd (upd (kbeg (σ 29) 1) 1 (p 0)) 2 (p 1)) 3 g) 4 (mshare g S)) 8 (-1)) 5 (t 0)) 6 (nw 8 - t 2 + t 4) := by
      show upd (upd (upd (upd (upd (upd (upd (kbeg (σ 29) 1) 1 (σ 0 0)) 2 (σ 1 0)) 3 g) 4 (mshare g S)) 8 (-1)) 5 (σ 15 1)) 6 (σ 14 0 - σ 15 3 + σ 15 5) = _
      rw [p0, p1, e5, e6]
    have hb : kbind (t 3) (p 5) (upd (upd (upd (upd (upd (upd (kbeg f 1) 1 (p 0)) 2 (p 1)) 3 g) 4 (mshare g S)) 5 (t 0)) 6 (nw 8 - t 2 + t 4)) = kbind (σ 15 4) (σ 5 0) (mhel2 σ (mhel1 σ g S 1) 29) := by
      rw [t3, p5, hm2]
      refine kmixN_eq 7 (fun i hi => ?_)
      have q := (base σ 0) i (by omega)
      simp only [upd] at q ⊢
      by_cases i6 : i = 6
      · rw [if_pos i6, if_pos i6]
      · rw [if_neg i6, if_neg i6]
        by_cases i5 : i = 5
        · rw [if_pos i5, if_pos i5]
        · rw [if_neg i5, if_neg i5, if_neg (show ¬ i = 8 by omega)]
          exact q
    show E9 _ (upd (upd (mhel2 σ (mhel1 σ g S 1) 29) 7 (kbind (σ 15 4) (σ 5 0) (mhel2 σ (mhel1 σ g S 1) 29))) 8 (if σ 19 0 = 0 then σ 13 0 else -1))
    rw [hb, e8]
    intro i hi
    have q := (base σ 0) i hi
    rw [hm2]
    generalize kbind (σ 15 4) (σ 5 0) _ = kb
    simp only [upd] at q ⊢
    by_cases i8 : i = 8
    · rw [if_pos i8, if_pos i8]
    · rw [if_neg i8, if_neg i8]
      by_cases i7 : i = 7
      · rw [if_pos i7, if_pos i7]
      · rw [if_neg i7, if_neg i7]
        by_cases i6 : i = 6
        · rw [if_pos i6, if_pos i6]
        · rw [if_neg i6, if_neg i6]
          by_cases i5 : i = 5
          · rw [if_pos i5, if_pos i5]
          · rw [if_neg i5, if_neg i5, if_neg i8]
            exact q
theorem rel_askX (h : Rel n nw c t p a b s N B T r a2 b2 rp M rq M2 Y zf x xl σ) {S : Nat} (g : Int32) : Rel n nw (kaskC c t g) t p a b s N B T r a2 b2 rp M rq M2 Y zf x xl (mhelX σ g S) := by
  obtain ⟨⟨c12, c13, c15, t0, t1, t2, t3, t4, c16, c17, c18, c19⟩, b2', b5, b7, b3⟩ := h.cli
  have c2 : ∀ (τ : kS), τ 12 = σ 12 → τ 13 = σ 13 → τ 15 = σ 15 → τ 16 0 = g → τ 17 0 = c 2 → τ 18 0 = σ 15 4 → τ 19 = σ 19 → RCli (kaskC c t g) t τ := by
    intro τ e12 e13 e15 e16 e17 e18 e19
    refine ⟨⟨?_, ?_, ?_, ?_, ?_, ?_, ?_, ?_, e16, e17, e18.trans t3, ?_⟩, b2', b5, b2', b3⟩
    · rw [e12]; exact c12
    · rw [e13]; exact c13
    · rw [e15]; exact c15
    · rw [e15]; exact t0
    · rw [e15]; exact t1
    · rw [e15]; exact t2
    · rw [e15]; exact t3
    · rw [e15]; exact t4
    · rw [e19]; exact c19
  unfold mhelX
  rcases b2' with z | z
  · rw [if_neg (by rw [c15, z]; decide)]
    exact ⟨h.now, c2 _ rfl rfl rfl rfl z.symm rfl rfl, h.p, h.srv, h.r, h.rc, h.rs, h.cop, h.txt, h.gone⟩
  · rw [if_pos (by rw [c15, z])]
    exact ⟨h.now, c2 _ rfl rfl rfl rfl z.symm rfl rfl, h.p, h.srv, h.r, h.rc, h.rs, h.cop, h.txt, h.gone⟩
theorem kaskF_0 {f : kF} {g now : Int32} : kaskF c p t f g now 0 = 1 := by
  unfold kaskF kaskG
  split <;> rfl
theorem rel_ask (h : Rel n nw c t p a b s N B T r a2 b2 rp M rq M2 Y zf x xl σ) (h3 : ¬ p 3 = 4) {S L : Nat} (hS : p 2 = nI S) (hS2 : S ≤ 999) (hL : rq 1 = nI L) (hL8 : L ≤ 8) (f : kF) (g : Int32) : Rel n nw (kaskC c t g) t (ktake p (kaskF c p t f g (nw 8))) a b s N B T r a2 b2 rp M (ksendP L rq) (ksendM L M2 (kaskF c p t f g (nw 8))) Y zf x xl (mhello σ g S L) := by
  have e9 := ask_29 h hS hS2 f g
  have h1 := rel_askX h (S := S) g
  have h2 := rel_take0 h1 h3 (g := kaskF c p t f g (nw 8)) (k := 9) (by rw [kaskF_0]; rfl) e9 (by omega)
  exact rel_send1 h2 hL hL8 e9
theorem rel_hello (h : Rel n nw c t p a b s N B T r a2 b2 rp M rq M2 Y zf x xl σ) {S Mn : Nat → Nat} {L : Nat} {f : kF} (hL : rq 1 = nI L) (hL8 : L ≤ 8) (hM : Mn 1 = L) (hS : σ 2 0 = nI (S 0)) (hS2 : S 0 ≤ 999) : (khello L c p t f rq M2 (nw 8)).1 = (mhellR σ S Mn).1 ∧ Rel (n + 1) nw (khello L c p t f rq M2 (nw 8)).2.1 t (khello L c p t f rq M2 (nw 8)).2.2.1 a b s N B T r a2 b2 rp M (khello L c p t f rq M2 (nw 8)).2.2.2.2.1 (khello L c p t f rq M2 (nw 8)).2.2.2.2.2 Y zf x xl (mhellR σ S Mn).2 := by
  unfold khello mhellR
  rw [hM, h.p.1.2.2.2.1]
  by_cases h3 : p 3 = 0
  · simp only [h3, ↓reduceIte]
    have hp := h.p
    have hc := h.cli
    have h0 : Rel (n + 1) nw (upd c 5 0) t (upd p 3 1) a b s N B T r a2 b2 rp M rq M2 Y zf x xl (mhe0 σ) := ⟨h.now.up, ⟨⟨hc.1.1, hc.1.2.1, hc.1.2.2.1, hc.1.2.2.2.1, hc.1.2.2.2.2.1, hc.1.2.2.2.2.2.1, hc.1.2.2.2.2.2.2.1, hc.1.2.2.2.2.2.2.2.1, hc.1.2.2.2.2.2.2.2.2.1, hc.1.2.2.2.2.2.2.2.2.2.1, hc.1.2.2.2.2.2.2.2.2.2.2.1, rfl⟩, hc.2.1, Or.inl rfl, hc.2.2.2.1, hc.2.2.2.2⟩, ⟨⟨hp.1.1, hp.1.2.1, hp.1.2.2.1, rfl, hp.1.2.2.2.2⟩, hp.2.1, hp.2.2.1, hp.2.2.2.1, hp.2.2.2.2.1, fun q => absurd q (show ¬ ((1 : Int32) = 4 ∨ (1 : Int32) = 3) from by decide), fun q => absurd q (show ¬ ((1 : Int32) = 4) from by decide)⟩, h.srv.up, h.r, h.rc, h.rs, h.cop, h.txt, h.gone⟩
    have eg : kgrp0 (upd p 3 1) (upd c 5 0) = (if mhas (σ 1 0) (σ 12 0) = 0 then mleast (σ 1 0) else σ 12 0) := by
      obtain ⟨m, m1, m2, m3⟩ := hp.2.2.1
      obtain ⟨g, g1, g2⟩ := hc.2.2.2.2
      rw [hp.1.2.1, hc.1.1, m3, g2]
      show (if khasG (p 1) (c 3) = 0 then kleast (p 1) else c 3) = _
      rw [m3, g2, khasG_eq m2]
      have hk : ¬ kinL (nI g).toInt64 0 3 = 0 := by
        have : ∀ g, g < 4 → ¬ kinL (nI g).toInt64 0 3 = 0 := by decide +kernel
        exact this g g1
      rw [if_neg hk, kleast16 m m2 m1]
    have hk := rel_ask h0 (show ¬ (1 : Int32) = 4 from by decide) (S := S 0) (L := L) (hp.1.2.2.1.symm.trans hS) hS2 hL hL8 f (if mhas (σ 1 0) (σ 12 0) = 0 then mleast (σ 1 0) else σ 12 0)
    unfold kbeginR kaskR
    rw [eg]
    exact ⟨(road_len hk.rs).symm, hk⟩
  · simp only [h3, ↓reduceIte]; exact ⟨by trivial, h.up⟩
end
