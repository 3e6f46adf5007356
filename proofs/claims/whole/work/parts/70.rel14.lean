/-! the greeting is answered; what comes to the server, whole; its step -/
section
variable {n : Nat} {nw c t p a b s N B : kF} {T : kFF} {r a2 b2 rp : kF} {M : kFF} {rq : kF} {M2 Y : kFF} {zf x xl : kF} {σ : kS}
theorem wrongS_2 {z : kF} {v g : Int32} (h : ¬ 1 ≤ v) : kwrongS r z v g = 2 := by
  unfold kwrongS
  rw [if_neg h]
theorem great8 {x8 : Nat} (h : x8 < 8) : (x8 = 0 ∧ mgreat (nI x8) = -1) ∨ (¬ nI x8 = 0 ∧ (mgreat (nI x8) + 1 = 1 ∨ mgreat (nI x8) + 1 = 2 ∨ mgreat (nI x8) + 1 = 3) ∧ (1 : Int32) ≤ 1 + mgreat (nI x8) ∧ 1 + mgreat (nI x8) = mgreat (nI x8) + 1) := by
  have : ∀ x, x < 8 → (x = 0 ∧ mgreat (nI x) = -1) ∨ (¬ nI x = 0 ∧ (mgreat (nI x) + 1 = 1 ∨ mgreat (nI x) + 1 = 2 ∨ mgreat (nI x) + 1 = 3) ∧ (1 : Int32) ≤ 1 + mgreat (nI x) ∧ 1 + mgreat (nI x) = mgreat (nI x) + 1) := by decide +kernel
  exact this x8 h
/-- a ticket that lives -/
theorem rel_helY (hn : n < 20000) (h : Rel n nw c t p a b s N B T r a2 b2 rp M rq M2 Y zf x xl σ) (hr : r 3 = 0 ∨ r 3 = 2) {z f : kF} (hz : E9 z (σ 29)) (z0 : z 0 = 1) {S L E K j : Nat} {i v g : Int32} (hS : r 2 = nI S) (hS2 : S ≤ 999) (hL : rp 1 = nI L) (hL8 : L ≤ 8) (hE : s 6 = nI E) (hE4 : E ≤ 4) (hK : s 2 = nI K) (hK3 : K ≤ 3) (hj : j < K) (hg : T j 0 = z 5) (hsh : ¬ kisShare (z 4) g = 0) (hv : v = 1 ∨ v = 2 ∨ v = 3) (hi : (i = 0 ↔ r 3 = 0)) :
    Rel n nw c t p a b (khelY L E s N B r f (T j) rp M z (nw 8) v g).1 (khelY L E s N B r f (T j) rp M z (nw 8) v g).2.2.2.1 (khelY L E s N B r f (T j) rp M z (nw 8) v g).2.2.2.2.1 T (khelY L E s N B r f (T j) rp M z (nw 8) v g).2.1 a2 b2 (khelY L E s N B r f (T j) rp M z (nw 8) v g).2.2.2.2.2.1 (khelY L E s N B r f (T j) rp M z (nw 8) v g).2.2.2.2.2.2 rq M2 Y zf x xl (mgrY σ v g i S L E j) := by
  have hf : ¬ (r 3 = 4 ∨ r 3 = 3) := by
    rcases hr with q | q <;> rw [q] <;> decide
  obtain ⟨K', E', m, w, ⟨y1, y2, y3, y4, y5⟩, ⟨k1, k2⟩, ⟨e1, e2⟩, mm, w8, hT, hT0, hT2, hNB, s7, s8⟩ := h.srv
  have eK : K' = K := (nI_eq (by omega) (by omega)).mp (k1.symm.trans hK)
  subst eK
  have e14 : σ 14 0 = nI w := by
    obtain ⟨w', -, q1, q2⟩ := h.now
    rw [q2, ← q1, w8]
  have e3 : σ 22 (5 * j + 3) = T j 3 := hT j hj 3 (by decide)
  have e5 : σ 5 1 = r 5 := h.r.1.2.2.2.2.2.1
  have h01 : σ 0 1 = r 0 := h.r.1.1
  have h294 : σ 29 4 = z 4 := (hz 4 (by decide)).symm
  have eb : kbind (T j 3) (r 5) z = kbind (σ 22 (5 * j + 3)) (σ 5 1) (σ 29) := by
    rw [e3, e5]
    exact hz.bind _ _
  have ee := early_eq (r := r) (i := i) (E := E) (K := K') (w := w) (by omega) hj w8 e14 hT (hT2 j hj) hNB hz hg hi
  unfold khelY mgrY
  rw [eb, hz 7 (by decide), e3]
  by_cases q7 : σ 29 7 = kbind (T j 3) (σ 5 1) (σ 29)
  · rw [if_pos q7, if_pos q7]
    by_cases qe : mearl σ j E i = 0
    · have er : kearlR E s N B r (T j) z (nw 8) = (0, s, N, B) := by
        unfold kearlR
        rw [if_pos (ee.trans qe)]
      rw [er, if_pos (show ((0, s, N, B) : Int32 × kF × kF × kF).1 = 0 from rfl), if_pos qe]
      exact rel_grT h hf hz z0 hS hS2 hL hL8 h294 h01 hsh hv (Or.inr rfl) (Or.inl rfl)
    · have er : kearlR E s N B r (T j) z (nw 8) = (1, kearlS s (z 8), kaddN E s N (T j 0), kaddN E s B (z 7)) := by
        unfold kearlR
        rw [if_neg (fun q => qe (ee.symm.trans q))]
      rw [er, if_neg (show ¬ ((1, kearlS s (z 8), kaddN E s N (T j 0), kaddN E s B (z 7)) : Int32 × kF × kF × kF).1 = 0 from (by decide : ¬ (1 : Int32) = 0)), if_neg qe]
      have hse := rel_sees h hE hE4 hz hg
      have x29 : mgrE σ E 29 = σ 29 := by
        unfold mgrE msees mshN
        split <;> rfl
      have hz2 : E9 z (mgrE σ E 29) := by rw [x29]; exact hz
      exact rel_grT hse hf hz2 z0 hS hS2 hL hL8 h294 h01 hsh hv (Or.inr rfl) (Or.inr rfl)
  · rw [if_neg q7, if_neg q7]
    exact rel_fail1 h 6
/-- the greeting is answered -/
theorem rel_greets (hn : n < 20000) (h : Rel n nw c t p a b s N B T r a2 b2 rp M rq M2 Y zf x xl σ) (hr : r 3 = 0 ∨ r 3 = 2) {z f : kF} (hz : E9 z (σ 29)) (z0 : z 0 = 1) {S L E K : Nat} {i v g : Int32} (hS : r 2 = nI S) (hS2 : S ≤ 999) (hL : rp 1 = nI L) (hL8 : L ≤ 8) (hE : s 6 = nI E) (hE4 : E ≤ 4) (hK : s 2 = nI K) (hK3 : K ≤ 3) (hsh : ¬ kisShare (z 4) g = 0) (hv : v = 1 ∨ v = 2 ∨ v = 3) (hi : (i = 0 ↔ r 3 = 0)) (R : kT7)
    (hR : R = if v = 3 then (if klive s T (z 5) (nw 8) = -1 then khelG L s N B (khelP r z v g 0 0) f rp M 0 else if klive s T (z 5) (nw 8) = 0 then khelY L E s N B r f (T 0) rp M z (nw 8) v g else if klive s T (z 5) (nw 8) = 1 then khelY L E s N B r f (T 1) rp M z (nw 8) v g else khelY L E s N B r f (T 2) rp M z (nw 8) v g) else khelG L s N B (khelP r z v g 0 0) f rp M 0) :
    Rel n nw c t p a b R.1 R.2.2.2.1 R.2.2.2.2.1 T R.2.1 a2 b2 R.2.2.2.2.2.1 R.2.2.2.2.2.2 rq M2 Y zf x xl (mgreets σ v g i S L E K) := by
  have hf : ¬ (r 3 = 4 ∨ r 3 = 3) := by
    rcases hr with q | q <;> rw [q] <;> decide
  have h01 : σ 0 1 = r 0 := h.r.1.1
  have h294 : σ 29 4 = z 4 := (hz 4 (by decide)).symm
  have plain := rel_grT h hf hz z0 (f := f) hS hS2 hL hL8 (val := 0) h294 h01 hsh hv (Or.inl rfl) (Or.inl rfl)
  unfold mgreets
  by_cases v3 : v = 3
  · rw [if_pos v3] at hR
    rw [if_pos v3]
    obtain ⟨K', E', m, w, ⟨y1, y2, y3, y4, y5⟩, ⟨k1, k2⟩, ⟨e1, e2⟩, mm, w8, hT, hT0, hT2, hNB, s7, s8⟩ := h.srv
    have eK : K' = K := (nI_eq (by omega) (by omega)).mp (k1.symm.trans hK)
    subst eK
    have e14 : σ 14 0 = nw 8 := by
      obtain ⟨w', -, q1, q2⟩ := h.now
      rw [q2, q1]
    have z5 : σ 29 5 = z 5 := (hz 5 (by decide)).symm
    rw [z5]
    rcases live_eq (m := m) (by omega) hK3 y3 hK hT hT0 (z 5) (nw 8) with ⟨l1, l2⟩ | ⟨j, hj, l1, l2, l3, l4⟩
    · rw [if_pos l1] at hR
      subst hR
      rcases l2 with l2 | ⟨j, hj, l2, l3⟩
      · rw [if_pos l2]
        exact plain
      · have n1 : ¬ nI j = -1 := nI_nm1 (by omega)
        have ec : (nI j).toNatClampNeg = j := nI_clamp (by omega)
        rw [l2, if_neg n1, ec, if_pos (by rw [e14, hT j hj 2 (by decide), hT j hj 1 (by decide)]; exact Int32.not_le.mp l3)]
        exact plain
    · have n1 : ¬ nI j = -1 := nI_nm1 (by omega)
      have ec : (nI j).toNatClampNeg = j := nI_clamp (by omega)
      rw [l2, if_neg n1, ec, if_neg (by rw [e14, hT j hj 2 (by decide), hT j hj 1 (by decide)]; exact Int32.not_lt.mpr l4)]
      rw [l1, if_neg n1] at hR
      have hY := rel_helY hn h hr hz z0 (f := f) (i := i) (v := v) (g := g) hS hS2 hL hL8 hE hE4 hK hK3 hj l3 hsh hv hi
      rcases (show j = 0 ∨ j = 1 ∨ j = 2 by omega) with rfl | rfl | rfl
      · rw [if_pos (show nI 0 = (0 : Int32) from rfl)] at hR
        subst hR
        exact hY
      · rw [if_neg (show ¬ nI 1 = (0 : Int32) from by decide), if_pos (show nI 1 = (1 : Int32) from rfl)] at hR
        subst hR
        exact hY
      · rw [if_neg (show ¬ nI 2 = (0 : Int32) from by decide), if_neg (show ¬ nI 2 = (1 : Int32) from by decide)] at hR
        subst hR
        exact hY
  · rw [if_neg v3] at hR
    rw [if_neg v3]
    subst hR
    exact plain
/-- a greeting comes -/
theorem rel_chel (hn : n < 20000) (h : Rel n nw c t p a b s N B T r a2 b2 rp M rq M2 Y zf x xl σ) (hr : r 3 = 0 ∨ r 3 = 2) {z f : kF} (hz : E9 z (σ 29)) (z0 : z 0 = 1) {S L E K : Nat} (hS : r 2 = nI S) (hS2 : S ≤ 999) (hL : rp 1 = nI L) (hL8 : L ≤ 8) (hE : s 6 = nI E) (hE4 : E ≤ 4) (hK : s 2 = nI K) (hK3 : K ≤ 3) :
    Rel n nw c t p a b (khelR L E s N B r f T rp M z (nw 8)).1 (khelR L E s N B r f T rp M z (nw 8)).2.2.2.1 (khelR L E s N B r f T rp M z (nw 8)).2.2.2.2.1 T (khelR L E s N B r f T rp M z (nw 8)).2.1 a2 b2 (khelR L E s N B r f T rp M z (nw 8)).2.2.2.2.2.1 (khelR L E s N B r f T rp M z (nw 8)).2.2.2.2.2.2 rq M2 Y zf x xl (mchel σ S L E K) := by
  have h3 : ¬ r 3 = 4 := by
    rcases hr with q | q <;> rw [q] <;> decide
  obtain ⟨mv, v1, v2, v3⟩ := h.r.2.1
  obtain ⟨mg, g1, g2, g3⟩ := h.r.2.2.1
  have h01 : σ 0 1 = nI mv := h.r.1.1.trans v3
  have h11 : σ 1 1 = nI mg := h.r.1.2.1.trans g3
  have h31 : σ 3 1 = r 3 := h.r.1.2.2.2.1
  obtain ⟨x1, x18, ex1⟩ := and_small (z 1) v2
  obtain ⟨x2, x28, ex2⟩ := and_small16 (z 2) g2
  have eV : kver r z = 1 + mgreat (nI x1) := by
    unfold kver
    rw [v3, ex1, kgreat16 x1 (by omega)]
  have eG : klik r z = mgreat (nI x2) := by
    unfold klik
    rw [g3, ex2, kgreat16 x2 x28]
  have q1 : σ 29 1 &&& σ 0 1 = nI x1 := by rw [← hz 1 (by decide), h01, ex1]
  have q2 : σ 29 2 &&& σ 1 1 = nI x2 := by rw [← hz 2 (by decide), h11, ex2]
  have q3 : σ 29 3 = z 3 := (hz 3 (by decide)).symm
  have q4 : σ 29 4 = z 4 := (hz 4 (by decide)).symm
  unfold mchel mhlG
  rw [q1, q2, q3, q4, h31]
  unfold khelR
  rw [eV, eG]
  rcases great8 x18 with ⟨y0, y1⟩ | ⟨y0, yv, y1, y2⟩
  · rw [y1, if_pos (show nI x1 = 0 by rw [y0]; rfl)]
    have w2 : kwrongS r z (1 + -1) (mgreat (nI x2)) = 2 := wrongS_2 (by decide)
    rw [w2, if_neg (show ¬ (2 : Int32) = 0 from by decide)]
    exact rel_fail1 h 2
  · rw [if_neg y0, y2]
    rw [y2] at y1
    generalize mgreat (nI x1) + 1 = v at yv y1
    generalize mgreat (nI x2) = g
    unfold kwrongS
    rw [if_pos y1]
    by_cases w1 : g = -1
    · rw [if_pos w1, if_pos w1, if_neg (show ¬ (3 : Int32) = 0 from by decide)]
      exact rel_fail1 h 3
    rw [if_neg w1, if_neg w1]
    have shr : kinL (z 4).toInt64 1 (kprime g - 1).toInt64 = kisShare (z 4) g := (kisShare_eq _ _).symm
    rw [shr]
    by_cases w3 : z 3 = g
    · rw [if_pos w3, if_pos w3, if_pos w3, if_pos w3, if_pos w3]
      by_cases w4 : kisShare (z 4) g = 0
      · rw [if_pos w4, if_pos w4, if_pos w4, if_neg (show ¬ (5 : Int32) = 0 from by decide)]
        rcases hr with qr | qr
        · rw [if_neg (show ¬ r 3 = 2 by rw [qr]; decide)]
          exact rel_fail1 h 5
        · rw [if_pos qr]
          exact rel_fail1 h 5
      · rw [if_neg w4, if_neg w4, if_neg w4, if_pos (show (0 : Int32) = 0 from rfl)]
        rcases hr with qr | qr
        · rw [if_neg (show ¬ r 3 = 2 by rw [qr]; decide)]
          exact rel_greets hn h (Or.inl qr) hz z0 (f := f) (i := 0) (K := K) hS hS2 hL hL8 hE hE4 hK hK3 w4 yv ⟨fun _ => qr, fun _ => rfl⟩ _ rfl
        · rw [if_pos qr]
          exact rel_greets hn h (Or.inr qr) hz z0 (f := f) (i := 1) (K := K) hS hS2 hL hL8 hE hE4 hK hK3 w4 yv ⟨fun q => absurd q (by decide), fun q => absurd (qr.symm.trans q) (by decide)⟩ _ rfl
    · rw [if_neg w3, if_neg w3, if_neg w3, if_neg w3]
      rcases hr with qr | qr
      · rw [if_pos qr, if_neg (show ¬ r 3 = 2 by rw [qr]; decide), if_pos (show (0 : Int32) = 0 from rfl)]
        exact rel_reask h h3 hz z0 hL hL8 g
      · rw [if_neg (show ¬ r 3 = 0 by rw [qr]; decide), if_pos qr, if_neg (show ¬ (4 : Int32) = 0 from by decide)]
        exact rel_fail1 h 4
end
