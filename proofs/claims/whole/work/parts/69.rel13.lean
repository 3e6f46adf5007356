/-! tickets that live, letters that come early -/
theorem age_eq (v u : Int32) (h0 : 0 ≤ u.toInt) (h1 : u.toInt ≤ 1073741824) : kinL (v.toInt64 - u.toInt64) (-2) 2 = if v - u < -2 then 0 else if 2 < v - u then 0 else 1 := by
  have hv1 := Int32.le_toInt v
  have hv2 := Int32.toInt_lt v
  have eL : (v.toInt64 - u.toInt64).toInt = v.toInt - u.toInt := by
    rw [Int64.toInt_sub, Int32.toInt_toInt64, Int32.toInt_toInt64]
    simp only [Int.bmod]
    split <;> omega
  have eI : (v - u).toInt = (v.toInt - u.toInt).bmod (2 ^ 32) := Int32.toInt_sub v u
  have c2 : (-2 : Int64).toInt = -2 := by decide
  have d2 : (2 : Int64).toInt = 2 := by decide
  have a2 : (-2 : Int32).toInt = -2 := by decide
  have b2 : (2 : Int32).toInt = 2 := by decide
  have k1 : (lg_cmp (v.toInt64 - u.toInt64) (-2) < 0) ↔ v.toInt - u.toInt < -2 := by
    unfold lg_cmp
    simp only [gt_iff_lt, Int64.lt_iff_toInt_lt, ← Int64.toInt_inj, eL, c2]
    split
    · constructor
      · intro h; exact absurd h (by decide)
      · intro h; omega
    · split
      · constructor
        · intro h; exact absurd h (by decide)
        · intro h; omega
      · constructor
        · intro _; omega
        · intro _; decide
  have k2 : (0 < lg_cmp (v.toInt64 - u.toInt64) 2) ↔ 2 < v.toInt - u.toInt := by
    unfold lg_cmp
    simp only [gt_iff_lt, Int64.lt_iff_toInt_lt, ← Int64.toInt_inj, eL, d2]
    split
    · constructor
      · intro _; omega
      · intro _; decide
    · split
      · constructor
        · intro h; exact absurd h (by decide)
        · intro h; omega
      · constructor
        · intro h; exact absurd h (by decide)
        · intro h; omega
  have k3 : (v - u < -2) ↔ (v - u).toInt < -2 := by rw [Int32.lt_iff_toInt_lt, a2]
  have k4 : (2 < v - u) ↔ 2 < (v - u).toInt := by rw [Int32.lt_iff_toInt_lt, b2]
  unfold kinL
  simp only [k1, k2, k3, k4, eI]
  simp only [Int.bmod]
  by_cases q1 : v.toInt - u.toInt < -2
  · rw [if_pos q1]
    by_cases q2 : v.toInt - u.toInt < -2147483648
    · rw [if_neg, if_pos]
      · split <;> omega
      · split <;> omega
    · rw [if_pos]
      split <;> omega
  · rw [if_neg q1, if_neg (show ¬ (if (v.toInt - u.toInt) % (2 ^ 32 : Nat) < ((2 ^ 32 : Nat) + 1) / 2 then (v.toInt - u.toInt) % (2 ^ 32 : Nat) else (v.toInt - u.toInt) % (2 ^ 32 : Nat) - (2 ^ 32 : Nat)) < -2 by split <;> omega)]
    by_cases q3 : 2 < v.toInt - u.toInt
    · rw [if_pos q3, if_pos]
      split <;> omega
    · rw [if_neg q3, if_neg]
      split <;> omega
section
variable {n : Nat} {nw c t p a b s N B : kF} {T : kFF} {r a2 b2 rp : kF} {M : kFF} {rq : kF} {M2 Y : kFF} {zf x xl : kF} {σ : kS}
/-- the class's living ticket, the reference's place and test -/
theorem live_eq {K m : Nat} (hm : m < 20000) (hK : K ≤ 3) (hKm : K ≤ m) (k1 : s 2 = nI K) (hT : ∀ i, i < K → ∀ j, j < 5 → σ 22 (5 * i + j) = T i j) (hT0 : ∀ i, i < K → T i 0 = nI (m - K + 1 + i)) (g now : Int32) :
    (klive s T g now = -1 ∧ (mtof σ g K = -1 ∨ ∃ j, j < K ∧ mtof σ g K = nI j ∧ ¬ now - T j 2 ≤ T j 1)) ∨ (∃ j, j < K ∧ klive s T g now = nI j ∧ mtof σ g K = nI j ∧ T j 0 = g ∧ now - T j 2 ≤ T j 1) := by
  have ne : ∀ i j, i < K → j < K → i ≠ j → ¬ T i 0 = T j 0 := by
    intro i j hi hj hij q
    rw [hT0 i hi, hT0 j hj] at q
    have := (nI_eq (by omega) (by omega)).mp q
    omega
  have e : ∀ i, i < K → σ 22 (5 * i) = T i 0 := fun i hi => hT i hi 0 (by decide)
  rcases (show K = 0 ∨ K = 1 ∨ K = 2 ∨ K = 3 by omega) with rfl | rfl | rfl | rfl
  · refine Or.inl ⟨?_, Or.inl rfl⟩
    unfold klive
    rw [k1, if_pos (show nI 0 ≤ (0 : Int32) from by decide)]
  · have l0 : ¬ nI 1 ≤ (0 : Int32) := by decide
    have l1 : nI 1 ≤ (1 : Int32) := by decide
    have mt : mtof σ g 1 = if T 0 0 = g then nI 0 else -1 := by
      show (if σ 22 (5 * 0) = g then nI 0 else -1) = _
      rw [e 0 (by decide)]
    unfold klive
    rw [k1, if_neg l0, if_pos l1, mt]
    by_cases q0 : T 0 0 = g
    · rw [if_pos q0, if_pos q0]
      by_cases v0 : now - T 0 2 ≤ T 0 1
      · rw [if_pos v0]
        exact Or.inr ⟨0, by omega, rfl, rfl, q0, v0⟩
      · rw [if_neg v0]
        exact Or.inl ⟨rfl, Or.inr ⟨0, by omega, rfl, v0⟩⟩
    · rw [if_neg q0, if_neg q0]
      exact Or.inl ⟨rfl, Or.inl rfl⟩
  · have l0 : ¬ nI 2 ≤ (0 : Int32) := by decide
    have l1 : ¬ nI 2 ≤ (1 : Int32) := by decide
    have l2 : nI 2 ≤ (2 : Int32) := by decide
    have mt : mtof σ g 2 = if T 1 0 = g then nI 1 else if T 0 0 = g then nI 0 else -1 := by
      show (if σ 22 (5 * 1) = g then nI 1 else if σ 22 (5 * 0) = g then nI 0 else -1) = _
      rw [e 0 (by decide), e 1 (by decide)]
    unfold klive
    rw [k1, if_neg l0, if_neg l1, if_pos l2, mt]
    by_cases q0 : T 0 0 = g
    · have q1 : ¬ T 1 0 = g := fun q => ne 0 1 (by decide) (by decide) (by decide) (q0.trans q.symm)
      rw [if_pos q0, if_neg q1, if_pos q0]
      by_cases v0 : now - T 0 2 ≤ T 0 1
      · rw [if_pos v0]
        exact Or.inr ⟨0, by omega, rfl, rfl, q0, v0⟩
      · rw [if_neg v0]
        exact Or.inl ⟨rfl, Or.inr ⟨0, by omega, rfl, v0⟩⟩
    · rw [if_neg q0]
      by_cases q1 : T 1 0 = g
      · rw [if_pos q1, if_pos q1]
        by_cases v0 : now - T 1 2 ≤ T 1 1
        · rw [if_pos v0]
          exact Or.inr ⟨1, by omega, rfl, rfl, q1, v0⟩
        · rw [if_neg v0]
          exact Or.inl ⟨rfl, Or.inr ⟨1, by omega, rfl, v0⟩⟩
      · rw [if_neg q1, if_neg q1, if_neg q0]
        exact Or.inl ⟨rfl, Or.inl rfl⟩
  · have l0 : ¬ nI 3 ≤ (0 : Int32) := by decide
    have l1 : ¬ nI 3 ≤ (1 : Int32) := by decide
    have l2 : ¬ nI 3 ≤ (2 : Int32) := by decide
    have mt : mtof σ g 3 = if T 2 0 = g then nI 2 else if T 1 0 = g then nI 1 else if T 0 0 = g then nI 0 else -1 := by
      show (if σ 22 (5 * 2) = g then nI 2 else if σ 22 (5 * 1) = g then nI 1 else if σ 22 (5 * 0) = g then nI 0 else -1) = _
      rw [e 0 (by decide), e 1 (by decide), e 2 (by decide)]
    unfold klive
    rw [k1, if_neg l0, if_neg l1, if_neg l2, mt]
    by_cases q0 : T 0 0 = g
    · have q1 : ¬ T 1 0 = g := fun q => ne 0 1 (by decide) (by decide) (by decide) (q0.trans q.symm)
      have q2 : ¬ T 2 0 = g := fun q => ne 0 2 (by decide) (by decide) (by decide) (q0.trans q.symm)
      rw [if_pos q0, if_neg q2, if_neg q1, if_pos q0]
      by_cases v0 : now - T 0 2 ≤ T 0 1
      · rw [if_pos v0]
        exact Or.inr ⟨0, by omega, rfl, rfl, q0, v0⟩
      · rw [if_neg v0]
        exact Or.inl ⟨rfl, Or.inr ⟨0, by omega, rfl, v0⟩⟩
    · rw [if_neg q0]
      by_cases q1 : T 1 0 = g
      · have q2 : ¬ T 2 0 = g := fun q => ne 1 2 (by decide) (by decide) (by decide) (q1.trans q.symm)
        rw [if_pos q1, if_neg q2, if_pos q1]
        by_cases v0 : now - T 1 2 ≤ T 1 1
        · rw [if_pos v0]
          exact Or.inr ⟨1, by omega, rfl, rfl, q1, v0⟩
        · rw [if_neg v0]
          exact Or.inl ⟨rfl, Or.inr ⟨1, by omega, rfl, v0⟩⟩
      · rw [if_neg q1]
        by_cases q2 : T 2 0 = g
        · rw [if_pos q2, if_pos q2]
          by_cases v0 : now - T 2 2 ≤ T 2 1
          · rw [if_pos v0]
            exact Or.inr ⟨2, by omega, rfl, rfl, q2, v0⟩
          · rw [if_neg v0]
            exact Or.inl ⟨rfl, Or.inr ⟨2, by omega, rfl, v0⟩⟩
        · rw [if_neg q2, if_neg q2, if_neg q1, if_neg q0]
          exact Or.inl ⟨rfl, Or.inl rfl⟩
/-- a letter comes early: the class's test and the reference's -/
theorem early_eq {K E j w : Nat} {z : kF} {i : Int32} (hw : w ≤ 3000000) (hj : j < K) (w8 : nw 8 = nI w) (e14 : σ 14 0 = nI w) (hT : ∀ i, i < K → ∀ j, j < 5 → σ 22 (5 * i + j) = T i j) (hT2 : ∃ u, u ≤ w ∧ T j 2 = nI u) (hNB : σ 24 = N ∧ σ 25 = B) (hz : E9 z (σ 29)) (hg : T j 0 = z 5) (hi : (i = 0 ↔ r 3 = 0)) :
    kearlC E N B r (T j) z (nw 8) = mearl σ j E i := by
  obtain ⟨u, u1, u2⟩ := hT2
  have e2 : σ 22 (5 * j + 2) = T j 2 := hT j hj 2 (by decide)
  have e4 : σ 22 (5 * j + 4) = T j 4 := hT j hj 4 (by decide)
  have ed : nw 8 - T j 2 = nI (w - u) := by rw [w8, u2, pk_sub u1]
  have ed2 : σ 14 0 - σ 22 (5 * j + 2) = nI (w - u) := by rw [e14, e2, u2, pk_sub u1]
  have hfit : mfit σ j = if z 6 - T j 4 - (nw 8 - T j 2) < -2 then 0 else if 2 < z 6 - T j 4 - (nw 8 - T j 2) then 0 else 1 := by
    unfold mfit
    rw [ed2, e4, ed, ← hz 6 (by decide)]
    exact age_eq _ _ (by rw [nI_toInt (by omega)]; omega) (by rw [nI_toInt (by omega)]; omega)
  have hw2 : kwas E N B (T j 0) (z 7) = bI (kany (msP σ (σ 29 5) (σ 29 7)) E) := by
    unfold kwas msP
    rw [hNB.1, hNB.2, hg, hz 5 (by decide), hz 7 (by decide)]
  unfold kearlC mearl
  rw [hfit, hw2, hz 8 (by decide)]
  by_cases q8 : σ 29 8 < 0
  · rw [if_pos q8, if_pos q8]
  rw [if_neg q8, if_neg q8]
  by_cases q3 : r 3 = 0
  · rw [if_pos q3, if_pos (hi.mpr q3)]
    by_cases y1 : z 6 - T j 4 - (nw 8 - T j 2) < -2
    · rw [if_pos y1, if_pos y1, if_pos rfl]
    rw [if_neg y1, if_neg y1]
    by_cases y2 : 2 < z 6 - T j 4 - (nw 8 - T j 2)
    · rw [if_pos y2, if_pos y2, if_pos rfl]
    rw [if_neg y2, if_neg y2, if_neg (show ¬ (1 : Int32) = 0 from by decide)]
  · rw [if_neg q3, if_neg (fun q => q3 (hi.mp q))]
/-- it counts -/
theorem rel_sees (h : Rel n nw c t p a b s N B T r a2 b2 rp M rq M2 Y zf x xl σ) {E : Nat} {z : kF} (hE : s 6 = nI E) (hE4 : E ≤ 4) (hz : E9 z (σ 29)) {g : Int32} (hg : g = z 5) : Rel n nw c t p a b (kearlS s (z 8)) (kaddN E s N g) (kaddN E s B (z 7)) T r a2 b2 rp M rq M2 Y zf x xl (mgrE σ E) := by
  obtain ⟨K, E', m, w, z0, kk, ⟨e1, e2⟩, mm, w8, hT, hT0, hT2, ⟨n1, n2⟩, s7, s8⟩ := h.srv
  have eE : E' = E := (nI_eq (by omega) (by omega)).mp (e1.symm.trans hE)
  subst eE
  have g5 : σ 29 5 = g := by rw [hg]; exact (hz 5 (by decide)).symm
  have g7 : σ 29 7 = z 7 := (hz 7 (by decide)).symm
  have g8 : σ 29 8 = z 8 := (hz 8 (by decide)).symm
  by_cases q4 : E' = 4
  · subst q4
    have c6 : ¬ s 6 < 4 := by rw [e1]; decide
    have eS : kaddS s = upd (upd s 6 3) 6 (3 + 1) := if_neg c6
    have eN : ∀ (F : kF) (v : Int32), kaddN 4 s F v = upd (upd (upd (upd F 0 (F 1)) 1 (F 2)) 2 (F 3)) 3 v := fun F v => if_neg c6
    have hs : RSrv n nw (kearlS s (z 8)) (kaddN 4 s N g) (kaddN 4 s B (z 7)) T (mgrE σ 4) := by
      unfold kearlS
      rw [eS, eN, eN]
      refine ⟨K, 4, m, w, ⟨z0.1, by omega, z0.2.2⟩, kk, ⟨rfl, ?_⟩, mm, w8, hT, hT0, hT2, ⟨?_, ?_⟩, ?_, ?_⟩
      · show σ 23 0 - 1 + 1 = nI 4
        rw [e2]
        rfl
      · show upd (upd (upd (upd (σ 24) 0 (σ 24 1)) 1 (σ 24 2)) 2 (σ 24 3)) 3 (σ 29 5) = _
        rw [n1, g5]
      · show upd (upd (upd (upd (σ 25) 0 (σ 25 1)) 1 (σ 25 2)) 2 (σ 25 3)) 3 (σ 29 7) = _
        rw [n2, g7]
      · show σ 31 0 + 1 = s 7 + 1
        rw [s7]
      · show σ 32 0 + σ 29 8 = s 8 + z 8
        rw [s8, g8]
    exact ⟨h.now, h.cli, h.p, hs, h.r, h.rc, h.rs, h.cop, h.txt, h.gone⟩
  · have c6 : s 6 < 4 := by
      rw [e1]
      exact (nI_ltI (a := E') (b := 4) (by omega) (by omega)).mpr (by omega)
    have eS : kaddS s = upd s 6 (s 6 + 1) := if_pos c6
    have eN : ∀ (F : kF) (v : Int32), kaddN E' s F v = upd F E' v := fun F v => if_pos c6
    have eM : msees σ E' (σ 29 5) (σ 29 7) = su (su (su σ 24 E' (σ 29 5)) 25 E' (σ 29 7)) 23 0 (σ 23 0 + 1) := if_neg q4
    have hs : RSrv n nw (kearlS s (z 8)) (kaddN E' s N g) (kaddN E' s B (z 7)) T (mgrE σ E') := by
      unfold kearlS mgrE
      rw [eS, eN, eN, eM]
      refine ⟨K, E' + 1, m, w, ⟨z0.1, by omega, z0.2.2⟩, kk, ⟨?_, ?_⟩, mm, w8, hT, hT0, hT2, ⟨?_, ?_⟩, ?_, ?_⟩
      · show s 6 + 1 = _
        rw [e1, nI_1]
      · show σ 23 0 + 1 = _
        rw [e2, nI_1]
      · show upd (σ 24) E' (σ 29 5) = _
        rw [n1, g5]
      · show upd (σ 25) E' (σ 29 7) = _
        rw [n2, g7]
      · show σ 31 0 + 1 = s 7 + 1
        rw [s7]
      · show σ 32 0 + σ 29 8 = s 8 + z 8
        rw [s8, g8]
    have eG : mgrE σ E' = su (su (su (su (su σ 24 E' (σ 29 5)) 25 E' (σ 29 7)) 23 0 (σ 23 0 + 1)) 31 0 (σ 31 0 + 1)) 32 0 (σ 32 0 + σ 29 8) := by
      unfold mgrE
      rw [eM]
    rw [eG] at hs ⊢
    exact ⟨h.now, h.cli, h.p, hs, h.r, h.rc, h.rs, h.cop, h.txt, h.gone⟩
end
