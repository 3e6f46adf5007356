/-! what a reading of the text ends with -/
def kvalid (kd v w : Int32) : Prop := ((kd = 0 ∨ kd = 1) ∧ (1 ≤ v ∧ v ≤ 7) ∧ (1 ≤ w ∧ w ≤ 15)) ∨ (kd = 2 ∧ (v = 0 ∨ v = 1) ∧ (1 ≤ w ∧ w ≤ 999)) ∨ (kd = 3 ∧ (0 ≤ v ∧ v ≤ 3)) ∨ (kd = 4 ∧ (0 ≤ v ∧ v ≤ 999))
theorem knum_rng (xl : kF) (S E : Nat) (a b : Int32) : knum xl S E a b = -1 ∨ (a ≤ knum xl S E a b ∧ knum xl S E a b ≤ b) := by
  unfold knum
  split
  · exact Or.inl rfl
  · split
    · exact Or.inl rfl
    · split
      · split
        · exact Or.inl rfl
        · next h =>
          split
          · next h2 => exact Or.inr ⟨Int32.not_lt.mp h, h2⟩
          · exact Or.inl rfl
      · exact Or.inl rfl
theorem kc_valid {xl : kF} {L E : Nat} (hR : ¬ kcR xl L E = 0) : kcA xl L E = false ∧ kcB xl L E = false ∧ kvalid (kcK xl L E) (kcV xl L E) (kcS xl L E) := by
  have hA : kcA xl L E = false := by
    cases z : kcA xl L E with
    | false => rfl
    | true => exact absurd (by simp only [kcR, z, ↓reduceIte]) hR
  have hB : kcB xl L E = false := by
    cases z : kcB xl L E with
    | false => rfl
    | true => exact absurd (by simp only [kcR, hA, z, Bool.false_eq_true, ↓reduceIte]) hR
  refine ⟨hA, hB, ?_⟩
  have hV : ¬ kcV xl L E = -1 := of_decide_eq_false hB
  have hV2 := (knum_rng xl (kc2 xl L E).1 (kc2 xl L E).2 (if kcK xl L E = 0 then 1 else if kcK xl L E = 1 then 1 else 0) (kmost (kcK xl L E))).resolve_left hV
  change _ ≤ kcV xl L E ∧ kcV xl L E ≤ _ at hV2
  have hW : kcC xl L E = false → kcS xl L E = kcW xl L E ∧ ¬ kcW xl L E = -1 := by
    intro hC
    refine ⟨by simp only [kcS, hC, Bool.false_eq_true, ↓reduceIte], fun q => hR ?_⟩
    simp only [kcR, hA, hB, hC, q, Bool.false_eq_true, ↓reduceIte]
  have hW2 : kcC xl L E = false → 1 ≤ kcS xl L E ∧ kcS xl L E ≤ (if kcK xl L E = 2 then 999 else 15) := by
    intro hC
    rw [(hW hC).1]
    exact (knum_rng xl (kc3 xl L E).1 (kc3 xl L E).2 1 (if kcK xl L E = 2 then 999 else 15)).resolve_left (hW hC).2
  rcases kckind_cases xl L E with h | h | h | h | h | h
  · exact absurd (decide_eq_true h) (by rw [show decide (kcK xl L E = -1) = kcA xl L E from rfl, hA]; decide)
  · have hC : kcC xl L E = false := by unfold kcC; rw [h]; decide
    have w := hW2 hC
    rw [h] at hV2 w
    exact Or.inl ⟨Or.inl h, hV2, w⟩
  · have hC : kcC xl L E = false := by unfold kcC; rw [h]; decide
    have w := hW2 hC
    rw [h] at hV2 w
    exact Or.inl ⟨Or.inr h, hV2, w⟩
  · have hC : kcC xl L E = false := by unfold kcC; rw [h]; decide
    have w := hW2 hC
    rw [h] at w
    exact Or.inr (Or.inl ⟨h, kcV_01 h hV, w⟩)
  · rw [h] at hV2
    exact Or.inr (Or.inr (Or.inl ⟨h, hV2⟩))
  · rw [h] at hV2
    exact Or.inr (Or.inr (Or.inr ⟨h, hV2⟩))
/-- the clauses read so far are ones that may be done -/
def kgood (q : kF × kF × kF × kF) (i : Nat) : Prop := ∀ j, j < i → kvalid (q.2.1 j) (q.2.2.1 j) (q.2.2.2 j)
theorem kgood_step {xl : kF} {L E i : Nat} {q : kF × kF × kF × kF} (hR : ¬ kcR xl L E = 0) (h : kgood q i) : kgood (krq xl L i E q) (i + 1) := by
  obtain ⟨hA, hB, hv⟩ := kc_valid hR
  intro j hj
  have e : ∀ (f : kF) (v : Int32), kcP f i v xl L E = upd f i v := fun f v => by
    simp only [kcP, hA, hB, Bool.false_eq_true, ↓reduceIte]
  unfold krq
  simp only [e]
  by_cases q0 : j = i
  · subst q0
    simpa [upd] using hv
  · simpa [upd, q0] using h j (by omega)
theorem kread_res {xl : kF} {L : Nat} (hL : L ≤ 200) : ∀ (n i E : Nat) (q : kF × kF × kF × kF), i + n = 24 → E ≤ L → q.1 5 = nI i → (n = 0 → ∃ S, S ≤ 200 ∧ q.1 6 = nI S) → kgood q i →
    ((kread xl L n i E q).1 = -1 ∧ ∃ N, N ≤ 24 ∧ (kread xl L n i E q).2.1 5 = nI N ∧ kgood (kread xl L n i E q).2 N) ∨ ∃ S, S ≤ 200 ∧ (kread xl L n i E q).1 = nI S := by
  intro n
  induction n with
  | zero =>
    intro i E q _ _ _ h6 _
    exact Or.inr (h6 rfl)
  | succ n ih =>
    intro i E q hi hE h5 _ hg
    have en : 24 - i = n + 1 := by omega
    have hbT := kcT_le (xl := xl) hE
    have hbu := ktok_le (xl := xl) hbT.2
    by_cases hR : kcR xl L E = 0
    · have z := kread_A (q := q) (k := i) (by omega) hR
      rw [en] at z
      rw [z]
      exact Or.inr ⟨_, by omega, rfl⟩
    · have e5 : (krq xl L i E q).1 5 = nI (i + 1) := by
        show q.1 5 + 1 = _
        rw [h5, nI_1]
      have g5 := kgood_step hR hg
      by_cases hu : (ktok xl L (kcT xl L E).2).1 = L
      · have z := kread_B (q := q) (k := i) (by omega) hR hu
        rw [en] at z
        rw [z]
        exact Or.inl ⟨rfl, i + 1, by omega, e5, g5⟩
      · by_cases h9 : xl (ktok xl L (kcT xl L E).2).1 = 59
        · have z := kread_D (q := q) (k := i) (by omega) hR hu h9
          rw [en, show 24 - (i + 1) = n by omega] at z
          rw [z]
          exact ih (i + 1) _ _ (by omega) hbu.2 e5 (fun _ => ⟨_, by omega, rfl⟩) g5
        · have z := kread_C (q := q) (k := i) (by omega) hR hu h9
          rw [en] at z
          rw [z]
          exact Or.inr ⟨_, by omega, rfl⟩
theorem mdo_mrw {fk ff fs : kF} {σ : kS} {a b c d e : Int32} : ∀ n, mdo fk ff fs n (mrw σ a b c d e) = mrw (mdo fk ff fs n σ) a b c d e
  | 0 => rfl
  | n + 1 => by
    show mdoes (mdo fk ff fs n (mrw σ a b c d e)) _ _ _ = _
    rw [mdo_mrw n, mdoes_mrw]
    rfl
theorem mneg1 : ∀ S, S < 201 → ¬ (0 : Int32) ≤ -1 - nI S := by decide +kernel
theorem mneg2 : ∀ S, S < 201 → (-1 : Int32) - (-1 - nI S) = nI S := by decide +kernel
theorem mneg3 : ∀ S, S < 201 → (-1 : Int32) - nI S < 0 := by decide +kernel
def mfltR (R : Int32 × (kF × kF × kF × kF)) : Int32 := if 0 ≤ mgoR R then -1 else -1 - mgoR R
theorem mflt_eq {R : Int32 × (kF × kF × kF × kF)} (h : (R.1 = -1 ∧ ∃ N, N ≤ 24 ∧ R.2.1 5 = nI N ∧ kgood R.2 N) ∨ ∃ S, S ≤ 200 ∧ R.1 = nI S) : mfltR R = R.1 := by
  rcases h with ⟨h, N, hN, h5, -⟩ | ⟨S, hS, h⟩
  · unfold mfltR mgoR
    rw [if_pos h, h5, if_pos (nI_pos' (by omega)), h]
  · unfold mfltR mgoR
    rw [h, if_neg (nI_nm1 (by omega))]
    rw [if_neg (mneg1 S (by omega)), mneg2 S (by omega)]
