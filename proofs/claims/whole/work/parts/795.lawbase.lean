theorem k_in9 (v : Int32) : kin9 v = 0 ∨ ∃ k, k < 9 ∧ v = nI k := by
  unfold kin9
  by_cases h1 : v < 0
  · exact Or.inl (if_pos h1)
  · by_cases h2 : 8 < v
    · exact Or.inl (by rw [if_neg h1, if_pos h2])
    · obtain ⟨k, -, hk, e⟩ := i32_small (lo := 0) (hi := 8) (a := 0) (b := 8) h1 h2 rfl rfl (by decide) (by decide)
      exact Or.inr ⟨k, by omega, e⟩
theorem k_plc (v : Int32) : kplc v = 0 ∨ (kplc v = 1 ∧ (v = 0 ∨ v = 1 ∨ v = 2 ∨ v = 3)) := by
  unfold kplc
  by_cases h1 : v < 0
  · exact Or.inl (if_pos h1)
  · by_cases h2 : 4 ≤ v
    · exact Or.inl (by rw [if_neg h1, if_pos h2])
    · have h3 : ¬ (3 : Int32) < v := by
        intro h
        refine h2 ?_
        rw [Int32.lt_iff_toInt_lt] at h
        rw [Int32.le_iff_toInt_le]
        have e3 : (3 : Int32).toInt = 3 := by decide
        have e4 : (4 : Int32).toInt = 4 := by decide
        omega
      obtain ⟨k, -, hk, e⟩ := i32_small (lo := 0) (hi := 3) (a := 0) (b := 3) h1 h3 rfl rfl (by decide) (by decide)
      refine Or.inr ⟨by rw [if_neg h1, if_neg h2], ?_⟩
      have hk4 : k = 0 ∨ k = 1 ∨ k = 2 ∨ k = 3 := by omega
      rcases hk4 with rfl | rfl | rfl | rfl
      · exact Or.inl e
      · exact Or.inr (Or.inl e)
      · exact Or.inr (Or.inr (Or.inl e))
      · exact Or.inr (Or.inr (Or.inr e))
theorem k_kep {v q : Int32} {K : Nat} (hK : q = nI K) (hK3 : K ≤ 3) : (v < 0 ∨ ¬ v < q) ∨ (v = 0 ∧ 0 < q) ∨ (v = 1 ∧ 1 < q) ∨ (v = 2 ∧ 2 < q) := by
  by_cases h1 : v < 0
  · exact Or.inl (Or.inl h1)
  · by_cases h2 : v < q
    · have h3 : ¬ (2 : Int32) < v := by
        intro h
        rw [hK] at h2
        have hK4 : K = 0 ∨ K = 1 ∨ K = 2 ∨ K = 3 := by omega
        rw [Int32.lt_iff_toInt_lt] at h h2
        have e2 : (2 : Int32).toInt = 2 := by decide
        rcases hK4 with rfl | rfl | rfl | rfl
        · have e : (nI 0).toInt = 0 := by decide
          omega
        · have e : (nI 1).toInt = 1 := by decide
          omega
        · have e : (nI 2).toInt = 2 := by decide
          omega
        · have e : (nI 3).toInt = 3 := by decide
          omega
      obtain ⟨k, -, hk, e⟩ := i32_small (lo := 0) (hi := 2) (a := 0) (b := 2) h1 h3 rfl rfl (by decide) (by decide)
      have hk4 : k = 0 ∨ k = 1 ∨ k = 2 := by omega
      rcases hk4 with rfl | rfl | rfl
      · exact Or.inr (Or.inl ⟨e, by rw [e] at h2; exact h2⟩)
      · exact Or.inr (Or.inr (Or.inl ⟨e, by rw [e] at h2; exact h2⟩))
      · exact Or.inr (Or.inr (Or.inr ⟨e, by rw [e] at h2; exact h2⟩))
    · exact Or.inl (Or.inr h2)
