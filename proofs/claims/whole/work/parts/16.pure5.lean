/-! the reference's calls -/
theorem k_sides (s : Int32) : s = 0 ∨ s = 1 ∨ (¬ s = 0 ∧ ¬ s = 1) := by
  by_cases h : s = 0
  · exact Or.inl h
  · by_cases h1 : s = 1
    · exact Or.inr (Or.inl h1)
    · exact Or.inr (Or.inr ⟨h, h1⟩)
theorem kinL_i {x a b : Int32} : kinL x.toInt64 a.toInt64 b.toInt64 = if x < a then 0 else if b < x then 0 else 1 := by
  have e1 : (lg_cmp x.toInt64 a.toInt64 < 0) ↔ x < a := by
    unfold lg_cmp
    simp only [gt_iff_lt, Int64.lt_iff_toInt_lt, Int32.lt_iff_toInt_lt, Int32.toInt_toInt64, ← Int64.toInt_inj]
    split
    · constructor
      · intro h; exact absurd h (by decide)
      · intro h; omega
    · split
      · constructor
        · intro h; exact absurd h (by decide)
        · intro h; omega
      · constructor
        · intro _; omega
        · intro _; decide
  have e2 : (0 < lg_cmp x.toInt64 b.toInt64) ↔ b < x := by
    unfold lg_cmp
    simp only [gt_iff_lt, Int64.lt_iff_toInt_lt, Int32.lt_iff_toInt_lt, Int32.toInt_toInt64, ← Int64.toInt_inj]
    split
    · constructor
      · intro _; omega
      · intro _; decide
    · split
      · constructor
        · intro h; exact absurd h (by decide)
        · intro h; omega
      · constructor
        · intro h; exact absurd h (by decide)
        · intro h; omega
  unfold kinL
  by_cases h1 : x < a
  · rw [if_pos (e1.mpr h1), if_pos h1]
  · rw [if_neg (fun z => h1 (e1.mp z)), if_neg h1]
    by_cases h2 : b < x
    · rw [if_pos (e2.mpr h2), if_pos h2]
    · rw [if_neg (fun z => h2 (e2.mp z)), if_neg h2]
theorem kside_no {s : Int32} (h0 : ¬ s = 0) (h1 : ¬ s = 1) : kinL s.toInt64 0 1 = 0 := by
  have z := @kinL_i s 0 1
  rw [show (0 : Int32).toInt64 = 0 by decide, show (1 : Int32).toInt64 = 1 by decide] at z
  rw [z]
  by_cases a : s < 0
  · rw [if_pos a]
  · rw [if_neg a]
    by_cases b : 1 < s
    · rw [if_pos b]
    · exfalso
      simp only [Int32.lt_iff_toInt_lt] at a b
      have q0 : (0 : Int32).toInt = 0 := by decide
      have q1 : (1 : Int32).toInt = 1 := by decide
      rw [q0] at a
      rw [q1] at b
      have : s.toInt = 0 ∨ s.toInt = 1 := by omega
      rcases this with e | e
      · exact h0 (Int32.toInt_inj.mp (e.trans q0.symm))
      · exact h1 (Int32.toInt_inj.mp (e.trans q1.symm))
theorem kside_0 : kinL (0 : Int32).toInt64 0 1 = 1 := by decide
theorem kside_1 : kinL (1 : Int32).toInt64 0 1 = 1 := by decide
def m3 (s : Int32) (σ : kS) (f : Nat → Int32 × kS) : Int32 × kS := if s = 0 then f 0 else if s = 1 then f 1 else (-2, σ)
def mOK (σ : kS) (S Mn : Nat → Nat) (E K : Nat) : Prop := (∀ sd, sd < 2 → σ 2 sd = nI (S sd) ∧ S sd ≤ 999) ∧ (∀ sd, sd < 2 → σ 26 sd = nI (Mn sd) ∧ Mn sd ≤ 8) ∧ (σ 23 0 = nI E ∧ E ≤ 4) ∧ (σ 20 0 = nI K ∧ K ≤ 3) ∧ (∃ n, n < 8 ∧ σ 0 1 = nI n)
def moffer (σ : kS) (s v g : Int32) : Int32 × kS := m3 s σ (fun sd => if kinL v.toInt64 1 7 = 0 then (-3, σ) else if kinL g.toInt64 1 15 = 0 then (-3, σ) else (σ 0 sd, su (su σ 0 sd v) 1 sd g))
def msecret (σ : kS) (s v : Int32) : Int32 × kS := m3 s σ (fun sd => if kinL v.toInt64 1 999 = 0 then (-3, σ) else (σ 2 sd, su σ 2 sd v))
def mguess (σ : kS) (g : Int32) : Int32 × kS := if kinL g.toInt64 0 3 = 0 then (-3, σ) else (σ 12 0, su σ 12 0 g)
def mearly (σ : kS) (v : Int32) : Int32 × kS := if kinL v.toInt64 (-1) 999 = 0 then (-3, σ) else (σ 13 0, su σ 13 0 v)
def mhe0 (σ : kS) : kS := su (su σ 3 0 1) 19 0 0
def mhellR (σ : kS) (S Mn : Nat → Nat) : Int32 × kS := if σ 3 0 = 0 then (mhello (mhe0 σ) (if mhas (σ 1 0) (σ 12 0) = 0 then mleast (σ 1 0) else σ 12 0) (S 0) (Mn 1) 26 1, mhello (mhe0 σ) (if mhas (σ 1 0) (σ 12 0) = 0 then mleast (σ 1 0) else σ 12 0) (S 0) (Mn 1)) else (-4, σ)
def mforget (σ : kS) : Int32 × kS := if σ 15 0 = 0 then (-4, σ) else (σ 15 1, su σ 15 0 0)
def mfresh (σ : kS) (s : Int32) : Int32 × kS := m3 s σ (fun sd => (σ 3 sd, su (su (su σ 3 sd 0) 4 sd 0) 5 sd 1))
def mpass (σ : kS) (n : Int32) : Int32 × kS := if kinL n.toInt64 1 99 = 0 then (-3, σ) else (σ 14 0 + n, su σ 14 0 (σ 14 0 + n))
def mdropR (σ : kS) (s : Int32) : Int32 × kS := m3 s σ (fun sd => if σ 26 sd = 0 then (-4, σ) else (σ 26 sd - 1, mdrop σ sd))
def mfetch (σ : kS) (sd : Nat) : kS := va_up σ 29 (kcpy (σ 29) (fun k => σ 27 (72 * sd + k)) 9)
