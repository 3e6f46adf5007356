/-! the text's numbers -/
theorem nI_sub {a b : Nat} (h : b ≤ a) : nI a - nI b = nI (a - b) := by
  have q : nI a = nI (a - b) + nI b := by rw [nI_add, Nat.sub_add_cancel h]
  rw [q, Int32.add_sub_cancel]
def kdgF (xl : kF) (S : Nat) : Nat → Bool
  | 0 => true
  | u + 1 => kdgF xl S u && kdg (xl (S + u))
theorem kdgF_yes {xl : kF} {S k : Nat} (h : S ≤ k) (hd : kdgF xl S (k - S) = true) (hk : kdg (xl k) = true) : kdgF xl S (k + 1 - S) = true := by
  rw [show k + 1 - S = (k - S) + 1 by omega]
  simp only [kdgF, hd, show S + (k - S) = k by omega, hk, Bool.and_self]
theorem kdgF_no {xl : kF} {S : Nat} {n u : Nat} (h : u < n) (hk : kdg (xl (S + u)) = false) : kdgF xl S n = false := by
  induction n with
  | zero => omega
  | succ n ih =>
    simp only [kdgF]
    by_cases q : u = n
    · rw [← q, hk, Bool.and_false]
    · rw [ih (by omega), Bool.false_and]
def kdecF (xl : kF) (S : Nat) : Nat → Int32
  | 0 => 0
  | u + 1 => kdecF xl S u * 10 + xl (S + u) - 48
def kdec (xl : kF) (S k : Nat) : Int32 := kdecF xl S (k - S)
theorem kdec_0 {xl : kF} {S : Nat} : kdec xl S S = 0 := by
  unfold kdec
  rw [Nat.sub_self]
  rfl
theorem kdec_s {xl : kF} {S k : Nat} (h : S ≤ k) : kdec xl S (k + 1) = kdec xl S k * 10 + xl k - 48 := by
  unfold kdec
  rw [show k + 1 - S = (k - S) + 1 by omega]
  simp only [kdecF, show S + (k - S) = k by omega]
def knum (xl : kF) (S E : Nat) (a b : Int32) : Int32 := if S = E then -1 else if 3 < E - S then -1 else if kdgF xl S (E - S) = true then (if kdec xl S E < a then -1 else if kdec xl S E ≤ b then kdec xl S E else -1) else -1
