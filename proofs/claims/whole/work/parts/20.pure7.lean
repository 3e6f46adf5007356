/-! the reference's calls with places -/
theorem kin_le {x b : Int32} {n : Nat} (hb : b.toInt = n) (h : ¬ kinL x.toInt64 0 b.toInt64 = 0) : x = nI x.toNatClampNeg ∧ x.toNatClampNeg < n + 1 := by
  have z := @kinL_i x 0 b
  rw [show (0 : Int32).toInt64 = 0 by decide] at z
  rw [z] at h
  by_cases a : x < 0
  · rw [if_pos a] at h; exact absurd rfl h
  · rw [if_neg a] at h
    by_cases c : b < x
    · rw [if_pos c] at h; exact absurd rfl h
    · obtain ⟨j, hj, rfl⟩ := nI_of a
      rw [nI_clamp hj]
      refine ⟨rfl, ?_⟩
      rw [Int32.lt_iff_toInt_lt, hb, nI_toInt hj] at c
      omega
theorem kin8 {x : Int32} (h : ¬ kinL x.toInt64 0 8 = 0) : x = nI x.toNatClampNeg ∧ x.toNatClampNeg < 9 := kin_le (b := 8) (n := 8) (by decide) (by rw [show (8 : Int32).toInt64 = 8 by decide]; exact h)
theorem kin3 {x : Int32} (h : ¬ kinL x.toInt64 0 3 = 0) : x = nI x.toNatClampNeg ∧ x.toNatClampNeg < 4 := kin_le (b := 3) (n := 3) (by decide) (by rw [show (3 : Int32).toInt64 = 3 by decide]; exact h)
theorem kin4 {x : Int32} (h : ¬ kinL x.toInt64 0 4 = 0) : x = nI x.toNatClampNeg ∧ x.toNatClampNeg < 5 := kin_le (b := 4) (n := 4) (by decide) (by rw [show (4 : Int32).toInt64 = 4 by decide]; exact h)
theorem kin999 {x : Int32} (h : ¬ kinL x.toInt64 1 999 = 0) : x = nI x.toNatClampNeg ∧ x.toNatClampNeg ≤ 2147483646 := by
  have h0 : ¬ kinL x.toInt64 0 999 = 0 := by
    intro z
    apply h
    have z1 := @kinL_i x 0 999
    have z2 := @kinL_i x 1 999
    rw [show (0 : Int32).toInt64 = 0 by decide, show (999 : Int32).toInt64 = 999 by decide] at z1
    rw [show (1 : Int32).toInt64 = 1 by decide, show (999 : Int32).toInt64 = 999 by decide] at z2
    rw [z1] at z
    rw [z2]
    by_cases a : x < 0
    · have : x < 1 := by
        simp only [Int32.lt_iff_toInt_lt] at a ⊢
        rw [show (0 : Int32).toInt = 0 by decide] at a
        rw [show (1 : Int32).toInt = 1 by decide]
        omega
      rw [if_pos this]
    · rw [if_neg a] at z
      by_cases c : 999 < x
      · by_cases d : x < 1
        · rw [if_pos d]
        · rw [if_neg d, if_pos c]
      · rw [if_neg c] at z; exact absurd z (by decide)
  have q := kin_le (x := x) (b := 999) (n := 999) (by decide) (by rw [show (999 : Int32).toInt64 = 999 by decide]; exact h0)
  exact ⟨q.1, by omega⟩
theorem ixs {a i : Int32} {A k : Nat} (ha : a = nI A) (h : i = nI k) : a + i = nI (A + k) := by rw [ha, h, nI_add]
theorem ix9 {i : Int32} {P k : Nat} (h : i = nI P) : 9 * i + nI k = nI (9 * P + k) := by rw [h, show (9 : Int32) = nI 9 from rfl, pk_mul, nI_add]
theorem ix5 {i j : Int32} {P k : Nat} (h : i = nI P) (h2 : j = nI k) : 5 * i + j = nI (5 * P + k) := by rw [h, h2, show (5 : Int32) = nI 5 from rfl, pk_mul, nI_add]
theorem kinK {x y : Int32} {K : Nat} (hy : y = nI K) (hK : K ≤ 3) (h : ¬ kinL x.toInt64 0 (y - 1).toInt64 = 0) : x = nI x.toNatClampNeg ∧ x.toNatClampNeg < K := by
  subst hy
  rcases (show K = 0 ∨ K = 1 ∨ K = 2 ∨ K = 3 by omega) with rfl | rfl | rfl | rfl
  · exfalso
    apply h
    have z := @kinL_i x 0 (nI 0 - 1)
    rw [show (0 : Int32).toInt64 = 0 by decide] at z
    rw [z]
    by_cases a : x < 0
    · rw [if_pos a]
    · rw [if_neg a, if_pos]
      simp only [Int32.lt_iff_toInt_lt] at a ⊢
      rw [show (0 : Int32).toInt = 0 by decide] at a
      rw [show (nI 0 - 1 : Int32).toInt = -1 by decide]
      omega
  · exact kin_le (b := nI 1 - 1) (n := 0) (by decide) h
  · exact kin_le (b := nI 2 - 1) (n := 1) (by decide) h
  · exact kin_le (b := nI 3 - 1) (n := 2) (by decide) h
def malter (σ : kS) (s i v : Int32) : Int32 × kS := m3 s σ (fun sd => if kinL i.toInt64 0 8 = 0 then (-3, σ) else if σ 26 sd = 0 then (-4, σ) else (σ 27 (72 * sd + i.toNatClampNeg), su σ 27 (72 * sd + i.toNatClampNeg) v))
def mmess (σ : kS) (s i : Int32) : Int32 := if s = 0 then (if kinL i.toInt64 0 8 = 0 then -3 else if σ 26 0 = 0 then -4 else σ 27 (72 * 0 + i.toNatClampNeg)) else if s = 1 then (if kinL i.toInt64 0 8 = 0 then -3 else if σ 26 1 = 0 then -4 else σ 27 (72 * 1 + i.toNatClampNeg)) else -2
def mcopyF (σ : kS) (sd P : Nat) : kS := va_up σ 28 (mcpy (σ 28) (fun k => σ 27 (72 * sd + k)) (9 * P) 9)
def mcopy (σ : kS) (s p : Int32) : Int32 × kS := m3 s σ (fun sd => if kinL p.toInt64 0 3 = 0 then (-2, σ) else if σ 26 sd = 0 then (-4, σ) else (σ 27 (72 * sd), su (mcopyF σ sd p.toNatClampNeg) 42 p.toNatClampNeg 1))
def minjF (σ : kS) (P : Nat) : kS := va_up σ 29 (kcpy (σ 29) (fun k => σ 28 (9 * P + k)) 9)
def minject (σ : kS) (s p : Int32) (Mn : Nat → Nat) : Int32 × kS := m3 s σ (fun sd => if kinL p.toInt64 0 3 = 0 then (-2, σ) else if σ 42 p.toNatClampNeg = 0 then (-4, σ) else if σ 26 sd = 8 then (-5, σ) else (msend (minjF σ p.toNatClampNeg) sd (Mn sd) 26 sd, msend (minjF σ p.toNatClampNeg) sd (Mn sd)))
def mheld (σ : kS) (i : Int32) : Int32 := if kinL i.toInt64 0 4 = 0 then -3 else if σ 15 0 = 1 then σ 15 (1 + i.toNatClampNeg) else -4
def mshareR (g s : Int32) : Int32 := if kinL g.toInt64 0 3 = 0 then -2 else if kinL s.toInt64 1 999 = 0 then -3 else mshare g s.toNatClampNeg
def mkept (σ : kS) (k i : Int32) : Int32 := if kinL k.toInt64 0 (σ 20 0 - 1).toInt64 = 0 then -2 else if kinL i.toInt64 0 4 = 0 then -3 else σ 22 (5 * k.toNatClampNeg + i.toNatClampNeg)
def mcount (σ : kS) (i : Int32) : Int32 := if i = 0 then σ 14 0 else if i = 1 then σ 26 0 else if i = 2 then σ 26 1 else if i = 3 then σ 20 0 else if i = 4 then σ 23 0 else if i = 5 then σ 31 0 else if i = 6 then σ 32 0 else if i = 7 then σ 33 0 else if i = 8 then σ 33 1 else if i = 9 then σ 34 0 else if i = 10 then σ 34 1 else if i = 11 then σ 36 0 else if i = 12 then σ 30 0 else -3
