/-! the reference: ticket, side -/
theorem ag8 {a n m : Nat} {x y : Int32} (hx : x = nI n) (hy : y = nI m) (h : m ≤ 2 * a + n) : (2 : Int32) * nI a + x - y = nI (2 * a + n - m) := by
  rw [hx, hy, show (2 : Int32) = nI 2 from rfl, pk_mul, nI_add, pk_sub h]
theorem ag_def {i : Int32} (c : i.toInt < 3 ∨ 9 < i.toInt) (h3 : 3 ≤ i.toInt) (h11 : i.toInt ≤ 11) : i = 10 ∨ i = 11 := by
  have : i.toInt = 10 ∨ i.toInt = 11 := by omega
  rcases this with e | e
  · exact Or.inl (Int32.toInt_inj.mp (e.trans (by decide)))
  · exact Or.inr (Int32.toInt_inj.mp (e.trans (by decide)))
def magreed (σ : kS) (sd : Nat) (i : Int32) : Int32 := if i = 3 then σ 6 sd else if i = 4 then σ 7 sd else if i = 5 then σ 8 sd else if i = 6 then σ 9 sd else if i = 7 then mmain σ sd else if i = 8 then σ 10 (2 * sd + 8 - 8) else if i = 9 then σ 10 (2 * sd + 9 - 8) else if i = 10 then σ 11 (2 * sd + 10 - 10) else σ 11 (2 * sd + 11 - 10)
def mside1 (σ : kS) (sd : Nat) (i : Int32) : Int32 := if kinL i.toInt64 0 11 = 0 then -3 else if 3 ≤ i then (if σ 3 sd = 4 then magreed σ sd i else -1) else if i = 0 then σ 3 sd else if i = 1 then σ 4 sd else σ 5 sd
def mside (σ : kS) (s i : Int32) : Int32 := if s = 0 then mside1 σ 0 i else if s = 1 then mside1 σ 1 i else -2
theorem kin11 {x : Int32} (h : ¬ kinL x.toInt64 0 11 = 0) : x.toInt ≤ 11 := by
  have z := kin_le (x := x) (b := 11) (n := 11) (by decide) (by rw [show (11 : Int32).toInt64 = 11 by decide]; exact h)
  rw [z.1, nI_toInt (by omega)]
  omega
theorem ge3 {x : Int32} (h : 3 ≤ x) : 3 ≤ x.toInt := by
  rw [Int32.le_iff_toInt_le, show (3 : Int32).toInt = 3 by decide] at h
  exact h
def mshift (σ : kS) : kS := su (su (su (su (su (su (su (su (su (su σ 22 0 (σ 22 5)) 22 1 (σ 22 6)) 22 2 (σ 22 7)) 22 3 (σ 22 8)) 22 4 (σ 22 9)) 22 5 (σ 22 10)) 22 6 (σ 22 11)) 22 7 (σ 22 12)) 22 8 (σ 22 13)) 22 9 (σ 22 14)
def mtickY (Y σ : kS) (t : Nat) (life : Int32) : kS := su (su (su (su (su (su (su Y 21 0 (σ 21 0 + 1)) 22 (5 * t) (σ 21 0 + 1)) 22 (5 * t + 1) life) 22 (5 * t + 2) (σ 14 0)) 22 (5 * t + 3) (kmix (mmain σ 1) (σ 21 0 + 1))) 22 (5 * t + 4) (kmix (σ 21 0 + 1) 77)) 20 0 (nI (t + 1))
def mtickX (Y σ : kS) (t : Nat) (life : Int32) (Mn : Nat) : Int32 × kS := (σ 21 0 + 1, msend (su (su (su (mclr (mtickY Y σ t life) 5) 29 1 (σ 21 0 + 1)) 29 2 (kmix (σ 21 0 + 1) 77)) 29 3 life) 0 Mn)
def mtick (σ : kS) (life : Int32) (Mn : Nat → Nat) (K : Nat) : Int32 × kS := if kinL life.toInt64 0 99 = 0 then (-3, σ) else if σ 3 1 = 4 then if σ 6 1 = 3 then if K = 3 then mtickX (su (mshift σ) 20 0 2) σ 2 life (Mn 0) else mtickX σ σ K life (Mn 0) else (-4, σ) else (-4, σ)
theorem kn0 : ¬ (0 : Nat) = 3 := by decide
theorem kn1 : ¬ (1 : Nat) = 3 := by decide
theorem kn2 : ¬ (2 : Nat) = 3 := by decide
