/-! the reference: what comes to the client -/
def mhel1 (σ : kS) (g : Int32) (S : Nat) (ht : Int32) : kS := su (su (su (su (su (su (su (su (mclr σ 1) 16 0 g) 17 0 ht) 18 0 (σ 15 4)) 29 1 (σ 0 0)) 29 2 (σ 1 0)) 29 3 g) 29 4 (mshare g S)) 29 8 (-1)
def mhel2 (σ X : kS) : kS := su (su X 29 5 (σ 15 1)) 29 6 (σ 14 0 - σ 15 3 + σ 15 5)
def mhelX (σ : kS) (g : Int32) (S : Nat) : kS := if σ 15 0 = 1 then su (su (mhel2 σ (mhel1 σ g S 1)) 29 7 (kbind (σ 15 4) (σ 5 0) (mhel2 σ (mhel1 σ g S 1) 29))) 29 8 (if σ 19 0 = 0 then σ 13 0 else -1) else mhel1 σ g S 0
def mhello (σ : kS) (g : Int32) (S Mn : Nat) : kS := msend (mtakes (mhelX σ g S) 0 9) 1 Mn
def mretry (σ : kS) (S Mn : Nat) : kS := if kinL (σ 29 1).toInt64 0 3 = 0 then mfail σ 0 4 else if mhas (σ 1 0) (σ 29 1) = 0 then mfail σ 0 4 else if σ 29 1 = σ 16 0 then mfail σ 0 4 else if σ 19 0 = 0 then mhello (su (mtakes σ 0 9) 19 0 1) (σ 29 1) S Mn else mfail σ 0 4
def mwrongC (σ : kS) : Int32 := if mhasV (σ 0 0) (σ 29 1) = 0 then 2 else if σ 29 2 = σ 16 0 then if σ 29 4 = 0 then if kinL (σ 29 3).toInt64 1 (kprime (σ 16 0) - 1).toInt64 = 0 then 5 else if σ 29 5 = 0 then 0 else if σ 17 0 = 0 then 6 else 0 else if mab (σ 0 0) (σ 29 1) = 0 then if kinL (σ 29 3).toInt64 1 (kprime (σ 16 0) - 1).toInt64 = 0 then 5 else if σ 29 5 = 0 then 0 else if σ 17 0 = 0 then 6 else 0 else 7 else 4
def mgrt1 (σ : kS) (S : Nat) : kS := mtakes (su σ 9 0 (kmix (kmix 7 (mpw (σ 29 3) (kprime (σ 16 0)) S)) (if σ 29 5 = 0 then 0 else σ 18 0))) 0 7
def mgrt2 (σ X : kS) : kS := mclr (su (su (su X 6 0 (σ 29 1)) 7 0 (σ 16 0)) 8 0 (if σ 29 5 = 0 then 0 else 1)) 4
def mgreet (σ : kS) (S Mn : Nat) : kS := if mwrongC σ = 0 then if σ 29 7 = mproof (mgrt1 σ S) 0 1 then mjoin (msend (su (mgrt2 σ (mgrt1 σ S)) 29 1 (mproof (mgrt2 σ (mgrt1 σ S)) 0 2)) 1 Mn) 0 else mfail (mgrt1 σ S) 0 8 else mfail σ 0 (mwrongC σ)
def mticket (σ : kS) : kS := su (su (su (su (su (su σ 15 0 1) 15 1 (σ 29 1)) 15 2 (σ 29 3)) 15 3 (σ 14 0)) 15 4 (kmix (mmain σ 0) (σ 29 1))) 15 5 (σ 29 2)
theorem msend_row (σ : kS) (sd Mn r : Nat) (h1 : ¬ r = 26) (h2 : ¬ r = 27) (h3 : ¬ r = 30) : msend σ sd Mn r = σ r := by
  unfold msend
  split <;> simp [su, va_up, h1, h2, h3]
theorem kin13_v {v : Int32} (h : ¬ kinL v.toInt64 1 3 = 0) : v = 1 ∨ v = 2 ∨ v = 3 := by
  unfold kinL at h
  have h1 : ¬ lg_cmp v.toInt64 1 < 0 := by
    intro z; rw [if_pos z] at h; exact h rfl
  rw [if_neg h1] at h
  have h2 : ¬ 0 < lg_cmp v.toInt64 3 := by
    intro z; rw [if_pos z] at h; exact h rfl
  have a1 : ¬ v.toInt64 < 1 := fun z => h1 (by
    have e1 : ¬ v.toInt64 > 1 := by simp only [gt_iff_lt, Int64.lt_iff_toInt_lt] at z ⊢; omega
    have e2 : ¬ v.toInt64 = 1 := by intro q; rw [q] at z; exact absurd z (by decide)
    simp [lg_cmp, e1, e2])
  have a2 : ¬ v.toInt64 > 3 := fun z => h2 (by simp [lg_cmp, z])
  simp only [gt_iff_lt, Int64.lt_iff_toInt_lt, Int32.toInt_toInt64] at a1 a2
  have q1 : (1 : Int64).toInt = 1 := by decide
  have q3 : (3 : Int64).toInt = 3 := by decide
  rw [q1] at a1
  rw [q3] at a2
  have : v.toInt = 1 ∨ v.toInt = 2 ∨ v.toInt = 3 := by omega
  rcases this with e | e | e
  · exact Or.inl (Int32.toInt_inj.mp (e.trans (by decide)))
  · exact Or.inr (Or.inl (Int32.toInt_inj.mp (e.trans (by decide))))
  · exact Or.inr (Or.inr (Int32.toInt_inj.mp (e.trans (by decide))))
theorem mhasV_v {t v : Int32} (h : ¬ mhasV t v = 0) : v = 1 ∨ v = 2 ∨ v = 3 := by
  unfold mhasV at h
  by_cases z : kinL v.toInt64 1 3 = 0
  · rw [if_pos z] at h; exact absurd rfl h
  · exact kin13_v z
/-! the reference: what comes to the server -/
def mtof (σ : kS) (n : Int32) : Nat → Int32
  | 0 => -1
  | k + 1 => if σ 22 (5 * k) = n then nI k else mtof σ n k
theorem mtof_cases (σ : kS) (n : Int32) : ∀ K : Nat, mtof σ n K = -1 ∨ ∃ j, j < K ∧ mtof σ n K = nI j := by
  intro K
  induction K with
  | zero => exact Or.inl rfl
  | succ K ih =>
    by_cases z : σ 22 (5 * K) = n
    · exact Or.inr ⟨K, by omega, by simp [mtof, z]⟩
    · rcases ih with h | ⟨j, h1, h2⟩
      · exact Or.inl (by simp [mtof, z, h])
      · exact Or.inr ⟨j, by omega, by simp [mtof, z, h2]⟩
def msP (σ : kS) (n b : Int32) : Nat → Bool := fun i => decide (σ 24 i = n) && decide (σ 25 i = b)
theorem mix_5 {k : Nat} : (5 : Int32) * nI k = nI (5 * k) := by rw [show (5 : Int32) = nI 5 from rfl, pk_mul]
theorem mix_51 {k : Nat} : (5 : Int32) * nI k + 1 = nI (5 * k + 1) := by rw [mix_5, nI_1]
theorem mix_52 {k : Nat} : (5 : Int32) * nI k + 2 = nI (5 * k + 2) := by rw [mix_5, show (2 : Int32) = nI 2 from rfl, nI_add]
theorem mix_53 {k : Nat} : (5 : Int32) * nI k + 3 = nI (5 * k + 3) := by rw [mix_5, show (3 : Int32) = nI 3 from rfl, nI_add]
theorem mix_54 {k : Nat} : (5 : Int32) * nI k + 4 = nI (5 * k + 4) := by rw [mix_5, show (4 : Int32) = nI 4 from rfl, nI_add]
def mshN (σ : kS) : kS := su (su (su (su (su (su σ 24 0 (σ 24 1)) 25 0 (σ 25 1)) 24 1 (σ 24 2)) 25 1 (σ 25 2)) 24 2 (σ 24 3)) 25 2 (σ 25 3)
def msees (σ : kS) (E : Nat) (n b : Int32) : kS := if E = 4 then su (su (su (su (mshN σ) 23 0 (σ 23 0 - 1)) 24 3 n) 25 3 b) 23 0 (σ 23 0 - 1 + 1) else su (su (su σ 24 E n) 25 E b) 23 0 (σ 23 0 + 1)
def mfit (σ : kS) (j : Nat) : Int32 := kinL ((σ 29 6 - σ 22 (5 * j + 4)).toInt64 - (σ 14 0 - σ 22 (5 * j + 2)).toInt64) (-2) 2
def mfinR (σ : kS) : kS := if σ 29 1 = mproof σ 1 2 then mjoin σ 1 else mfail σ 1 8
def mlett (σ : kS) (sd : Nat) : kS := if σ 29 2 = kmix (kmix (mlock σ sd sd) (σ 29 1)) (σ 11 (2 * sd + sd)) then su (su (su σ 33 sd (σ 33 sd + 1)) 34 sd (σ 34 sd + (σ 29 1 ^^^ (kmix (mlock σ sd sd) (σ 11 (2 * sd + sd)) &&& 1023)))) 11 (2 * sd + sd) (σ 11 (2 * sd + sd) + 1) else mfail σ sd 9
def mupd (σ : kS) (sd : Nat) : kS := if σ 29 1 = kmix (kmix (mlock σ sd sd) (-1)) (σ 11 (2 * sd + sd)) then su (su σ 10 (2 * sd + sd) (σ 10 (2 * sd + sd) + 1)) 11 (2 * sd + sd) (σ 11 (2 * sd + sd) + 1) else mfail σ sd 9
theorem bI_z (b : Bool) : narrow .boolean (.int (bI b)) = .int (bI b) := by cases b <;> rfl
theorem any_a {P : Nat → Bool} {k : Nat} (h : ¬ bI (kany P k) = 0) : 1 = bI (kany P (k + 1)) := by
  have z : kany P k = true := by
    cases e : kany P k with
    | true => rfl
    | false => rw [e] at h; exact absurd rfl h
  simp [kany, z, bI]
theorem any_bc {P : Nat → Bool} {k : Nat} (h : bI (kany P k) = 0) : bI (P k) = bI (kany P (k + 1)) := by
  have z : kany P k = false := by
    cases e : kany P k with
    | false => rfl
    | true => rw [e] at h; exact absurd h (by decide)
  simp [kany, z]
