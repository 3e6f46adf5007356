/-! the reference's words, numbers and clauses -/
def mwd6 (xl : kF) (L S E : Nat) (tok a b c d e f : Int32) : Int32 := if tok = 1 then (if E - S = 6 then (if mlet xl L S = a then (if mlet xl L (S + 1) = b then (if mlet xl L (S + 2) = c then (if mlet xl L (S + 3) = d then (if mlet xl L (S + 4) = e then (if mlet xl L (S + 5) = f then 1 else 0) else 0) else 0) else 0) else 0) else 0) else 0) else 0
def mwd5 (xl : kF) (L S E : Nat) (tok a b c d e : Int32) : Int32 := if tok = 1 then (if E - S = 5 then (if mlet xl L S = a then (if mlet xl L (S + 1) = b then (if mlet xl L (S + 2) = c then (if mlet xl L (S + 3) = d then (if mlet xl L (S + 4) = e then 1 else 0) else 0) else 0) else 0) else 0) else 0) else 0
theorem mwd6_eq {i : Nat} {xl : kF} {L S E : Nat} {a b c d e f : Int32} (hi : kbyt.getD i [] = [a, b, c, d, e, f]) (hl : klen.getD i 0 = 6) (ha : ksm a = true) (hEL : E ≤ L) : mwd6 xl L S E (mtk xl L S) a b c d e f = bI (kwd i xl S E) := by
  unfold kwd mwd6
  rw [hi, hl]
  by_cases h6 : E - S = 6
  · have lS : S < L := by omega
    rw [mlet_in lS, mlet_in (show S + 1 < L by omega), mlet_in (show S + 2 < L by omega), mlet_in (show S + 3 < L by omega), mlet_in (show S + 4 < L by omega), mlet_in (show S + 5 < L by omega)]
    simp only [kwdG, Nat.add_assoc, Nat.reduceAdd, h6, ↓reduceIte, decide_true, Bool.true_and, Bool.and_true]
    by_cases h1 : xl S = a
    · have ht := mtk_s lS (show ksm (xl S) = true by rw [h1]; exact ha)
      rw [ht, if_pos rfl]
      by_cases h2 : xl (S + 1) = b <;> by_cases h3 : xl (S + 2) = c <;> by_cases h4 : xl (S + 3) = d <;> by_cases h5 : xl (S + 4) = e <;> by_cases h7 : xl (S + 5) = f <;> simp [h1, h2, h3, h4, h5, h7, bI]
    · simp [h1, bI]
  · simp [h6, bI]
theorem mwd5_eq {i : Nat} {xl : kF} {L S E : Nat} {a b c d e : Int32} (hi : kbyt.getD i [] = [a, b, c, d, e]) (hl : klen.getD i 0 = 5) (ha : ksm a = true) (hEL : E ≤ L) : mwd5 xl L S E (mtk xl L S) a b c d e = bI (kwd i xl S E) := by
  unfold kwd mwd5
  rw [hi, hl]
  by_cases h6 : E - S = 5
  · have lS : S < L := by omega
    rw [mlet_in lS, mlet_in (show S + 1 < L by omega), mlet_in (show S + 2 < L by omega), mlet_in (show S + 3 < L by omega), mlet_in (show S + 4 < L by omega)]
    simp only [kwdG, Nat.add_assoc, Nat.reduceAdd, h6, ↓reduceIte, decide_true, Bool.true_and, Bool.and_true]
    by_cases h1 : xl S = a
    · have ht := mtk_s lS (show ksm (xl S) = true by rw [h1]; exact ha)
      rw [ht, if_pos rfl]
      by_cases h2 : xl (S + 1) = b <;> by_cases h3 : xl (S + 2) = c <;> by_cases h4 : xl (S + 3) = d <;> by_cases h5 : xl (S + 4) = e <;> simp [h1, h2, h3, h4, h5, bI]
    · simp [h1, bI]
  · simp [h6, bI]
/-- numbers -/
theorem kdg_sm {v : Int32} (h : ksm v = true) : kdg v = false := by
  have h1 := of_decide_eq_true h
  apply decide_eq_false
  unfold ksmall at h1
  unfold kdigit
  split at h1
  · exact absurd h1 (by decide)
  · next q =>
    split
    · decide
    · split
      · decide
      · next q2 q3 =>
        exfalso
        apply q
        have z : v.toInt ≤ (57 : Int32).toInt := by
          have := Int32.not_lt.mp q3
          exact Int32.le_iff_toInt_le.mp this
        exact Int32.lt_iff_toInt_lt.mpr (Int.lt_of_le_of_lt z (by decide))
theorem kscan_all {xl : kF} {L S : Nat} : ∀ u, S + u ≤ L → kscan kdg xl L S = kscan kdg xl L (S + u) → kdgF xl S u = true → kdgF xl S (kscan kdg xl L S - S) = true := by
  intro u hu hs hd
  by_cases h : S + u < L
  · by_cases hk : kdg (xl (S + u)) = true
    · exact kscan_all (u + 1) (by omega) (hs.trans (kscan_yes h hk)) (by simp only [kdgF, hd, hk, Bool.and_self])
    · rw [hs, kscan_no (by simpa using hk), show S + u - S = u by omega]
      exact hd
  · rw [hs, kscan_end (by omega), show S + u - S = u by omega]
    exact hd
  termination_by u => L - S - u
theorem mdc_kdec {xl : kF} {S : Nat} : ∀ u, u ≤ 3 → mdc xl S u = kdecF xl S u := by
  intro u
  induction u with
  | zero => intro _; rfl
  | succ u ih =>
    intro h
    simp only [mdc, kdecF, show u < 3 by omega, ↓reduceIte, ih (by omega), Int32.mul_comm]
def mnum (xl : kF) (L S : Nat) (a b : Int32) : Int32 := if mtk xl L S = 2 then (if 4 ≤ mdi xl L S then 0 else if kinL (mvl xl L S).toInt64 a.toInt64 b.toInt64 = 0 then 0 else 1) else 0
theorem mnum_no {xl : kF} {S E : Nat} {a b : Int32} (hSE : S ≤ E) (h : S < E → kdg (xl S) = false) : knum xl S E a b = -1 := by
  unfold knum
  by_cases h0 : S = E
  · rw [if_pos h0]
  · rw [if_neg h0]
    split
    · rfl
    · rw [kdgF_no (u := 0) (by omega) (by rw [Nat.add_zero]; exact h (by omega)), if_neg (by decide)]
theorem ktokE_ge {xl : kF} {L S : Nat} (h : S ≤ L) : S ≤ ktokE xl L S ∧ ktokE xl L S ≤ L := by
  unfold ktokE
  split
  · split
    · exact ⟨kscan_ge, kscan_le h⟩
    · split
      · exact ⟨kscan_ge, kscan_le h⟩
      · omega
  · omega
/-- a number: the reference's answer, and its value -/
theorem mnum_eq {xl : kF} {L S : Nat} {a b : Int32} (hL : L ≤ 200) (hS : S ≤ L) (ha : ¬ a < 0) : mnum xl L S a b = (if knum xl S (ktokE xl L S) a b = -1 then 0 else 1) ∧ (¬ knum xl S (ktokE xl L S) a b = -1 → mvl xl L S = knum xl S (ktokE xl L S) a b) := by
  have hge := ktokE_ge (xl := xl) hS
  by_cases ht : mtk xl L S = 2
  · have hSL : S < L := Nat.lt_of_not_le fun q => by
      unfold mtk at ht
      rw [if_neg (by omega)] at ht
      exact absurd ht (by decide)
    have hsm : ksm (xl S) = false := by
      cases z : ksm (xl S) with
      | false => rfl
      | true => rw [mtk_s hSL z] at ht; exact absurd ht (by decide)
    have hdg : kdg (xl S) = true := by
      cases z : kdg (xl S) with
      | true => rfl
      | false => rw [mtk_1 hSL hsm z] at ht; exact absurd ht (by decide)
    have hE : ktokE xl L S = kscan kdg xl L S := ktokE_d hSL hsm hdg rfl
    have hE1 : S + 1 ≤ ktokE xl L S := by
      rw [hE, kscan_yes hSL hdg]
      exact kscan_ge
    have hall : kdgF xl S (ktokE xl L S - S) = true := by
      rw [hE]
      exact kscan_all 0 (by omega) rfl rfl
    unfold mnum mvl mdi
    rw [if_pos ht, if_pos ht, if_pos ht]
    unfold knum
    rw [if_neg (show ¬ S = ktokE xl L S by omega)]
    by_cases h3 : 3 < ktokE xl L S - S
    · rw [if_pos h3, if_pos (show (4 : Int32) ≤ nI (ktokE xl L S - S) from (nI_leI (a := 4) (b := ktokE xl L S - S) (by omega) (by omega)).mpr (by omega)), if_pos rfl]
      exact ⟨rfl, fun q => absurd rfl q⟩
    · rw [if_neg h3, if_neg (show ¬ (4 : Int32) ≤ nI (ktokE xl L S - S) from fun z => absurd ((nI_leI (a := 4) (b := ktokE xl L S - S) (by omega) (by omega)).mp z) (by omega)), if_pos hall]
      have hm : mdc xl S (ktokE xl L S - S) = kdec xl S (ktokE xl L S) := mdc_kdec _ (by omega)
      rw [hm, kinL_i]
      by_cases h4 : kdec xl S (ktokE xl L S) < a
      · rw [if_pos h4, if_pos h4, if_pos rfl, if_pos rfl]
        exact ⟨rfl, fun q => absurd rfl q⟩
      · rw [if_neg h4, if_neg h4]
        by_cases h5 : b < kdec xl S (ktokE xl L S)
        · rw [if_pos h5, if_neg (Int32.not_le.mpr h5), if_pos rfl, if_pos rfl]
          exact ⟨rfl, fun q => absurd rfl q⟩
        · rw [if_neg h5, if_pos (Int32.not_lt.mp h5), if_neg (by decide)]
          have hn : ¬ kdec xl S (ktokE xl L S) = -1 := fun q => h4 (by
            rw [q]
            exact Int32.lt_of_lt_of_le (by decide) (Int32.not_lt.mp ha))
          rw [if_neg hn]
          exact ⟨rfl, fun _ => rfl⟩
  · have hk : knum xl S (ktokE xl L S) a b = -1 := mnum_no hge.1 (fun q => by
      have hSL : S < L := by omega
      cases z : kdg (xl S) with
      | false => rfl
      | true =>
        cases z2 : ksm (xl S) with
        | true => rw [kdg_sm z2] at z; cases z
        | false => exact absurd (mtk_d hSL z2 z) ht)
    unfold mnum
    rw [if_neg ht, hk, if_pos rfl]
    exact ⟨rfl, fun q => absurd rfl q⟩
/-- what a clause does -/
def mdoes (σ : kS) (kd v w : Int32) : kS := if kd = 0 then su (su σ 0 0 v) 1 0 w else if kd = 1 then su (su σ 0 1 v) 1 1 w else if kd = 2 then (if v = 0 then su σ 2 0 w else su σ 2 1 w) else if kd = 3 then su σ 12 0 v else su σ 13 0 v
def mdo (fk ff fs : kF) : Nat → kS → kS
  | 0, σ => σ
  | k + 1, σ => mdoes (mdo fk ff fs k σ) (fk k) (ff k) (fs k)
theorem mdoes_hi (σ : kS) (kd v w : Int32) {r : Nat} (h : 14 ≤ r) : mdoes σ kd v w r = σ r := by
  have e : ∀ (τ : kS) (r' : Nat) (j : Nat) (x : Int32), r' < 14 → su τ r' j x r = τ r := fun τ r' j x q => by
    unfold su va_up
    rw [if_neg (by omega)]
  unfold mdoes
  repeat' split
  all_goals first | rw [e _ _ _ _ (by decide), e _ _ _ _ (by decide)] | rw [e _ _ _ _ (by decide)]
theorem mdo_hi (fk ff fs : kF) (σ : kS) {r : Nat} (h : 14 ≤ r) : ∀ k, mdo fk ff fs k σ r = σ r
  | 0 => rfl
  | k + 1 => (mdoes_hi _ _ _ _ h).trans (mdo_hi fk ff fs σ h k)
theorem su_mrw {σ : kS} {a b c d e : Int32} {r j : Nat} {v : Int32} (h : r < 37) : su (mrw σ a b c d e) r j v = mrw (su σ r j v) a b c d e := by
  funext z
  unfold su va_up mrw
  by_cases q : z = r
  · subst q
    simp only [↓reduceIte, show ¬ z = 37 by omega, show ¬ z = 38 by omega, show ¬ z = 39 by omega, show ¬ z = 40 by omega, show ¬ z = 41 by omega]
  · simp only [q, show ¬ (37 = r) by omega, show ¬ (38 = r) by omega, show ¬ (39 = r) by omega, show ¬ (40 = r) by omega, show ¬ (41 = r) by omega, ↓reduceIte]
theorem mdoes_mrw (σ : kS) (a b c d e kd v w : Int32) : mdoes (mrw σ a b c d e) kd v w = mrw (mdoes σ kd v w) a b c d e := by
  unfold mdoes
  repeat' split
  all_goals first | rw [su_mrw (by decide), su_mrw (by decide)] | rw [su_mrw (by decide)]
theorem mdo_upd {fk ff fs : kF} {x y z : Int32} {n : Nat} {σ : kS} : ∀ k, k ≤ n → mdo (upd fk n x) (upd ff n y) (upd fs n z) k σ = mdo fk ff fs k σ
  | 0, _ => rfl
  | k + 1, h => by
    have e := mdo_upd (fk := fk) (ff := ff) (fs := fs) (x := x) (y := y) (z := z) (σ := σ) k (Nat.le_of_succ_le h)
    simp only [mdo, e]
    rw [show upd fk n x k = fk k from if_neg (by omega), show upd ff n y k = ff k from if_neg (by omega), show upd fs n z k = fs k from if_neg (by omega)]
theorem mdo_step {fk ff fs : kF} {xl : kF} {L E n : Nat} {σ : kS} (hA : kcA xl L E = false) (hB : kcB xl L E = false) : mdo (kcP fk n (kcK xl L E) xl L E) (kcP ff n (kcV xl L E) xl L E) (kcP fs n (kcS xl L E) xl L E) (n + 1) σ = mdoes (mdo fk ff fs n σ) (kcK xl L E) (kcV xl L E) (kcS xl L E) := by
  unfold kcP
  rw [hA, hB]
  simp only [Bool.false_eq_true, ↓reduceIte]
  have e := mdo_upd (fk := fk) (ff := ff) (fs := fs) (x := kcK xl L E) (y := kcV xl L E) (z := kcS xl L E) (σ := σ) n (Nat.le_refl n)
  simp only [mdo, e]
  simp only [upd, ↓reduceIte]
/-- the state behind reads, over what the clauses have done -/
def mrt (xl : kF) (L E : Nat) (τ : kS) : kS := mrw τ (nI (ktok xl L E).2) (nI (ktok xl L E).1) (mtk xl L (ktok xl L E).1) (mvl xl L (ktok xl L E).1) (mdi xl L (ktok xl L E).1)
theorem mreads_mrw {xl : kF} {τ : kS} {a b c d e : Int32} {L E : Nat} (h : τ 35 = xl) : mreads (mrw τ a b c d e) L E = mrt xl L E τ := by
  subst h
  unfold mreads mrt
  exact mrw_mrw _ _ _ _ _ _ _ _ _ _ _
theorem mrw_at (σ : kS) (v : Int32) : su σ 37 0 v = mrw σ v (σ 38 0) (σ 39 0) (σ 40 0) (σ 41 0) := (congrArg (fun z => su z 37 0 v) (mrw_id σ)).symm.trans (mrw_37 _ _ _ _ _ _ _)
theorem kckind_cases (xl : kF) (L E : Nat) : kcK xl L E = -1 ∨ kcK xl L E = 0 ∨ kcK xl L E = 1 ∨ kcK xl L E = 2 ∨ kcK xl L E = 3 ∨ kcK xl L E = 4 := by
  unfold kcK kckind
  repeat' split
  all_goals decide
def mtype (σ : kS) (v : Int32) (L : Nat) : Int32 × kS := if kinL v.toInt64 0 255 = 0 then (-3, σ) else if L = 200 then (-5, σ) else (σ 36 0 + 1, su (su σ 35 L v) 36 0 (σ 36 0 + 1))
