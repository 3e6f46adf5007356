/-! the text's tokens -/
def kscanF (pr : Int32 → Bool) (xl : kF) : Nat → Nat → Nat
  | 0, n => n
  | u + 1, n => if pr (xl n) = true then kscanF pr xl u (n + 1) else n
def kscan (pr : Int32 → Bool) (xl : kF) (L n : Nat) : Nat := kscanF pr xl (L - n) n
theorem kscan_end {pr : Int32 → Bool} {xl : kF} {L n : Nat} (h : L ≤ n) : kscan pr xl L n = n := by
  unfold kscan
  rw [show L - n = 0 by omega]
  rfl
theorem kscan_yes {pr : Int32 → Bool} {xl : kF} {L n : Nat} (h : n < L) (hp : pr (xl n) = true) : kscan pr xl L n = kscan pr xl L (n + 1) := by
  unfold kscan
  rw [show L - n = (L - (n + 1)) + 1 by omega]
  simp only [kscanF, hp, ↓reduceIte]
theorem kscan_no {pr : Int32 → Bool} {xl : kF} {L n : Nat} (hp : pr (xl n) = false) : kscan pr xl L n = n := by
  unfold kscan
  cases L - n with
  | zero => rfl
  | succ u => simp [kscanF, hp]
theorem kscanF_ge (pr : Int32 → Bool) (xl : kF) (u : Nat) : ∀ n, n ≤ kscanF pr xl u n ∧ kscanF pr xl u n ≤ n + u := by
  induction u with
  | zero => intro n; exact ⟨Nat.le_refl _, Nat.le_refl _⟩
  | succ u ih =>
    intro n
    simp only [kscanF]
    split
    · have := ih (n + 1); omega
    · omega
theorem kscan_ge {pr : Int32 → Bool} {xl : kF} {L n : Nat} : n ≤ kscan pr xl L n := (kscanF_ge pr xl _ n).1
theorem kscan_le {pr : Int32 → Bool} {xl : kF} {L n : Nat} (h : n ≤ L) : kscan pr xl L n ≤ L := by
  have := (kscanF_ge pr xl (L - n) n).2
  unfold kscan
  omega
def ksp (v : Int32) : Bool := decide (v = 32)
def ksm (v : Int32) : Bool := decide (ksmall v = 1)
def kdg (v : Int32) : Bool := decide (kdigit v = 1)
def ktokE (xl : kF) (L S : Nat) : Nat := if S < L then (if ksm (xl S) = true then kscan ksm xl L S else if kdg (xl S) = true then kscan kdg xl L S else S + 1) else S
def ktok (xl : kF) (L E : Nat) : Nat × Nat := (kscan ksp xl L E, ktokE xl L (kscan ksp xl L E))
theorem ktx_back (f : kF) (r j : Nat) : upd (upd f r (nI j)) r ((upd f r (nI j)) r + 1) = upd f r (nI (j + 1)) := by
  rw [upd_upd, show upd f r (nI j) r = nI j from by simp [upd], show (1 : Int32) = nI 1 from rfl, nI_add]
theorem ktok_at {xl : kF} {L E k : Nat} (h : kscan ksp xl L E = k) : ktok xl L E = (k, ktokE xl L k) := by
  unfold ktok
  rw [h]
theorem ktok_le {xl : kF} {L E : Nat} (h : E ≤ L) : (ktok xl L E).1 ≤ (ktok xl L E).2 ∧ (ktok xl L E).2 ≤ L := by
  have h1 : kscan ksp xl L E ≤ L := kscan_le h
  show kscan ksp xl L E ≤ ktokE xl L (kscan ksp xl L E) ∧ ktokE xl L (kscan ksp xl L E) ≤ L
  generalize kscan ksp xl L E = S at h1
  unfold ktokE
  split
  · split
    · exact ⟨kscan_ge, kscan_le h1⟩
    · split
      · exact ⟨kscan_ge, kscan_le h1⟩
      · omega
  · omega
theorem ksp_t {v : Int32} (h : v = 32) : ksp v = true := decide_eq_true h
theorem ksp_f {v : Int32} (h : ¬ v = 32) : ksp v = false := decide_eq_false h
theorem ksm_t {v : Int32} (h : ¬ ksmall v = 0) : ksm v = true := by
  apply decide_eq_true
  unfold ksmall at h ⊢
  split
  · rename_i q; simp [q] at h
  · split
    · rename_i q1 q2; simp [q1, q2] at h
    · rfl
theorem ksm_f {v : Int32} (h : ksmall v = 0) : ksm v = false := by
  apply decide_eq_false
  rw [h]
  decide
theorem kdg_t {v : Int32} (h : ¬ kdigit v = 0) : kdg v = true := by
  apply decide_eq_true
  unfold kdigit at h ⊢
  split
  · rename_i q; simp [q] at h
  · split
    · rename_i q1 q2; simp [q1, q2] at h
    · rfl
theorem kdg_f {v : Int32} (h : kdigit v = 0) : kdg v = false := by
  apply decide_eq_false
  rw [h]
  decide
theorem ktokE_A {xl : kF} {L k : Nat} (h : L ≤ k) : ktokE xl L k = k := if_neg (by omega)
theorem ktokE_s {xl : kF} {L k j : Nat} (h : k < L) (hs : ksm (xl k) = true) (hJ : kscan ksm xl L k = j) : ktokE xl L k = j := by
  unfold ktokE
  rw [if_pos h, if_pos hs, hJ]
theorem ktokE_d {xl : kF} {L k j : Nat} (h : k < L) (hs : ksm (xl k) = false) (hd : kdg (xl k) = true) (hJ : kscan kdg xl L k = j) : ktokE xl L k = j := by
  unfold ktokE
  rw [if_pos h, hs, if_neg (by decide), if_pos hd, hJ]
theorem ktokE_1 {xl : kF} {L k : Nat} (h : k < L) (hs : ksm (xl k) = false) (hd : kdg (xl k) = false) : ktokE xl L k = k + 1 := by
  unfold ktokE
  rw [if_pos h, hs, hd, if_neg (by decide), if_neg (by decide)]
