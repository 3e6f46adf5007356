/-! the text as a whole -/
theorem kcT_le {xl : kF} {L E : Nat} (h : E ≤ L) : (kcT xl L E).1 ≤ (kcT xl L E).2 ∧ (kcT xl L E).2 ≤ L := by
  have h1 := ktok_le (xl := xl) h
  have h2 := ktok_le (xl := xl) h1.2
  have h3 := ktok_le (xl := xl) h2.2
  unfold kcT
  split
  · exact h1
  · split
    · exact h2
    · split
      · exact h2
      · exact h3
section
variable {xl : kF} {L k E : Nat} {q : kF × kF × kF × kF}
theorem kread_A (hk : k < 24) (hR : kcR xl L E = 0) : kread xl L (24 - k) k E q = (nI (kcT xl L E).1, (kset q.1 (kcT xl L E), kcP q.2.1 k (kcK xl L E) xl L E, kcP q.2.2.1 k (kcV xl L E) xl L E, kcP q.2.2.2 k (kcS xl L E) xl L E)) := by
  rw [show 24 - k = (23 - k) + 1 by omega]
  simp only [kread, hR, ↓reduceIte]
def krx (xl : kF) (L E : Nat) (x : kF) : kF := kset (upd (kset x (kcT xl L E)) 5 (x 5 + 1)) (ktok xl L (kcT xl L E).2)
def krq (xl : kF) (L k E : Nat) (q : kF × kF × kF × kF) : kF × kF × kF × kF := (krx xl L E q.1, kcP q.2.1 k (kcK xl L E) xl L E, kcP q.2.2.1 k (kcV xl L E) xl L E, kcP q.2.2.2 k (kcS xl L E) xl L E)
theorem kread_B (hk : k < 24) (hR : ¬ kcR xl L E = 0) (hu : (ktok xl L (kcT xl L E).2).1 = L) : kread xl L (24 - k) k E q = (-1, krq xl L k E q) := by
  rw [show 24 - k = (23 - k) + 1 by omega]
  simp only [kread, hR, hu, ↓reduceIte]
  rfl
theorem kread_C (hk : k < 24) (hR : ¬ kcR xl L E = 0) (hu : ¬ (ktok xl L (kcT xl L E).2).1 = L) (h9 : ¬ xl (ktok xl L (kcT xl L E).2).1 = 59) : kread xl L (24 - k) k E q = (nI (ktok xl L (kcT xl L E).2).1, krq xl L k E q) := by
  rw [show 24 - k = (23 - k) + 1 by omega]
  simp only [kread, hR, hu, h9, not_false_eq_true, ↓reduceIte]
  rfl
theorem kread_D (hk : k < 24) (hR : ¬ kcR xl L E = 0) (hu : ¬ (ktok xl L (kcT xl L E).2).1 = L) (h9 : xl (ktok xl L (kcT xl L E).2).1 = 59) : kread xl L (24 - k) k E q = kread xl L (24 - (k + 1)) (k + 1) (ktok xl L (kcT xl L E).2).2 (krq xl L k E q) := by
  rw [show 24 - k = (24 - (k + 1)) + 1 by omega]
  simp only [kread, hR, hu, h9, eq_self, not_true_eq_false, ↓reduceIte]
  rfl
end
def krd (xl : kF) (L : Nat) (x fk ff fs : kF) : Int32 × (kF × kF × kF × kF) := kread xl L 24 0 0 (upd (upd x 7 0) 5 0, fk, ff, fs)
def kapply (kd v w : Int32) (c p r : kF) : kF × kF × kF := if kd = 0 then (c, (koffer p v w).2, r) else if kd = 1 then (c, p, (koffer r v w).2) else if kd = 2 then (if v = 0 then (c, (ksecret p w).2, r) else (c, p, (ksecret r w).2)) else if kd = 3 then ((kguess c v).2, p, r) else ((kearly c v).2, p, r)
def kappls (fk ff fs : kF) : Nat → kF × kF × kF → kF × kF × kF
  | 0, q => q
  | k + 1, q => kapply (fk k) (ff k) (fs k) (kappls fk ff fs k q).1 (kappls fk ff fs k q).2.1 (kappls fk ff fs k q).2.2
