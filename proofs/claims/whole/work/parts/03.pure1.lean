/-! the numbers: what both sides reckon with -/
def kmix (h x : Int32) : Int32 := ((h ^^^ x) * 16777619) ^^^ kushr ((h ^^^ x) * 16777619) 15
def kmixN (f : Nat → Int32) (h : Int32) : Nat → Int32
  | 0 => h
  | k + 1 => kmix (kmixN f h k) (f k)
def kin9 (i : Int32) : Int32 := if i < 0 then 0 else if 8 < i then 0 else 1
theorem kin9_k {k : Nat} (hk : k < 9) : kin9 (nI k) = 1 := by
  unfold kin9
  rw [if_neg (nI_pos (by omega))]
  exact if_neg (show ¬ (8 : Int32) < nI k from nI_nlt (a := 8) (b := k) (by omega) (by omega))
def kclr (f : Nat → Int32) : Nat → (Nat → Int32)
  | 0 => f
  | k + 1 => upd (kclr f k) k 0
def kbeg (f : Nat → Int32) (kind : Int32) : Nat → Int32 := upd (kclr f 9) 0 kind
def kcpy (f g : Nat → Int32) : Nat → (Nat → Int32)
  | 0 => f
  | k + 1 => upd (kcpy f g k) k (g k)
theorem k_exit {N k : Nat} (hk : k ≤ N) (hN : N ≤ 2147483647) (c : nI N ≤ nI k) : k = N := by
  have := (nI_leI (by omega) (by omega)).mp c
  omega
theorem k_body {N k : Nat} (hk : k ≤ N) (hN : N ≤ 2147483647) (c : ¬ nI N ≤ nI k) : k < N := by
  have : ¬ N ≤ k := fun h => c ((nI_leI (a := N) (b := k) (by omega) (by omega)).mpr h)
  omega
theorem k_exit1 {M k : Nat} (hk : k ≤ M + 1) (hN : M < 2147483647) (c : nI M < nI k) : k = M + 1 := by
  have := (nI_ltI (by omega) (by omega)).mp c
  omega
theorem k_body1 {M k : Nat} (hk : k ≤ M + 1) (hN : M < 2147483647) (c : ¬ nI M < nI k) : k < M + 1 := by
  have : ¬ M < k := fun h => c ((nI_ltI (a := M) (b := k) (by omega) (by omega)).mpr h)
  omega
theorem k_cl {i : Int32} (h : ¬ i < 0) : i = nI i.toNatClampNeg := by
  obtain ⟨j, hj, rfl⟩ := nI_of h
  rw [nI_clamp hj]
def klock (p : Nat → Int32) (m : Int32) : Int32 := kmix (kmix m (p 0)) (p 1)
def ktag (p : Nat → Int32) (m x : Int32) : Int32 := kmix (kmix (klock p m) x) (p 2)
def kveil (p : Nat → Int32) (m v : Int32) : Int32 := v ^^^ (kmix (klock p m) (p 2) &&& 1023)
/-- a road: the messages' addresses and numbers in their order -/
def krow (q : Nat → Nat) : Nat → Option Nat := fun k => if k < 8 then some (q k) else none
def krot {α : Type} (f : Nat → α) : Nat → α := fun k => if k = 7 then f 0 else f (k + 1)
def ksendP (L : Nat) (p : Nat → Int32) : Nat → Int32 := if 8 ≤ L then upd p 2 (p 2 + 1) else upd p 1 (p 1 + 1)
def ksendM (L : Nat) (M : Nat → Nat → Int32) (g : Nat → Int32) : Nat → Nat → Int32 := if 8 ≤ L then M else va_up M L (kcpy (M L) g 9)
def kin5 (i : Int32) : Int32 := if i < 0 then 0 else if 4 < i then 0 else 1
def ktell (p : Nat → Int32) (i : Int32) : Int32 := if i = 0 then p 0 else if i = 1 then p 1 else if i = 2 then p 2 else if i = 3 then p 3 else p 4
def kside (i : Int32) : Int32 := if i = 0 then 1 else if i = 1 then 1 else 0
def kgrp (i : Int32) : Int32 := if i < 0 then 0 else if 3 < i then 0 else 1
def kplc (i : Int32) : Int32 := if i < 0 then 0 else if 4 ≤ i then 0 else 1
def kprime (g : Int32) : Int32 := if g = 0 then 23 else if g = 1 then 47 else if g = 2 then 59 else 97
def kpc (b e n : Int32) : Nat → Int32 × Int32
  | 0 => (1, krem b n)
  | k + 1 => (if (e >>> (nI k &&& 31)) &&& 1 = 0 then (kpc b e n k).1 else krem ((kpc b e n k).1 * (kpc b e n k).2) n, krem ((kpc b e n k).2 * (kpc b e n k).2) n)
def kpowC (b e n : Int32) : Int32 := (kpc b e n 10).1
def kshareC (g s : Int32) : Int32 := kpowC (if g = 2 then 2 else 5) s (kprime g)
def kisShare (s g : Int32) : Int32 := if s < 1 then 0 else if kprime g ≤ s then 0 else 1
def khas (set k : Int32) : Int32 := if (set >>> (k &&& 31)) &&& 1 = 0 then 0 else 1
def khasG (set g : Int32) : Int32 := if kgrp g = 0 then 0 else khas set g
def khasV (set v : Int32) : Int32 := if v < 1 then 0 else if 3 < v then 0 else khas set (v - 1)
def khasA (set v : Int32) : Int32 := if set >>> (v &&& 31) = 0 then 0 else 1
def kgreat (set : Int32) : Int32 := if (set >>> ((3 : Int32) &&& 31)) &&& 1 = 0 then if (set >>> ((2 : Int32) &&& 31)) &&& 1 = 0 then if (set >>> ((1 : Int32) &&& 31)) &&& 1 = 0 then if (set >>> ((0 : Int32) &&& 31)) &&& 1 = 0 then -1 else 0 else 1 else 2 else 3
def kleast (set : Int32) : Int32 := if (set >>> ((0 : Int32) &&& 31)) &&& 1 = 0 then if (set >>> ((1 : Int32) &&& 31)) &&& 1 = 0 then if (set >>> ((2 : Int32) &&& 31)) &&& 1 = 0 then if (set >>> ((3 : Int32) &&& 31)) &&& 1 = 0 then -1 else 3 else 2 else 1 else 0
def kkey (sh se g v : Int32) : Int32 := kmix (kmix 7 (kpowC sh se (kprime g))) v
def kbind (v d : Int32) (g : Nat → Int32) : Int32 := kmixN g (kmix v d) 7
theorem kprime_1 (g : Int32) : 1 ≤ kprime g := by
  unfold kprime
  repeat' split
  all_goals decide
theorem k_ne0 {n : Int32} (h : 1 ≤ n) : ¬ n = 0 := by
  intro z
  rw [z] at h
  exact absurd h (by decide)
def kother (i : Int32) : Int32 := if i = 0 then 1 else 0
theorem krow_rot (q : Nat → Nat) : va_up (va_up (va_up (va_up (va_up (va_up (va_up (va_up (krow q) 0 (some (q 1))) 1 (some (q 2))) 2 (some (q 3))) 3 (some (q 4))) 4 (some (q 5))) 5 (some (q 6))) 6 (some (q 7))) 7 (some (q 0)) = krow (krot q) := by
  funext z
  match z with
  | 0 => rfl
  | 1 => rfl
  | 2 => rfl
  | 3 => rfl
  | 4 => rfl
  | 5 => rfl
  | 6 => rfl
  | 7 => rfl
  | z + 8 => simp [va_up, krow, show ¬ z + 8 < 8 by omega]
