/-! the numbers: what both sides reckon with -/
def kmix (h x : Int32) : Int32 := ((h ^^^ x) * 16777619) ^^^ kushr ((h ^^^ x) * 16777619) 15
def kmixN (f : Nat → Int32) (h : Int32) : Nat → Int32
  | 0 => h
  | k + 1 => kmix (kmixN f h k) (f k)
def kin9 (i : Int32) : Int32 := if i < 0 then 0 else if 8 < i then 0 else 1
theorem kin9_k {k : Nat} (hk : k < 9) : kin9 (nI k) = 1 := by
  unfold kin9
  rw [if_neg (nI_pos (by omega))]
  exact if_neg (show ¬ (8 : Int32) < nI k from nI_nlt (a := 8) (b := k) (by omega) (by omega))
def kclr (f : Nat → Int32) : Nat → (Nat → Int32)
  | 0 => f
  | k + 1 => upd (kclr f k) k 0
def kbeg (f : Nat → Int32) (kind : Int32) : Nat → Int32 := upd (kclr f 9) 0 kind
def kcpy (f g : Nat → Int32) : Nat → (Nat → Int32)
  | 0 => f
  | k + 1 => upd (kcpy f g k) k (g k)
theorem k_exit {N k : Nat} (hk : k ≤ N) (hN : N ≤ 2147483647) (c : nI N ≤ nI k) : k = N := by
  have := (nI_leI (by omega) (by omega)).mp c
  omega
theorem k_body {N k : Nat} (hk : k ≤ N) (hN : N ≤ 2147483647) (c : ¬ nI N ≤ nI k) : k < N := by
  have : ¬ N ≤ k := fun h => c ((nI_leI (a := N) (b := k) (by omega) (by omega)).mpr h)
  omega
theorem k_exit1 {M k : Nat} (hk : k ≤ M + 1) (hN : M < 2147483647) (c : nI M < nI k) : k = M + 1 := by
  have := (nI_ltI (by omega) (by omega)).mp c
  omega
theorem k_body1 {M k : Nat} (hk : k ≤ M + 1) (hN : M < 2147483647) (c : ¬ nI M < nI k) : k < M + 1 := by
  have : ¬ M < k := fun h => c ((nI_ltI (a := M) (b := k) (by omega) (by omega)).mpr h)
  omega
theorem k_cl {i : Int32} (h : ¬ i < 0) : i = nI i.toNatClampNeg := by
  obtain ⟨j, hj, rfl⟩ := nI_of h
  rw [nI_clamp hj]
def klock (p : Nat → Int32) (m : Int32) : Int32 := kmix (kmix m (p 0)) (p 1)
def ktag (p : Nat → Int32) (m x : Int32) : Int32 := kmix (kmix (klock p m) x) (p 2)
def kveil (p : Nat → Int32) (m v : Int32) : Int32 := v ^^^ (kmix (klock p m) (p 2) &&& 1023)
/-- a road: the messages' addresses and numbers in their order -/
def krow (q : Nat → Nat) : Nat → Option Nat := fun k => if k < 8 then some (q k) else none
def krot {α : Type} (f : Nat → α) : Nat → α := fun k => if k = 7 then f 0 else f (k + 1)
def ksendP (L : Nat) (p : Nat → Int32) : Nat → Int32 := if 8 ≤ L then upd p 2 (p 2 + 1) else upd p 1 (p 1 + 1)
def ksendM (L : Nat) (M : Nat → Nat → Int32) (g : Nat → Int32) : Nat → Nat → Int32 := if 8 ≤ L then M else va_up M L (kcpy (M L) g 9)
def kin5 (i : Int32) : Int32 := if i < 0 then 0 else if 4 < i then 0 else 1
def ktell (p : Nat → Int32) (i : Int32) : Int32 := if i = 0 then p 0 else if i = 1 then p 1 else if i = 2 then p 2 else if i = 3 then p 3 else p 4
def kside (i : Int32) : Int32 := if i = 0 then 1 else if i = 1 then 1 else 0
def kgrp (i : Int32) : Int32 := if i < 0 then 0 else if 3 < i then 0 else 1
def kplc (i : Int32) : Int32 := if i < 0 then 0 else if 4 ≤ i then 0 else 1
def kprime (g : Int32) : Int32 := if g = 0 then 23 else if g = 1 then 47 else if g = 2 then 59 else 97
def kpc (b e n : Int32) : Nat → Int32 × Int32
  | 0 => (1, krem b n)
  | k + 1 => (if (e >>> (nI k &&& 31)) &&& 1 = 0 then (kpc b e n k).1 else krem ((kpc b e n k).1 * (kpc b e n k).2) n, krem ((kpc b e n k).2 * (kpc b e n k).2) n)
def kpowC (b e n : Int32) : Int32 := (kpc b e n 10).1
def kshareC (g s : Int32) : Int32 := kpowC (if g = 2 then 2 else 5) s (kprime g)
def kisShare (s g : Int32) : Int32 := if s < 1 then 0 else if kprime g ≤ s then 0 else 1
def khas (set k : Int32) : Int32 := if (set >>> (k &&& 31)) &&& 1 = 0 then 0 else 1
def khasG (set g : Int32) : Int32 := if kgrp g = 0 then 0 else khas set g
def khasV (set v : Int32) : Int32 := if v < 1 then 0 else if 3 < v then 0 else khas set (v - 1)
def khasA (set v : Int32) : Int32 := if set >>> (v &&& 31) = 0 then 0 else 1
def kgreat (set : Int32) : Int32 := if (set >>> ((3 : Int32) &&& 31)) &&& 1 = 0 then if (set >>> ((2 : Int32) &&& 31)) &&& 1 = 0 then if (set >>> ((1 : Int32) &&& 31)) &&& 1 = 0 then if (set >>> ((0 : Int32) &&& 31)) &&& 1 = 0 then -1 else 0 else 1 else 2 else 3
def kleast (set : Int32) : Int32 := if (set >>> ((0 : Int32) &&& 31)) &&& 1 = 0 then if (set >>> ((1 : Int32) &&& 31)) &&& 1 = 0 then if (set >>> ((2 : Int32) &&& 31)) &&& 1 = 0 then if (set >>> ((3 : Int32) &&& 31)) &&& 1 = 0 then -1 else 3 else 2 else 1 else 0
def kkey (sh se g v : Int32) : Int32 := kmix (kmix 7 (kpowC sh se (kprime g))) v
def kbind (v d : Int32) (g : Nat → Int32) : Int32 := kmixN g (kmix v d) 7
theorem kprime_1 (g : Int32) : 1 ≤ kprime g := by
  unfold kprime
  repeat' split
  all_goals decide
theorem k_ne0 {n : Int32} (h : 1 ≤ n) : ¬ n = 0 := by
  intro z
  rw [z] at h
  exact absurd h (by decide)
def kother (i : Int32) : Int32 := if i = 0 then 1 else 0
theorem krow_rot (q : Nat → Nat) : va_up (va_up (va_up (va_up (va_up (va_up (va_up (va_up (krow q) 0 (some (q 1))) 1 (some (q 2))) 2 (some (q 3))) 3 (some (q 4))) 4 (some (q 5))) 5 (some (q 6))) 6 (some (q 7))) 7 (some (q 0)) = krow (krot q) := by
  funext z
  match z with
  | 0 => rfl
  | 1 => rfl
  | 2 => rfl
  | 3 => rfl
  | 4 => rfl
  | 5 => rfl
  | 6 => rfl
  | 7 => rfl
  | z + 8 => simp [va_up, krow, show ¬ z + 8 < 8 by omega]
/-! the sides -/
def kfail (p : Nat → Int32) (why : Int32) : Nat → Int32 := upd (upd p 3 5) 4 why
def krest (p : Nat → Int32) : Nat → Int32 := upd (upd (upd p 3 0) 4 0) 5 1
def kopen (q : Nat → Int32) : Nat → Int32 := upd (upd q 1 0) 2 0
def kjoinP (p : Nat → Int32) : Nat → Int32 := upd (upd p 3 4) 10 (kmix (p 9) (p 5))
def ktake (p g : Nat → Int32) : Nat → Int32 := upd p 5 (kmixN g (p 5) (if g 0 = 3 then 7 else 9))
def kproof (p : Nat → Int32) (n : Int32) : Int32 := kmix (kmix (p 9) (p 5)) n
def klet (p q f : Nat → Int32) (v : Int32) : Nat → Int32 := upd (upd (kbeg f 6) 1 (kveil q (p 10) v)) 2 (ktag q (p 10) (kveil q (p 10) v))
def kupm (p q f : Nat → Int32) : Nat → Int32 := upd (kbeg f 7) 1 (ktag q (p 10) (-1))
def krlet (p q : Nat → Int32) (se tg : Int32) : (Nat → Int32) × (Nat → Int32) := if tg = ktag q (p 10) se then (upd (upd p 11 (p 11 + 1)) 12 (p 12 + kveil q (p 10) se), upd q 2 (q 2 + 1)) else (kfail p 9, q)
def krupd (p q : Nat → Int32) (tg : Int32) : (Nat → Int32) × (Nat → Int32) := if tg = ktag q (p 10) (-1) then (p, upd (upd q 1 (q 1 + 1)) 2 (q 2 + 1)) else (kfail p 9, q)
def kprcv (p q g : Nat → Int32) : (Nat → Int32) × (Nat → Int32) := if p 3 = 4 then if g 0 = 6 then krlet p q (g 1) (g 2) else if g 0 = 7 then krupd p q (g 1) else (kfail p 1, q) else if p 3 = 5 then (p, q) else (kfail p 1, q)
def ktellJ (p a b : Nat → Int32) (i : Int32) : Int32 := if i = 3 then p 6 else if i = 4 then p 7 else if i = 5 then (if p 8 = 0 then 0 else 1) else if i = 6 then p 9 else if i = 7 then p 10 else if i = 8 then a 1 else if i = 9 then b 1 else if i = 10 then a 2 else b 2
def ktellP (p a b : Nat → Int32) (i : Int32) : Int32 := if i = 0 then p 3 else if i = 1 then p 4 else if i = 2 then p 5 else if p 3 = 4 then ktellJ p a b i else -1
/-! the client -/
theorem knb {x : Int32} (h : x = 0 ∨ x = 1) : narrow .boolean (.int x) = .int x ∧ fits .boolean (.int x) = true := by
  rcases h with rfl | rfl <;> exact ⟨rfl, rfl⟩
abbrev kF : Type := Nat → Int32
abbrev kFF : Type := Nat → Nat → Int32
def kaskG (c t f4 : kF) (p : kF) (now : Int32) : kF := if c 2 = 0 then f4 else upd (upd (upd f4 5 (t 0)) 6 (now - t 2 + t 4)) 7 (kbind (t 3) (p 5) (upd (upd f4 5 (t 0)) 6 (now - t 2 + t 4)))
def kaskF (c p t f : kF) (g now : Int32) : kF := upd (kaskG c t (upd (upd (upd (upd (kbeg f 1) 1 (p 0)) 2 (p 1)) 3 g) 4 (kshareC g (p 2))) p now) 8 (if c 2 = 0 then -1 else if c 5 = 0 then c 4 else -1)
def kaskC (c t : kF) (g : Int32) : kF := upd (upd (upd c 6 g) 7 (c 2)) 8 (t 3)
def kaskR (L : Nat) (c p t f rp : kF) (M : kFF) (g now : Int32) : kF × kF × kF × kF × kFF := (kaskC c t g, ktake p (kaskF c p t f g now), kaskF c p t f g now, ksendP L rp, ksendM L M (kaskF c p t f g now))
def kgrp0 (p c : kF) : Int32 := if khasG (p 1) (c 3) = 0 then kleast (p 1) else c 3
def kbeginR (L : Nat) (c p t f rp : kF) (M : kFF) (now : Int32) : kF × kF × kF × kF × kFF := kaskR L (upd c 5 0) (upd p 3 1) t f rp M (kgrp0 (upd p 3 1) (upd c 5 0)) now
def kretryR (L : Nat) (c p t f rp : kF) (M : kFF) (g : kF) (now : Int32) : kF × kF × kF × kF × kFF := if khasG (p 1) (g 1) = 0 then (c, kfail p 4, f, rp, M) else if g 1 = c 6 then (c, kfail p 4, f, rp, M) else if c 5 = 0 then kaskR L (upd c 5 1) (ktake p g) t f rp M (g 1) now else (c, kfail p 4, f, rp, M)
def kwrongC (p c g : kF) : Int32 := if khasV (p 0) (g 1) = 0 then 2 else if g 2 = c 6 then if g 4 = 0 then if kisShare (g 3) (c 6) = 0 then 5 else if g 5 = 0 then 0 else if c 7 = 0 then 6 else 0 else if khasA (p 0) (g 1) = 0 then if kisShare (g 3) (c 6) = 0 then 5 else if g 5 = 0 then 0 else if c 7 = 0 then 6 else 0 else 7 else 4
def kgreetQ (c p g : kF) : kF := upd (upd (upd p 6 (g 1)) 7 (c 6)) 8 (if g 5 = 0 then 0 else 1)
def kgreetP (c p g : kF) : kF := ktake (upd (kgreetQ c p g) 9 (kkey (g 3) (kgreetQ c p g 2) (c 6) (if g 5 = 0 then 0 else c 8))) g
def kgreetF (p5 f : kF) : kF := upd (kbeg f 4) 1 (kproof p5 2)
def kgreetR (L : Nat) (c p a b f rp : kF) (M : kFF) (g : kF) : kF × kF × kF × kF × kF × kFF := if kwrongC p c g = 0 then if g 7 = kproof (kgreetP c p g) 1 then (kjoinP (kgreetP c p g), kopen a, kopen b, kgreetF (kgreetP c p g) f, ksendP L rp, ksendM L M (kgreetF (kgreetP c p g) f)) else (kfail (kgreetP c p g) 8, a, b, f, rp, M) else (kfail p (kwrongC p c g), a, b, f, rp, M)
def kticket (p t g : kF) (now : Int32) : kF := upd (upd (upd (upd (upd t 0 (g 1)) 4 (g 2)) 1 (g 3)) 2 now) 3 (kmix (p 10) (g 1))
def kcliR (L : Nat) (c p a b f t rp : kF) (M : kFF) (g : kF) (now : Int32) : kF × kF × kF × kF × kF × kF × kF × kFF :=
  if p 3 = 1 then
    if g 0 = 2 then ((kretryR L c p t f rp M g now).1, (kretryR L c p t f rp M g now).2.1, a, b, (kretryR L c p t f rp M g now).2.2.1, t, (kretryR L c p t f rp M g now).2.2.2.1, (kretryR L c p t f rp M g now).2.2.2.2)
    else if g 0 = 3 then (c, (kgreetR L c p a b f rp M g).1, (kgreetR L c p a b f rp M g).2.1, (kgreetR L c p a b f rp M g).2.2.1, (kgreetR L c p a b f rp M g).2.2.2.1, t, (kgreetR L c p a b f rp M g).2.2.2.2.1, (kgreetR L c p a b f rp M g).2.2.2.2.2)
    else (c, (kprcv p a g).1, (kprcv p a g).2, b, f, t, rp, M)
  else if p 3 = 4 then
    if g 0 = 5 then (upd c 2 1, p, a, b, f, kticket p t g now, rp, M)
    else (c, (kprcv p a g).1, (kprcv p a g).2, b, f, t, rp, M)
  else (c, (kprcv p a g).1, (kprcv p a g).2, b, f, t, rp, M)
/-! the server -/
def krow3 (q : Nat → Nat) : Nat → Option Nat := fun k => if k < 3 then some (q k) else none
def krot3 {α : Type} (f : Nat → α) : Nat → α := fun k => if k = 2 then f 0 else f (k + 1)
theorem krow3_at {q : Nat → Nat} {K : Nat} (h : K < 3) : krow3 q K = some (q K) := by simp [krow3, h]
theorem krow3_rot (q : Nat → Nat) : va_up (va_up (va_up (krow3 q) 0 (some (q 1))) 1 (some (q 2))) 2 (some (q 0)) = krow3 (krot3 q) := by
  funext z
  match z with
  | 0 => rfl
  | 1 => rfl
  | 2 => rfl
  | z + 3 => simp [va_up, krow3, show ¬ z + 3 < 3 by omega]
def ktk (t : kF) (m life now v a : Int32) : kF := upd (upd (upd (upd (upd t 0 m) 1 life) 2 now) 3 v) 4 a
def ktkm (p f : kF) (m life : Int32) : kF := upd (upd (upd (kbeg f 5) 1 m) 2 (kmix m 77)) 3 life
def klive (s : kF) (T : kFF) (n now : Int32) : Int32 :=
  if s 2 ≤ 0 then -1 else if T 0 0 = n then (if now - T 0 2 ≤ T 0 1 then 0 else -1) else
  if s 2 ≤ 1 then -1 else if T 1 0 = n then (if now - T 1 2 ≤ T 1 1 then 1 else -1) else
  if s 2 ≤ 2 then -1 else if T 2 0 = n then (if now - T 2 2 ≤ T 2 1 then 2 else -1) else -1
theorem klive_cases (s : kF) (T : kFF) (n now : Int32) : klive s T n now = -1 ∨ (klive s T n now = 0 ∧ ¬ s 2 ≤ 0) ∨ (klive s T n now = 1 ∧ ¬ s 2 ≤ 1) ∨ (klive s T n now = 2 ∧ ¬ s 2 ≤ 2) := by
  unfold klive
  repeat' split
  all_goals simp_all
def kany (P : Nat → Bool) : Nat → Bool
  | 0 => false
  | k + 1 => kany P k || P k
theorem kany_of {P : Nat → Bool} {k : Nat} (hP : P k = true) : ∀ {E : Nat}, k < E → kany P E = true := by
  intro E
  induction E with
  | zero => intro h; omega
  | succ E ih =>
    intro h
    by_cases e : k = E
    · subst e; simp [kany, hP]
    · simp [kany, ih (by omega)]
def kwas (E : Nat) (N B : kF) (n b : Int32) : Int32 := bI (kany (fun i => decide (N i = n) && decide (B i = b)) E)
def kaddS (s : kF) : kF := if s 6 < 4 then upd s 6 (s 6 + 1) else upd (upd s 6 3) 6 (3 + 1)
def kaddN (E : Nat) (s N : kF) (n : Int32) : kF := if s 6 < 4 then upd N E n else upd (upd (upd (upd N 0 (N 1)) 1 (N 2)) 2 (N 3)) 3 n
def kearlC (E : Nat) (N B p t z : kF) (now : Int32) : Int32 := if z 8 < 0 then 0 else if p 3 = 0 then if z 6 - t 4 - (now - t 2) < -2 then 0 else if 2 < z 6 - t 4 - (now - t 2) then 0 else if kwas E N B (t 0) (z 7) = 0 then 1 else 0 else 0
def kearlS (s : kF) (v : Int32) : kF := upd (upd (kaddS s) 7 (kaddS s 7 + 1)) 8 (kaddS s 8 + v)
def kearlR (E : Nat) (s N B p t z : kF) (now : Int32) : Int32 × kF × kF × kF := if kearlC E N B p t z now = 0 then (0, s, N, B) else (1, kearlS s (z 8), kaddN E s N (t 0), kaddN E s B (z 7))
def ksretF (f : kF) (g : Int32) : kF := upd (kbeg f 2) 1 g
def ksretP (p f z : kF) (g : Int32) : kF := upd (ktake (ktake p z) (ksretF f g)) 3 2
def kgrF (p f : kF) (e : Int32) : kF := upd (upd (upd (upd (upd (upd (kbeg f 3) 1 (p 6)) 2 (p 7)) 3 (kshareC (p 7) (p 2))) 4 (if khasA (p 0) (p 6) = 0 then 0 else 1)) 5 (if p 8 = 0 then 0 else 1)) 6 (if e = 0 then 0 else 1)
def kgrP (p f : kF) (e : Int32) : kF := upd (ktake p (kgrF p f e)) 3 3
def kgrF2 (p f : kF) (e : Int32) : kF := upd (kgrF p f e) 7 (kproof (ktake p (kgrF p f e)) 1)
def kwrongS (p z : kF) (v g : Int32) : Int32 := if 1 ≤ v then if g = -1 then 3 else if z 3 = g then if kisShare (z 4) g = 0 then 5 else 0 else if p 3 = 0 then 0 else 4 else 2
theorem kd0m : ¬ (0 : Int32) = -1 := by decide
theorem kd1m : ¬ (1 : Int32) = -1 := by decide
theorem kd2m : ¬ (2 : Int32) = -1 := by decide
theorem kd10 : ¬ (1 : Int32) = 0 := by decide
theorem kd20 : ¬ (2 : Int32) = 0 := by decide
theorem kd21 : ¬ (2 : Int32) = 1 := by decide
def kver (p z : kF) : Int32 := 1 + kgreat (z 1 &&& p 0)
def klik (p z : kF) : Int32 := kgreat (z 2 &&& p 1)
def khelQ (p z : kF) (v g res : Int32) : kF := upd (upd (upd (ktake p z) 6 v) 7 g) 8 res
def khelP (p z : kF) (v g res val : Int32) : kF := upd (khelQ p z v g res) 9 (kkey (z 4) (khelQ p z v g res 2) g val)
abbrev kT7 : Type := kF × kF × kF × kF × kF × kF × kFF
def khelG (L : Nat) (s N B p2 f rp : kF) (M : kFF) (e : Int32) : kT7 := (s, kgrP p2 f e, kgrF2 p2 f e, N, B, ksendP L rp, ksendM L M (kgrF2 p2 f e))
def khelY (L E : Nat) (s N B p f t rp : kF) (M : kFF) (z : kF) (now v g : Int32) : kT7 :=
  if z 7 = kbind (t 3) (p 5) z then
    if (kearlR E s N B p t z now).1 = 0 then khelG L (kearlR E s N B p t z now).2.1 (kearlR E s N B p t z now).2.2.1 (kearlR E s N B p t z now).2.2.2 (khelP p z v g 1 (t 3)) f rp M 0
    else khelG L (kearlR E s N B p t z now).2.1 (kearlR E s N B p t z now).2.2.1 (kearlR E s N B p t z now).2.2.2 (khelP p z v g 1 (t 3)) f rp M 1
  else (s, kfail p 6, f, N, B, rp, M)
def khelR (L E : Nat) (s N B p f : kF) (T : kFF) (rp : kF) (M : kFF) (z : kF) (now : Int32) : kT7 :=
  if kwrongS p z (kver p z) (klik p z) = 0 then
    if z 3 = klik p z then
      if kver p z = 3 then
        if klive s T (z 5) now = -1 then khelG L s N B (khelP p z (kver p z) (klik p z) 0 0) f rp M 0
        else if klive s T (z 5) now = 0 then khelY L E s N B p f (T 0) rp M z now (kver p z) (klik p z)
        else if klive s T (z 5) now = 1 then khelY L E s N B p f (T 1) rp M z now (kver p z) (klik p z)
        else khelY L E s N B p f (T 2) rp M z now (kver p z) (klik p z)
      else khelG L s N B (khelP p z (kver p z) (klik p z) 0 0) f rp M 0
    else (s, ksretP p f z (klik p z), ksretF f (klik p z), N, B, ksendP L rp, ksendM L M (ksretF f (klik p z)))
  else (s, kfail p (kwrongS p z (kver p z) (klik p z)), f, N, B, rp, M)
def kfinR (p a b z : kF) : kF × kF × kF := if z 1 = kproof p 2 then (kjoinP p, kopen a, kopen b) else (kfail p 8, a, b)
abbrev kT9 : Type := kF × kF × kF × kF × kF × kF × kF × kF × kFF
def ksrvH (L E : Nat) (s p a b f N B : kF) (T : kFF) (rp : kF) (M : kFF) (z : kF) (now : Int32) : kT9 := ((khelR L E s N B p f T rp M z now).1, (khelR L E s N B p f T rp M z now).2.1, a, b, (khelR L E s N B p f T rp M z now).2.2.1, (khelR L E s N B p f T rp M z now).2.2.2.1, (khelR L E s N B p f T rp M z now).2.2.2.2.1, (khelR L E s N B p f T rp M z now).2.2.2.2.2.1, (khelR L E s N B p f T rp M z now).2.2.2.2.2.2)
def ksrvQ (s p a b f N B rp : kF) (M : kFF) (z : kF) : kT9 := (s, (kprcv p b z).1, a, (kprcv p b z).2, f, N, B, rp, M)
def ksrvR (L E : Nat) (s p a b f N B : kF) (T : kFF) (rp : kF) (M : kFF) (z : kF) (now : Int32) : kT9 :=
  if p 3 = 0 then (if z 0 = 1 then ksrvH L E s p a b f N B T rp M z now else ksrvQ s p a b f N B rp M z)
  else if p 3 = 2 then (if z 0 = 1 then ksrvH L E s p a b f N B T rp M z now else ksrvQ s p a b f N B rp M z)
  else if p 3 = 3 then (if z 0 = 4 then (s, (kfinR p a b z).1, (kfinR p a b z).2.1, (kfinR p a b z).2.2, f, N, B, rp, M) else ksrvQ s p a b f N B rp M z)
  else ksrvQ s p a b f N B rp M z
