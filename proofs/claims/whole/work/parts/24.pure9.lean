/-! the class's own calls -/
def koffer (p : kF) (v g : Int32) : Int32 × kF := if v < 1 then (-3, p) else if 7 < v then (-3, p) else if g < 1 then (-3, p) else if g ≤ 15 then (p 0, upd (upd p 0 v) 1 g) else (-3, p)
def ksecret (p : kF) (v : Int32) : Int32 × kF := if v < 1 then (-3, p) else if v ≤ 999 then (p 2, upd p 2 v) else (-3, p)
def kguess (c : kF) (g : Int32) : Int32 × kF := if kgrp g = 0 then (-3, c) else (c 3, upd c 3 g)
def kearly (c : kF) (v : Int32) : Int32 × kF := if v = -1 then (c 4, upd c 4 v) else if v < 0 then (-3, c) else if v ≤ 999 then (c 4, upd c 4 v) else (-3, c)
def khello (L : Nat) (c p t f rp : kF) (M : kFF) (now : Int32) : Int32 × kF × kF × kF × kF × kFF := if p 3 = 0 then ((kbeginR L c p t f rp M now).2.2.2.1 1, kbeginR L c p t f rp M now) else (-4, c, p, f, rp, M)
def kforget (c t : kF) : Int32 × kF := if c 2 = 0 then (-4, c) else (t 0, upd c 2 0)
def kpass (w : kF) (n : Int32) : Int32 × kF := if n < 1 then (-3, w) else if n ≤ 99 then (w 8 + n, upd w 8 (w 8 + n)) else (-3, w)
def ksay (L : Nat) (p b f rp : kF) (M : kFF) (v : Int32) : Int32 × kF × kF × kF × kFF := if v < 0 then (-3, b, f, rp, M) else if v ≤ 999 then if p 3 = 4 then (kveil b (p 10) v, upd b 2 (b 2 + 1), klet p b f v, ksendP L rp, ksendM L M (klet p b f v)) else (-4, b, f, rp, M) else (-3, b, f, rp, M)
def kupdate (L : Nat) (p b f rp : kF) (M : kFF) : Int32 × kF × kF × kF × kFF := if p 3 = 4 then (b 1 + 1, upd (upd b 1 (b 1 + 1)) 2 (b 2 + 1), kupm p b f, ksendP L rp, ksendM L M (kupm p b f)) else (-4, b, f, rp, M)
def ksideR (p a b : kF) (i : Int32) : Int32 := if i < 0 then -3 else if i ≤ 11 then ktellP p a b i else -3
theorem le11 {x : Int32} (h : x ≤ 11) : x.toInt ≤ 11 := by
  rw [Int32.le_iff_toInt_le, show (11 : Int32).toInt = 11 by decide] at h
  exact h
theorem ge0 {x : Int32} (h : ¬ x < 0) : 0 ≤ x.toInt := by
  rw [Int32.lt_iff_toInt_lt, show (0 : Int32).toInt = 0 by decide] at h
  omega
theorem ks_no {i : Int32} (h0 : ¬ i = 0) (h1 : ¬ i = 1) : kside i = 0 := by
  unfold kside
  rw [if_neg h0, if_neg h1]
