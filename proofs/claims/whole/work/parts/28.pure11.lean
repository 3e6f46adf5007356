/-! the class: its other calls -/
def kcountR (nw c s rc rs p r x : kF) (i : Int32) : Int32 := if i = 0 then nw 8 else if i = 1 then rc 1 else if i = 2 then rs 1 else if i = 3 then s 2 else if i = 4 then s 6 else if i = 5 then s 7 else if i = 6 then s 8 else if i = 7 then p 11 else if i = 8 then r 11 else if i = 9 then p 12 else if i = 10 then r 12 else if i = 11 then x 1 else if i = 12 then rc 2 + rs 2 else -3
def kheldR (c t : kF) (i : Int32) : Int32 := if kin5 i = 0 then -3 else if c 2 = 0 then -4 else ktell t i
def kshareR (g v : Int32) : Int32 := if kgrp g = 0 then -2 else if v < 1 then -3 else if v ≤ 999 then kshareC g v else -3
def krow4 (q : Nat → Nat) : Nat → Option Nat := fun k => if k < 4 then some (q k) else none
def kinjR (L : Nat) (rp : kF) (M : kFF) (z : Int32) (g : kF) : Int32 × kF × kFF := if z = 0 then (-4, rp, M) else if rp 1 < 8 then (ksendP L rp 1, ksendP L rp, ksendM L M g) else (-5, rp, M)
def kmsgR (rp : kF) (M : kFF) (k : Nat) : Int32 := if rp 1 = 0 then -4 else M 0 k
