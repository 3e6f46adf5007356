/-! the text -/
def ksmall (v : Int32) : Int32 := if v < 97 then 0 else if 122 < v then 0 else 1
def kdigit (v : Int32) : Int32 := if v < 48 then 0 else if 57 < v then 0 else 1
def ktypeA (L : Nat) (x xl : kF) (v : Int32) : Int32 × kF × kF := if v < 0 then (-3, x, xl) else if v ≤ 255 then (x 1 + 1, upd x 1 (x 1 + 1), upd xl L v) else (-3, x, xl)
def kmost (i : Int32) : Int32 := if i = 2 then 1 else if i = 3 then 3 else if i = 4 then 999 else 7
def ktypeB (v : Int32) : Int32 := if v < 0 then -3 else if v ≤ 255 then -5 else -3
