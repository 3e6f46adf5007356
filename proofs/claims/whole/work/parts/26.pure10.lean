/-! the class's own calls, further -/
def ktickN (p : kF) (v : Int32) : Int32 := if v < 0 then -3 else if v ≤ 99 then -4 else -3
