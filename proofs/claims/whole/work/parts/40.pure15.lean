/-! the text's words and clauses -/
def kwdG (xl : kF) : List Int32 → Nat → Bool
  | [], _ => true
  | b :: w, n => decide (xl n = b) && kwdG xl w (n + 1)
def kwd (i : Nat) (xl : kF) (S E : Nat) : Bool := decide (E - S = klen.getD i 0) && kwdG xl (kbyt.getD i []) S
theorem klen_eq : ∀ i, i < 5 → klen.getD i 0 = (kbyt.getD i []).length := by decide
theorem kwdG_end {xl : kF} {w : List Int32} {j n : Nat} (h : w.length ≤ j) : kwdG xl (w.drop j) n = true := by
  rw [List.drop_eq_nil_iff.mpr h]
  rfl
theorem kwdG_at {xl : kF} {w : List Int32} {j n : Nat} (h : j < w.length) : kwdG xl (w.drop j) n = (decide (xl n = w.getD j 0) && kwdG xl (w.drop (j + 1)) (n + 1)) := by
  rw [List.drop_eq_getElem_cons h]
  simp only [kwdG, List.getD_eq_getElem?_getD, List.getElem?_eq_getElem h, Option.getD_some]
theorem kwd_len {i : Nat} {xl : kF} {S E : Nat} (h : ¬ E - S = klen.getD i 0) : bI (kwd i xl S E) = 0 := by
  unfold kwd
  rw [decide_eq_false h]
  rfl
theorem kwd_yes {i : Nat} {xl : kF} {S E j : Nat} (hi : i < 5) (h : E - S = klen.getD i 0) (hw : kwdG xl ((kbyt.getD i []).drop j) (S + j) = kwdG xl (kbyt.getD i []) S) (hj : klen.getD i 0 ≤ j) : bI (kwd i xl S E) = 1 := by
  unfold kwd
  rw [decide_eq_true h, ← hw, kwdG_end (by rw [← klen_eq i hi]; exact hj)]
  rfl
theorem kwd_no {i : Nat} {xl : kF} {S E j : Nat} (hi : i < 5) (hw : kwdG xl ((kbyt.getD i []).drop j) (S + j) = kwdG xl (kbyt.getD i []) S) (hj : j < klen.getD i 0) (hx : ¬ xl (S + j) = (kbyt.getD i []).getD j 0) : bI (kwd i xl S E) = 0 := by
  unfold kwd
  rw [← hw, kwdG_at (by rw [← klen_eq i hi]; exact hj), decide_eq_false hx, Bool.false_and, Bool.and_false]
  rfl
theorem kwd_step {i : Nat} {xl : kF} {S j : Nat} (hi : i < 5) (hw : kwdG xl ((kbyt.getD i []).drop j) (S + j) = kwdG xl (kbyt.getD i []) S) (hj : j < klen.getD i 0) (hx : xl (S + j) = (kbyt.getD i []).getD j 0) : kwdG xl ((kbyt.getD i []).drop (j + 1)) (S + (j + 1)) = kwdG xl (kbyt.getD i []) S := by
  rw [← hw, kwdG_at (j := j) (by rw [← klen_eq i hi]; exact hj), decide_eq_true hx, Bool.true_and]
  rfl
theorem kwd_0 {i : Nat} {xl : kF} {S : Nat} : kwdG xl ((kbyt.getD i []).drop 0) (S + 0) = kwdG xl (kbyt.getD i []) S := by
  rw [List.drop_zero]
  rfl
def kckind (xl : kF) (S E : Nat) : Int32 := if bI (kwd 0 xl S E) = 0 then (if bI (kwd 1 xl S E) = 0 then (if bI (kwd 2 xl S E) = 0 then (if bI (kwd 3 xl S E) = 0 then (if bI (kwd 4 xl S E) = 0 then -1 else 4) else 3) else 2) else 1) else 0
/-- a clause from E on: where its first token ends, its kind, the token behind, its first number, the token behind, its second -/
def kc1 (xl : kF) (L E : Nat) : Nat × Nat := ktok xl L E
def kcK (xl : kF) (L E : Nat) : Int32 := kckind xl (ktok xl L E).1 (ktok xl L E).2
def kc2 (xl : kF) (L E : Nat) : Nat × Nat := ktok xl L (ktok xl L E).2
def kcV (xl : kF) (L E : Nat) : Int32 := knum xl (kc2 xl L E).1 (kc2 xl L E).2 (if kcK xl L E = 0 then 1 else if kcK xl L E = 1 then 1 else 0) (kmost (kcK xl L E))
def kc3 (xl : kF) (L E : Nat) : Nat × Nat := ktok xl L (kc2 xl L E).2
def kcW (xl : kF) (L E : Nat) : Int32 := knum xl (kc3 xl L E).1 (kc3 xl L E).2 1 (if kcK xl L E = 2 then 999 else 15)
def kcA (xl : kF) (L E : Nat) : Bool := decide (kcK xl L E = -1)
def kcB (xl : kF) (L E : Nat) : Bool := decide (kcV xl L E = -1)
def kcC (xl : kF) (L E : Nat) : Bool := decide (kcK xl L E = 3) || decide (kcK xl L E = 4)
def kcT (xl : kF) (L E : Nat) : Nat × Nat := if kcA xl L E = true then kc1 xl L E else if kcB xl L E = true then kc2 xl L E else if kcC xl L E = true then kc2 xl L E else kc3 xl L E
def kcR (xl : kF) (L E : Nat) : Int32 := if kcA xl L E = true then 0 else if kcB xl L E = true then 0 else if kcC xl L E = true then 1 else if kcW xl L E = -1 then 0 else 1
def kcS (xl : kF) (L E : Nat) : Int32 := if kcC xl L E = true then 0 else kcW xl L E
def kcP (f : kF) (i : Nat) (v : Int32) (xl : kF) (L E : Nat) : kF := if kcA xl L E = true then f else if kcB xl L E = true then f else upd f i v
def kset (x : kF) (t : Nat × Nat) : kF := upd (upd x 6 (nI t.1)) 7 (nI t.2)
theorem kset_set (x : kF) (t u : Nat × Nat) : kset (kset x t) u = kset x u := by
  unfold kset
  funext i
  simp only [upd]
  split
  · rfl
  · split <;> rfl
theorem kset_6 (x : kF) (t : Nat × Nat) : kset x t 6 = nI t.1 := rfl
theorem kset_7 (x : kF) (t : Nat × Nat) : kset x t 7 = nI t.2 := rfl
theorem kset_1 (x : kF) (t : Nat × Nat) : kset x t 1 = x 1 := rfl
theorem kset_5 (x : kF) (t : Nat × Nat) : kset x t 5 = x 5 := rfl
/-- the clauses from E on, the i-th the first of them, at most n -/
def kread (xl : kF) (L : Nat) : Nat → Nat → Nat → kF × kF × kF × kF → Int32 × (kF × kF × kF × kF)
  | 0, _, _, q => (q.1 6, q)
  | n + 1, i, E, q =>
    let x1 := kset q.1 (kcT xl L E)
    let q2 : kF × kF × kF := (kcP q.2.1 i (kcK xl L E) xl L E, kcP q.2.2.1 i (kcV xl L E) xl L E, kcP q.2.2.2 i (kcS xl L E) xl L E)
    if kcR xl L E = 0 then (nI (kcT xl L E).1, (x1, q2)) else
      let u := ktok xl L (kcT xl L E).2
      let x3 := kset (upd x1 5 (x1 5 + 1)) u
      if u.1 = L then (-1, (x3, q2)) else if ¬ xl u.1 = 59 then (nI u.1, (x3, q2)) else kread xl L n (i + 1) u.2 (x3, q2)
