/-! the client is asked again, or greeted -/
section
variable {n : Nat} {nw c t p a b s N B : kF} {T : kFF} {r a2 b2 rp : kF} {M : kFF} {rq : kF} {M2 Y : kFF} {zf x xl : kF} {σ : kS}
theorem rel_retry (h : Rel n nw c t p a b s N B T r a2 b2 rp M rq M2 Y zf x xl σ) (h1 : p 3 = 1) {z f : kF} (hz : E9 z (σ 29)) (z0 : z 0 = 2) {S L : Nat} (hS : p 2 = nI S) (hS2 : S ≤ 999) (hL : rq 1 = nI L) (hL8 : L ≤ 8) :
    Rel n nw (kretryR L c p t f rq M2 z (nw 8)).1 t (kretryR L c p t f rq M2 z (nw 8)).2.1 a b s N B T r a2 b2 rp M (kretryR L c p t f rq M2 z (nw 8)).2.2.2.1 (kretryR L c p t f rq M2 z (nw 8)).2.2.2.2 Y zf x xl (mretry σ S L) := by
  have e1 : z 1 = σ 29 1 := hz 1 (by decide)
  obtain ⟨m, m1, m2, m3⟩ := h.p.2.2.1
  have eg : σ 1 0 = nI m := h.p.1.2.1.trans m3
  have c16 := h.cli.1.2.2.2.2.2.2.2.2.1
  have c19 := h.cli.1.2.2.2.2.2.2.2.2.2.2.2
  unfold kretryR mretry
  rw [m3, khasG_eq m2, eg, e1, c16, c19]
  by_cases q1 : kinL (σ 29 1).toInt64 0 3 = 0
  · rw [if_pos (show (if kinL (σ 29 1).toInt64 0 3 = 0 then 0 else mhas (nI m) (σ 29 1)) = 0 from if_pos q1), if_pos q1]
    exact rel_fail0 h 4
  rw [if_neg q1, if_neg q1]
  by_cases q2 : mhas (nI m) (σ 29 1) = 0
  · rw [if_pos q2, if_pos q2]
    exact rel_fail0 h 4
  rw [if_neg q2, if_neg q2]
  by_cases q3 : σ 29 1 = c 6
  · rw [if_pos q3, if_pos q3]
    exact rel_fail0 h 4
  rw [if_neg q3, if_neg q3]
  by_cases q4 : c 5 = 0
  · rw [if_pos q4, if_pos q4]
    have k1 := rel_again (rel_take0 h (by rw [h1]; decide) (k := 9) (g := z) (by rw [z0]; rfl) hz (by omega))
    have hS' : ktake p z 2 = nI S := by
      unfold ktake
      rw [pk_un (by decide)]
      exact hS
    have h3' : ¬ ktake p z 3 = 4 := by
      unfold ktake
      rw [pk_un (by decide), h1]
      decide
    generalize ktake p z = P at k1 hS' h3'
    generalize su (mtakes σ 0 9) 19 0 1 = τ at k1
    generalize upd c 5 1 = c' at k1
    unfold kaskR
    exact rel_ask k1 h3' hS' hS2 hL hL8 f (σ 29 1)
  · rw [if_neg q4, if_neg q4]
    exact rel_fail0 h 4
end
