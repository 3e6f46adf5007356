/-! the client is asked again, or greeted -/
section
variable {n : Nat} {nw c t p a b s N B : kF} {T : kFF} {r a2 b2 rp : kF} {M : kFF} {rq : kF} {M2 Y : kFF} {zf x xl : kF} {σ : kS}
theorem kwrongC_eq (h : Rel n nw c t p a b s N B T r a2 b2 rp M rq M2 Y zf x xl σ) {z : kF} (hz : E9 z (σ 29)) : kwrongC p c z = mwrongC σ := by
  obtain ⟨m, m1, m2, m3⟩ := h.p.2.1
  have ev : σ 0 0 = nI m := h.p.1.1.trans m3
  have c16 := h.cli.1.2.2.2.2.2.2.2.2.1
  have c17 := h.cli.1.2.2.2.2.2.2.2.2.2.1
  unfold kwrongC mwrongC
  rw [m3, khasV_eq m2, ev, hz 1 (by decide), hz 2 (by decide), hz 3 (by decide), hz 4 (by decide), hz 5 (by decide), c16, c17, kisShare_eq]
  by_cases q1 : mhasV (nI m) (σ 29 1) = 0
  · rw [if_pos q1, if_pos q1]
  rw [if_neg q1, if_neg q1]
  have hA : khasA (nI m) (σ 29 1) = mab (nI m) (σ 29 1) := by
    have q2 : ¬ kinL (σ 29 1).toInt64 1 3 = 0 := fun y => q1 (by unfold mhasV; rw [if_pos y])
    rcases kin13_v q2 with y | y | y
    · rw [y]; exact khasA8 m m2 1 (by decide) (by decide)
    · rw [y]; exact khasA8 m m2 2 (by decide) (by decide)
    · rw [y]; exact khasA8 m m2 3 (by decide) (by decide)
  rw [hA]
theorem wrongC_share {z : kF} (h0 : kwrongC p c z = 0) : ¬ kisShare (z 3) (c 6) = 0 := by
  intro q
  unfold kwrongC at h0
  rw [q] at h0
  simp only [↓reduceIte] at h0
  split at h0
  · exact absurd h0 (by decide)
  · split at h0
    · split at h0
      · exact absurd h0 (by decide)
      · split at h0
        · exact absurd h0 (by decide)
        · exact absurd h0 (by decide)
    · exact absurd h0 (by decide)
end
