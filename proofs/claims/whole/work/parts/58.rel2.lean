/-! the calls that change little, and those that only read -/
def Rel (n : Nat) (nw c t p a b s N B : kF) (T : kFF) (r a2 b2 rp : kF) (M : kFF) (rq : kF) (M2 Y : kFF) (zf x xl : kF) (σ : kS) : Prop := RNow n nw σ ∧ RCli c t σ ∧ RPeer 0 p a b σ ∧ RSrv n nw s N B T σ ∧ RPeer 1 r a2 b2 σ ∧ RRoad 0 rp M (σ 26) (σ 27) ∧ RRoad 1 rq M2 (σ 26) (σ 27) ∧ RCop Y zf σ ∧ RTxt x xl σ ∧ σ 30 0 = rp 2 + rq 2
theorem Rel.now {n : Nat} {nw c t p a b s N B : kF} {T : kFF} {r a2 b2 rp : kF} {M : kFF} {rq : kF} {M2 Y : kFF} {zf x xl : kF} {σ : kS} (h : Rel n nw c t p a b s N B T r a2 b2 rp M rq M2 Y zf x xl σ) : RNow n nw σ := h.1
theorem Rel.cli {n : Nat} {nw c t p a b s N B : kF} {T : kFF} {r a2 b2 rp : kF} {M : kFF} {rq : kF} {M2 Y : kFF} {zf x xl : kF} {σ : kS} (h : Rel n nw c t p a b s N B T r a2 b2 rp M rq M2 Y zf x xl σ) : RCli c t σ := h.2.1
theorem Rel.p {n : Nat} {nw c t p a b s N B : kF} {T : kFF} {r a2 b2 rp : kF} {M : kFF} {rq : kF} {M2 Y : kFF} {zf x xl : kF} {σ : kS} (h : Rel n nw c t p a b s N B T r a2 b2 rp M rq M2 Y zf x xl σ) : RPeer 0 p a b σ := h.2.2.1
theorem Rel.srv {n : Nat} {nw c t p a b s N B : kF} {T : kFF} {r a2 b2 rp : kF} {M : kFF} {rq : kF} {M2 Y : kFF} {zf x xl : kF} {σ : kS} (h : Rel n nw c t p a b s N B T r a2 b2 rp M rq M2 Y zf x xl σ) : RSrv n nw s N B T σ := h.2.2.2.1
theorem Rel.r {n : Nat} {nw c t p a b s N B : kF} {T : kFF} {r a2 b2 rp : kF} {M : kFF} {rq : kF} {M2 Y : kFF} {zf x xl : kF} {σ : kS} (h : Rel n nw c t p a b s N B T r a2 b2 rp M rq M2 Y zf x xl σ) : RPeer 1 r a2 b2 σ := h.2.2.2.2.1
theorem Rel.rc {n : Nat} {nw c t p a b s N B : kF} {T : kFF} {r a2 b2 rp : kF} {M : kFF} {rq : kF} {M2 Y : kFF} {zf x xl : kF} {σ : kS} (h : Rel n nw c t p a b s N B T r a2 b2 rp M rq M2 Y zf x xl σ) : RRoad 0 rp M (σ 26) (σ 27) := h.2.2.2.2.2.1
theorem Rel.rs {n : Nat} {nw c t p a b s N B : kF} {T : kFF} {r a2 b2 rp : kF} {M : kFF} {rq : kF} {M2 Y : kFF} {zf x xl : kF} {σ : kS} (h : Rel n nw c t p a b s N B T r a2 b2 rp M rq M2 Y zf x xl σ) : RRoad 1 rq M2 (σ 26) (σ 27) := h.2.2.2.2.2.2.1
theorem Rel.cop {n : Nat} {nw c t p a b s N B : kF} {T : kFF} {r a2 b2 rp : kF} {M : kFF} {rq : kF} {M2 Y : kFF} {zf x xl : kF} {σ : kS} (h : Rel n nw c t p a b s N B T r a2 b2 rp M rq M2 Y zf x xl σ) : RCop Y zf σ := h.2.2.2.2.2.2.2.1
theorem Rel.txt {n : Nat} {nw c t p a b s N B : kF} {T : kFF} {r a2 b2 rp : kF} {M : kFF} {rq : kF} {M2 Y : kFF} {zf x xl : kF} {σ : kS} (h : Rel n nw c t p a b s N B T r a2 b2 rp M rq M2 Y zf x xl σ) : RTxt x xl σ := h.2.2.2.2.2.2.2.2.1
theorem Rel.gone {n : Nat} {nw c t p a b s N B : kF} {T : kFF} {r a2 b2 rp : kF} {M : kFF} {rq : kF} {M2 Y : kFF} {zf x xl : kF} {σ : kS} (h : Rel n nw c t p a b s N B T r a2 b2 rp M rq M2 Y zf x xl σ) : σ 30 0 = rp 2 + rq 2 := h.2.2.2.2.2.2.2.2.2
theorem RNow.up {n : Nat} {nw : kF} {σ : kS} (h : RNow n nw σ) : RNow (n + 1) nw σ := by
  obtain ⟨w, h1, h2⟩ := h
  exact ⟨w, by omega, h2⟩
theorem RSrv.up {n : Nat} {nw s N B : kF} {T : kFF} {σ : kS} (h : RSrv n nw s N B T σ) : RSrv (n + 1) nw s N B T σ := by
  obtain ⟨K, E, m, w, h1, h2⟩ := h
  exact ⟨K, E, m, w, ⟨h1.1, h1.2.1, h1.2.2.1, by omega, by omega⟩, h2⟩
theorem kinC {x : Int32} {A B : Int64} (a b : Int32) (hA : a.toInt64 = A := by decide) (hB : b.toInt64 = B := by decide) : kinL x.toInt64 A B = if x < a then 0 else if b < x then 0 else 1 := by
  subst hA hB
  exact kinL_i
section
variable {n : Nat} {nw c t p a b s N B : kF} {T : kFF} {r a2 b2 rp : kF} {M : kFF} {rq : kF} {M2 Y : kFF} {zf x xl : kF} {σ : kS}
theorem Rel.up (h : Rel n nw c t p a b s N B T r a2 b2 rp M rq M2 Y zf x xl σ) : Rel (n + 1) nw c t p a b s N B T r a2 b2 rp M rq M2 Y zf x xl σ := ⟨h.now.up, h.cli, h.p, h.srv.up, h.r, h.rc, h.rs, h.cop, h.txt, h.gone⟩
theorem m3_no {i : Int32} {f : Nat → Int32 × kS} (h0 : ¬ i = 0) (h1 : ¬ i = 1) : m3 i σ f = (-2, σ) := by
  unfold m3
  rw [if_neg h0, if_neg h1]
theorem m3_0 {f : Nat → Int32 × kS} : m3 0 σ f = f 0 := if_pos rfl
theorem m3_1 {f : Nat → Int32 × kS} : m3 1 σ f = f 1 := by
  unfold m3
  rw [if_neg (by decide), if_pos rfl]
theorem i32_lt {x : Int32} {k : Nat} (hk : k < 2 ^ 31) (h : ¬ nI k < x) : x ≤ nI k := Int32.not_lt.mp h
/-- offer -/
theorem rel_offer0 (h : Rel n nw c t p a b s N B T r a2 b2 rp M rq M2 Y zf x xl σ) (v g : Int32) : (koffer p v g).1 = (moffer σ 0 v g).1 ∧ Rel (n + 1) nw c t (koffer p v g).2 a b s N B T r a2 b2 rp M rq M2 Y zf x xl (moffer σ 0 v g).2 := by
  unfold koffer moffer
  rw [m3_0, kinC 1 7, kinC 1 15]
  by_cases h1 : v < 1
  · simp only [h1, ↓reduceIte]; exact ⟨by trivial, h.up⟩
  by_cases h2 : 7 < v
  · simp only [h1, h2, ↓reduceIte]; exact ⟨by trivial, h.up⟩
  by_cases h3 : g < 1
  · simp only [h1, h2, h3, ↓reduceIte]; exact ⟨by trivial, h.up⟩
  by_cases h4 : 15 < g
  · simp only [h1, h2, h3, h4, Int32.not_le.mpr h4, ↓reduceIte]; exact ⟨by trivial, h.up⟩
  simp only [h1, h2, h3, h4, Int32.not_lt.mp h4, ↓reduceIte]
  obtain ⟨k1, q1, q2, q3⟩ := i32_small h1 h2 (a := 1) (b := 7) rfl rfl (by omega) (by omega)
  obtain ⟨k2, r1, r2, r3⟩ := i32_small h3 h4 (a := 1) (b := 15) rfl rfl (by omega) (by omega)
  have hp := h.p
  exact ⟨hp.1.1.symm, ⟨h.now.up, h.cli, ⟨⟨rfl, rfl, hp.1.2.2⟩, ⟨k1, q1, by omega, q3⟩, ⟨k2, r1, by omega, r3⟩, hp.2.2.2⟩, h.srv.up, h.r, h.rc, h.rs, h.cop, h.txt, h.gone⟩⟩
theorem rel_offer1 (h : Rel n nw c t p a b s N B T r a2 b2 rp M rq M2 Y zf x xl σ) (v g : Int32) : (koffer r v g).1 = (moffer σ 1 v g).1 ∧ Rel (n + 1) nw c t p a b s N B T (koffer r v g).2 a2 b2 rp M rq M2 Y zf x xl (moffer σ 1 v g).2 := by
  unfold koffer moffer
  rw [m3_1, kinC 1 7, kinC 1 15]
  by_cases h1 : v < 1
  · simp only [h1, ↓reduceIte]; exact ⟨by trivial, h.up⟩
  by_cases h2 : 7 < v
  · simp only [h1, h2, ↓reduceIte]; exact ⟨by trivial, h.up⟩
  by_cases h3 : g < 1
  · simp only [h1, h2, h3, ↓reduceIte]; exact ⟨by trivial, h.up⟩
  by_cases h4 : 15 < g
  · simp only [h1, h2, h3, h4, Int32.not_le.mpr h4, ↓reduceIte]; exact ⟨by trivial, h.up⟩
  simp only [h1, h2, h3, h4, Int32.not_lt.mp h4, ↓reduceIte]
  obtain ⟨k1, q1, q2, q3⟩ := i32_small h1 h2 (a := 1) (b := 7) rfl rfl (by omega) (by omega)
  obtain ⟨k2, r1, r2, r3⟩ := i32_small h3 h4 (a := 1) (b := 15) rfl rfl (by omega) (by omega)
  have hp := h.r
  exact ⟨hp.1.1.symm, ⟨h.now.up, h.cli, h.p, h.srv.up, ⟨⟨rfl, rfl, hp.1.2.2⟩, ⟨k1, q1, by omega, q3⟩, ⟨k2, r1, by omega, r3⟩, hp.2.2.2⟩, h.rc, h.rs, h.cop, h.txt, h.gone⟩⟩
/-- secret -/
theorem rel_secret0 (h : Rel n nw c t p a b s N B T r a2 b2 rp M rq M2 Y zf x xl σ) (v : Int32) : (ksecret p v).1 = (msecret σ 0 v).1 ∧ Rel (n + 1) nw c t (ksecret p v).2 a b s N B T r a2 b2 rp M rq M2 Y zf x xl (msecret σ 0 v).2 := by
  unfold ksecret msecret
  rw [m3_0, kinC 1 999]
  by_cases h1 : v < 1
  · simp only [h1, ↓reduceIte]; exact ⟨by trivial, h.up⟩
  by_cases h4 : 999 < v
  · simp only [h1, h4, Int32.not_le.mpr h4, ↓reduceIte]; exact ⟨by trivial, h.up⟩
  simp only [h1, h4, Int32.not_lt.mp h4, ↓reduceIte]
  obtain ⟨k1, q1, q2, q3⟩ := i32_small h1 h4 (a := 1) (b := 999) rfl rfl (by omega) (by omega)
  have hp := h.p
  exact ⟨hp.1.2.2.1.symm, ⟨h.now.up, h.cli, ⟨⟨hp.1.1, hp.1.2.1, rfl, hp.1.2.2.2⟩, hp.2.1, hp.2.2.1, ⟨k1, q1, q2, q3⟩, hp.2.2.2.2⟩, h.srv.up, h.r, h.rc, h.rs, h.cop, h.txt, h.gone⟩⟩
theorem rel_secret1 (h : Rel n nw c t p a b s N B T r a2 b2 rp M rq M2 Y zf x xl σ) (v : Int32) : (ksecret r v).1 = (msecret σ 1 v).1 ∧ Rel (n + 1) nw c t p a b s N B T (ksecret r v).2 a2 b2 rp M rq M2 Y zf x xl (msecret σ 1 v).2 := by
  unfold ksecret msecret
  rw [m3_1, kinC 1 999]
  by_cases h1 : v < 1
  · simp only [h1, ↓reduceIte]; exact ⟨by trivial, h.up⟩
  by_cases h4 : 999 < v
  · simp only [h1, h4, Int32.not_le.mpr h4, ↓reduceIte]; exact ⟨by trivial, h.up⟩
  simp only [h1, h4, Int32.not_lt.mp h4, ↓reduceIte]
  obtain ⟨k1, q1, q2, q3⟩ := i32_small h1 h4 (a := 1) (b := 999) rfl rfl (by omega) (by omega)
  have hp := h.r
  exact ⟨hp.1.2.2.1.symm, ⟨h.now.up, h.cli, h.p, h.srv.up, ⟨⟨hp.1.1, hp.1.2.1, rfl, hp.1.2.2.2⟩, hp.2.1, hp.2.2.1, ⟨k1, q1, q2, q3⟩, hp.2.2.2.2⟩, h.rc, h.rs, h.cop, h.txt, h.gone⟩⟩
/-- guess, early -/
theorem rel_guess (h : Rel n nw c t p a b s N B T r a2 b2 rp M rq M2 Y zf x xl σ) (g : Int32) : (kguess c g).1 = (mguess σ g).1 ∧ Rel (n + 1) nw (kguess c g).2 t p a b s N B T r a2 b2 rp M rq M2 Y zf x xl (mguess σ g).2 := by
  unfold kguess mguess kgrp
  rw [kinC 0 3]
  by_cases h1 : g < 0
  · simp only [h1, ↓reduceIte]; exact ⟨by trivial, h.up⟩
  by_cases h2 : 3 < g
  · simp only [h1, h2, ↓reduceIte]; exact ⟨by trivial, h.up⟩
  simp only [h1, h2, show ¬ ((1 : Int32) = 0) from by decide, ↓reduceIte]
  obtain ⟨k1, q1, q2, q3⟩ := i32_small h1 h2 (a := 0) (b := 3) rfl rfl (by omega) (by omega)
  have hc := h.cli
  exact ⟨hc.1.1.symm, ⟨h.now.up, ⟨⟨rfl, hc.1.2⟩, hc.2.1, hc.2.2.1, hc.2.2.2.1, ⟨k1, by omega, q3⟩⟩, h.p, h.srv.up, h.r, h.rc, h.rs, h.cop, h.txt, h.gone⟩⟩
theorem rel_early (h : Rel n nw c t p a b s N B T r a2 b2 rp M rq M2 Y zf x xl σ) (v : Int32) : (kearly c v).1 = (mearly σ v).1 ∧ Rel (n + 1) nw (kearly c v).2 t p a b s N B T r a2 b2 rp M rq M2 Y zf x xl (mearly σ v).2 := by
  unfold kearly mearly
  rw [kinC (-1) 999]
  have hc := h.cli
  have ok : Rel (n + 1) nw (upd c 4 v) t p a b s N B T r a2 b2 rp M rq M2 Y zf x xl (su σ 13 0 v) := ⟨h.now.up, ⟨⟨hc.1.1, rfl, hc.1.2.2⟩, hc.2⟩, h.p, h.srv.up, h.r, h.rc, h.rs, h.cop, h.txt, h.gone⟩
  by_cases h0 : v = -1
  · subst h0
    simp only [show ¬ ((-1 : Int32) < -1) from by decide, show ¬ ((999 : Int32) < -1) from by decide, show ¬ ((1 : Int32) = 0) from by decide, ↓reduceIte]
    exact ⟨hc.1.2.1.symm, ok⟩
  by_cases h1 : v < 0
  · have h2 : v < -1 := by
      apply Int32.lt_iff_toInt_lt.mpr
      have z1 := Int32.lt_iff_toInt_lt.mp h1
      have z2 : ¬ v.toInt = (-1 : Int32).toInt := fun z => h0 (Int32.toInt_inj.mp z)
      have e1 : (-1 : Int32).toInt = -1 := by decide
      have e2 : (0 : Int32).toInt = 0 := by decide
      rw [e1] at z2 ⊢
      rw [e2] at z1
      omega
    simp only [h0, h1, h2, ↓reduceIte]
    exact ⟨by trivial, h.up⟩
  · have h2 : ¬ v < -1 := fun z => h1 (Int32.lt_trans z (by decide))
    by_cases h4 : 999 < v
    · simp only [h0, h1, h2, h4, Int32.not_le.mpr h4, ↓reduceIte]; exact ⟨by trivial, h.up⟩
    simp only [h0, h1, h2, h4, Int32.not_lt.mp h4, show ¬ ((1 : Int32) = 0) from by decide, ↓reduceIte]
    exact ⟨hc.1.2.1.symm, ok⟩
/-- pass -/
theorem rel_pass (hn : n < 20000) (h : Rel n nw c t p a b s N B T r a2 b2 rp M rq M2 Y zf x xl σ) (v : Int32) : (kpass nw v).1 = (mpass σ v).1 ∧ Rel (n + 1) (kpass nw v).2 c t p a b s N B T r a2 b2 rp M rq M2 Y zf x xl (mpass σ v).2 := by
  unfold kpass mpass
  rw [kinC 1 99]
  by_cases h1 : v < 1
  · simp only [h1, ↓reduceIte]; exact ⟨by trivial, h.up⟩
  by_cases h4 : 99 < v
  · simp only [h1, h4, Int32.not_le.mpr h4, ↓reduceIte]; exact ⟨by trivial, h.up⟩
  simp only [h1, h4, Int32.not_lt.mp h4, show ¬ ((1 : Int32) = 0) from by decide, ↓reduceIte]
  obtain ⟨k1, q1, q2, q3⟩ := i32_small h1 h4 (a := 1) (b := 99) rfl rfl (by omega) (by omega)
  obtain ⟨w, w1, w2, w3⟩ := h.now
  have e : nw 8 + v = nI (w + k1) := by rw [w2, q3, nI_add]
  have e2 : σ 14 0 + v = nI (w + k1) := by rw [w3, q3, nI_add]
  refine ⟨by rw [e, e2], ⟨w + k1, by omega, e, e2⟩, h.cli, h.p, ?_, h.r, h.rc, h.rs, h.cop, h.txt, h.gone⟩
  obtain ⟨K, E, m, w', ⟨z1, z2, z3, z4, z5⟩, z6, z7, z8, z9, z10, z11, z12, z13⟩ := h.srv
  have ew : w' = w := (nI_eq (by omega) (by omega)).mp (z9.symm.trans w2)
  refine ⟨K, E, m, w + k1, ⟨z1, z2, z3, by omega, by omega⟩, z6, z7, z8, e, z10, z11, fun i hi => ?_, z13⟩
  obtain ⟨u, u1, u2⟩ := z12 i hi
  exact ⟨u, by omega, u2⟩
/-- forget, fresh -/
theorem rel_forget (h : Rel n nw c t p a b s N B T r a2 b2 rp M rq M2 Y zf x xl σ) : (kforget c t).1 = (mforget σ).1 ∧ Rel (n + 1) nw (kforget c t).2 t p a b s N B T r a2 b2 rp M rq M2 Y zf x xl (mforget σ).2 := by
  have hc := h.cli
  unfold kforget mforget
  rw [hc.1.2.2.1]
  by_cases h1 : c 2 = 0
  · simp only [h1, ↓reduceIte]; exact ⟨by trivial, h.up⟩
  simp only [h1, ↓reduceIte]
  exact ⟨hc.1.2.2.2.1.symm, ⟨h.now.up, ⟨⟨hc.1.1, hc.1.2.1, rfl, hc.1.2.2.2⟩, Or.inl rfl, hc.2.2⟩, h.p, h.srv.up, h.r, h.rc, h.rs, h.cop, h.txt, h.gone⟩⟩
theorem peer_rest0 (hp : RPeer 0 p a b σ) : RPeer 0 (krest p) a b (su (su (su σ 3 0 0) 4 0 0) 5 0 1) := ⟨⟨hp.1.1, hp.1.2.1, hp.1.2.2.1, rfl, rfl, rfl, hp.1.2.2.2.2.2.2⟩, hp.2.1, hp.2.2.1, hp.2.2.2.1, hp.2.2.2.2.1, fun q => absurd q (show ¬ ((0 : Int32) = 4 ∨ (0 : Int32) = 3) from by decide), fun q => absurd q (show ¬ ((0 : Int32) = 4) from by decide)⟩
theorem peer_rest1 (hp : RPeer 1 p a b σ) : RPeer 1 (krest p) a b (su (su (su σ 3 1 0) 4 1 0) 5 1 1) := ⟨⟨hp.1.1, hp.1.2.1, hp.1.2.2.1, rfl, rfl, rfl, hp.1.2.2.2.2.2.2⟩, hp.2.1, hp.2.2.1, hp.2.2.2.1, hp.2.2.2.2.1, fun q => absurd q (show ¬ ((0 : Int32) = 4 ∨ (0 : Int32) = 3) from by decide), fun q => absurd q (show ¬ ((0 : Int32) = 4) from by decide)⟩
theorem rel_fresh0 (h : Rel n nw c t p a b s N B T r a2 b2 rp M rq M2 Y zf x xl σ) : p 3 = (mfresh σ 0).1 ∧ Rel (n + 1) nw c t (krest p) a b s N B T r a2 b2 rp M rq M2 Y zf x xl (mfresh σ 0).2 := by
  unfold mfresh
  rw [m3_0]
  exact ⟨h.p.1.2.2.2.1.symm, ⟨h.now.up, h.cli, peer_rest0 h.p, h.srv.up, h.r, h.rc, h.rs, h.cop, h.txt, h.gone⟩⟩
theorem rel_fresh1 (h : Rel n nw c t p a b s N B T r a2 b2 rp M rq M2 Y zf x xl σ) : r 3 = (mfresh σ 1).1 ∧ Rel (n + 1) nw c t p a b s N B T (krest r) a2 b2 rp M rq M2 Y zf x xl (mfresh σ 1).2 := by
  unfold mfresh
  rw [m3_1]
  exact ⟨h.r.1.2.2.2.1.symm, ⟨h.now.up, h.cli, h.p, h.srv.up, peer_rest1 h.r, h.rc, h.rs, h.cop, h.txt, h.gone⟩⟩
end
