/-! what comes to the server, whole; its step -/
section
variable {n : Nat} {nw c t p a b s N B : kF} {T : kFF} {r a2 b2 rp : kF} {M : kFF} {rq : kF} {M2 Y : kFF} {zf x xl : kF} {σ : kS}
theorem rel_srv (hn : n < 20000) (h : Rel n nw c t p a b s N B T r a2 b2 rp M rq M2 Y zf x xl σ) {z f : kF} (hz : E9 z (σ 29)) {S L E K : Nat} (hS : r 2 = nI S) (hS2 : S ≤ 999) (hL : rp 1 = nI L) (hL8 : L ≤ 8) (hE : s 6 = nI E) (hE4 : E ≤ 4) (hK : s 2 = nI K) (hK3 : K ≤ 3) (R : kT9) (hR : R = ksrvR L E s r a2 b2 f N B T rp M z (nw 8)) :
    Rel n nw c t p a b R.1 R.2.2.2.2.2.1 R.2.2.2.2.2.2.1 T R.2.1 R.2.2.1 R.2.2.2.1 R.2.2.2.2.2.2.2.1 R.2.2.2.2.2.2.2.2 rq M2 Y zf x xl (mcomes1 σ S L E K) := by
  have e0 : σ 29 0 = z 0 := (hz 0 (by decide)).symm
  have e3 : σ 3 1 = r 3 := h.r.1.2.2.2.1
  unfold ksrvR at hR
  unfold mcomes1
  rw [e3, e0]
  by_cases h0 : r 3 = 0
  · have n5 : ¬ r 3 = 5 := by rw [h0]; decide
    have n4 : ¬ r 3 = 4 := by rw [h0]; decide
    rw [if_pos h0] at hR
    rw [if_neg n5, if_neg n4, if_pos h0]
    by_cases q1 : z 0 = 1
    · rw [if_pos q1] at hR
      rw [if_pos q1]
      subst hR
      exact rel_chel hn h (Or.inl h0) hz q1 hS hS2 hL hL8 hE hE4 hK hK3
    · rw [if_neg q1] at hR
      rw [if_neg q1]
      unfold ksrvQ at hR
      rw [kprcv_no n4 n5] at hR
      subst hR
      exact rel_fail1 h 1
  rw [if_neg h0] at hR
  by_cases h2 : r 3 = 2
  · have n5 : ¬ r 3 = 5 := by rw [h2]; decide
    have n4 : ¬ r 3 = 4 := by rw [h2]; decide
    rw [if_pos h2] at hR
    rw [if_neg n5, if_neg n4, if_neg h0, if_pos h2]
    by_cases q1 : z 0 = 1
    · rw [if_pos q1] at hR
      rw [if_pos q1]
      subst hR
      exact rel_chel hn h (Or.inr h2) hz q1 hS hS2 hL hL8 hE hE4 hK hK3
    · rw [if_neg q1] at hR
      rw [if_neg q1]
      unfold ksrvQ at hR
      rw [kprcv_no n4 n5] at hR
      subst hR
      exact rel_fail1 h 1
  rw [if_neg h2] at hR
  by_cases h3 : r 3 = 3
  · have n5 : ¬ r 3 = 5 := by rw [h3]; decide
    have n4 : ¬ r 3 = 4 := by rw [h3]; decide
    rw [if_pos h3] at hR
    rw [if_neg n5, if_neg n4, if_neg h0, if_neg h2, if_pos h3]
    by_cases q4 : z 0 = 4
    · rw [if_pos q4] at hR
      rw [if_pos q4]
      subst hR
      exact rel_fin h h3 hz
    · rw [if_neg q4] at hR
      rw [if_neg q4]
      unfold ksrvQ at hR
      rw [kprcv_no n4 n5] at hR
      subst hR
      exact rel_fail1 h 1
  rw [if_neg h3] at hR
  unfold ksrvQ at hR
  by_cases h4 : r 3 = 4
  · have n5 : ¬ r 3 = 5 := by rw [h4]; decide
    rw [kprcv_4 h4] at hR
    rw [if_neg n5, if_pos h4]
    by_cases q6 : z 0 = 6
    · rw [if_pos q6] at hR
      rw [if_pos q6]
      subst hR
      exact rel_let1 h h4 hz
    · rw [if_neg q6] at hR
      rw [if_neg q6]
      by_cases q7 : z 0 = 7
      · rw [if_pos q7] at hR
        rw [if_pos q7]
        subst hR
        exact rel_upd1 h h4 hz
      · rw [if_neg q7] at hR
        rw [if_neg q7]
        subst hR
        exact rel_fail1 h 1
  by_cases h5 : r 3 = 5
  · rw [kprcv_5 h5] at hR
    rw [if_pos h5]
    subst hR
    exact h
  · rw [kprcv_no h4 h5] at hR
    rw [if_neg h5, if_neg h4, if_neg h0, if_neg h2, if_neg h3]
    subst hR
    exact rel_fail1 h 1
theorem rel_step1N (hn : n < 19000) (h : Rel n nw c t p a b s N B T r a2 b2 rp M rq M2 Y zf x xl σ) {S Mn : Nat → Nat} {E K L J : Nat} {f z : kF} (hL : rq 1 = nI L) (hL1 : 1 ≤ L) (hL8 : L ≤ 8) (hJ : rp 1 = nI J) (hJ8 : J ≤ 8) (hM : Mn 0 = J) (hS : σ 2 1 = nI (S 1)) (hS2 : S 1 ≤ 999) (hE : s 6 = nI E) (hE4 : E ≤ 4) (hK : s 2 = nI K) (hK3 : K ≤ 3) (R : kT9) (hR : R = ksrvR J E s r a2 b2 f N B T rp M (kcpy z (M2 0) 9) (nw 8)) :
    kcpy z (M2 0) 9 0 = (mstep σ 1 S Mn E K).1 ∧ Rel (n + 1) nw c t p a b R.1 R.2.2.2.2.2.1 R.2.2.2.2.2.2.1 T R.2.1 R.2.2.1 R.2.2.2.1 R.2.2.2.2.2.2.2.1 R.2.2.2.2.2.2.2.2 (upd rq 1 (rq 1 - 1)) (krot M2) Y zf x xl (mstep σ 1 S Mn E K).2 := by
  have he : ¬ rq 1 = 0 := by rw [hL]; exact nI_ne0 (by omega) (by omega)
  have e9 := road_fetch (z := z) h.rs hL hL1 hL8
  unfold mstep
  rw [if_neg (show ¬ (1 : Int32) = 0 from by decide), if_pos (show (1 : Int32) = 1 from rfl), if_neg (road_n h.rs he), hM]
  exact ⟨e9 0 (by decide), rel_srv (by omega) (rel_drop1 h.up hL hL1 hL8) e9 (h.r.1.2.2.1.symm.trans hS) hS2 hJ hJ8 hE hE4 hK hK3 R hR⟩
/-- what the reference's contracts ask of its state -/
theorem rel_ok (h : Rel n nw c t p a b s N B T r a2 b2 rp M rq M2 Y zf x xl σ) : ∃ (S Mn : Nat → Nat) (E K L J : Nat), mOK σ S Mn E K ∧ (rp 1 = nI (Mn 0) ∧ Mn 0 ≤ 8) ∧ (rq 1 = nI (Mn 1) ∧ Mn 1 ≤ 8) ∧ (s 6 = nI E ∧ E ≤ 4) ∧ (s 2 = nI K ∧ K ≤ 3) ∧ (σ 2 0 = nI (S 0) ∧ S 0 ≤ 999) ∧ (σ 2 1 = nI (S 1) ∧ S 1 ≤ 999) ∧ L = Mn 0 ∧ J = Mn 1 := by
  obtain ⟨L, l1, l2, l3⟩ := road_ex h.rc
  obtain ⟨J, j1, j2, j3⟩ := road_ex h.rs
  obtain ⟨S0, s1, s2, s3⟩ := h.p.2.2.2.1
  obtain ⟨S1, t1, t2, t3⟩ := h.r.2.2.2.1
  obtain ⟨K, E, m, w, ⟨y1, y2, -⟩, ⟨k1, k2⟩, ⟨e1, e2⟩, -⟩ := h.srv
  obtain ⟨v, v1, v2, v3⟩ := h.r.2.1
  have q0 : σ 2 0 = nI S0 := h.p.1.2.2.1.trans s3
  have q1 : σ 2 1 = nI S1 := h.r.1.2.2.1.trans t3
  refine ⟨fun i => if i = 0 then S0 else S1, fun i => if i = 0 then L else J, E, K, L, J, ⟨fun sd hsd => ?_, fun sd hsd => ?_, ⟨e2, y2⟩, ⟨k2, y1⟩, ⟨v, v2, h.r.1.1.trans v3⟩⟩, ⟨l2, l1⟩, ⟨j2, j1⟩, ⟨e1, y2⟩, ⟨k1, y1⟩, ⟨q0, s2⟩, ⟨q1, t2⟩, rfl, rfl⟩
  · rcases (show sd = 0 ∨ sd = 1 by omega) with rfl | rfl
    · exact ⟨q0, s2⟩
    · exact ⟨q1, t2⟩
  · rcases (show sd = 0 ∨ sd = 1 by omega) with rfl | rfl
    · exact ⟨l3, l1⟩
    · exact ⟨j3, j1⟩
end
/-- the beginning -/
theorem rel_start : Rel 0 (kv [0, 0, 0, 0, 0, 0, 0, 0, 0]) (kv [0, 0, 0, 0, (-1), 0, 0, 0, 0]) (kv [0, 0, 0, 0, 0]) (kv [7, 15, 3, 0, 0, 1, 0, 0, 0, 0, 0, 0, 0]) (kv [0, 0, 0]) (kv [1, 0, 0]) (kv [0, 0, 0, 0, 0, 0, 0, 0, 0]) (fun _ => 0) (fun _ => 0) kz2 (kv [7, 15, 4, 0, 0, 1, 0, 0, 0, 0, 0, 0, 0]) (kv [0, 0, 0]) (kv [1, 0, 0]) (kv [0, 0, 0]) kz2 (kv [0, 0, 0]) kz2 kz2 (fun _ => 0) (kv [0, 0, 0, 0, 0, 0, 0, 0]) (fun _ => 0) m0 := by
  refine ⟨⟨0, by omega, rfl, rfl⟩, ⟨⟨rfl, rfl, rfl, rfl, rfl, rfl, rfl, rfl, rfl, rfl, rfl, rfl⟩, Or.inl rfl, Or.inl rfl, Or.inl rfl, ⟨0, by omega, rfl⟩⟩, ⟨⟨rfl, rfl, rfl, rfl, rfl, rfl, rfl, rfl⟩, ⟨7, by omega, by omega, rfl⟩, ⟨15, by omega, by omega, rfl⟩, ⟨3, by omega, by omega, rfl⟩, ⟨rfl, rfl⟩, fun q => absurd q (show ¬ ((0 : Int32) = 4 ∨ (0 : Int32) = 3) from by decide), fun q => absurd q (show ¬ ((0 : Int32) = 4) from by decide)⟩, ⟨0, 0, 0, 0, ⟨by omega, by omega, by omega, by omega, by omega⟩, ⟨rfl, rfl⟩, ⟨rfl, rfl⟩, ⟨rfl, rfl⟩, rfl, fun i hi => by omega, fun i hi => by omega, fun i hi => by omega, ⟨rfl, rfl⟩, rfl, rfl⟩, ⟨⟨rfl, rfl, rfl, rfl, rfl, rfl, rfl, rfl⟩, ⟨7, by omega, by omega, rfl⟩, ⟨15, by omega, by omega, rfl⟩, ⟨4, by omega, by omega, rfl⟩, ⟨rfl, rfl⟩, fun q => absurd q (show ¬ ((0 : Int32) = 4 ∨ (0 : Int32) = 3) from by decide), fun q => absurd q (show ¬ ((0 : Int32) = 4) from by decide)⟩, ⟨0, by omega, rfl, rfl, fun i hi => by omega⟩, ⟨0, by omega, rfl, rfl, fun i hi => by omega⟩, ⟨fun P hP j hj => rfl, rfl⟩, ⟨0, by omega, rfl, rfl, rfl⟩, rfl⟩
