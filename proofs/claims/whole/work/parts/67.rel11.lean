/-! what comes to the client, whole; its step -/
section
variable {n : Nat} {nw c t p a b s N B : kF} {T : kFF} {r a2 b2 rp : kF} {M : kFF} {rq : kF} {M2 Y : kFF} {zf x xl : kF} {σ : kS}
theorem kprcv_no {q z : kF} (h4 : ¬ p 3 = 4) (h5 : ¬ p 3 = 5) : kprcv p q z = (kfail p 1, q) := by
  unfold kprcv
  rw [if_neg h4, if_neg h5]
theorem kprcv_5 {q z : kF} (h5 : p 3 = 5) : kprcv p q z = (p, q) := by
  unfold kprcv
  rw [if_neg (show ¬ p 3 = 4 by rw [h5]; decide), if_pos h5]
theorem kprcv_4 {q z : kF} (h4 : p 3 = 4) : kprcv p q z = if z 0 = 6 then krlet p q (z 1) (z 2) else if z 0 = 7 then krupd p q (z 1) else (kfail p 1, q) := by
  unfold kprcv
  rw [if_pos h4]
/-- what comes to the client -/
theorem rel_cli (h : Rel n nw c t p a b s N B T r a2 b2 rp M rq M2 Y zf x xl σ) {z f : kF} (hz : E9 z (σ 29)) {S L : Nat} (hS : p 2 = nI S) (hS2 : S ≤ 999) (hL : rq 1 = nI L) (hL8 : L ≤ 8) :
    Rel n nw (kcliR L c p a b f t rq M2 z (nw 8)).1 (kcliR L c p a b f t rq M2 z (nw 8)).2.2.2.2.2.1 (kcliR L c p a b f t rq M2 z (nw 8)).2.1 (kcliR L c p a b f t rq M2 z (nw 8)).2.2.1 (kcliR L c p a b f t rq M2 z (nw 8)).2.2.2.1 s N B T r a2 b2 rp M (kcliR L c p a b f t rq M2 z (nw 8)).2.2.2.2.2.2.1 (kcliR L c p a b f t rq M2 z (nw 8)).2.2.2.2.2.2.2 Y zf x xl (mcomes0 σ S L) := by
  have e0 : σ 29 0 = z 0 := (hz 0 (by decide)).symm
  have e3 : σ 3 0 = p 3 := h.p.1.2.2.2.1
  unfold kcliR mcomes0
  rw [e3, e0]
  by_cases h1 : p 3 = 1
  · have n4 : ¬ p 3 = 4 := by rw [h1]; decide
    have n5 : ¬ p 3 = 5 := by rw [h1]; decide
    rw [if_pos h1, if_neg n5, if_neg n4, if_pos h1]
    by_cases q2 : z 0 = 2
    · rw [if_pos q2, if_pos q2]
      exact rel_retry h h1 hz q2 hS hS2 hL hL8
    · rw [if_neg q2, if_neg q2]
      by_cases q3 : z 0 = 3
      · rw [if_pos q3, if_pos q3]
        exact rel_greet h h1 hz q3 hS hS2 hL hL8
      · rw [if_neg q3, if_neg q3, kprcv_no n4 n5]
        exact rel_fail0 h 1
  · rw [if_neg h1, if_neg h1]
    by_cases h4 : p 3 = 4
    · have n5 : ¬ p 3 = 5 := by rw [h4]; decide
      rw [if_pos h4, if_neg n5, if_pos h4]
      by_cases q5 : z 0 = 5
      · have n6 : ¬ z 0 = 6 := by rw [q5]; decide
        have n7 : ¬ z 0 = 7 := by rw [q5]; decide
        rw [if_pos q5, if_neg n6, if_neg n7, if_pos q5]
        exact rel_tick0 h h4 hz
      · rw [if_neg q5, kprcv_4 h4]
        by_cases q6 : z 0 = 6
        · rw [if_pos q6, if_pos q6]
          exact rel_let0 h h4 hz
        · rw [if_neg q6, if_neg q6]
          by_cases q7 : z 0 = 7
          · rw [if_pos q7, if_pos q7]
            exact rel_upd0 h h4 hz
          · rw [if_neg q7, if_neg q7, if_neg q5]
            exact rel_fail0 h 1
    · rw [if_neg h4]
      by_cases h5 : p 3 = 5
      · rw [if_pos h5, kprcv_5 h5]
        exact h
      · rw [if_neg h5, if_neg h4, kprcv_no h4 h5]
        exact rel_fail0 h 1
/-- a step to the client -/
theorem rel_step0E (h : Rel n nw c t p a b s N B T r a2 b2 rp M rq M2 Y zf x xl σ) {S Mn : Nat → Nat} {E K : Nat} (he : rp 1 = 0) : (-4 : Int32) = (mstep σ 0 S Mn E K).1 ∧ Rel (n + 1) nw c t p a b s N B T r a2 b2 rp M rq M2 Y zf x xl (mstep σ 0 S Mn E K).2 := by
  unfold mstep
  rw [if_pos (show (0 : Int32) = 0 from rfl), if_pos (road_0 h.rc he)]
  exact ⟨rfl, h.up⟩
theorem rel_step1E (h : Rel n nw c t p a b s N B T r a2 b2 rp M rq M2 Y zf x xl σ) {S Mn : Nat → Nat} {E K : Nat} (he : rq 1 = 0) : (-4 : Int32) = (mstep σ 1 S Mn E K).1 ∧ Rel (n + 1) nw c t p a b s N B T r a2 b2 rp M rq M2 Y zf x xl (mstep σ 1 S Mn E K).2 := by
  unfold mstep
  rw [if_neg (show ¬ (1 : Int32) = 0 from by decide), if_pos (show (1 : Int32) = 1 from rfl), if_pos (road_0 h.rs he)]
  exact ⟨rfl, h.up⟩
theorem mstep_no {i : Int32} {S Mn : Nat → Nat} {E K : Nat} (h0 : ¬ i = 0) (h1 : ¬ i = 1) : mstep σ i S Mn E K = (-2, σ) := by
  unfold mstep
  rw [if_neg h0, if_neg h1]
theorem rel_drop0 (h : Rel n nw c t p a b s N B T r a2 b2 rp M rq M2 Y zf x xl σ) {L : Nat} (hL : rp 1 = nI L) (hL1 : 1 ≤ L) (hL8 : L ≤ 8) : Rel n nw c t p a b s N B T r a2 b2 (upd rp 1 (rp 1 - 1)) (krot M) rq M2 Y zf x xl (mdrop (mfetch σ 0) 0) := by
  have k := rel_29 h (kcpy (σ 29) (fun k => σ 27 (72 * 0 + k)) 9)
  exact ⟨k.now, k.cli, k.p, k.srv, k.r, road_drop k.rc hL hL1 hL8, road_drop_other (by decide) k.rs, k.cop, k.txt, k.gone⟩
theorem rel_drop1 (h : Rel n nw c t p a b s N B T r a2 b2 rp M rq M2 Y zf x xl σ) {L : Nat} (hL : rq 1 = nI L) (hL1 : 1 ≤ L) (hL8 : L ≤ 8) : Rel n nw c t p a b s N B T r a2 b2 rp M (upd rq 1 (rq 1 - 1)) (krot M2) Y zf x xl (mdrop (mfetch σ 1) 1) := by
  have k := rel_29 h (kcpy (σ 29) (fun k => σ 27 (72 * 1 + k)) 9)
  exact ⟨k.now, k.cli, k.p, k.srv, k.r, road_drop_other (by decide) k.rc, road_drop k.rs hL hL1 hL8, k.cop, k.txt, k.gone⟩
theorem rel_step0N (h : Rel n nw c t p a b s N B T r a2 b2 rp M rq M2 Y zf x xl σ) {S Mn : Nat → Nat} {E K L J : Nat} {f z : kF} (hL : rp 1 = nI L) (hL1 : 1 ≤ L) (hL8 : L ≤ 8) (hJ : rq 1 = nI J) (hJ8 : J ≤ 8) (hM : Mn 1 = J) (hS : σ 2 0 = nI (S 0)) (hS2 : S 0 ≤ 999) :
    kcpy z (M 0) 9 0 = (mstep σ 0 S Mn E K).1 ∧ Rel (n + 1) nw (kcliR J c p a b f t rq M2 (kcpy z (M 0) 9) (nw 8)).1 (kcliR J c p a b f t rq M2 (kcpy z (M 0) 9) (nw 8)).2.2.2.2.2.1 (kcliR J c p a b f t rq M2 (kcpy z (M 0) 9) (nw 8)).2.1 (kcliR J c p a b f t rq M2 (kcpy z (M 0) 9) (nw 8)).2.2.1 (kcliR J c p a b f t rq M2 (kcpy z (M 0) 9) (nw 8)).2.2.2.1 s N B T r a2 b2 (upd rp 1 (rp 1 - 1)) (krot M) (kcliR J c p a b f t rq M2 (kcpy z (M 0) 9) (nw 8)).2.2.2.2.2.2.1 (kcliR J c p a b f t rq M2 (kcpy z (M 0) 9) (nw 8)).2.2.2.2.2.2.2 Y zf x xl (mstep σ 0 S Mn E K).2 := by
  have he : ¬ rp 1 = 0 := by rw [hL]; exact nI_ne0 (by omega) (by omega)
  have e9 := road_fetch (z := z) h.rc hL hL1 hL8
  unfold mstep
  rw [if_pos (show (0 : Int32) = 0 from rfl), if_neg (road_n h.rc he), hM]
  exact ⟨e9 0 (by decide), rel_cli (rel_drop0 h.up hL hL1 hL8) e9 (h.p.1.2.2.1.symm.trans hS) hS2 hJ hJ8⟩
end
