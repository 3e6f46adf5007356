/-! what comes to the server: the end, the asking again, the greeting that is sent -/
section
variable {n : Nat} {nw c t p a b s N B : kF} {T : kFF} {r a2 b2 rp : kF} {M : kFF} {rq : kF} {M2 Y : kFF} {zf x xl : kF} {σ : kS}
theorem rel_fin (h : Rel n nw c t p a b s N B T r a2 b2 rp M rq M2 Y zf x xl σ) (h3 : r 3 = 3) {z : kF} (hz : E9 z (σ 29)) : Rel n nw c t p a b s N B T (kfinR r a2 b2 z).1 (kfinR r a2 b2 z).2.1 (kfinR r a2 b2 z).2.2 rp M rq M2 Y zf x xl (mfinR σ) := by
  obtain ⟨j6, j7, j8, j81, j9⟩ := h.r.2.2.2.2.2.1 (Or.inr h3)
  have e5 : σ 5 1 = r 5 := h.r.1.2.2.2.2.2.1
  have ep : kproof r 2 = mproof σ 1 2 := by
    unfold kproof mproof
    rw [j9, e5]
  unfold kfinR mfinR
  rw [ep, hz 1 (by decide)]
  by_cases q : σ 29 1 = mproof σ 1 2
  · rw [if_pos q, if_pos q]
    exact rel_join1 h j6 j7 j8 j81 j9
  · rw [if_neg q, if_neg q]
    exact rel_fail1 h 8
theorem rel_state1 (h : Rel n nw c t p a b s N B T r a2 b2 rp M rq M2 Y zf x xl σ) {v : Int32} (h4 : ¬ v = 4) (hj : v = 3 → σ 6 1 = r 6 ∧ σ 7 1 = r 7 ∧ σ 8 1 = r 8 ∧ (r 8 = 0 ∨ r 8 = 1) ∧ σ 9 1 = r 9) : Rel n nw c t p a b s N B T (upd r 3 v) a2 b2 rp M rq M2 Y zf x xl (su σ 3 1 v) := by
  have hp := h.r
  have hp2 : RPeer 1 (upd r 3 v) a2 b2 (su σ 3 1 v) := ⟨⟨hp.1.1, hp.1.2.1, hp.1.2.2.1, rfl, hp.1.2.2.2.2⟩, hp.2.1, hp.2.2.1, hp.2.2.2.1, hp.2.2.2.2.1, fun q => hj (Or.resolve_left q h4), fun q => absurd (show v = 4 from q) h4⟩
  exact ⟨h.now, h.cli, h.p, h.srv, hp2, h.rc, h.rs, h.cop, h.txt, h.gone⟩
theorem mtk_row1 {τ : kS} {sd k q : Nat} (h : q ≠ 5) : mtakes τ sd k q = τ q := by
  unfold mtakes va_up
  rw [if_neg h]
theorem clr_29 {τ : kS} {k : Int32} : mclr τ k 29 = kbeg (τ 29) k := by
  unfold mclr va_up
  rw [if_pos rfl]
theorem su_29 {τ : kS} {j : Nat} {v : Int32} : su τ 29 j v 29 = upd (τ 29) j v := by
  unfold su va_up
  rw [if_pos rfl]
/-- asked for another share -/
theorem rel_reask (h : Rel n nw c t p a b s N B T r a2 b2 rp M rq M2 Y zf x xl σ) (h3 : ¬ r 3 = 4) {z f : kF} (hz : E9 z (σ 29)) (z0 : z 0 = 1) {L : Nat} (hL : rp 1 = nI L) (hL8 : L ≤ 8) (g : Int32) :
    Rel n nw c t p a b s N B T (ksretP r f z g) a2 b2 (ksendP L rp) (ksendM L M (ksretF f g)) rq M2 Y zf x xl (mhlR σ g L) := by
  have r1 := rel_take1 h h3 (k := 9) (g := z) (by rw [z0]; rfl) hz (by omega)
  have h3' : ¬ ktake r z 3 = 4 := by
    unfold ktake
    rw [pk_un (by decide)]
    exact h3
  have f0 : ksretF f g 0 = 2 := rfl
  have eF : ksretF f g = upd (kbeg f 2) 1 g := rfl
  have x29 : E9 (ksretF f g) (su (mclr (mtakes σ 1 9) 2) 29 1 g 29) := by
    rw [eF, su_29, clr_29]
    exact (E9.beg 2).put 1 g
  unfold ksretP mhlR
  generalize ktake r z = P at r1 h3'
  have r2 := rel_su29 (rel_clr r1 2) 1 g
  generalize su (mclr (mtakes σ 1 9) 2) 29 1 g = τ at r2 x29
  generalize ksretF f g = F at x29 f0
  have r3 := rel_send0 r2 (L := L) (g := F) hL hL8 x29
  have y29 : E9 F (msend τ 0 L 29) := by
    rw [msend_rw (by decide) (by decide) (by decide)]
    exact x29
  have r4 := rel_take1 r3 h3' (k := 9) (g := F) (by rw [f0]; rfl) y29 (by omega)
  exact rel_state1 r4 (by decide) (fun q => absurd q (by decide))
/-- the greeting that is sent -/
theorem rel_grT {τ : kS} (h : Rel n nw c t p a b s N B T r a2 b2 rp M rq M2 Y zf x xl τ) (hf : ¬ (r 3 = 4 ∨ r 3 = 3)) {z f : kF} (hz : E9 z (τ 29)) (z0 : z 0 = 1) {S L : Nat} (hS : r 2 = nI S) (hS2 : S ≤ 999) (hL : rp 1 = nI L) (hL8 : L ≤ 8) {v g is val e : Int32} (h294 : σ 29 4 = z 4) (h01 : σ 0 1 = r 0) (hsh : ¬ kisShare (z 4) g = 0) (hv : v = 1 ∨ v = 2 ∨ v = 3) (his : is = 0 ∨ is = 1) (he : e = 0 ∨ e = 1) :
    Rel n nw c t p a b s N B T (kgrP (khelP r z v g is val) f e) a2 b2 (ksendP L rp) (ksendM L M (kgrF2 (khelP r z v g is val) f e)) rq M2 Y zf x xl (mgrT τ σ v g S L is val e) := by
  obtain ⟨m, m1, m2, m3⟩ := h.r.2.1
  have hmk : (if khasA (r 0) v = 0 then (0 : Int32) else 1) = (if mab (σ 0 1) v = 0 then 0 else 1) := by
    rw [h01, m3]
    rcases hv with rfl | rfl | rfl
    · rw [show khasA (nI m) 1 = mab (nI m) 1 from khasA8 m m2 1 (by decide) (by decide)]
    · rw [show khasA (nI m) 2 = mab (nI m) 2 from khasA8 m m2 2 (by decide) (by decide)]
    · rw [show khasA (nI m) 3 = mab (nI m) 3 from khasA8 m m2 3 (by decide) (by decide)]
  have r1 := rel_take1 h (fun q => hf (Or.inl q)) (k := 9) (g := z) (by rw [z0]; rfl) hz (by omega)
  have tj : ∀ j, j ≠ 5 → ktake r z j = r j := fun j hj => by
    unfold ktake
    rw [pk_un hj]
  have hfk : ¬ (ktake r z 3 = 4 ∨ ktake r z 3 = 3) := by rw [tj 3 (by decide)]; exact hf
  have r2 := rel_put1 (rel_put1 (rel_put1 r1 hfk (k := 6) (by omega) (by omega) v) (by rw [pk_un (by decide)]; exact hfk) (k := 7) (by omega) (by omega) g) (by rw [pk_un (by decide), pk_un (by decide)]; exact hfk) (k := 8) (by omega) (by omega) is
  have eQ : upd (upd (upd (ktake r z) 6 v) 7 g) 8 is = khelQ r z v g is := rfl
  rw [eQ] at r2
  have qj : ∀ j, j ≠ 5 → j ≠ 6 → j ≠ 7 → j ≠ 8 → khelQ r z v g is j = r j := fun j j5 j6 j7 j8 => by
    rw [← eQ, pk_un j8, pk_un j7, pk_un j6, tj j j5]
  have q6 : khelQ r z v g is 6 = v := by rw [← eQ, pk_un (by decide), pk_un (by decide)]; exact pk_us
  have q7 : khelQ r z v g is 7 = g := by rw [← eQ, pk_un (by decide)]; exact pk_us
  have q8 : khelQ r z v g is 8 = is := by rw [← eQ]; exact pk_us
  have ekey : kkey (z 4) (khelQ r z v g is 2) g val = kmix (kmix 7 (mpw (σ 29 4) (kprime g) S)) val := by
    rw [kshare_key (S := S) hsh (show khelQ r z v g is 2 = nI S by rw [qj 2 (by decide) (by decide) (by decide) (by decide)]; exact hS) (by omega), h294]
  have eP : khelP r z v g is val = upd (khelQ r z v g is) 9 (kmix (kmix 7 (mpw (σ 29 4) (kprime g) S)) val) := by
    unfold khelP
    rw [ekey]
  have eA : mgrA τ σ v g S is val = su (su (su (su (mtakes τ 1 9) 9 1 (kmix (kmix 7 (mpw (σ 29 4) (kprime g) S)) val)) 6 1 v) 7 1 g) 8 1 is := rfl
  generalize kmix (kmix 7 (mpw (σ 29 4) (kprime g) S)) val = key at eP eA
  have hq3 : ¬ (khelQ r z v g is 3 = 4 ∨ khelQ r z v g is 3 = 3) := by rw [qj 3 (by decide) (by decide) (by decide) (by decide)]; exact hf
  have r3 := rel_put1 r2 hq3 (k := 9) (by omega) (by omega) key
  rw [← eP] at r3
  have pj : ∀ j, j ≠ 9 → khelP r z v g is val j = khelQ r z v g is j := fun j hj => by rw [eP, pk_un hj]
  have p9 : khelP r z v g is val 9 = key := by rw [eP]; exact pk_us
  have p6 := (pj 6 (by decide)).trans q6
  have p7 := (pj 7 (by decide)).trans q7
  have p8 := (pj 8 (by decide)).trans q8
  have p0 := (pj 0 (by decide)).trans (qj 0 (by decide) (by decide) (by decide) (by decide))
  have p2 := (pj 2 (by decide)).trans (qj 2 (by decide) (by decide) (by decide) (by decide))
  have hp3 : ¬ (khelP r z v g is val 3 = 4 ∨ khelP r z v g is val 3 = 3) := by rw [pj 3 (by decide)]; exact hq3
  unfold mgrT mgrB
  generalize khelP r z v g is val = P at r3 p9 p6 p7 p8 p0 p2 hp3
  have r4 := rel_su8_1 (rel_su7_1 (rel_su6_1 (rel_su9_1 r3 hp3 key) hp3 v) hp3 g) hp3 is
  have a6 : mgrA τ σ v g S is val 6 1 = P 6 := by
    rw [p6, eA, su_row (by decide), su_row (by decide)]
    exact su_at
  have a7 : mgrA τ σ v g S is val 7 1 = P 7 := by
    rw [p7, eA, su_row (by decide)]
    exact su_at
  have a8 : mgrA τ σ v g S is val 8 1 = P 8 := by
    rw [p8, eA]
    exact su_at
  have a9 : mgrA τ σ v g S is val 9 1 = P 9 := by
    rw [p9, eA, su_row (by decide), su_row (by decide), su_row (by decide)]
    exact su_at
  rw [← eA] at r4
  generalize mgrA τ σ v g S is val = X at r4 a6 a7 a8 a9
  have r5 := rel_su29 (rel_su29 (rel_su29 (rel_su29 (rel_su29 (rel_su29 (rel_clr r4 3) 1 v) 2 g) 3 (mshare g S)) 4 (if mab (σ 0 1) v = 0 then 0 else 1)) 5 is) 6 e
  have eF : kgrF P f e = upd (upd (upd (upd (upd (upd (kbeg f 3) 1 v) 2 g) 3 (mshare g S)) 4 (if mab (σ 0 1) v = 0 then 0 else 1)) 5 is) 6 e := by
    unfold kgrF
    rw [p6, p7, p8, p2, p0, hmk, kshare_eq hS (by omega)]
    rcases his with rfl | rfl <;> rcases he with rfl | rfl <;> rfl
  have x29 : E9 (kgrF P f e) (su (su (su (su (su (su (mclr X 3) 29 1 v) 29 2 g) 29 3 (mshare g S)) 29 4 (if mab (σ 0 1) v = 0 then 0 else 1)) 29 5 is) 29 6 e 29) := by
    rw [eF, su_29, su_29, su_29, su_29, su_29, su_29, clr_29]
    exact ((((((E9.beg 3).put 1 _).put 2 _).put 3 _).put 4 _).put 5 _).put 6 _
  have f0 : kgrF P f e 0 = 3 := by
    rw [eF]
    rfl
  have w6 : su (su (su (su (su (su (mclr X 3) 29 1 v) 29 2 g) 29 3 (mshare g S)) 29 4 (if mab (σ 0 1) v = 0 then 0 else 1)) 29 5 is) 29 6 e 6 1 = P 6 := by
    rw [su_row (by decide), su_row (by decide), su_row (by decide), su_row (by decide), su_row (by decide), su_row (by decide), clr_row (by decide), a6]
  have w7 : su (su (su (su (su (su (mclr X 3) 29 1 v) 29 2 g) 29 3 (mshare g S)) 29 4 (if mab (σ 0 1) v = 0 then 0 else 1)) 29 5 is) 29 6 e 7 1 = P 7 := by
    rw [su_row (by decide), su_row (by decide), su_row (by decide), su_row (by decide), su_row (by decide), su_row (by decide), clr_row (by decide), a7]
  have w8 : su (su (su (su (su (su (mclr X 3) 29 1 v) 29 2 g) 29 3 (mshare g S)) 29 4 (if mab (σ 0 1) v = 0 then 0 else 1)) 29 5 is) 29 6 e 8 1 = P 8 := by
    rw [su_row (by decide), su_row (by decide), su_row (by decide), su_row (by decide), su_row (by decide), su_row (by decide), clr_row (by decide), a8]
  have w9 : su (su (su (su (su (su (mclr X 3) 29 1 v) 29 2 g) 29 3 (mshare g S)) 29 4 (if mab (σ 0 1) v = 0 then 0 else 1)) 29 5 is) 29 6 e 9 1 = P 9 := by
    rw [su_row (by decide), su_row (by decide), su_row (by decide), su_row (by decide), su_row (by decide), su_row (by decide), clr_row (by decide), a9]
  generalize su (su (su (su (su (su (mclr X 3) 29 1 v) 29 2 g) 29 3 (mshare g S)) 29 4 (if mab (σ 0 1) v = 0 then 0 else 1)) 29 5 is) 29 6 e = W at r5 x29 w6 w7 w8 w9
  have r6 := rel_take1 r5 (fun q => hp3 (Or.inl q)) (k := 7) (g := kgrF P f e) (by rw [f0]; rfl) x29 (by omega)
  have ep : kproof (ktake P (kgrF P f e)) 1 = mproof (mtakes W 1 7) 1 1 := by
    have z5 : mtakes W 1 7 5 1 = ktake P (kgrF P f e) 5 := r6.r.1.2.2.2.2.2.1
    have z9 : mtakes W 1 7 9 1 = ktake P (kgrF P f e) 9 := by
      rw [mtk_row1 (by decide), w9]
      unfold ktake
      rw [pk_un (by decide)]
    unfold kproof mproof
    rw [z5, z9]
  have y29 : E9 (kgrF2 P f e) (su (mtakes W 1 7) 29 7 (mproof (mtakes W 1 7) 1 1) 29) := by
    unfold kgrF2
    rw [ep, su_29, mtk_row1 (by decide)]
    exact x29.put 7 _
  have v6 : mtakes W 1 7 6 1 = ktake P (kgrF P f e) 6 := by
    rw [mtk_row1 (by decide), w6]
    unfold ktake
    rw [pk_un (by decide)]
  have v7 : mtakes W 1 7 7 1 = ktake P (kgrF P f e) 7 := by
    rw [mtk_row1 (by decide), w7]
    unfold ktake
    rw [pk_un (by decide)]
  have v8 : mtakes W 1 7 8 1 = ktake P (kgrF P f e) 8 := by
    rw [mtk_row1 (by decide), w8]
    unfold ktake
    rw [pk_un (by decide)]
  have v9 : mtakes W 1 7 9 1 = ktake P (kgrF P f e) 9 := by
    rw [mtk_row1 (by decide), w9]
    unfold ktake
    rw [pk_un (by decide)]
  have v81 : ktake P (kgrF P f e) 8 = 0 ∨ ktake P (kgrF P f e) 8 = 1 := by
    have : ktake P (kgrF P f e) 8 = is := by
      unfold ktake
      rw [pk_un (by decide), p8]
    rw [this]
    exact his
  unfold mgrC kgrP
  generalize mtakes W 1 7 = V at r6 ep y29 v6 v7 v8 v9
  generalize ktake P (kgrF P f e) = Q at r6 ep v6 v7 v8 v9 v81
  generalize kgrF2 P f e = G at y29
  have r7 := rel_send0 (rel_su29 r6 7 (mproof V 1 1)) (L := L) (g := G) hL hL8 y29
  refine rel_state1 r7 (by decide) (fun _ => ⟨?_, ?_, ?_, v81, ?_⟩)
  · rw [msend_rw (by decide) (by decide) (by decide), su_row (by decide), v6]
  · rw [msend_rw (by decide) (by decide) (by decide), su_row (by decide), v7]
  · rw [msend_rw (by decide) (by decide) (by decide), su_row (by decide), v8]
  · rw [msend_rw (by decide) (by decide) (by decide), su_row (by decide), v9]
end
