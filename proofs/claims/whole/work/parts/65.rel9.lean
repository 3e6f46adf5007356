/-! the client is asked again, or greeted -/
section
variable {n : Nat} {nw c t p a b s N B : kF} {T : kFF} {r a2 b2 rp : kF} {M : kFF} {rq : kF} {M2 Y : kFF} {zf x xl : kF} {σ : kS}
theorem mtk_row {sd k r' : Nat} (h : r' ≠ 5) : mtakes σ sd k r' = σ r' := by
  unfold mtakes va_up
  rw [if_neg h]
theorem su_row {r' j q : Nat} {v : Int32} (h : q ≠ r') : su σ r' j v q = σ q := by
  unfold su va_up
  rw [if_neg h]
theorem su_at {r' j : Nat} {v : Int32} : su σ r' j v r' j = v := by
  unfold su va_up
  rw [if_pos rfl, pk_us]
theorem clr_row {k : Int32} {q : Nat} (h : q ≠ 29) : mclr σ k q = σ q := by
  unfold mclr va_up
  rw [if_neg h]
theorem rel_greet (h : Rel n nw c t p a b s N B T r a2 b2 rp M rq M2 Y zf x xl σ) (h1 : p 3 = 1) {z f : kF} (hz : E9 z (σ 29)) (z0 : z 0 = 3) {S L : Nat} (hS : p 2 = nI S) (hS2 : S ≤ 999) (hL : rq 1 = nI L) (hL8 : L ≤ 8) :
    Rel n nw c t (kgreetR L c p a b f rq M2 z).1 (kgreetR L c p a b f rq M2 z).2.1 (kgreetR L c p a b f rq M2 z).2.2.1 s N B T r a2 b2 rp M (kgreetR L c p a b f rq M2 z).2.2.2.2.1 (kgreetR L c p a b f rq M2 z).2.2.2.2.2 Y zf x xl (mgreet σ S L) := by
  have ew := kwrongC_eq h hz
  unfold kgreetR mgreet
  rw [← ew]
  by_cases w0 : kwrongC p c z = 0
  · have hsh := wrongC_share w0
    have c16 := h.cli.1.2.2.2.2.2.2.2.2.1
    have c18 := h.cli.1.2.2.2.2.2.2.2.2.2.2.1
    rw [if_pos w0, if_pos w0]
    have hf : ¬ (p 3 = 4 ∨ p 3 = 3) := by rw [h1]; decide
    have r1 := rel_put0 (rel_put0 (rel_put0 h hf (k := 6) (by omega) (by omega) (z 1)) hf (k := 7) (by omega) (by omega) (c 6)) hf (k := 8) (by omega) (by omega) (if z 5 = 0 then 0 else 1)
    have hq2 : kgreetQ c p z 2 = nI S := hS
    have ekey : kkey (z 3) (kgreetQ c p z 2) (c 6) (if z 5 = 0 then 0 else c 8) = kmix (kmix 7 (mpw (σ 29 3) (kprime (σ 16 0)) S)) (if σ 29 5 = 0 then 0 else σ 18 0) := by
      rw [kshare_key (S := S) hsh hq2 (by omega), hz 3 (by decide), hz 5 (by decide), c16, c18]
    have hQ : upd (upd (upd p 6 (z 1)) 7 (c 6)) 8 (if z 5 = 0 then 0 else 1) = kgreetQ c p z := rfl
    rw [hQ] at r1
    have hf1 : ¬ (kgreetQ c p z 3 = 4 ∨ kgreetQ c p z 3 = 3) := hf
    have q6 : kgreetQ c p z 6 = z 1 := rfl
    have q7 : kgreetQ c p z 7 = c 6 := rfl
    have q8 : kgreetQ c p z 8 = (if z 5 = 0 then 0 else 1) := rfl
    have eP : kgreetP c p z = ktake (upd (kgreetQ c p z) 9 (kmix (kmix 7 (mpw (σ 29 3) (kprime (σ 16 0)) S)) (if σ 29 5 = 0 then 0 else σ 18 0))) z := by
      unfold kgreetP
      rw [ekey]
    have eM : mgrt1 σ S = mtakes (su σ 9 0 (kmix (kmix 7 (mpw (σ 29 3) (kprime (σ 16 0)) S)) (if σ 29 5 = 0 then 0 else σ 18 0))) 0 7 := rfl
    generalize kmix (kmix 7 (mpw (σ 29 3) (kprime (σ 16 0)) S)) (if σ 29 5 = 0 then 0 else σ 18 0) = key at eP eM
    generalize kgreetQ c p z = Q at r1 hf1 q6 q7 q8 eP
    have r2 := rel_put0 (rel_su9_0 r1 hf1 key) hf1 (k := 9) (by omega) (by omega) key
    have hz2 : E9 z (su σ 9 0 key 29) := by rw [su_row (by decide)]; exact hz
    have e93 : upd Q 9 key 3 = Q 3 := pk_un (by decide)
    have hf2 : ¬ (upd Q 9 key 3 = 4 ∨ upd Q 9 key 3 = 3) := by rw [e93]; exact hf1
    have r3 := rel_take0 r2 (fun q => hf2 (Or.inl q)) (k := 7) (g := z) (by rw [z0]; rfl) hz2 (by omega)
    have p9 : ktake (upd Q 9 key) z 9 = key := by
      unfold ktake
      rw [pk_un (by decide)]
      exact pk_us
    have pj : ∀ j, j ≠ 5 → j ≠ 9 → ktake (upd Q 9 key) z j = Q j := fun j j5 j9 => by
      unfold ktake
      rw [pk_un j5, pk_un j9]
    have s9 : mtakes (su σ 9 0 key) 0 7 9 0 = key := by
      rw [mtk_row (by decide)]
      exact su_at
    rw [← eP] at r3 p9 pj
    rw [← eM] at r3 s9
    generalize kgreetP c p z = P at r3 p9 pj
    have e29 : mgrt1 σ S 29 = σ 29 := by
      rw [eM, mtk_row (by decide), su_row (by decide)]
    generalize mgrt1 σ S = τ at r3 s9 e29
    have e5 : τ 5 0 = P 5 := r3.p.1.2.2.2.2.2.1
    have epr : ∀ k : Int32, kproof P k = mproof τ 0 k := fun k => by
      unfold kproof mproof
      rw [p9, s9, e5]
    rw [epr 1, hz 7 (by decide)]
    by_cases y7 : σ 29 7 = mproof τ 0 1
    · rw [if_pos y7, if_pos y7]
      have hf3 : ¬ (P 3 = 4 ∨ P 3 = 3) := by
        rw [pj 3 (by decide) (by decide)]
        exact hf1
      have r4 := rel_clr (rel_su8_0 (rel_su7_0 (rel_su6_0 r3 hf3 (σ 29 1)) hf3 (σ 16 0)) hf3 (if σ 29 5 = 0 then 0 else 1)) 4
      have eX : mclr (su (su (su τ 6 0 (σ 29 1)) 7 0 (σ 16 0)) 8 0 (if σ 29 5 = 0 then 0 else 1)) 4 = mgrt2 σ τ := rfl
      rw [eX] at r4
      have x6 : mgrt2 σ τ 6 0 = z 1 := by
        rw [← eX, clr_row (by decide), su_row (by decide), su_row (by decide), hz 1 (by decide)]
        exact su_at
      have x7 : mgrt2 σ τ 7 0 = c 6 := by
        rw [← eX, clr_row (by decide), su_row (by decide), ← c16]
        exact su_at
      have x8 : mgrt2 σ τ 8 0 = (if z 5 = 0 then 0 else 1) := by
        rw [← eX, clr_row (by decide), hz 5 (by decide)]
        exact su_at
      have x9 : mgrt2 σ τ 9 0 = P 9 := by
        rw [← eX, clr_row (by decide), su_row (by decide), su_row (by decide), su_row (by decide), s9, p9]
      have x5 : mgrt2 σ τ 5 0 = P 5 := r4.p.1.2.2.2.2.2.1
      have x29 : E9 (kbeg f 4) (mgrt2 σ τ 29) := by
        rw [← eX]
        exact E9.beg 4
      generalize mgrt2 σ τ = X at r4 x6 x7 x8 x9 x5 x29
      have r5 := rel_send1 (rel_su29 r4 1 (mproof X 0 2)) (L := L) (g := kgreetF P f) hL hL8 (by
        have e2 : kproof P 2 = mproof X 0 2 := by
          unfold kproof mproof
          rw [x9, x5]
        unfold kgreetF
        rw [e2]
        exact x29.put 1 _)
      refine rel_join0 r5 ?_ ?_ ?_ ?_ ?_
      · rw [msend_rw (by decide) (by decide) (by decide), su_row (by decide), x6, pj 6 (by decide) (by decide), q6]
      · rw [msend_rw (by decide) (by decide) (by decide), su_row (by decide), x7, pj 7 (by decide) (by decide), q7]
      · rw [msend_rw (by decide) (by decide) (by decide), su_row (by decide), x8, pj 8 (by decide) (by decide), q8]
      · rw [pj 8 (by decide) (by decide), q8]
        by_cases y5 : z 5 = 0
        · exact Or.inl (if_pos y5)
        · exact Or.inr (if_neg y5)
      · rw [msend_rw (by decide) (by decide) (by decide), su_row (by decide), x9]
    · rw [if_neg y7, if_neg y7]
      exact rel_fail0 r3 8
  · rw [if_neg w0, if_neg w0]
    exact rel_fail0 h _
end
