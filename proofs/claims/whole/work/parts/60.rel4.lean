/-! the calls that only read, and the text -/
section
variable {n : Nat} {nw c t p a b s N B : kF} {T : kFF} {r a2 b2 rp : kF} {M : kFF} {rq : kF} {M2 Y : kFF} {zf x xl : kF} {σ : kS}
theorem Rel.mono (h : Rel n nw c t p a b s N B T r a2 b2 rp M rq M2 Y zf x xl σ) : ∀ k, Rel (n + k) nw c t p a b s N B T r a2 b2 rp M rq M2 Y zf x xl σ
  | 0 => h
  | k + 1 => (h.mono k).up
theorem rel_mess0X {v : Int32} (hi : kin9 v = 0) : (-3 : Int32) = mmess σ 0 v := by
  unfold mmess
  rw [if_pos rfl, if_pos (by rw [← kin9_eq]; exact hi)]
theorem rel_mess1X {v : Int32} (hi : kin9 v = 0) : (-3 : Int32) = mmess σ 1 v := by
  unfold mmess
  rw [if_neg (by decide), if_pos rfl, if_pos (by rw [← kin9_eq]; exact hi)]
theorem rel_mess0K (h : Rel n nw c t p a b s N B T r a2 b2 rp M rq M2 Y zf x xl σ) {k : Nat} (hk : k < 9) : kmsgR rp M k = mmess σ 0 (nI k) := by
  unfold kmsgR mmess
  rw [if_pos rfl, if_neg (kin9_nI hk), nI_clamp (by omega)]
  by_cases he : rp 1 = 0
  · rw [if_pos he, if_pos (road_0 h.rc he)]
  · rw [if_neg he, if_neg (road_n h.rc he)]
    exact (road_first h.rc he hk).symm
theorem rel_mess1K (h : Rel n nw c t p a b s N B T r a2 b2 rp M rq M2 Y zf x xl σ) {k : Nat} (hk : k < 9) : kmsgR rq M2 k = mmess σ 1 (nI k) := by
  unfold kmsgR mmess
  rw [if_neg (show ¬ (1 : Int32) = 0 from by decide), if_pos rfl, if_neg (kin9_nI hk), nI_clamp (by omega)]
  by_cases he : rq 1 = 0
  · rw [if_pos he, if_pos (road_0 h.rs he)]
  · rw [if_neg he, if_neg (road_n h.rs he)]
    exact (road_first h.rs he hk).symm
theorem mmess_no {i v : Int32} (h0 : ¬ i = 0) (h1 : ¬ i = 1) : (-2 : Int32) = mmess σ i v := by
  unfold mmess
  rw [if_neg h0, if_neg h1]
theorem rel_held (h : Rel n nw c t p a b s N B T r a2 b2 rp M rq M2 Y zf x xl σ) (i : Int32) : kheldR c t i = mheld σ i := by
  have hc := h.cli
  unfold kheldR mheld
  rw [kin5_eq]
  by_cases hi : kinL i.toInt64 0 4 = 0
  · rw [if_pos hi, if_pos hi]
  rw [if_neg hi, if_neg hi, hc.1.2.2.1]
  rcases hc.2.1 with z | z
  · rw [if_pos z, if_neg (by rw [z]; decide)]
  rw [if_neg (by rw [z]; decide), if_pos z]
  rw [kinC 0 4] at hi
  by_cases h1 : i < 0
  · rw [if_pos h1] at hi; exact absurd rfl hi
  rw [if_neg h1] at hi
  by_cases h2 : 4 < i
  · rw [if_pos h2] at hi; exact absurd rfl hi
  obtain ⟨k, -, k2, rfl⟩ := i32_small h1 h2 (a := 0) (b := 4) rfl rfl (by omega) (by omega)
  rw [nI_clamp (by omega)]
  rcases (show k = 0 ∨ k = 1 ∨ k = 2 ∨ k = 3 ∨ k = 4 by omega) with rfl | rfl | rfl | rfl | rfl
  · exact hc.1.2.2.2.1.symm
  · exact hc.1.2.2.2.2.1.symm
  · exact hc.1.2.2.2.2.2.1.symm
  · exact hc.1.2.2.2.2.2.2.1.symm
  · exact hc.1.2.2.2.2.2.2.2.1.symm
theorem rel_share (g v : Int32) : kshareR g v = mshareR g v := by
  unfold kshareR mshareR
  rw [kgrp_eq, kinC (x := v) 1 999]
  by_cases hg : kinL g.toInt64 0 3 = 0
  · rw [if_pos hg, if_pos hg]
  rw [if_neg hg, if_neg hg]
  by_cases h1 : v < 1
  · rw [if_pos h1, if_pos h1, if_pos rfl]
  rw [if_neg h1, if_neg h1]
  by_cases h2 : 999 < v
  · rw [if_neg (Int32.not_le.mpr h2), if_pos h2, if_pos rfl]
  rw [if_pos (Int32.not_lt.mp h2), if_neg h2, if_neg (by decide)]
  obtain ⟨k, k1, k2, rfl⟩ := i32_small h1 h2 (a := 1) (b := 999) rfl rfl (by omega) (by omega)
  rw [nI_clamp (by omega)]
  exact kshare_eq rfl (by omega)
theorem rel_count (h : Rel n nw c t p a b s N B T r a2 b2 rp M rq M2 Y zf x xl σ) (i : Int32) : kcountR nw c s rp rq p r x i = mcount σ i := by
  obtain ⟨w, -, w1, w2⟩ := h.now
  obtain ⟨K, E, m, w', -, ⟨k1, k2⟩, ⟨e1, e2⟩, -, -, -, -, -, -, s7, s8⟩ := h.srv
  obtain ⟨L, -, l1, l2, -⟩ := h.txt
  unfold kcountR mcount
  rw [h.gone, road_len h.rc, road_len h.rs, w1, w2, k1, k2, e1, e2, s7, s8, l1, l2, h.p.1.2.2.2.2.2.2.1, h.p.1.2.2.2.2.2.2.2, h.r.1.2.2.2.2.2.2.1, h.r.1.2.2.2.2.2.2.2]
theorem kept_len {K : Nat} {j : Int32} (hK : K ≤ 3) : (j < 0 ∨ ¬ j < nI K) → kinL j.toInt64 0 (nI K - 1).toInt64 = 0 := by
  intro h
  rw [show (0 : Int64) = (0 : Int32).toInt64 from by decide, kinL_i]
  by_cases h1 : j < 0
  · rw [if_pos h1]
  · rw [if_neg h1, if_pos]
    have h2 := h.resolve_left h1
    have z : nI K - 1 < nI K := by
      have : ∀ K, K ≤ 3 → nI K - 1 < nI K := by decide
      exact this K hK
    exact Int32.lt_of_lt_of_le z (Int32.not_lt.mp h2)
theorem rel_keptN (h : Rel n nw c t p a b s N B T r a2 b2 rp M rq M2 Y zf x xl σ) {i : Int32} (hi : i < 0 ∨ ¬ i < s 2) (v : Int32) : (-2 : Int32) = mkept σ i v := by
  obtain ⟨K, E, m, w', ⟨hK, -⟩, ⟨k1, k2⟩, -⟩ := h.srv
  unfold mkept
  rw [k2, if_pos (kept_len hK (by rw [k1] at hi; exact hi))]
theorem rel_keptK (h : Rel n nw c t p a b s N B T r a2 b2 rp M rq M2 Y zf x xl σ) {j : Nat} (hj3 : j < 3) (hj : nI j < s 2) (v : Int32) : (if kin5 v = 0 then -3 else ktell (T j) v) = mkept σ (nI j) v := by
  obtain ⟨K, E, m, w', ⟨hK, -⟩, ⟨k1, k2⟩, -, -, -, hT, -⟩ := h.srv
  have hjK : j < K := by
    rw [k1] at hj
    exact (nI_ltI (by omega) (by omega)).mp hj
  unfold mkept
  have e : ¬ kinL (nI j).toInt64 0 (nI K - 1).toInt64 = 0 := by
    have : ∀ K, K ≤ 3 → ∀ j, j < K → ¬ kinL (nI j).toInt64 0 (nI K - 1).toInt64 = 0 := by decide +kernel
    exact this K hK j hjK
  rw [k2, if_neg e, kin5_eq, nI_clamp (by omega)]
  by_cases hi : kinL v.toInt64 0 4 = 0
  · rw [if_pos hi, if_pos hi]
  rw [if_neg hi, if_neg hi]
  rw [kinC 0 4] at hi
  by_cases h1 : v < 0
  · rw [if_pos h1] at hi; exact absurd rfl hi
  rw [if_neg h1] at hi
  by_cases h2 : 4 < v
  · rw [if_pos h2] at hi; exact absurd rfl hi
  obtain ⟨k, -, q2, rfl⟩ := i32_small h1 h2 (a := 0) (b := 4) rfl rfl (by omega) (by omega)
  rw [nI_clamp (by omega), hT j hjK k (by omega)]
  rcases (show k = 0 ∨ k = 1 ∨ k = 2 ∨ k = 3 ∨ k = 4 by omega) with rfl | rfl | rfl | rfl | rfl <;> rfl
theorem peer_side {sd : Nat} (hp : RPeer sd p a b σ) (i : Int32) : ksideR p a b i = mside1 σ sd i := by
  unfold ksideR mside1
  rw [kinC 0 11]
  by_cases h1 : i < 0
  · rw [if_pos h1, if_pos h1, if_pos rfl]
  rw [if_neg h1, if_neg h1]
  by_cases h2 : 11 < i
  · rw [if_neg (Int32.not_le.mpr h2), if_pos h2, if_pos rfl]
  rw [if_pos (Int32.not_lt.mp h2), if_neg h2, if_neg (by decide)]
  obtain ⟨k, -, k2, rfl⟩ := i32_small h1 h2 (a := 0) (b := 11) rfl rfl (by omega) (by omega)
  obtain ⟨⟨-, -, -, q3, q4, q5, -, -⟩, -, -, -, -, j1, j2⟩ := hp
  have hc : ∀ k, k ≤ 11 → 3 ≤ k → (3 : Int32) ≤ nI k := by decide
  by_cases k3 : k < 3
  · have hn : ∀ k, k < 3 → ¬ (3 : Int32) ≤ nI k := by decide
    rw [if_neg (hn k k3)]
    rcases (show k = 0 ∨ k = 1 ∨ k = 2 by omega) with rfl | rfl | rfl
    · exact q3.symm
    · exact q4.symm
    · exact q5.symm
  · rw [if_pos (hc k k2 (by omega)), q3]
    have e0 : ¬ nI k = 0 := nI_ne0 (by omega) (by omega)
    have e1 : ∀ k, k ≤ 11 → 3 ≤ k → ¬ nI k = 1 ∧ ¬ nI k = 2 := by decide
    unfold ktellP
    rw [if_neg e0, if_neg (e1 k k2 (by omega)).1, if_neg (e1 k k2 (by omega)).2]
    by_cases z : p 3 = 4
    · rw [if_pos z, if_pos z]
      obtain ⟨g6, g7, g8, g8b, g9⟩ := j1 (Or.inl z)
      obtain ⟨m10, m1, m2, m3, m4⟩ := j2 z
      rcases (show k = 3 ∨ k = 4 ∨ k = 5 ∨ k = 6 ∨ k = 7 ∨ k = 8 ∨ k = 9 ∨ k = 10 ∨ k = 11 by omega) with rfl | rfl | rfl | rfl | rfl | rfl | rfl | rfl | rfl
      · exact g6.symm
      · exact g7.symm
      · show (if p 8 = 0 then (0 : Int32) else 1) = σ 8 sd
        rw [g8]
        rcases g8b with y | y
        · rw [if_pos y, y]
        · rw [if_neg (by rw [y]; decide), y]
      · exact g9.symm
      · show p 10 = kmix (σ 9 sd) (σ 5 sd)
        rw [m10, g9, q5]
      · exact m1.symm
      · exact m2.symm
      · exact m3.symm
      · exact m4.symm
    · rw [if_neg z, if_neg z]
theorem rel_side0 (h : Rel n nw c t p a b s N B T r a2 b2 rp M rq M2 Y zf x xl σ) (i : Int32) : ksideR p a b i = mside σ 0 i := by
  unfold mside
  rw [if_pos rfl]
  exact peer_side h.p i
theorem rel_side1 (h : Rel n nw c t p a b s N B T r a2 b2 rp M rq M2 Y zf x xl σ) (i : Int32) : ksideR r a2 b2 i = mside σ 1 i := by
  unfold mside
  rw [if_neg (show ¬ (1 : Int32) = 0 from by decide), if_pos rfl]
  exact peer_side h.r i
theorem mside_no {i v : Int32} (h0 : ¬ i = 0) (h1 : ¬ i = 1) : (-2 : Int32) = mside σ i v := by
  unfold mside
  rw [if_neg h0, if_neg h1]
/-- the text -/
theorem txt_len (h : RTxt x xl σ) {L : Nat} (hL : x 1 = nI L) (hL2 : L ≤ 200) : σ 36 0 = nI L := by
  obtain ⟨L', h1, h2, h3, -⟩ := h
  rw [h3, ← h2, hL]
theorem rel_typeA (h : Rel n nw c t p a b s N B T r a2 b2 rp M rq M2 Y zf x xl σ) {L : Nat} (hL : x 1 = nI L) (lL : L < 200) (v : Int32) : (ktypeA L x xl v).1 = (mtype σ v L).1 ∧ Rel (n + 1) nw c t p a b s N B T r a2 b2 rp M rq M2 Y zf (ktypeA L x xl v).2.1 (ktypeA L x xl v).2.2 (mtype σ v L).2 := by
  have e6 := txt_len h.txt hL (by omega)
  unfold ktypeA mtype
  rw [kinC 0 255]
  by_cases h1 : v < 0
  · simp only [h1, ↓reduceIte]; exact ⟨by trivial, h.up⟩
  by_cases h4 : 255 < v
  · simp only [h1, h4, Int32.not_le.mpr h4, ↓reduceIte]; exact ⟨by trivial, h.up⟩
  simp only [h1, h4, Int32.not_lt.mp h4, show ¬ ((1 : Int32) = 0) from by decide, show ¬ L = 200 by omega, ↓reduceIte]
  refine ⟨by rw [hL, e6], ⟨h.now.up, h.cli, h.p, h.srv.up, h.r, h.rc, h.rs, h.cop, ⟨L + 1, by omega, ?_, ?_, ?_⟩, h.gone⟩⟩
  · show x 1 + 1 = _
    rw [hL, nI_1]
  · show σ 36 0 + 1 = _
    rw [e6, nI_1]
  · obtain ⟨-, -, -, -, h35⟩ := h.txt
    show upd (σ 35) L v = _
    rw [h35]
theorem rel_typeB (h : Rel n nw c t p a b s N B T r a2 b2 rp M rq M2 Y zf x xl σ) (v : Int32) : ktypeB v = (mtype σ v 200).1 ∧ Rel (n + 1) nw c t p a b s N B T r a2 b2 rp M rq M2 Y zf x xl (mtype σ v 200).2 := by
  unfold ktypeB mtype
  rw [kinC 0 255]
  by_cases h1 : v < 0
  · simp only [h1, ↓reduceIte]; exact ⟨by trivial, h.up⟩
  by_cases h4 : 255 < v
  · simp only [h1, h4, Int32.not_le.mpr h4, ↓reduceIte]; exact ⟨by trivial, h.up⟩
  simp only [h1, h4, Int32.not_lt.mp h4, show ¬ ((1 : Int32) = 0) from by decide, ↓reduceIte]; exact ⟨by trivial, h.up⟩
theorem rel_erase (h : Rel n nw c t p a b s N B T r a2 b2 rp M rq M2 Y zf x xl σ) : x 1 = σ 36 0 ∧ Rel (n + 1) nw c t p a b s N B T r a2 b2 rp M rq M2 Y zf (upd x 1 0) xl (su σ 36 0 0) := by
  obtain ⟨L, l0, l1, l2, l3⟩ := h.txt
  exact ⟨by rw [l1, l2], ⟨h.now.up, h.cli, h.p, h.srv.up, h.r, h.rc, h.rs, h.cop, ⟨0, by omega, rfl, rfl, l3⟩, h.gone⟩⟩
theorem kread_x1 {L : Nat} : ∀ (n i E : Nat) (q : kF × kF × kF × kF), (kread xl L n i E q).2.1 1 = q.1 1 := by
  intro n
  induction n with
  | zero => intro i E q; rfl
  | succ n ih =>
    intro i E q
    simp only [kread]
    split
    · rfl
    · split
      · rfl
      · split
        · rfl
        · rw [ih]
          rfl
theorem krd_res {L : Nat} {fk ff fs : kF} (hL : L ≤ 200) : ((krd xl L x fk ff fs).1 = -1 ∧ ∃ N, N ≤ 24 ∧ (krd xl L x fk ff fs).2.1 5 = nI N ∧ kgood (krd xl L x fk ff fs).2 N) ∨ ∃ S, S ≤ 200 ∧ (krd xl L x fk ff fs).1 = nI S :=
  kread_res hL 24 0 0 _ rfl (Nat.zero_le _) rfl (fun z => by cases z) (fun j hj => by omega)
theorem txt_mrw (h : RTxt x xl σ) {L : Nat} {fk ff fs : kF} {b1 b2 b3 b4 b5 : Int32} : RTxt (krd xl L x fk ff fs).2.1 xl (mrw σ b1 b2 b3 b4 b5) := by
  obtain ⟨L', l0, l1, l2, l3⟩ := h
  exact ⟨L', l0, by unfold krd; rw [kread_x1]; exact l1, l2, l3⟩
theorem rel_fault (h : Rel n nw c t p a b s N B T r a2 b2 rp M rq M2 Y zf x xl σ) {L : Nat} {fk ff fs : kF} (hL : L ≤ 200) : (krd xl L x fk ff fs).1 = mfltR (kread (σ 35) L 24 0 0 (upd (upd x 7 0) 5 0, fk, ff, fs)) ∧ ∀ b1 b2' b3 b4 b5 : Int32, Rel (n + 1) nw c t p a b s N B T r a2 b2 rp M rq M2 Y zf (krd xl L x fk ff fs).2.1 xl (mrw σ b1 b2' b3 b4 b5) := by
  have h35 : σ 35 = xl := by
    obtain ⟨-, -, -, -, l3⟩ := h.txt
    exact l3
  refine ⟨?_, fun b1 b2' b3 b4 b5 => ⟨h.now.up, h.cli, h.p, h.srv.up, h.r, h.rc, h.rs, h.cop, txt_mrw h.txt, h.gone⟩⟩
  rw [h35]
  exact (mflt_eq (krd_res hL)).symm
theorem rel_settingsN (h : Rel n nw c t p a b s N B T r a2 b2 rp M rq M2 Y zf x xl σ) {L : Nat} {fk ff fs : kF} (hL : L ≤ 200) (hno : ¬ (krd xl L x fk ff fs).1 = -1) : mgoR (kread (σ 35) L 24 0 0 (upd (upd x 7 0) 5 0, fk, ff, fs)) < 0 := by
  have h35 : σ 35 = xl := by
    obtain ⟨-, -, -, -, l3⟩ := h.txt
    exact l3
  rw [h35]
  rcases krd_res (xl := xl) (x := x) (fk := fk) (ff := ff) (fs := fs) hL with ⟨z, -⟩ | ⟨S, hS, z⟩
  · exact absurd z hno
  · show mgoR (krd xl L x fk ff fs) < 0
    unfold mgoR
    rw [if_neg hno, z]
    exact mneg3 S (by omega)
theorem kin_ok {v lo hi : Int32} (h1 : lo ≤ v) (h2 : v ≤ hi) : ¬ kinL v.toInt64 lo.toInt64 hi.toInt64 = 0 := by
  rw [kinL_i, if_neg (Int32.not_lt.mpr h1), if_neg (Int32.not_lt.mpr h2)]
  decide
/-- one clause that may be done -/
theorem rel_clause (h : Rel n nw c t p a b s N B T r a2 b2 rp M rq M2 Y zf x xl σ) {kd v w : Int32} (hv : kvalid kd v w) : Rel (n + 1) nw (kapply kd v w c p r).1 t (kapply kd v w c p r).2.1 a b s N B T (kapply kd v w c p r).2.2 a2 b2 rp M rq M2 Y zf x xl (mdoes σ kd v w) := by
  rcases hv with ⟨hk, ⟨v1, v7⟩, ⟨w1, w15⟩⟩ | ⟨rfl, hv, ⟨w1, w9⟩⟩ | ⟨rfl, ⟨v0, v3⟩⟩ | ⟨rfl, ⟨v0, v9⟩⟩
  · have k1 : ¬ kinL v.toInt64 1 7 = 0 := kin_ok (lo := 1) (hi := 7) v1 v7
    have k2 : ¬ kinL w.toInt64 1 15 = 0 := kin_ok (lo := 1) (hi := 15) w1 w15
    rcases hk with rfl | rfl
    · have z := (rel_offer0 h v w).2
      unfold moffer at z
      rw [m3_0, if_neg k1, if_neg k2] at z
      exact z
    · have z := (rel_offer1 h v w).2
      unfold moffer at z
      rw [m3_1, if_neg k1, if_neg k2] at z
      exact z
  · have k2 : ¬ kinL w.toInt64 1 999 = 0 := kin_ok (lo := 1) (hi := 999) w1 w9
    rcases hv with rfl | rfl
    · have z := (rel_secret0 h w).2
      unfold msecret at z
      rw [m3_0, if_neg k2] at z
      exact z
    · have z := (rel_secret1 h w).2
      unfold msecret at z
      rw [m3_1, if_neg k2] at z
      exact z
  · have k1 : ¬ kinL v.toInt64 0 3 = 0 := kin_ok (lo := 0) (hi := 3) v0 v3
    have z := (rel_guess h v).2
    unfold mguess at z
    rw [if_neg k1] at z
    exact z
  · have k1 : ¬ kinL v.toInt64 (-1) 999 = 0 := kin_ok (lo := -1) (hi := 999) (Int32.le_trans (by decide) v0) v9
    have z := (rel_early h v).2
    unfold mearly at z
    rw [if_neg k1] at z
    exact z
theorem rel_clauses (h : Rel n nw c t p a b s N B T r a2 b2 rp M rq M2 Y zf x xl σ) {fk ff fs : kF} : ∀ k, (∀ j, j < k → kvalid (fk j) (ff j) (fs j)) → Rel (n + k) nw (kappls fk ff fs k (c, p, r)).1 t (kappls fk ff fs k (c, p, r)).2.1 a b s N B T (kappls fk ff fs k (c, p, r)).2.2 a2 b2 rp M rq M2 Y zf x xl (mdo fk ff fs k σ)
  | 0, _ => h
  | k + 1, hv => rel_clause (rel_clauses h k (fun j hj => hv j (by omega))) (hv k (by omega))
theorem rel_settingsA (h : Rel n nw c t p a b s N B T r a2 b2 rp M rq M2 Y zf x xl σ) {L : Nat} {fk ff fs : kF} (hL : L ≤ 200) (hyes : (krd xl L x fk ff fs).1 = -1) :
    ∃ K, K ≤ 24 ∧ (krd xl L x fk ff fs).2.1 5 = nI K ∧ (∀ j, j < K → (krd xl L x fk ff fs).2.2.1 j = 2 → (krd xl L x fk ff fs).2.2.2.1 j = 0 ∨ (krd xl L x fk ff fs).2.2.2.1 j = 1) ∧ kread (σ 35) L 24 0 0 (upd (upd x 7 0) 5 0, fk, ff, fs) = krd xl L x fk ff fs ∧
      ∀ b1 b2' b3 b4 b5 : Int32, Rel (n + 25) nw (kappls (krd xl L x fk ff fs).2.2.1 (krd xl L x fk ff fs).2.2.2.1 (krd xl L x fk ff fs).2.2.2.2 K (c, p, r)).1 t (kappls (krd xl L x fk ff fs).2.2.1 (krd xl L x fk ff fs).2.2.2.1 (krd xl L x fk ff fs).2.2.2.2 K (c, p, r)).2.1 a b s N B T (kappls (krd xl L x fk ff fs).2.2.1 (krd xl L x fk ff fs).2.2.2.1 (krd xl L x fk ff fs).2.2.2.2 K (c, p, r)).2.2 a2 b2 rp M rq M2 Y zf (upd (krd xl L x fk ff fs).2.1 1 0) xl (su (mrw (mdo (krd xl L x fk ff fs).2.2.1 (krd xl L x fk ff fs).2.2.2.1 (krd xl L x fk ff fs).2.2.2.2 K σ) b1 b2' b3 b4 b5) 36 0 0) := by
  have h35 : σ 35 = xl := by
    obtain ⟨-, -, -, -, l3⟩ := h.txt
    exact l3
  rcases krd_res (xl := xl) (x := x) (fk := fk) (ff := ff) (fs := fs) hL with ⟨-, K, hK, h5, hg⟩ | ⟨S, hS, z⟩
  · refine ⟨K, hK, h5, fun j hj h2 => ?_, by rw [h35]; rfl, fun b1 b2' b3 b4 b5 => ?_⟩
    · rcases hg j hj with ⟨hk, -⟩ | ⟨-, hv, -⟩ | ⟨hk, -⟩ | ⟨hk, -⟩
      · rcases hk with z | z
        · exact absurd (h2.symm.trans z) (by decide)
        · exact absurd (h2.symm.trans z) (by decide)
      · exact hv
      · exact absurd (h2.symm.trans hk) (by decide)
      · exact absurd (h2.symm.trans hk) (by decide)
    · have z := (rel_clauses h K (fun j hj => hg j hj)).mono (25 - K)
      rw [show n + K + (25 - K) = n + 25 by omega] at z
      obtain ⟨L', l0, l1, l2, l3⟩ := z.txt
      exact ⟨z.now, z.cli, z.p, z.srv, z.r, z.rc, z.rs, z.cop, ⟨0, by omega, rfl, rfl, l3⟩, z.gone⟩
  · exact absurd (hyes.symm.trans z) (fun q => nI_nm1 (j := S) (by omega) q.symm)
end
