/-! the calls about what is on the way -/
section
variable {n : Nat} {nw c t p a b s N B : kF} {T : kFF} {r a2 b2 rp : kF} {M : kFF} {rq : kF} {M2 Y : kFF} {zf x xl : kF} {σ : kS}
theorem road_0 {sd : Nat} {m w : kF} (h : RRoad sd rp M m w) (he : rp 1 = 0) : m sd = 0 := by
  obtain ⟨L, h1, h2, h3, -⟩ := h
  rw [h3, ← h2, he]
theorem road_n {sd : Nat} {m w : kF} (h : RRoad sd rp M m w) (he : ¬ rp 1 = 0) : ¬ m sd = 0 := by
  obtain ⟨L, h1, h2, h3, -⟩ := h
  rw [h3, ← h2]
  exact he
theorem road_len {sd : Nat} {m w : kF} (h : RRoad sd rp M m w) : m sd = rp 1 := by
  obtain ⟨L, h1, h2, h3, -⟩ := h
  rw [h3, h2]
theorem road_ex {sd : Nat} {m w : kF} (h : RRoad sd rp M m w) : ∃ L, L ≤ 8 ∧ rp 1 = nI L ∧ m sd = nI L := by
  obtain ⟨L, h1, h2, h3, -⟩ := h
  exact ⟨L, h1, h2, h3⟩
theorem road_1 {sd : Nat} {m w : kF} (h : RRoad sd rp M m w) (he : ¬ rp 1 = 0) : ∃ L, 1 ≤ L ∧ L ≤ 8 ∧ rp 1 = nI L ∧ m sd = nI L := by
  obtain ⟨L, h1, h2, h3⟩ := road_ex h
  refine ⟨L, ?_, h1, h2, h3⟩
  rcases Nat.eq_zero_or_pos L with z | z
  · subst z; exact absurd h2 he
  · exact z
theorem road_first {sd : Nat} {m w : kF} (h : RRoad sd rp M m w) (he : ¬ rp 1 = 0) {j : Nat} (hj : j < 9) : w (72 * sd + j) = M 0 j := by
  obtain ⟨L, h1, h2, h3, h4⟩ := h
  have z : 0 < L := by
    rcases Nat.eq_zero_or_pos L with z | z
    · subst z; exact absurd h2 he
    · exact z
  exact h4 0 z j hj
/-- drop -/
theorem rel_drop0E (h : Rel n nw c t p a b s N B T r a2 b2 rp M rq M2 Y zf x xl σ) (he : rp 1 = 0) : (-4 : Int32) = (mdropR σ 0).1 ∧ Rel (n + 1) nw c t p a b s N B T r a2 b2 rp M rq M2 Y zf x xl (mdropR σ 0).2 := by
  unfold mdropR
  rw [m3_0, if_pos (road_0 h.rc he)]
  exact ⟨rfl, h.up⟩
theorem rel_drop1E (h : Rel n nw c t p a b s N B T r a2 b2 rp M rq M2 Y zf x xl σ) (he : rq 1 = 0) : (-4 : Int32) = (mdropR σ 1).1 ∧ Rel (n + 1) nw c t p a b s N B T r a2 b2 rp M rq M2 Y zf x xl (mdropR σ 1).2 := by
  unfold mdropR
  rw [m3_1, if_pos (road_0 h.rs he)]
  exact ⟨rfl, h.up⟩
theorem rel_drop0N (h : Rel n nw c t p a b s N B T r a2 b2 rp M rq M2 Y zf x xl σ) (he : ¬ rp 1 = 0) : rp 1 - 1 = (mdropR σ 0).1 ∧ Rel (n + 1) nw c t p a b s N B T r a2 b2 (upd rp 1 (rp 1 - 1)) (krot M) rq M2 Y zf x xl (mdropR σ 0).2 := by
  unfold mdropR
  rw [m3_0, if_neg (road_n h.rc he), road_len h.rc]
  obtain ⟨L, h1, h2, h3, -⟩ := road_1 h.rc he
  exact ⟨rfl, ⟨h.now.up, h.cli, h.p, h.srv.up, h.r, road_drop h.rc h3 h1 h2, road_drop_other (by decide) h.rs, h.cop, h.txt, h.gone⟩⟩
theorem rel_drop1N (h : Rel n nw c t p a b s N B T r a2 b2 rp M rq M2 Y zf x xl σ) (he : ¬ rq 1 = 0) : rq 1 - 1 = (mdropR σ 1).1 ∧ Rel (n + 1) nw c t p a b s N B T r a2 b2 rp M (upd rq 1 (rq 1 - 1)) (krot M2) Y zf x xl (mdropR σ 1).2 := by
  unfold mdropR
  rw [m3_1, if_neg (road_n h.rs he), road_len h.rs]
  obtain ⟨L, h1, h2, h3, -⟩ := road_1 h.rs he
  exact ⟨rfl, ⟨h.now.up, h.cli, h.p, h.srv.up, h.r, road_drop_other (by decide) h.rc, road_drop h.rs h3 h1 h2, h.cop, h.txt, h.gone⟩⟩
/-- alter -/
theorem kin9_eq (i : Int32) : kin9 i = kinL i.toInt64 0 8 := by
  rw [kinC 0 8]
  rfl
theorem kin5_eq (i : Int32) : kin5 i = kinL i.toInt64 0 4 := by
  rw [kinC 0 4]
  rfl
theorem kplc_eq (i : Int32) : kplc i = kinL i.toInt64 0 3 := by
  rw [kinC 0 3]
  unfold kplc
  by_cases h : i < 0
  · rw [if_pos h, if_pos h]
  · rw [if_neg h, if_neg h]
    by_cases h4 : 3 < i
    · rw [if_pos h4, if_pos]
      have := Int32.lt_iff_toInt_lt.mp h4
      apply Int32.le_iff_toInt_le.mpr
      have e3 : (3 : Int32).toInt = 3 := by decide
      have e4 : (4 : Int32).toInt = 4 := by decide
      omega
    · rw [if_neg h4, if_neg]
      intro z
      apply h4
      have := Int32.le_iff_toInt_le.mp z
      apply Int32.lt_iff_toInt_lt.mpr
      have e3 : (3 : Int32).toInt = 3 := by decide
      have e4 : (4 : Int32).toInt = 4 := by decide
      omega
theorem kin9_nI {k : Nat} (hk : k < 9) : ¬ kinL (nI k).toInt64 0 8 = 0 := by
  have : ∀ k, k < 9 → ¬ kinL (nI k).toInt64 0 8 = 0 := by decide +kernel
  exact this k hk
theorem rel_alter0X (h : Rel n nw c t p a b s N B T r a2 b2 rp M rq M2 Y zf x xl σ) {i v : Int32} (hi : kin9 i = 0) : (-3 : Int32) = (malter σ 0 i v).1 ∧ Rel (n + 1) nw c t p a b s N B T r a2 b2 rp M rq M2 Y zf x xl (malter σ 0 i v).2 := by
  unfold malter
  rw [m3_0, if_pos (by rw [← kin9_eq]; exact hi)]
  exact ⟨rfl, h.up⟩
theorem rel_alter1X (h : Rel n nw c t p a b s N B T r a2 b2 rp M rq M2 Y zf x xl σ) {i v : Int32} (hi : kin9 i = 0) : (-3 : Int32) = (malter σ 1 i v).1 ∧ Rel (n + 1) nw c t p a b s N B T r a2 b2 rp M rq M2 Y zf x xl (malter σ 1 i v).2 := by
  unfold malter
  rw [m3_1, if_pos (by rw [← kin9_eq]; exact hi)]
  exact ⟨rfl, h.up⟩
theorem rel_alter0E (h : Rel n nw c t p a b s N B T r a2 b2 rp M rq M2 Y zf x xl σ) {k : Nat} {v : Int32} (hk : k < 9) (he : rp 1 = 0) : (-4 : Int32) = (malter σ 0 (nI k) v).1 ∧ Rel (n + 1) nw c t p a b s N B T r a2 b2 rp M rq M2 Y zf x xl (malter σ 0 (nI k) v).2 := by
  unfold malter
  rw [m3_0, if_neg (kin9_nI hk), if_pos (road_0 h.rc he)]
  exact ⟨rfl, h.up⟩
theorem rel_alter1E (h : Rel n nw c t p a b s N B T r a2 b2 rp M rq M2 Y zf x xl σ) {k : Nat} {v : Int32} (hk : k < 9) (he : rq 1 = 0) : (-4 : Int32) = (malter σ 1 (nI k) v).1 ∧ Rel (n + 1) nw c t p a b s N B T r a2 b2 rp M rq M2 Y zf x xl (malter σ 1 (nI k) v).2 := by
  unfold malter
  rw [m3_1, if_neg (kin9_nI hk), if_pos (road_0 h.rs he)]
  exact ⟨rfl, h.up⟩
theorem road_alter {sd : Nat} {m w : kF} (h : RRoad sd rp M m w) {k : Nat} (hk : k < 9) (v : Int32) : RRoad sd rp (va_up M 0 (upd (M 0) k v)) m (upd w (72 * sd + k) v) := by
  obtain ⟨L, h1, h2, h3, h4⟩ := h
  refine ⟨L, h1, h2, h3, fun i hi j hj => ?_⟩
  simp only [upd, va_up]
  by_cases z : i = 0
  · subst z
    by_cases y : j = k
    · subst y
      rw [if_pos (by omega), if_pos rfl, pk_us]
    · rw [if_neg (by omega), if_pos rfl, pk_un y]
      exact h4 0 hi j hj
  · rw [if_neg (by omega), if_neg z]
    exact h4 i hi j hj
theorem road_alter_other {sd sd' : Nat} (hd : sd ≠ sd') {m w : kF} (h : RRoad sd' rp M m w) {k : Nat} (hk : k < 9) (v : Int32) : RRoad sd' rp M m (upd w (72 * sd + k) v) := by
  obtain ⟨L, h1, h2, h3, h4⟩ := h
  refine ⟨L, h1, h2, h3, fun i hi j hj => ?_⟩
  rw [pk_un]
  · exact h4 i hi j hj
  · intro q
    rcases Nat.lt_or_gt_of_ne hd with z | z
    · have : 72 * sd + 72 ≤ 72 * sd' := by omega
      omega
    · have : 72 * sd' + 72 ≤ 72 * sd := by omega
      omega
theorem rel_alter0K (h : Rel n nw c t p a b s N B T r a2 b2 rp M rq M2 Y zf x xl σ) {k : Nat} {v : Int32} (hk : k < 9) (he : ¬ rp 1 = 0) : M 0 k = (malter σ 0 (nI k) v).1 ∧ Rel (n + 1) nw c t p a b s N B T r a2 b2 rp (va_up M 0 (upd (M 0) k v)) rq M2 Y zf x xl (malter σ 0 (nI k) v).2 := by
  unfold malter
  rw [m3_0, if_neg (kin9_nI hk), if_neg (road_n h.rc he), nI_clamp (by omega)]
  exact ⟨(road_first h.rc he hk).symm, ⟨h.now.up, h.cli, h.p, h.srv.up, h.r, road_alter h.rc hk v, road_alter_other (sd := 0) (by decide) h.rs hk v, h.cop, h.txt, h.gone⟩⟩
theorem rel_alter1K (h : Rel n nw c t p a b s N B T r a2 b2 rp M rq M2 Y zf x xl σ) {k : Nat} {v : Int32} (hk : k < 9) (he : ¬ rq 1 = 0) : M2 0 k = (malter σ 1 (nI k) v).1 ∧ Rel (n + 1) nw c t p a b s N B T r a2 b2 rp M rq (va_up M2 0 (upd (M2 0) k v)) Y zf x xl (malter σ 1 (nI k) v).2 := by
  unfold malter
  rw [m3_1, if_neg (kin9_nI hk), if_neg (road_n h.rs he), nI_clamp (by omega)]
  exact ⟨(road_first h.rs he hk).symm, ⟨h.now.up, h.cli, h.p, h.srv.up, h.r, road_alter_other (sd := 1) (by decide) h.rc hk v, road_alter h.rs hk v, h.cop, h.txt, h.gone⟩⟩
/-- copy, inject: the place is refused -/
theorem rel_copyP (h : Rel n nw c t p a b s N B T r a2 b2 rp M rq M2 Y zf x xl σ) {sd v : Int32} (hd : sd = 0 ∨ sd = 1) (hi : kplc v = 0) : (-2 : Int32) = (mcopy σ sd v).1 ∧ Rel (n + 1) nw c t p a b s N B T r a2 b2 rp M rq M2 Y zf x xl (mcopy σ sd v).2 := by
  unfold mcopy
  rcases hd with rfl | rfl
  · rw [m3_0, if_pos (by rw [← kplc_eq]; exact hi)]
    exact ⟨rfl, h.up⟩
  · rw [m3_1, if_pos (by rw [← kplc_eq]; exact hi)]
    exact ⟨rfl, h.up⟩
theorem rel_injectP (h : Rel n nw c t p a b s N B T r a2 b2 rp M rq M2 Y zf x xl σ) {sd v : Int32} {Mn : Nat → Nat} (hd : sd = 0 ∨ sd = 1) (hi : kplc v = 0) : (-2 : Int32) = (minject σ sd v Mn).1 ∧ Rel (n + 1) nw c t p a b s N B T r a2 b2 rp M rq M2 Y zf x xl (minject σ sd v Mn).2 := by
  unfold minject
  rcases hd with rfl | rfl
  · rw [m3_0, if_pos (by rw [← kplc_eq]; exact hi)]
    exact ⟨rfl, h.up⟩
  · rw [m3_1, if_pos (by rw [← kplc_eq]; exact hi)]
    exact ⟨rfl, h.up⟩
theorem kplc_nI {k : Nat} (hk : k < 4) : ¬ kinL (nI k).toInt64 0 3 = 0 := by
  have : ∀ k, k < 4 → ¬ kinL (nI k).toInt64 0 3 = 0 := by decide +kernel
  exact this k hk
theorem rel_copy0E (h : Rel n nw c t p a b s N B T r a2 b2 rp M rq M2 Y zf x xl σ) {v : Int32} (hi : kplc v = 1) (he : rp 1 = 0) : (-4 : Int32) = (mcopy σ 0 v).1 ∧ Rel (n + 1) nw c t p a b s N B T r a2 b2 rp M rq M2 Y zf x xl (mcopy σ 0 v).2 := by
  unfold mcopy
  rw [m3_0, if_neg (by rw [← kplc_eq, hi]; decide), if_pos (road_0 h.rc he)]
  exact ⟨rfl, h.up⟩
theorem rel_copy1E (h : Rel n nw c t p a b s N B T r a2 b2 rp M rq M2 Y zf x xl σ) {v : Int32} (hi : kplc v = 1) (he : rq 1 = 0) : (-4 : Int32) = (mcopy σ 1 v).1 ∧ Rel (n + 1) nw c t p a b s N B T r a2 b2 rp M rq M2 Y zf x xl (mcopy σ 1 v).2 := by
  unfold mcopy
  rw [m3_1, if_neg (by rw [← kplc_eq, hi]; decide), if_pos (road_0 h.rs he)]
  exact ⟨rfl, h.up⟩
theorem cop_copy (h : RCop Y zf σ) {sd P : Nat} (hP : P < 4) {f : kF} (hf : ∀ j, j < 9 → σ 27 (72 * sd + j) = f j) : RCop (va_up Y P (kcpy (Y P) f 9)) (upd zf P 1) (su (mcopyF σ sd P) 42 P 1) := by
  refine ⟨fun Q hQ j hj => ?_, ?_⟩
  · show mcpy (σ 28) (fun k => σ 27 (72 * sd + k)) (9 * P) 9 (9 * Q + j) = _
    rw [mcpy_at]
    simp only [va_up]
    by_cases z : Q = P
    · subst z
      rw [if_pos (by omega), if_pos rfl, kcpy_at, if_pos hj, show 9 * Q + j - 9 * Q = j by omega]
      exact hf j hj
    · rw [if_neg (by omega), if_neg z]
      exact h.1 Q hQ j hj
  · show upd (σ 42) P 1 = _
    rw [h.2]
theorem rel_copy0K (h : Rel n nw c t p a b s N B T r a2 b2 rp M rq M2 Y zf x xl σ) {P : Nat} (hP : P < 4) (he : ¬ rp 1 = 0) : kcpy (Y P) (M 0) 9 0 = (mcopy σ 0 (nI P)).1 ∧ Rel (n + 1) nw c t p a b s N B T r a2 b2 rp M rq M2 (va_up Y P (kcpy (Y P) (M 0) 9)) (upd zf P 1) x xl (mcopy σ 0 (nI P)).2 := by
  unfold mcopy
  rw [m3_0, if_neg (kplc_nI hP), if_neg (road_n h.rc he), nI_clamp (by omega)]
  refine ⟨?_, ⟨h.now.up, h.cli, h.p, h.srv.up, h.r, h.rc, h.rs, cop_copy (sd := 0) h.cop hP (fun j hj => road_first h.rc he hj), h.txt, h.gone⟩⟩
  rw [kcpy_at, if_pos (by decide)]
  exact (road_first h.rc he (j := 0) (by decide)).symm
theorem rel_copy1K (h : Rel n nw c t p a b s N B T r a2 b2 rp M rq M2 Y zf x xl σ) {P : Nat} (hP : P < 4) (he : ¬ rq 1 = 0) : kcpy (Y P) (M2 0) 9 0 = (mcopy σ 1 (nI P)).1 ∧ Rel (n + 1) nw c t p a b s N B T r a2 b2 rp M rq M2 (va_up Y P (kcpy (Y P) (M2 0) 9)) (upd zf P 1) x xl (mcopy σ 1 (nI P)).2 := by
  unfold mcopy
  rw [m3_1, if_neg (kplc_nI hP), if_neg (road_n h.rs he), nI_clamp (by omega)]
  refine ⟨?_, ⟨h.now.up, h.cli, h.p, h.srv.up, h.r, h.rc, h.rs, cop_copy (sd := 1) h.cop hP (fun j hj => road_first h.rs he hj), h.txt, h.gone⟩⟩
  rw [kcpy_at, if_pos (by decide)]
  exact (road_first h.rs he (j := 0) (by decide)).symm
/-- behind a sending: what it leaves alone -/
theorem now_send {to L : Nat} (h : RNow n nw σ) : RNow n nw (msend σ to L) := by
  unfold RNow
  rw [msend_rw (r := 14) (by decide) (by decide) (by decide)]
  exact h
theorem cli_send {to L : Nat} (h : RCli c t σ) : RCli c t (msend σ to L) := by
  unfold RCli
  simp only [msend_rw (r := 12) (by decide) (by decide) (by decide), msend_rw (r := 13) (by decide) (by decide) (by decide), msend_rw (r := 15) (by decide) (by decide) (by decide), msend_rw (r := 16) (by decide) (by decide) (by decide), msend_rw (r := 17) (by decide) (by decide) (by decide), msend_rw (r := 18) (by decide) (by decide) (by decide), msend_rw (r := 19) (by decide) (by decide) (by decide)]
  exact h
theorem peer_send {sd to L : Nat} (h : RPeer sd p a b σ) : RPeer sd p a b (msend σ to L) := by
  unfold RPeer
  simp only [msend_rw (r := 0) (by decide) (by decide) (by decide), msend_rw (r := 1) (by decide) (by decide) (by decide), msend_rw (r := 2) (by decide) (by decide) (by decide), msend_rw (r := 3) (by decide) (by decide) (by decide), msend_rw (r := 4) (by decide) (by decide) (by decide), msend_rw (r := 5) (by decide) (by decide) (by decide), msend_rw (r := 6) (by decide) (by decide) (by decide), msend_rw (r := 7) (by decide) (by decide) (by decide), msend_rw (r := 8) (by decide) (by decide) (by decide), msend_rw (r := 9) (by decide) (by decide) (by decide), msend_rw (r := 10) (by decide) (by decide) (by decide), msend_rw (r := 11) (by decide) (by decide) (by decide), msend_rw (r := 33) (by decide) (by decide) (by decide), msend_rw (r := 34) (by decide) (by decide) (by decide)]
  exact h
theorem srv_send {to L : Nat} (h : RSrv n nw s N B T σ) : RSrv n nw s N B T (msend σ to L) := by
  unfold RSrv
  simp only [msend_rw (r := 20) (by decide) (by decide) (by decide), msend_rw (r := 21) (by decide) (by decide) (by decide), msend_rw (r := 22) (by decide) (by decide) (by decide), msend_rw (r := 23) (by decide) (by decide) (by decide), msend_rw (r := 24) (by decide) (by decide) (by decide), msend_rw (r := 25) (by decide) (by decide) (by decide), msend_rw (r := 31) (by decide) (by decide) (by decide), msend_rw (r := 32) (by decide) (by decide) (by decide)]
  exact h
theorem txt_send {to L : Nat} (h : RTxt x xl σ) : RTxt x xl (msend σ to L) := by
  unfold RTxt
  simp only [msend_rw (r := 35) (by decide) (by decide) (by decide), msend_rw (r := 36) (by decide) (by decide) (by decide)]
  exact h
theorem cop_send {to L : Nat} (h : RCop Y zf σ) : RCop Y zf (msend σ to L) := by
  unfold RCop
  simp only [msend_rw (r := 28) (by decide) (by decide) (by decide), msend_rw (r := 42) (by decide) (by decide) (by decide)]
  exact h
/-- a message goes to a side: the class's and the reference's -/
theorem rel_send0 (h : Rel n nw c t p a b s N B T r a2 b2 rp M rq M2 Y zf x xl σ) {L : Nat} {g : kF} (hL : rp 1 = nI L) (hL8 : L ≤ 8) (hg : E9 g (σ 29)) : Rel n nw c t p a b s N B T r a2 b2 (ksendP L rp) (ksendM L M g) rq M2 Y zf x xl (msend σ 0 L) :=
  ⟨now_send h.now, cli_send h.cli, peer_send h.p, srv_send h.srv, peer_send h.r, road_send h.rc hL hL8 hg, road_send_other (by decide) h.rs hL8, cop_send h.cop, txt_send h.txt, gone_send hL8 h.gone⟩
theorem rel_send1 (h : Rel n nw c t p a b s N B T r a2 b2 rp M rq M2 Y zf x xl σ) {L : Nat} {g : kF} (hL : rq 1 = nI L) (hL8 : L ≤ 8) (hg : E9 g (σ 29)) : Rel n nw c t p a b s N B T r a2 b2 rp M (ksendP L rq) (ksendM L M2 g) Y zf x xl (msend σ 1 L) :=
  ⟨now_send h.now, cli_send h.cli, peer_send h.p, srv_send h.srv, peer_send h.r, road_send_other (by decide) h.rc hL8, road_send h.rs hL hL8 hg, cop_send h.cop, txt_send h.txt, by
    have z := gone_send (rp := rq) (x := rp 2) hL8 (σ := σ) (sd := 1) (by rw [h.gone, Int32.add_comm])
    rw [z, Int32.add_comm]⟩
/-- the message's row is nobody's -/
theorem rel_29 (h : Rel n nw c t p a b s N B T r a2 b2 rp M rq M2 Y zf x xl σ) (f : kF) : Rel n nw c t p a b s N B T r a2 b2 rp M rq M2 Y zf x xl (va_up σ 29 f) := ⟨h.now, h.cli, h.p, h.srv, h.r, h.rc, h.rs, h.cop, h.txt, h.gone⟩
theorem rel_inject0 (h : Rel n nw c t p a b s N B T r a2 b2 rp M rq M2 Y zf x xl σ) {P L : Nat} {Mn : Nat → Nat} (hP : P < 4) (hL : rp 1 = nI L) (hL8 : L ≤ 8) (hM : Mn 0 = L) : (kinjR L rp M (zf P) (Y P)).1 = (minject σ 0 (nI P) Mn).1 ∧ Rel (n + 1) nw c t p a b s N B T r a2 b2 (kinjR L rp M (zf P) (Y P)).2.1 (kinjR L rp M (zf P) (Y P)).2.2 rq M2 Y zf x xl (minject σ 0 (nI P) Mn).2 := by
  unfold minject kinjR
  rw [m3_0, if_neg (kplc_nI hP), nI_clamp (by omega), h.cop.2]
  by_cases z : zf P = 0
  · rw [if_pos z, if_pos z]
    exact ⟨rfl, h.up⟩
  · rw [if_neg z, if_neg z]
    have e0 : σ 26 0 = nI L := (road_len h.rc).trans hL
    rw [e0, hL, hM]
    by_cases z8 : L = 8
    · subst z8
      rw [if_neg (show ¬ nI 8 < (8 : Int32) from by decide), if_pos (show nI 8 = (8 : Int32) from rfl)]
      exact ⟨rfl, h.up⟩
    · rw [if_pos (show nI L < (8 : Int32) from (nI_ltI (a := L) (b := 8) (by omega) (by omega)).mpr (by omega)), if_neg (show ¬ nI L = (8 : Int32) from fun q => z8 ((nI_eq (a := L) (b := 8) (by omega) (by omega)).mp q))]
      have hs := rel_send0 (rel_29 h.up (kcpy (σ 29) (fun k => σ 28 (9 * P + k)) 9)) (L := L) (g := Y P) hL hL8 (fun i hi => by
        show _ = kcpy (σ 29) (fun k => σ 28 (9 * P + k)) 9 i
        rw [kcpy_at, if_pos hi]
        exact (h.cop.1 P hP i hi).symm)
      exact ⟨(road_len hs.rc).symm, hs⟩
theorem rel_inject1 (h : Rel n nw c t p a b s N B T r a2 b2 rp M rq M2 Y zf x xl σ) {P L : Nat} {Mn : Nat → Nat} (hP : P < 4) (hL : rq 1 = nI L) (hL8 : L ≤ 8) (hM : Mn 1 = L) : (kinjR L rq M2 (zf P) (Y P)).1 = (minject σ 1 (nI P) Mn).1 ∧ Rel (n + 1) nw c t p a b s N B T r a2 b2 rp M (kinjR L rq M2 (zf P) (Y P)).2.1 (kinjR L rq M2 (zf P) (Y P)).2.2 Y zf x xl (minject σ 1 (nI P) Mn).2 := by
  unfold minject kinjR
  rw [m3_1, if_neg (kplc_nI hP), nI_clamp (by omega), h.cop.2]
  by_cases z : zf P = 0
  · rw [if_pos z, if_pos z]
    exact ⟨rfl, h.up⟩
  · rw [if_neg z, if_neg z]
    have e0 : σ 26 1 = nI L := (road_len h.rs).trans hL
    rw [e0, hL, hM]
    by_cases z8 : L = 8
    · subst z8
      rw [if_neg (show ¬ nI 8 < (8 : Int32) from by decide), if_pos (show nI 8 = (8 : Int32) from rfl)]
      exact ⟨rfl, h.up⟩
    · rw [if_pos (show nI L < (8 : Int32) from (nI_ltI (a := L) (b := 8) (by omega) (by omega)).mpr (by omega)), if_neg (show ¬ nI L = (8 : Int32) from fun q => z8 ((nI_eq (a := L) (b := 8) (by omega) (by omega)).mp q))]
      have hs := rel_send1 (rel_29 h.up (kcpy (σ 29) (fun k => σ 28 (9 * P + k)) 9)) (L := L) (g := Y P) hL hL8 (fun i hi => by
        show _ = kcpy (σ 29) (fun k => σ 28 (9 * P + k)) 9 i
        rw [kcpy_at, if_pos hi]
        exact (h.cop.1 P hP i hi).symm)
      exact ⟨(road_len hs.rs).symm, hs⟩
end
