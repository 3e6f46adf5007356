/-! the class's state and the reference's, side by side: the parts, and what keeps them -/
theorem kcpy_at (f g : kF) : ∀ n i, kcpy f g n i = if i < n then g i else f i := by
  intro n
  induction n with
  | zero => intro i; simp [kcpy]
  | succ n ih =>
    intro i
    simp only [kcpy, upd, ih]
    by_cases h : i = n
    · subst h; simp
    · by_cases h2 : i < n
      · simp [h, h2, Nat.lt_succ_of_lt h2]
      · simp [h, h2, show ¬ i < n + 1 by omega]
theorem mcpy_at (f g : kF) (b : Nat) : ∀ n x, mcpy f g b n x = if b ≤ x ∧ x < b + n then g (x - b) else f x := by
  intro n
  induction n with
  | zero => intro x; rw [if_neg (by omega)]; rfl
  | succ n ih =>
    intro x
    simp only [mcpy, upd, ih]
    by_cases h : x = b + n
    · subst h; simp
    · by_cases h2 : b ≤ x ∧ x < b + n
      · rw [if_neg h, if_pos h2, if_pos (by omega)]
      · rw [if_neg h, if_neg h2, if_neg (by omega)]
theorem mshf_at (f : kF) (b : Nat) : ∀ n x, mshf f b n x = if b ≤ x ∧ x < b + n then f (x + 9) else f x := by
  intro n
  induction n with
  | zero => intro x; rw [if_neg (by omega)]; rfl
  | succ n ih =>
    intro x
    simp only [mshf, upd, ih]
    by_cases h : x = b + n
    · subst h
      simp
      intro h9
      omega
    · by_cases h2 : b ≤ x ∧ x < b + n
      · rw [if_neg h, if_pos h2, if_pos (by omega)]
      · rw [if_neg h, if_neg h2, if_neg (by omega)]
theorem kclr_at (f : kF) : ∀ n i, kclr f n i = if i < n then 0 else f i := by
  intro n
  induction n with
  | zero => intro i; simp [kclr]
  | succ n ih =>
    intro i
    simp only [kclr, upd, ih]
    by_cases h : i = n
    · subst h; simp
    · by_cases h2 : i < n
      · simp [h, h2, Nat.lt_succ_of_lt h2]
      · simp [h, h2, show ¬ i < n + 1 by omega]
theorem kmixN_eq {f g : kF} {h : Int32} : ∀ n, (∀ i, i < n → f i = g i) → kmixN f h n = kmixN g h n := by
  intro n
  induction n with
  | zero => intro _; rfl
  | succ n ih =>
    intro e
    simp only [kmixN, ih (fun i hi => e i (by omega)), e n (by omega)]
/-- nine numbers -/
def E9 (f g : kF) : Prop := ∀ i, i < 9 → f i = g i
theorem E9.beg {f g : kF} (k : Int32) : E9 (kbeg f k) (kbeg g k) := by
  intro i hi
  simp only [kbeg, upd, kclr_at, hi, ↓reduceIte]
theorem E9.put {f g : kF} (h : E9 f g) (j : Nat) (v : Int32) : E9 (upd f j v) (upd g j v) := by
  intro i hi
  simp only [upd, h i hi]
theorem E9.mix {f g : kF} (h : E9 f g) (x : Int32) {n : Nat} (hn : n ≤ 9) : kmixN f x n = kmixN g x n := kmixN_eq n (fun i hi => h i (by omega))
theorem E9.bind {f g : kF} (h : E9 f g) (v d : Int32) : kbind v d f = kbind v d g := h.mix _ (by omega)
/-- a road -/
def RRoad (sd : Nat) (rp : kF) (M : kFF) (m w : kF) : Prop := ∃ L, L ≤ 8 ∧ rp 1 = nI L ∧ m sd = nI L ∧ ∀ i, i < L → ∀ j, j < 9 → w (72 * sd + 9 * i + j) = M i j
theorem msend_rw {σ : kS} {sd L r : Nat} (h6 : r ≠ 26) (h7 : r ≠ 27) (h0 : r ≠ 30) : msend σ sd L r = σ r := by
  unfold msend
  split
  · unfold su va_up
    rw [if_neg h0]
  · unfold su va_up
    rw [if_neg h6, if_neg h7]
theorem msend_full {σ : kS} {sd : Nat} : msend σ sd 8 26 = σ 26 ∧ msend σ sd 8 27 = σ 27 ∧ msend σ sd 8 30 0 = σ 30 0 + 1 := ⟨rfl, rfl, rfl⟩
theorem msend_26 {σ : kS} {sd L : Nat} (h : L < 8) : msend σ sd L 26 = upd (σ 26) sd (σ 26 sd + 1) := by
  unfold msend
  rw [if_neg (by omega)]
  rfl
theorem msend_27 {σ : kS} {sd L : Nat} (h : L < 8) : msend σ sd L 27 = mcpy (σ 27) (σ 29) (72 * sd + 9 * L) 9 := by
  unfold msend
  rw [if_neg (by omega)]
  rfl
theorem msend_30 {σ : kS} {sd L : Nat} (h : L < 8) : msend σ sd L 30 = σ 30 := by
  unfold msend
  rw [if_neg (by omega)]
  rfl
theorem road_send {σ : kS} {sd L : Nat} {rp g : kF} {M : kFF} (hR : RRoad sd rp M (σ 26) (σ 27)) (hL : rp 1 = nI L) (hL8 : L ≤ 8) (hg : E9 g (σ 29)) : RRoad sd (ksendP L rp) (ksendM L M g) (msend σ sd L 26) (msend σ sd L 27) := by
  obtain ⟨L', h1, h2, h3, h4⟩ := hR
  have e : L' = L := (nI_eq (by omega) (by omega)).mp (h2.symm.trans hL)
  subst e
  by_cases h8 : 8 ≤ L'
  · have e8 : L' = 8 := by omega
    subst e8
    exact ⟨8, Nat.le_refl 8, h2, h3, h4⟩
  · rw [msend_26 (by omega), msend_27 (by omega)]
    refine ⟨L' + 1, by omega, ?_, ?_, ?_⟩
    · simp only [ksendP, h8, ↓reduceIte]
      show rp 1 + 1 = _
      rw [h2, nI_1]
    · rw [pk_us, h3, nI_1]
    · intro i hi j hj
      rw [mcpy_at]
      simp only [ksendM, h8, ↓reduceIte, va_up]
      by_cases hiL : i = L'
      · subst hiL
        rw [if_pos (by omega), if_pos rfl, kcpy_at, if_pos hj]
        rw [show 72 * sd + 9 * i + j - (72 * sd + 9 * i) = j by omega]
        exact (hg j hj).symm
      · rw [if_neg (by omega), if_neg hiL]
        exact h4 i (by omega) j hj
theorem road_send_other {σ : kS} {sd sd' L : Nat} {rp : kF} {M : kFF} (hd : sd ≠ sd') (hR : RRoad sd' rp M (σ 26) (σ 27)) (hL8 : L ≤ 8) : RRoad sd' rp M (msend σ sd L 26) (msend σ sd L 27) := by
  by_cases h8 : L = 8
  · subst h8; exact hR
  · obtain ⟨L', h1, h2, h3, h4⟩ := hR
    rw [msend_26 (by omega), msend_27 (by omega)]
    refine ⟨L', h1, h2, by rw [pk_un (Ne.symm hd)]; exact h3, fun i hi j hj => ?_⟩
    rw [mcpy_at, if_neg]
    · exact h4 i hi j hj
    · intro q
      rcases Nat.lt_or_gt_of_ne hd with z | z
      · have : 72 * sd + 72 ≤ 72 * sd' := by omega
        omega
      · have : 72 * sd' + 72 ≤ 72 * sd := by omega
        omega
/-- what the roads lost -/
theorem gone_send {σ : kS} {sd L : Nat} {rp : kF} (hL8 : L ≤ 8) {x : Int32} (h : σ 30 0 = rp 2 + x) : msend σ sd L 30 0 = ksendP L rp 2 + x := by
  by_cases h8 : L = 8
  · subst h8
    show σ 30 0 + 1 = rp 2 + 1 + x
    rw [h, Int32.add_assoc, Int32.add_assoc, Int32.add_comm x 1]
  · rw [msend_30 (by omega), h]
    simp only [ksendP, show ¬ 8 ≤ L by omega, ↓reduceIte]
    rfl
theorem road_drop {σ : kS} {sd L : Nat} {rp : kF} {M : kFF} (hR : RRoad sd rp M (σ 26) (σ 27)) (hL : rp 1 = nI L) (hL1 : 1 ≤ L) (hL8 : L ≤ 8) : RRoad sd (upd rp 1 (rp 1 - 1)) (krot M) (mdrop σ sd 26) (mdrop σ sd 27) := by
  obtain ⟨L', h1, h2, h3, h4⟩ := hR
  have e : L' = L := (nI_eq (by omega) (by omega)).mp (h2.symm.trans hL)
  subst e
  have e1 : nI L' - 1 = nI (L' - 1) := by rw [show (1 : Int32) = nI 1 from rfl, pk_sub hL1]
  refine ⟨L' - 1, by omega, ?_, ?_, ?_⟩
  · rw [pk_us, h2, e1]
  · show upd (σ 26) sd (σ 26 sd - 1) sd = _
    rw [pk_us, h3, e1]
  · intro i hi j hj
    show mshf (σ 27) (72 * sd) 63 _ = _
    rw [mshf_at, if_pos (by omega)]
    have := h4 (i + 1) (by omega) j hj
    rw [show 72 * sd + 9 * i + j + 9 = 72 * sd + 9 * (i + 1) + j by omega, this]
    simp only [krot, show ¬ i = 7 by omega, ↓reduceIte]
theorem road_drop_other {σ : kS} {sd sd' : Nat} {rp : kF} {M : kFF} (hd : sd ≠ sd') (hR : RRoad sd' rp M (σ 26) (σ 27)) : RRoad sd' rp M (mdrop σ sd 26) (mdrop σ sd 27) := by
  obtain ⟨L', h1, h2, h3, h4⟩ := hR
  refine ⟨L', h1, h2, ?_, fun i hi j hj => ?_⟩
  · show upd (σ 26) sd (σ 26 sd - 1) sd' = _
    rw [pk_un (Ne.symm hd)]
    exact h3
  · show mshf (σ 27) (72 * sd) 63 _ = _
    rw [mshf_at, if_neg]
    · exact h4 i hi j hj
    · intro q
      rcases Nat.lt_or_gt_of_ne hd with z | z
      · have : 72 * sd + 72 ≤ 72 * sd' := by omega
        omega
      · have : 72 * sd' + 72 ≤ 72 * sd := by omega
        omega
theorem road_fetch {σ : kS} {sd L : Nat} {rp z : kF} {M : kFF} (hR : RRoad sd rp M (σ 26) (σ 27)) (hL : rp 1 = nI L) (hL1 : 1 ≤ L) (hL8 : L ≤ 8) : E9 (kcpy z (M 0) 9) (mfetch σ sd 29) := by
  obtain ⟨L', h1, h2, h3, h4⟩ := hR
  have e : L' = L := (nI_eq (by omega) (by omega)).mp (h2.symm.trans hL)
  subst e
  intro i hi
  show _ = kcpy (σ 29) (fun k => σ 27 (72 * sd + k)) 9 i
  rw [kcpy_at, kcpy_at, if_pos hi, if_pos hi]
  exact (h4 0 (by omega) i hi).symm
/-- a side -/
def RPeer (sd : Nat) (p a b : kF) (σ : kS) : Prop :=
  (σ 0 sd = p 0 ∧ σ 1 sd = p 1 ∧ σ 2 sd = p 2 ∧ σ 3 sd = p 3 ∧ σ 4 sd = p 4 ∧ σ 5 sd = p 5 ∧ σ 33 sd = p 11 ∧ σ 34 sd = p 12) ∧
  (∃ v, 1 ≤ v ∧ v < 8 ∧ p 0 = nI v) ∧ (∃ g, 1 ≤ g ∧ g < 16 ∧ p 1 = nI g) ∧ (∃ S, 1 ≤ S ∧ S ≤ 999 ∧ p 2 = nI S) ∧ (a 0 = 0 ∧ b 0 = 1) ∧
  (p 3 = 4 ∨ p 3 = 3 → σ 6 sd = p 6 ∧ σ 7 sd = p 7 ∧ σ 8 sd = p 8 ∧ (p 8 = 0 ∨ p 8 = 1) ∧ σ 9 sd = p 9) ∧
  (p 3 = 4 → p 10 = kmix (p 9) (p 5) ∧ σ 10 (2 * sd) = a 1 ∧ σ 10 (2 * sd + 1) = b 1 ∧ σ 11 (2 * sd) = a 2 ∧ σ 11 (2 * sd + 1) = b 2)
def RNow (n : Nat) (nw : kF) (σ : kS) : Prop := ∃ w, w ≤ 99 * n ∧ nw 8 = nI w ∧ σ 14 0 = nI w
def RCli (c t : kF) (σ : kS) : Prop :=
  (σ 12 0 = c 3 ∧ σ 13 0 = c 4 ∧ σ 15 0 = c 2 ∧ σ 15 1 = t 0 ∧ σ 15 2 = t 1 ∧ σ 15 3 = t 2 ∧ σ 15 4 = t 3 ∧ σ 15 5 = t 4 ∧ σ 16 0 = c 6 ∧ σ 17 0 = c 7 ∧ σ 18 0 = c 8 ∧ σ 19 0 = c 5) ∧
  (c 2 = 0 ∨ c 2 = 1) ∧ (c 5 = 0 ∨ c 5 = 1) ∧ (c 7 = 0 ∨ c 7 = 1) ∧ (∃ g, g < 4 ∧ c 3 = nI g)
def RSrv (n : Nat) (nw s N B : kF) (T : kFF) (σ : kS) : Prop := ∃ K E m w, (K ≤ 3 ∧ E ≤ 4 ∧ K ≤ m ∧ m ≤ n ∧ w ≤ 99 * n) ∧ (s 2 = nI K ∧ σ 20 0 = nI K) ∧ (s 6 = nI E ∧ σ 23 0 = nI E) ∧ (s 3 = nI m ∧ σ 21 0 = nI m) ∧ nw 8 = nI w ∧
  (∀ i, i < K → ∀ j, j < 5 → σ 22 (5 * i + j) = T i j) ∧ (∀ i, i < K → T i 0 = nI (m - K + 1 + i)) ∧ (∀ i, i < K → ∃ u, u ≤ w ∧ T i 2 = nI u) ∧ (σ 24 = N ∧ σ 25 = B) ∧ σ 31 0 = s 7 ∧ σ 32 0 = s 8
def RTxt (x xl : kF) (σ : kS) : Prop := ∃ L, L ≤ 200 ∧ x 1 = nI L ∧ σ 36 0 = nI L ∧ σ 35 = xl
def RCop (Y : kFF) (zf : kF) (σ : kS) : Prop := (∀ P, P < 4 → ∀ j, j < 9 → σ 28 (9 * P + j) = Y P j) ∧ σ 42 = zf
