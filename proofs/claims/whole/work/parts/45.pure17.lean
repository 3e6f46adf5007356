/-! the reference's text -/
def mrw (σ : kS) (a b c d e : Int32) : kS := fun r => if r = 37 then upd (σ 37) 0 a else if r = 38 then upd (σ 38) 0 b else if r = 39 then upd (σ 39) 0 c else if r = 40 then upd (σ 40) 0 d else if r = 41 then upd (σ 41) 0 e else σ r
theorem mrw_id (σ : kS) : mrw σ (σ 37 0) (σ 38 0) (σ 39 0) (σ 40 0) (σ 41 0) = σ := by
  funext r
  unfold mrw
  repeat' split
  all_goals first | rfl | (subst_vars; exact upd_id _ _)
theorem mrw_37 (σ : kS) (a b c d e v : Int32) : su (mrw σ a b c d e) 37 0 v = mrw σ v b c d e := by
  funext r
  unfold su va_up
  by_cases h : r = 37
  · subst h; rw [if_pos rfl]; exact upd_upd _ _ _ _
  · rw [if_neg h]; unfold mrw; rw [if_neg h, if_neg h]
theorem mrw_38 (σ : kS) (a b c d e v : Int32) : su (mrw σ a b c d e) 38 0 v = mrw σ a v c d e := by
  funext r
  unfold su va_up
  by_cases h : r = 38
  · subst h; rw [if_pos rfl]; exact upd_upd _ _ _ _
  · rw [if_neg h]; unfold mrw; rw [if_neg h, if_neg h]
theorem mrw_39 (σ : kS) (a b c d e v : Int32) : su (mrw σ a b c d e) 39 0 v = mrw σ a b v d e := by
  funext r
  unfold su va_up
  by_cases h : r = 39
  · subst h; rw [if_pos rfl]; exact upd_upd _ _ _ _
  · rw [if_neg h]; unfold mrw; rw [if_neg h, if_neg h]
theorem mrw_40 (σ : kS) (a b c d e v : Int32) : su (mrw σ a b c d e) 40 0 v = mrw σ a b c v e := by
  funext r
  unfold su va_up
  by_cases h : r = 40
  · subst h; rw [if_pos rfl]; exact upd_upd _ _ _ _
  · rw [if_neg h]; unfold mrw; rw [if_neg h, if_neg h]
theorem mrw_41 (σ : kS) (a b c d e v : Int32) : su (mrw σ a b c d e) 41 0 v = mrw σ a b c d v := by
  funext r
  unfold su va_up
  by_cases h : r = 41
  · subst h; rw [if_pos rfl]; exact upd_upd _ _ _ _
  · rw [if_neg h]; unfold mrw; rw [if_neg h, if_neg h]
theorem mrw_mrw (σ : kS) (a b c d e a' b' c' d' e' : Int32) : mrw (mrw σ a b c d e) a' b' c' d' e' = mrw σ a' b' c' d' e' := by
  funext r
  unfold mrw
  by_cases h1 : r = 37
  · subst h1; simp [upd_upd]
  by_cases h2 : r = 38
  · subst h2; simp [upd_upd]
  by_cases h3 : r = 39
  · subst h3; simp [upd_upd]
  by_cases h4 : r = 40
  · subst h4; simp [upd_upd]
  by_cases h5 : r = 41
  · subst h5; simp [upd_upd]
  simp [h1, h2, h3, h4, h5]
def mlet (xl : kF) (L n : Nat) : Int32 := if n < L then xl n else -1
def mdc (xl : kF) (S : Nat) : Nat → Int32
  | 0 => 0
  | u + 1 => if u < 3 then 10 * mdc xl S u + xl (S + u) - 48 else mdc xl S u
def mtk (xl : kF) (L S : Nat) : Int32 := if S < L then (if ksm (xl S) = true then 1 else if kdg (xl S) = true then 2 else 3) else 0
def mvl (xl : kF) (L S : Nat) : Int32 := if mtk xl L S = 2 then mdc xl S (ktokE xl L S - S) else mlet xl L S
def mdi (xl : kF) (L S : Nat) : Int32 := if mtk xl L S = 2 then nI (ktokE xl L S - S) else 0
def mreads (σ : kS) (L E : Nat) : kS := mrw σ (nI (ktok (σ 35) L E).2) (nI (ktok (σ 35) L E).1) (mtk (σ 35) L (ktok (σ 35) L E).1) (mvl (σ 35) L (ktok (σ 35) L E).1) (mdi (σ 35) L (ktok (σ 35) L E).1)
theorem kinL_sm (v : Int32) : kinL v.toInt64 97 122 = ksmall v := @kinL_i v 97 122
theorem kinL_dg (v : Int32) : kinL v.toInt64 48 57 = kdigit v := @kinL_i v 48 57
theorem mlet_in {xl : kF} {L n : Nat} (h : n < L) : mlet xl L n = xl n := if_pos h
theorem mlet_out {xl : kF} {L n : Nat} (h : L ≤ n) : mlet xl L n = -1 := if_neg (by omega)
/-- where a scan goes on, and where it ends -/
theorem msm_go {xl : kF} {L n : Nat} (h : ¬ kinL (mlet xl L n).toInt64 97 122 = 0) : n < L ∧ ksm (xl n) = true := by
  rw [kinL_sm] at h
  by_cases q : n < L
  · rw [mlet_in q] at h
    exact ⟨q, ksm_t h⟩
  · rw [mlet_out (by omega)] at h
    exact absurd (by decide) h
theorem msm_end {xl : kF} {L n : Nat} (h : kinL (mlet xl L n).toInt64 97 122 = 0) : kscan ksm xl L n = n := by
  rw [kinL_sm] at h
  by_cases q : n < L
  · rw [mlet_in q] at h
    exact kscan_no (ksm_f h)
  · exact kscan_end (by omega)
theorem mdg_go {xl : kF} {L n : Nat} (h : ¬ kinL (mlet xl L n).toInt64 48 57 = 0) : n < L ∧ kdg (xl n) = true := by
  rw [kinL_dg] at h
  by_cases q : n < L
  · rw [mlet_in q] at h
    exact ⟨q, kdg_t h⟩
  · rw [mlet_out (by omega)] at h
    exact absurd (by decide) h
theorem mdg_end {xl : kF} {L n : Nat} (h : kinL (mlet xl L n).toInt64 48 57 = 0) : kscan kdg xl L n = n := by
  rw [kinL_dg] at h
  by_cases q : n < L
  · rw [mlet_in q] at h
    exact kscan_no (kdg_f h)
  · exact kscan_end (by omega)
theorem msp_go {xl : kF} {L n : Nat} (h : mlet xl L n = 32) : n < L ∧ ksp (xl n) = true := by
  by_cases q : n < L
  · rw [mlet_in q] at h
    exact ⟨q, ksp_t h⟩
  · rw [mlet_out (by omega)] at h
    exact absurd h (by decide)
theorem msp_end {xl : kF} {L n : Nat} (h : ¬ mlet xl L n = 32) : kscan ksp xl L n = n := by
  by_cases q : n < L
  · rw [mlet_in q] at h
    exact kscan_no (ksp_f h)
  · exact kscan_end (by omega)
theorem mtk_A {xl : kF} {L S : Nat} (h : S = L) : mtk xl L S = 0 := if_neg (by omega)
theorem mtk_s {xl : kF} {L S : Nat} (h : S < L) (hs : ksm (xl S) = true) : mtk xl L S = 1 := by
  unfold mtk
  rw [if_pos h, if_pos hs]
theorem mtk_d {xl : kF} {L S : Nat} (h : S < L) (hs : ksm (xl S) = false) (hd : kdg (xl S) = true) : mtk xl L S = 2 := by
  unfold mtk
  rw [if_pos h, hs, if_neg (by decide), if_pos hd]
theorem mtk_1 {xl : kF} {L S : Nat} (h : S < L) (hs : ksm (xl S) = false) (hd : kdg (xl S) = false) : mtk xl L S = 3 := by
  unfold mtk
  rw [if_pos h, hs, hd, if_neg (by decide), if_neg (by decide)]
theorem mdc_s {xl : kF} {S k : Nat} (h : S ≤ k) (hd : k - S < 3) : mdc xl S (k + 1 - S) = 10 * mdc xl S (k - S) + xl k - 48 := by
  rw [show k + 1 - S = (k - S) + 1 by omega]
  simp only [mdc, hd, show S + (k - S) = k by omega, ↓reduceIte]
theorem mdc_n {xl : kF} {S k : Nat} (h : S ≤ k) (hd : ¬ k - S < 3) : mdc xl S (k + 1 - S) = mdc xl S (k - S) := by
  rw [show k + 1 - S = (k - S) + 1 by omega]
  simp only [mdc, hd, ↓reduceIte]
/-- what reads leaves, by the four kinds of token -/
theorem mreads_A {σ : kS} {L E S : Nat} (hS : kscan ksp (σ 35) L E = S) (h : S = L) : mrw σ (nI S) (nI S) 0 (mlet (σ 35) L S) 0 = mreads σ L E := by
  have h0 := mtk_A (xl := σ 35) h
  unfold mreads
  rw [ktok_at hS]
  simp only [mvl, mdi, h0, show ¬ ((0 : Int32) = 2) from by decide, ↓reduceIte]
  rw [ktokE_A (by omega)]
theorem mreads_s {σ : kS} {L E S k : Nat} (hS : kscan ksp (σ 35) L E = S) (h : S < L) (hs : ksm (σ 35 S) = true) (hk : kscan ksm (σ 35) L S = k) : mrw σ (nI k) (nI S) 1 (mlet (σ 35) L S) 0 = mreads σ L E := by
  have h0 := mtk_s h hs
  unfold mreads
  rw [ktok_at hS]
  simp only [mvl, mdi, h0, show ¬ ((1 : Int32) = 2) from by decide, ↓reduceIte]
  rw [ktokE_s h hs hk]
theorem mreads_d {σ : kS} {L E S k : Nat} (hS : kscan ksp (σ 35) L E = S) (h : S < L) (hs : ksm (σ 35 S) = false) (hd : kdg (σ 35 S) = true) (hk : kscan kdg (σ 35) L S = k) : mrw σ (nI k) (nI S) 2 (mdc (σ 35) S (k - S)) (nI (k - S)) = mreads σ L E := by
  have h0 := mtk_d h hs hd
  unfold mreads
  rw [ktok_at hS]
  simp only [mvl, mdi, h0, ↓reduceIte]
  rw [ktokE_d h hs hd hk]
theorem mreads_1 {σ : kS} {L E S : Nat} (hS : kscan ksp (σ 35) L E = S) (h : S < L) (hs : ksm (σ 35 S) = false) (hd : kdg (σ 35 S) = false) : mrw σ (nI (S + 1)) (nI S) 3 (mlet (σ 35) L S) 0 = mreads σ L E := by
  have h0 := mtk_1 h hs hd
  unfold mreads
  rw [ktok_at hS]
  simp only [mvl, mdi, h0, show ¬ ((3 : Int32) = 2) from by decide, ↓reduceIte]
  rw [ktokE_1 h hs hd]
theorem mback_d {σ : kS} {k j : Nat} (h : k ≤ j) (hd : j - k < 3) : mrw σ (nI j + 1) (nI k) 2 (10 * mdc (σ 35) k (j - k) + σ 35 j - 48) (nI (j - k) + 1) = mrw σ (nI (j + 1)) (nI k) 2 (mdc (σ 35) k (j + 1 - k)) (nI (j + 1 - k)) := by
  rw [mdc_s h hd, nI_1, nI_1, show j - k + 1 = j + 1 - k by omega]
theorem mback_n {σ : kS} {k j : Nat} (h : k ≤ j) (hd : ¬ j - k < 3) : mrw σ (nI j + 1) (nI k) 2 (mdc (σ 35) k (j - k)) (nI (j - k) + 1) = mrw σ (nI (j + 1)) (nI k) 2 (mdc (σ 35) k (j + 1 - k)) (nI (j + 1 - k)) := by
  rw [mdc_n h hd, nI_1, nI_1, show j - k + 1 = j + 1 - k by omega]
