/-! small sets, powers, the kinds of numbers in both worlds -/
theorem krem_nI {a d : Nat} (ha : a < 2 ^ 31) (h0 : 0 < d) (hd : d < 2 ^ 31) : krem (nI a) (nI d) = nI (a % d) := pk_rem ha h0 hd
theorem mpw_nat {B N : Nat} (hN : 2 ≤ N) (hN2 : N ≤ 97) (hB : B < N) : ∀ S, mpw (nI B) (nI N) S = nI (B ^ S % N) := by
  intro S
  induction S with
  | zero =>
    show (1 : Int32) = _
    rw [Nat.pow_zero, Nat.mod_eq_of_lt (by omega)]
    rfl
  | succ k ih =>
    have h1 : B ^ k % N < N := Nat.mod_lt _ (by omega)
    have h2 : B ^ k % N * B < 97 * 97 := Nat.mul_lt_mul_of_lt_of_le (by omega) (by omega) (by omega)
    show krem (mpw (nI B) (nI N) k * nI B) (nI N) = _
    rw [ih, pk_mul, krem_nI (by omega) (by omega) (by omega), Nat.pow_succ, Nat.mod_mul_mod]
theorem kbit : ∀ k, k < 10 → ∀ S, S < 1024 → ((nI S >>> (nI k &&& 31)) &&& 1) = nI (S / 2 ^ k % 2) := by
  intro k hk S hS
  have e : nI k &&& 31 = nI k := by
    have : ∀ k, k < 10 → nI k &&& 31 = nI k := by decide
    exact this k hk
  have s : ((nI k).toBitVec.smod 32).toNat = k := by
    have : ∀ k, k < 10 → ((nI k).toBitVec.smod 32).toNat = k := by decide
    exact this k hk
  rw [e, pk_shrN (by omega) (nI k) k s]
  exact pk_andN (Nat.lt_of_le_of_lt (Nat.div_le_self _ _) (by omega)) 1 (by decide)
theorem kpc_nat {B N S : Nat} (hN : 2 ≤ N) (hN2 : N ≤ 97) (hB : B < N) (hS : S < 1024) : ∀ k, k ≤ 10 → kpc (nI B) (nI S) (nI N) k = (nI (B ^ (S % 2 ^ k) % N), nI (B ^ (2 ^ k) % N)) := by
  intro k
  induction k with
  | zero =>
    intro _
    show ((1 : Int32), krem (nI B) (nI N)) = _
    rw [krem_nI (by omega) (by omega) (by omega), Nat.pow_zero, Nat.mod_one, Nat.pow_zero, Nat.mod_eq_of_lt (show 1 < N by omega), Nat.pow_one]
    rfl
  | succ k ih =>
    intro hk
    have h1 : B ^ (S % 2 ^ k) % N < N := Nat.mod_lt _ (by omega)
    have h2 : B ^ (2 ^ k) % N < N := Nat.mod_lt _ (by omega)
    have m1 : B ^ (S % 2 ^ k) % N * (B ^ (2 ^ k) % N) < 97 * 97 := Nat.mul_lt_mul_of_lt_of_le (by omega) (by omega) (by omega)
    have m2 : B ^ (2 ^ k) % N * (B ^ (2 ^ k) % N) < 97 * 97 := Nat.mul_lt_mul_of_lt_of_le (by omega) (by omega) (by omega)
    show (if (nI S >>> (nI k &&& 31)) &&& 1 = 0 then (kpc (nI B) (nI S) (nI N) k).1 else krem ((kpc (nI B) (nI S) (nI N) k).1 * (kpc (nI B) (nI S) (nI N) k).2) (nI N), krem ((kpc (nI B) (nI S) (nI N) k).2 * (kpc (nI B) (nI S) (nI N) k).2) (nI N)) = _
    rw [ih (by omega), kbit k (by omega) S hS]
    simp only [pk_mul]
    rw [krem_nI (by omega) (by omega) (by omega), krem_nI (by omega) (by omega) (by omega), ← Nat.mul_mod, ← Nat.mul_mod, ← Nat.pow_add, ← Nat.pow_add, ← Nat.two_mul, ← Nat.pow_succ']
    rw [Nat.mod_pow_succ]
    rcases Nat.mod_two_eq_zero_or_one (S / 2 ^ k) with z | z
    · rw [z, if_pos (show nI 0 = (0 : Int32) from rfl), Nat.mul_zero, Nat.add_zero]
    · rw [z, if_neg (by decide), Nat.mul_one]
theorem kpow_eq {b e n : Int32} {B S N : Nat} (hb : b = nI B) (he : e = nI S) (hn : n = nI N) (hN : 2 ≤ N) (hN2 : N ≤ 97) (hB : B < N) (hS : S < 1024) : kpowC b e n = mpw b n S := by
  subst hb he hn
  unfold kpowC
  rw [kpc_nat hN hN2 hB hS 10 (Nat.le_refl 10), mpw_nat hN hN2 hB, show (2 : Nat) ^ 10 = 1024 from rfl, Nat.mod_eq_of_lt hS]
theorem kprime_nat (g : Int32) : ∃ N, 2 ≤ N ∧ N ≤ 97 ∧ 5 < N ∧ kprime g = nI N := by
  unfold kprime
  split
  · exact ⟨23, by omega, by omega, by omega, rfl⟩
  · split
    · exact ⟨47, by omega, by omega, by omega, rfl⟩
    · split
      · exact ⟨59, by omega, by omega, by omega, rfl⟩
      · exact ⟨97, by omega, by omega, by omega, rfl⟩
theorem kshare_eq {g e : Int32} {S : Nat} (he : e = nI S) (hS : S < 1024) : kshareC g e = mshare g S := by
  obtain ⟨N, h1, h2, h5, h3⟩ := kprime_nat g
  unfold kshareC mshare
  by_cases q : g = 2
  · rw [if_pos q]
    exact kpow_eq (B := 2) rfl he h3 h1 h2 (by omega) hS
  · rw [if_neg q]
    exact kpow_eq (B := 5) rfl he h3 h1 h2 (by omega) hS
/-- a share that is told: in both the same test; and then the same key -/
theorem kisShare_eq (s g : Int32) : kisShare s g = kinL s.toInt64 1 (kprime g - 1).toInt64 := by
  obtain ⟨N, h1, h2, h5, h3⟩ := kprime_nat g
  rw [show (1 : Int64) = (1 : Int32).toInt64 from by decide, kinL_i]
  unfold kisShare
  by_cases q : s < 1
  · rw [if_pos q, if_pos q]
  · rw [if_neg q, if_neg q, h3, show nI N - 1 = nI (N - 1) from by rw [show (1 : Int32) = nI 1 from rfl, pk_sub (by omega)]]
    by_cases z : nI N ≤ s
    · rw [if_pos z, if_pos]
      exact Int32.lt_of_lt_of_le ((nI_ltI (by omega) (by omega)).mpr (by omega)) z
    · rw [if_neg z, if_neg]
      intro y
      apply z
      have y2 := Int32.lt_iff_toInt_lt.mp y
      apply Int32.le_iff_toInt_le.mpr
      rw [nI_toInt (by omega)] at y2 ⊢
      omega
theorem kshare_key {s g e v : Int32} {S : Nat} (hs : ¬ kisShare s g = 0) (he : e = nI S) (hS : S < 1024) : kkey s e g v = kmix (kmix 7 (mpw s (kprime g) S)) v := by
  obtain ⟨N, h1, h2, h5, h3⟩ := kprime_nat g
  unfold kisShare at hs
  by_cases q : s < 1
  · rw [if_pos q] at hs; exact absurd rfl hs
  · rw [if_neg q, h3] at hs
    by_cases z : nI N ≤ s
    · rw [if_pos z] at hs; exact absurd rfl hs
    · have z1 : (1 : Int) ≤ s.toInt := Int32.le_iff_toInt_le.mp (Int32.not_lt.mp q)
      have z2 : s.toInt < (N : Int) := by
        have := Int32.lt_iff_toInt_lt.mp (Int32.not_le.mp z)
        rw [nI_toInt (by omega)] at this
        exact this
      have e2 : s = nI s.toInt.toNat := by
        apply Int32.toInt_inj.mp
        rw [nI_toInt (by omega)]
        omega
      unfold kkey
      rw [kpow_eq (B := s.toInt.toNat) e2 he h3 h1 h2 (by omega) hS]
theorem khas16 : ∀ m, m < 16 → ∀ k, k < 4 → khas (nI m) (nI k) = mhas (nI m) (nI k) := by decide +kernel
theorem kgreat16 : ∀ m, m < 16 → kgreat (nI m) = mgreat (nI m) := by decide +kernel
theorem kleast16 : ∀ m, m < 16 → 1 ≤ m → kleast (nI m) = mleast (nI m) := by decide +kernel
theorem khas8 : ∀ m, m < 8 → ∀ k, k < 3 → khas (nI m) (nI k) = mhas (nI m) (nI k) := by decide +kernel
theorem khasA8 : ∀ m, m < 8 → ∀ k, k < 4 → 1 ≤ k → khasA (nI m) (nI k) = mab (nI m) (nI k) := by decide +kernel
theorem kgrp_eq (g : Int32) : kgrp g = kinL g.toInt64 0 3 := by
  rw [show (0 : Int64) = (0 : Int32).toInt64 from by decide, show (3 : Int64) = (3 : Int32).toInt64 from by decide, kinL_i]
  rfl
/-- a number from lo to hi that is small is a Nat -/
theorem i32_small {x : Int32} {lo hi : Int32} {a b : Nat} (h1 : ¬ x < lo) (h2 : ¬ hi < x) (ha : lo = nI a) (hb : hi = nI b) (ha2 : a < 2 ^ 31) (hb2 : b < 2 ^ 31) : ∃ n, a ≤ n ∧ n ≤ b ∧ x = nI n := by
  have z1 := Int32.le_iff_toInt_le.mp (Int32.not_lt.mp h1)
  have z2 := Int32.le_iff_toInt_le.mp (Int32.not_lt.mp h2)
  rw [ha, nI_toInt ha2] at z1
  rw [hb, nI_toInt hb2] at z2
  refine ⟨x.toInt.toNat, by omega, by omega, ?_⟩
  apply Int32.toInt_inj.mp
  rw [nI_toInt (by omega)]
  omega
theorem khasG_eq {m : Nat} (hm : m < 16) (g : Int32) : khasG (nI m) g = if kinL g.toInt64 0 3 = 0 then 0 else mhas (nI m) g := by
  unfold khasG
  rw [← kgrp_eq]
  by_cases q : kgrp g = 0
  · rw [if_pos q, if_pos q]
  · rw [if_neg q, if_neg q]
    unfold kgrp at q
    by_cases q1 : g < 0
    · rw [if_pos q1] at q; exact absurd rfl q
    · rw [if_neg q1] at q
      by_cases q2 : 3 < g
      · rw [if_pos q2] at q; exact absurd rfl q
      · obtain ⟨n, -, h2, rfl⟩ := i32_small (a := 0) (b := 3) q1 q2 rfl rfl (by omega) (by omega)
        exact khas16 m hm n (by omega)
theorem khasV_eq {m : Nat} (hm : m < 8) (v : Int32) : khasV (nI m) v = mhasV (nI m) v := by
  unfold khasV mhasV
  rw [show (1 : Int64) = (1 : Int32).toInt64 from by decide, show (3 : Int64) = (3 : Int32).toInt64 from by decide, kinL_i]
  by_cases q1 : v < 1
  · rw [if_pos q1, if_pos q1, if_pos rfl]
  · rw [if_neg q1, if_neg q1]
    by_cases q2 : 3 < v
    · rw [if_pos q2, if_pos q2, if_pos rfl]
    · rw [if_neg q2, if_neg q2, if_neg (by decide)]
      obtain ⟨n, h1, h2, rfl⟩ := i32_small (a := 1) (b := 3) q1 q2 rfl rfl (by omega) (by omega)
      rw [show nI n - 1 = nI (n - 1) from by rw [show (1 : Int32) = nI 1 from rfl, pk_sub h1], khas8 m hm (n - 1) (by omega)]
      unfold mhas
      split <;> rfl
theorem and_small16 (y : Int32) {n : Nat} (h : n < 16) : ∃ x, x < 16 ∧ y &&& nI n = nI x := by
  refine ⟨(y &&& nI n).toBitVec.toNat, ?_, ?_⟩
  · have e : (y &&& nI n).toBitVec.toNat = y.toBitVec.toNat &&& (nI n).toBitVec.toNat := by
      rw [Int32.toBitVec_and, BitVec.toNat_and]
    rw [e, pk_tn (show n < 2 ^ 32 by omega)]
    have := @Nat.and_le_right y.toBitVec.toNat n
    omega
  · apply Int32.toBitVec_inj.mp
    apply BitVec.eq_of_toNat_eq
    rw [pk_tn (BitVec.isLt _)]
