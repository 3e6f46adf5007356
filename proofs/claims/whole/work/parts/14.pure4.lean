/-! the reference: a greeting is made; what comes -/
theorem nI_nm1 {j : Nat} (h : j < 2147483648) : ¬ nI j = -1 := by
  intro z
  have := congrArg Int32.toInt z
  rw [nI_toInt h] at this
  rw [show (-1 : Int32).toInt = -1 by decide] at this
  omega
def mgrA (Y σ : kS) (v g : Int32) (S : Nat) (is val : Int32) : kS := su (su (su (su (mtakes Y 1 9) 9 1 (kmix (kmix 7 (mpw (σ 29 4) (kprime g) S)) val)) 6 1 v) 7 1 g) 8 1 is
def mgrB (Y σ : kS) (v g : Int32) (S : Nat) (is val e mark : Int32) : kS := mtakes (su (su (su (su (su (su (mclr (mgrA Y σ v g S is val) 3) 29 1 v) 29 2 g) 29 3 (mshare g S)) 29 4 mark) 29 5 is) 29 6 e) 1 7
def mgrC (Z : kS) (Mn : Nat) : kS := su (msend (su Z 29 7 (mproof Z 1 1)) 0 Mn) 3 1 3
def mgrT (Y σ : kS) (v g : Int32) (S Mn : Nat) (is val e : Int32) : kS := mgrC (mgrB Y σ v g S is val e (if mab (σ 0 1) v = 0 then 0 else 1)) Mn
def mgrE (σ : kS) (E : Nat) : kS := su (su (msees σ E (σ 29 5) (σ 29 7)) 31 0 (σ 31 0 + 1)) 32 0 (σ 32 0 + σ 29 8)
def mearl (σ : kS) (j E : Nat) (i : Int32) : Int32 := if σ 29 8 < 0 then 0 else if i = 0 then if mfit σ j = 0 then 0 else if bI (kany (msP σ (σ 29 5) (σ 29 7)) E) = 0 then 1 else 0 else 0
def mgrY (σ : kS) (v g i : Int32) (S Mn E j : Nat) : kS := if σ 29 7 = kbind (σ 22 (5 * j + 3)) (σ 5 1) (σ 29) then (if mearl σ j E i = 0 then mgrT σ σ v g S Mn 1 (σ 22 (5 * j + 3)) 0 else mgrT (mgrE σ E) σ v g S Mn 1 (σ 22 (5 * j + 3)) 1) else mfail σ 1 6
def mgreets (σ : kS) (v g i : Int32) (S Mn E K : Nat) : kS := if v = 3 then if mtof σ (σ 29 5) K = -1 then mgrT σ σ v g S Mn 0 0 0 else if σ 22 (5 * (mtof σ (σ 29 5) K).toNatClampNeg + 1) < σ 14 0 - σ 22 (5 * (mtof σ (σ 29 5) K).toNatClampNeg + 2) then mgrT σ σ v g S Mn 0 0 0 else mgrY σ v g i S Mn E (mtof σ (σ 29 5) K).toNatClampNeg else mgrT σ σ v g S Mn 0 0 0
def mhlR (σ : kS) (g : Int32) (Mn : Nat) : kS := su (mtakes (msend (su (mclr (mtakes σ 1 9) 2) 29 1 g) 0 Mn) 1 9) 3 1 2
def mhlG (σ : kS) (i : Int32) (S Mn E K : Nat) : kS := if σ 29 3 = mgreat (σ 29 2 &&& σ 1 1) then if kinL (σ 29 4).toInt64 1 (kprime (mgreat (σ 29 2 &&& σ 1 1)) - 1).toInt64 = 0 then mfail σ 1 5 else mgreets σ (mgreat (σ 29 1 &&& σ 0 1) + 1) (mgreat (σ 29 2 &&& σ 1 1)) i S Mn E K else mhlR σ (mgreat (σ 29 2 &&& σ 1 1)) Mn
def mchel (σ : kS) (S Mn E K : Nat) : kS := if σ 29 1 &&& σ 0 1 = 0 then mfail σ 1 2 else if mgreat (σ 29 2 &&& σ 1 1) = -1 then mfail σ 1 3 else if σ 3 1 = 2 then (if σ 29 3 = mgreat (σ 29 2 &&& σ 1 1) then mhlG σ 1 S Mn E K else mfail σ 1 4) else mhlG σ 0 S Mn E K
theorem and_small (y : Int32) {n : Nat} (h : n < 8) : ∃ x, x < 8 ∧ y &&& nI n = nI x := by
  refine ⟨(y &&& nI n).toBitVec.toNat, ?_, ?_⟩
  · have e : (y &&& nI n).toBitVec.toNat = y.toBitVec.toNat &&& (nI n).toBitVec.toNat := by
      rw [Int32.toBitVec_and, BitVec.toNat_and]
    rw [e, pk_tn (show n < 2 ^ 32 by omega)]
    have := @Nat.and_le_right y.toBitVec.toNat n
    omega
  · apply Int32.toBitVec_inj.mp
    apply BitVec.eq_of_toNat_eq
    rw [pk_tn (BitVec.isLt _)]
theorem mgreat8 : ∀ x, x < 8 → ¬ nI x = 0 → mgreat (nI x) + 1 = 1 ∨ mgreat (nI x) + 1 = 2 ∨ mgreat (nI x) + 1 = 3 := by decide +kernel
theorem mgreat_v {y t : Int32} (h7 : ∃ n, n < 8 ∧ t = nI n) (hc : ¬ y &&& t = 0) : mgreat (y &&& t) + 1 = 1 ∨ mgreat (y &&& t) + 1 = 2 ∨ mgreat (y &&& t) + 1 = 3 := by
  obtain ⟨n, hn, rfl⟩ := h7
  obtain ⟨x, hx, e⟩ := and_small y hn
  rw [e] at hc ⊢
  exact mgreat8 x hx hc
def mcomes0 (σ : kS) (S Mn : Nat) : kS := if σ 3 0 = 5 then σ else if σ 3 0 = 4 then (if σ 29 0 = 6 then mlett σ 0 else if σ 29 0 = 7 then mupd σ 0 else if σ 29 0 = 5 then mticket σ else mfail σ 0 1) else if σ 3 0 = 1 then (if σ 29 0 = 2 then mretry σ S Mn else if σ 29 0 = 3 then mgreet σ S Mn else mfail σ 0 1) else mfail σ 0 1
def mcomes1 (σ : kS) (S Mn E K : Nat) : kS := if σ 3 1 = 5 then σ else if σ 3 1 = 4 then (if σ 29 0 = 6 then mlett σ 1 else if σ 29 0 = 7 then mupd σ 1 else mfail σ 1 1) else if σ 3 1 = 0 then (if σ 29 0 = 1 then mchel σ S Mn E K else mfail σ 1 1) else if σ 3 1 = 2 then (if σ 29 0 = 1 then mchel σ S Mn E K else mfail σ 1 1) else if σ 3 1 = 3 then (if σ 29 0 = 4 then mfinR σ else mfail σ 1 1) else mfail σ 1 1
