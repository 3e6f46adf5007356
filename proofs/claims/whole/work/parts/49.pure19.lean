/-! the reference goes through the text -/
def mgoR (R : Int32 × (kF × kF × kF × kF)) : Int32 := if R.1 = -1 then R.2.1 5 else -1 - R.1
theorem mgo_f {S : Nat} {q : kF × kF × kF × kF} (h : S ≤ 200) : mgoR (nI S, q) = -1 - nI S := if_neg (nI_nm1 (by omega))
theorem mtk0 {xl : kF} {L u : Nat} (hu : u ≤ L) (h : mtk xl L u = 0) : u = L := by
  by_cases q : u < L
  · unfold mtk at h
    rw [if_pos q] at h
    split at h
    · exact absurd h (by decide)
    · split at h
      · exact absurd h (by decide)
      · exact absurd h (by decide)
  · omega
theorem mtkL {xl : kF} {L u : Nat} (h : ¬ mtk xl L u = 0) : ¬ u = L := fun q => h (mtk_A q)
theorem mtk59 {xl : kF} {L u : Nat} (hu : u < L) (h : ¬ mtk xl L u = 3) : ¬ xl u = 59 := fun q => h (mtk_1 hu (by rw [q]; decide) (by rw [q]; decide))
theorem mvl3 {xl : kF} {L u : Nat} (hu : u < L) (h : mtk xl L u = 3) : mvl xl L u = xl u := by
  unfold mvl
  rw [h, if_neg (by decide), mlet_in hu]
theorem kcV_01 {xl : kF} {L E : Nat} (h : kcK xl L E = 2) (hV : ¬ kcV xl L E = -1) : kcV xl L E = 0 ∨ kcV xl L E = 1 := by
  have e : kcV xl L E = knum xl (kc2 xl L E).1 (kc2 xl L E).2 0 1 := by
    unfold kcV
    rw [h]
    rfl
  rw [e] at hV ⊢
  generalize (kc2 xl L E).1 = S at hV ⊢
  generalize (kc2 xl L E).2 = E' at hV ⊢
  unfold knum at hV ⊢
  split at hV
  · exact absurd rfl hV
  · next h1 =>
    split at hV
    · exact absurd rfl hV
    · next h2 =>
      split at hV
      · next h3 =>
        split at hV
        · exact absurd rfl hV
        · next h4 =>
          split at hV
          · next h5 =>
            rw [if_neg h1, if_neg h2, if_pos h3, if_neg h4, if_pos h5]
            generalize kdec xl S E' = v at h4 h5
            have z1 : (0 : Int) ≤ v.toInt := Int32.le_iff_toInt_le.mp (Int32.not_lt.mp h4)
            have z2 : v.toInt ≤ (1 : Int) := Int32.le_iff_toInt_le.mp h5
            rcases (show v.toInt = 0 ∨ v.toInt = 1 by omega) with z | z
            · exact Or.inl (Int32.toInt_inj.mp z)
            · exact Or.inr (Int32.toInt_inj.mp z)
          · exact absurd rfl hV
      · exact absurd rfl hV
theorem krx_5 {xl : kF} {L E : Nat} {x : kF} : krx xl L E x 5 = x 5 + 1 := rfl
theorem krx_6 {xl : kF} {L E : Nat} {x : kF} : krx xl L E x 6 = nI (ktok xl L (kcT xl L E).2).1 := rfl
theorem mdoes_mrt {xl : kF} {L E : Nat} {τ : kS} {kd v w : Int32} : mdoes (mrt xl L E τ) kd v w = mrt xl L E (mdoes τ kd v w) := mdoes_mrw _ _ _ _ _ _ _ _ _
