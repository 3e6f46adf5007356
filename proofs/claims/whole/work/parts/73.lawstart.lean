/-! what holds at the law's entry: the classes, the arrays, the literals -/
theorem mem_r {big : List Cond} (ws : List Cond) (ps : List Nat) (hp : ws = ps.filterMap (fun i => big[i]?)) : ∀ w ∈ ws, w ∈ big := by
  intro w hw
  rw [hp] at hw
  obtain ⟨i, -, hi⟩ := List.mem_filterMap.mp hw
  first | exact List.mem_of_getElem? hi | exact List.getElem?_mem hi
section
variable {s : State} {b : Nat}
theorem law_kK (hts : ∀ w ∈ lw_tbl, w.before #[Value.ref b] s = true) : ∃ G : kG, kK G s := by
  obtain ⟨c0, iS0, hKn0⟩ := u_known (C := RX0) (T := TX0) (N := 9) (n := 9) hts lwc_X0 (hts (.instantiable RX0 9) (List.mem_of_getElem? (i := 85) (by decide +kernel)))
  obtain ⟨c1, iS1, hKn1⟩ := u_known (C := RX1) (T := TX1) (N := 3) (n := 3) hts lwc_X1 (hts (.instantiable RX1 3) (List.mem_of_getElem? (i := 97) (by decide +kernel)))
  obtain ⟨c2, iS2, hKn2⟩ := u_known (C := RX2) (T := TX2) (N := 1) (n := 1) hts lwc_X2 (hts (.instantiable RX2 1) (List.mem_of_getElem? (i := 115) (by decide +kernel)))
  obtain ⟨c3, iS3, hKn3⟩ := u_known (C := RX3) (T := TX3) (N := 18) (n := 18) hts lwc_X3 (hts (.instantiable RX3 18) (List.mem_of_getElem? (i := 91) (by decide +kernel)))
  obtain ⟨c4, iS4, hKn4⟩ := u_known (C := RX4) (T := TX4) (N := 3) (n := 3) hts lwc_X4 (hts (.instantiable RX4 3) (List.mem_of_getElem? (i := 321) (by decide +kernel)))
  obtain ⟨c5, iS5, hKn5⟩ := u_known (C := RX5) (T := TX5) (N := 9) (n := 9) hts lwc_X5 (hts (.instantiable RX5 9) (List.mem_of_getElem? (i := 276) (by decide +kernel)))
  obtain ⟨c6, iS6, hKn6⟩ := u_known (C := RX6) (T := TX6) (N := 8) (n := 8) hts lwc_X6 (hts (.instantiable RX6 8) (List.mem_of_getElem? (i := 344) (by decide +kernel)))
  obtain ⟨c7, iS7, hKn7⟩ := u_known (C := RX7) (T := TX7) (N := 5) (n := 5) hts lwc_X7 (hts (.instantiable RX7 5) (List.mem_of_getElem? (i := 210) (by decide +kernel)))
  obtain ⟨c8, iS8, hKn8⟩ := u_known (C := RX8) (T := TX8) (N := 9) (n := 9) hts lwc_X8 (hts (.instantiable RX8 9) (List.mem_of_getElem? (i := 77) (by decide +kernel)))
  obtain ⟨c9, iS9, hKn9⟩ := u_known (C := RX9) (T := TX9) (N := 43) (n := 43) hts lwc_X9 (hts (.instantiable RX9 43) (List.mem_of_getElem? (i := 895) (by decide +kernel)))
  obtain ⟨u_aI, u_kI, u_pI, u_fI, u_gI, u_eI⟩ := Cond.arrayClass_spec (hts (.arrayClass .int) (List.mem_of_getElem? (i := 124) (by decide +kernel)))
  obtain ⟨u_aZ, u_kZ, u_pZ, u_fZ, u_gZ, u_eZ⟩ := Cond.arrayClass_spec (hts (.arrayClass .boolean) (List.mem_of_getElem? (i := 376) (by decide +kernel)))
  obtain ⟨u_pM, u_aM, u_kM, u_hM, -, u_gM, u_eM, u_fM⟩ := Cond.arrayOver_spec (hts (.arrayOver (.object RX2)) (List.mem_of_getElem? (i := 327) (by decide +kernel)))
  obtain ⟨u_pT, u_aT, u_kT, u_hT, -, u_gT, u_eT, u_fT⟩ := Cond.arrayOver_spec (hts (.arrayOver (.object RX7)) (List.mem_of_getElem? (i := 284) (by decide +kernel)))
  refine ⟨((fun k => [c0, c1, c2, c3, c4, c5, c6, c7, c8, c9].getD k c0, fun k => [iS0, iS1, iS2, iS3, iS4, iS5, iS6, iS7, iS8, iS9].getD k iS0), u_aI, u_aZ, u_aM, u_aT), ⟨?_, ?_⟩, ?_⟩
  · intro k q hq
    match k, hq with
    | 0, hq => cases hq; exact hKn0
    | 1, hq => cases hq; exact hKn1
    | 2, hq => cases hq; exact hKn2
    | 3, hq => cases hq; exact hKn3
    | 4, hq => cases hq; exact hKn4
    | 5, hq => cases hq; exact hKn5
    | 6, hq => cases hq; exact hKn6
    | 7, hq => cases hq; exact hKn7
    | 8, hq => cases hq; exact hKn8
    | 9, hq => cases hq; exact hKn9
    | k + 10, hq => simp [vwCl] at hq
  · intro k q hq
    match k, hq with
    | 0, hq => cases hq; exact ⟨fun n z => ⟨fun k h => (by cases h), u_kI, u_gI, u_pI, u_eI⟩, u_fI⟩
    | 1, hq => cases hq; exact ⟨fun n z => ⟨fun k h => (by cases h), u_kZ, u_gZ, u_pZ, u_eZ⟩, u_fZ⟩
    | 2, hq => cases hq; exact ⟨fun n z => ⟨fun k h => (by cases h), u_kM, u_gM, u_pM, u_eM⟩, ⟨u_kM, u_pM, u_gM, u_eM, u_hM, u_fM⟩⟩
    | 3, hq => cases hq; exact ⟨fun n z => ⟨fun k h => (by cases h), u_kT, u_gT, u_pT, u_eT⟩, ⟨u_kT, u_pT, u_gT, u_eT, u_hT, u_fT⟩⟩
    | k + 4, hq => simp [kTys] at hq
  · have hn : ∀ w ∈ kNest.map (fun q => Cond.methodLinkNest q.1 q.2.1 q.2.2.1 q.2.2.2), w ∈ lw_tbl := mem_r _ [708, 611, 678, 116, 328, 211, 570, 573, 591, 600, 671, 662, 665, 668, 691, 285, 788, 727, 748, 761, 734, 766, 767, 86, 342, 345] (by decide +kernel)
    intro q hq
    exact va_Nw.of rfl (hts _ (hn _ (List.mem_map.mpr ⟨q, hq, rfl⟩)))
theorem law_kZ (hts : ∀ w ∈ lw_tbl, w.before #[Value.ref b] s = true) (hgv : (Jvm.Cond.and given_1 narrow_1).before #[Value.ref b] s = true) : ∃ Z : kZs, kZ Z (fun q : Nat => s.heap.size ≤ q) s s.heap := by
  have hs := flat_of_before _ hgv
  have hA : ∀ a : Nat, a < s.heap.size → ¬ (fun q : Nat => s.heap.size ≤ q) a := fun a h => Nat.not_le.mpr h
  have hex : ∀ i : Nat, i < 5 → (Cond.exactly (Term.string RX6 ((kidx.getD i (0, "")).1)) "java/lang/String").before #[Value.ref b] s = true := fun i hi => match i, hi with
    | 0, _ => hs _ (by decide +kernel)
    | 1, _ => hs _ (by decide +kernel)
    | 2, _ => hs _ (by decide +kernel)
    | 3, _ => hs _ (by decide +kernel)
    | 4, _ => hs _ (by decide +kernel)
    | k + 5, h => absurd h (by omega)
  have hco : ∀ i : Nat, i < 5 → (Cond.eq (.field (Term.string RX6 ((kidx.getD i (0, "")).1)) "java/lang/String" "coder" "B") (.int 0)).before #[Value.ref b] s = true := fun i hi => match i, hi with
    | 0, _ => hs _ (by decide +kernel)
    | 1, _ => hs _ (by decide +kernel)
    | 2, _ => hs _ (by decide +kernel)
    | 3, _ => hs _ (by decide +kernel)
    | 4, _ => hs _ (by decide +kernel)
    | k + 5, h => absurd h (by omega)
  have har : ∀ i : Nat, i < 5 → (Cond.arrayOf (.field (Term.string RX6 ((kidx.getD i (0, "")).1)) "java/lang/String" "value" "[B") .byte).before #[Value.ref b] s = true := fun i hi => match i, hi with
    | 0, _ => hs _ (by decide +kernel)
    | 1, _ => hs _ (by decide +kernel)
    | 2, _ => hs _ (by decide +kernel)
    | 3, _ => hs _ (by decide +kernel)
    | 4, _ => hs _ (by decide +kernel)
    | k + 5, h => absurd h (by omega)
  have hle : ∀ i : Nat, i < 5 → (Cond.eq (.length (.field (Term.string RX6 ((kidx.getD i (0, "")).1)) "java/lang/String" "value" "[B")) (.int (Int32.ofNat (klen.getD i 0)))).before #[Value.ref b] s = true := fun i hi => match i, hi with
    | 0, _ => hs _ (by decide +kernel)
    | 1, _ => hs _ (by decide +kernel)
    | 2, _ => hs _ (by decide +kernel)
    | 3, _ => hs _ (by decide +kernel)
    | 4, _ => hs _ (by decide +kernel)
    | k + 5, h => absurd h (by omega)
  have hel : ∀ i : Nat, i < 5 → ∀ j : Nat, j < klen.getD i 0 → (Cond.eq (.elem (.field (Term.string RX6 ((kidx.getD i (0, "")).1)) "java/lang/String" "value" "[B") (.int (Int32.ofNat j))) (.int ((kbyt.getD i []).getD j 0))).before #[Value.ref b] s = true := fun i hi => match i, hi with
    | 0, _ => fun j hj => match j, hj with
      | 0, _ => hs _ (by decide +kernel)
      | 1, _ => hs _ (by decide +kernel)
      | 2, _ => hs _ (by decide +kernel)
      | 3, _ => hs _ (by decide +kernel)
      | 4, _ => hs _ (by decide +kernel)
      | 5, _ => hs _ (by decide +kernel)
      | k + 6, h => absurd (show k + 6 < 6 from h) (by omega)
    | 1, _ => fun j hj => match j, hj with
      | 0, _ => hs _ (by decide +kernel)
      | 1, _ => hs _ (by decide +kernel)
      | 2, _ => hs _ (by decide +kernel)
      | 3, _ => hs _ (by decide +kernel)
      | 4, _ => hs _ (by decide +kernel)
      | 5, _ => hs _ (by decide +kernel)
      | k + 6, h => absurd (show k + 6 < 6 from h) (by omega)
    | 2, _ => fun j hj => match j, hj with
      | 0, _ => hs _ (by decide +kernel)
      | 1, _ => hs _ (by decide +kernel)
      | 2, _ => hs _ (by decide +kernel)
      | 3, _ => hs _ (by decide +kernel)
      | 4, _ => hs _ (by decide +kernel)
      | 5, _ => hs _ (by decide +kernel)
      | k + 6, h => absurd (show k + 6 < 6 from h) (by omega)
    | 3, _ => fun j hj => match j, hj with
      | 0, _ => hs _ (by decide +kernel)
      | 1, _ => hs _ (by decide +kernel)
      | 2, _ => hs _ (by decide +kernel)
      | 3, _ => hs _ (by decide +kernel)
      | 4, _ => hs _ (by decide +kernel)
      | k + 5, h => absurd (show k + 5 < 5 from h) (by omega)
    | 4, _ => fun j hj => match j, hj with
      | 0, _ => hs _ (by decide +kernel)
      | 1, _ => hs _ (by decide +kernel)
      | 2, _ => hs _ (by decide +kernel)
      | 3, _ => hs _ (by decide +kernel)
      | 4, _ => hs _ (by decide +kernel)
      | k + 5, h => absurd (show k + 5 < 5 from h) (by omega)
    | k + 5, h => absurd h (by omega)
  have hne : ∀ i j : Nat, i < 5 → j < 5 → i ≠ j → (Cond.not (Cond.eq (Term.string RX6 ((kidx.getD i (0, "")).1)) (Term.string RX6 ((kidx.getD j (0, "")).1)))).before #[Value.ref b] s = true ∨ (Cond.not (Cond.eq (Term.string RX6 ((kidx.getD j (0, "")).1)) (Term.string RX6 ((kidx.getD i (0, "")).1)))).before #[Value.ref b] s = true := fun i j hi hj hn => match i, j, hi, hj, hn with
    | 0, 0, _, _, hn => absurd rfl hn
    | 0, 1, _, _, _ => Or.inl (hs _ (by decide +kernel))
    | 0, 2, _, _, _ => Or.inl (hs _ (by decide +kernel))
    | 0, 3, _, _, _ => Or.inl (hs _ (by decide +kernel))
    | 0, 4, _, _, _ => Or.inl (hs _ (by decide +kernel))
    | 1, 0, _, _, _ => Or.inr (hs _ (by decide +kernel))
    | 1, 1, _, _, hn => absurd rfl hn
    | 1, 2, _, _, _ => Or.inl (hs _ (by decide +kernel))
    | 1, 3, _, _, _ => Or.inl (hs _ (by decide +kernel))
    | 1, 4, _, _, _ => Or.inl (hs _ (by decide +kernel))
    | 2, 0, _, _, _ => Or.inr (hs _ (by decide +kernel))
    | 2, 1, _, _, _ => Or.inr (hs _ (by decide +kernel))
    | 2, 2, _, _, hn => absurd rfl hn
    | 2, 3, _, _, _ => Or.inl (hs _ (by decide +kernel))
    | 2, 4, _, _, _ => Or.inl (hs _ (by decide +kernel))
    | 3, 0, _, _, _ => Or.inr (hs _ (by decide +kernel))
    | 3, 1, _, _, _ => Or.inr (hs _ (by decide +kernel))
    | 3, 2, _, _, _ => Or.inr (hs _ (by decide +kernel))
    | 3, 3, _, _, hn => absurd rfl hn
    | 3, 4, _, _, _ => Or.inl (hs _ (by decide +kernel))
    | 4, 0, _, _, _ => Or.inr (hs _ (by decide +kernel))
    | 4, 1, _, _, _ => Or.inr (hs _ (by decide +kernel))
    | 4, 2, _, _, _ => Or.inr (hs _ (by decide +kernel))
    | 4, 3, _, _, _ => Or.inr (hs _ (by decide +kernel))
    | 4, 4, _, _, hn => absurd rfl hn
    | k + 5, _, h, _, _ => absurd h (by omega)
    | _, k + 5, _, h, _ => absurd h (by omega)
  obtain ⟨adK, adV, hS, hE⟩ := vk_Sof (A := fun q : Nat => s.heap.size ≤ q) (N := 5) (len := klen) (byt := kbyt) (fun i _ => Nat.lt_of_le_of_lt (klen_le i) (by decide)) hex hco har hle hel hne hA
  refine ⟨(adK, adV), va_Zof (hts _ (List.mem_of_getElem? (i := 461) (by decide +kernel))) (hts _ (List.mem_of_getElem? (i := 72) (by decide +kernel))) (va_eqi (hs _ (by decide +kernel))) hA, va_Zqof (hts _ (List.mem_of_getElem? (i := 477) (by decide +kernel))) (hts _ (List.mem_of_getElem? (i := 74) (by decide +kernel))) (hs _ (by decide +kernel)) hA, hS, ?_, va_AO.of (hts _ (List.mem_of_getElem? (i := 327) (by decide +kernel))), va_AO.of (hts _ (List.mem_of_getElem? (i := 284) (by decide +kernel)))⟩
  intro i q hq
  match i, hq with
  | 0, hq => cases hq; exact vk_R.of (A := #[Value.ref b]) (hts _ (List.mem_of_getElem? (i := 447) (by decide +kernel))) (hE 0 (by decide))
  | 1, hq => cases hq; exact vk_R.of (A := #[Value.ref b]) (hts _ (List.mem_of_getElem? (i := 500) (by decide +kernel))) (hE 1 (by decide))
  | 2, hq => cases hq; exact vk_R.of (A := #[Value.ref b]) (hts _ (List.mem_of_getElem? (i := 501) (by decide +kernel))) (hE 2 (by decide))
  | 3, hq => cases hq; exact vk_R.of (A := #[Value.ref b]) (hts _ (List.mem_of_getElem? (i := 502) (by decide +kernel))) (hE 3 (by decide))
  | 4, hq => cases hq; exact vk_R.of (A := #[Value.ref b]) (hts _ (List.mem_of_getElem? (i := 503) (by decide +kernel))) (hE 4 (by decide))
  | k + 5, hq => simp [kidx] at hq
end
