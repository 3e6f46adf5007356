/-! contracts that also know the literals of the class's Text -/
def klen : List Nat := [6, 6, 6, 5, 5]
def kbyt : List (List Int32) := [[99, 108, 105, 101, 110, 116], [115, 101, 114, 118, 101, 114], [115, 101, 99, 114, 101, 116], [103, 117, 101, 115, 115], [101, 97, 114, 108, 121]]
def kidx : List (Nat × String) := [(59, "client"), (65, "server"), (67, "secret"), (69, "guess"), (71, "early")]
abbrev kZs : Type := (Nat → Nat) × (Nat → Nat)
def kZ (Z : kZs) (A : Nat → Prop) (U : State) (H : Heap) : Prop :=
  va_Z "java/lang/String" "COMPACT_STRINGS" "Z" (.int 1) A U H ∧ va_Zq "jdk/internal/util/Preconditions" "SIOOBE_FORMATTER" "Ljava/util/function/BiFunction;" A U H ∧ vk_S 5 klen kbyt Z.1 Z.2 A U H ∧ (∀ (i : Nat) (q : Nat × String), kidx[i]? = some q → vk_R RX6 q.1 q.2 (Z.1 i) U) ∧ va_AO RX2 U ∧ va_AO RX7 U
theorem kZ.kept {Z : kZs} {A : Nat → Prop} {U : State} {H H1 : Heap} (h : kZ Z A U H) (hq : ∀ a : Nat, a < H.size → ¬ A a → H1[a]? = H[a]?) : kZ Z A U H1 := ⟨h.1.kept hq, h.2.1.kept hq, h.2.2.1.kept hq, h.2.2.2⟩
theorem kZ.narrow {Z : kZs} {A B : Nat → Prop} {U : State} {H : Heap} (h : kZ Z A U H) (hAB : ∀ q, B q → A q) : kZ Z B U H := ⟨h.1.narrow hAB, h.2.1.narrow hAB, h.2.2.1.narrow hAB, h.2.2.2⟩
theorem kZ.warm {Z : kZs} {A : Nat → Prop} {s U : State} {H : Heap} (hW : s.WarmedH U.vm) (h : kZ Z A s H) : kZ Z A U H := ⟨va_Z.moved hW.alike h.1, va_Zq.moved hW.alike h.2.1, vk_S.moved hW.alike h.2.2.1, fun i q hq => vk_R.warm hW (h.2.2.2.1 i q hq), va_AO.moved hW.alike h.2.2.2.2.1, va_AO.moved hW.alike h.2.2.2.2.2⟩
theorem kZ.calling {Z : kZs} {A : Nat → Prop} {U : State} {H : Heap} {g : JFrame} {mk : MethodId} {a : Array Value} (h : kZ Z A U H) : kZ Z A (U.calling g mk a) H := ⟨va_Z.moved (u := U) (U := U.calling g mk a) (Vm.Alike.refl U.vm) h.1, va_Zq.moved (u := U) (U := U.calling g mk a) (Vm.Alike.refl U.vm) h.2.1, vk_S.moved (u := U) (U := U.calling g mk a) (Vm.Alike.refl U.vm) h.2.2.1, fun i q hq => vk_R.same (U := U.calling g mk a) rfl (h.2.2.2.1 i q hq), va_AO.moved (u := U) (U := U.calling g mk a) (Vm.Alike.refl U.vm) h.2.2.2.2.1, va_AO.moved (u := U) (U := U.calling g mk a) (Vm.Alike.refl U.vm) h.2.2.2.2.2⟩
def kPcz (G : kG) (Z : kZs) (av : List Value) (w : va_W) (sz : Nat) : Array Value → State → Prop := va_Pc av (fun U => U.heap.size = sz ∧ va_P G.1 vwCl w U.heap ∧ kK G U ∧ va_D (fun _ => True) w ∧ kZ Z (va_A w sz) U U.heap)
theorem kPcz.blind {G : kG} {Z : kZs} {av : List Value} {w : va_W} {sz : Nat} : FrameBlind (kPcz G Z av w sz) := by
  intro a U g mk q
  obtain ⟨q0, q1, qP, qK, qD, qZ⟩ := q
  exact ⟨q0, q1, qP, qK.calling, qD, qZ.calling⟩
def kMz (Z : kZs) (G : kG) (l : Launch) (y : MethodName) (ws : List Cond) (rm : Room) (av : List Value) (w : va_W) (QF : kQ) : Prop := ∀ sz : Nat, Met l y ws rm (kPcz G Z av w sz) (QF (va_A w sz)) rm.cells rm.slots (va_A w sz)
theorem kzStart {Z : kZs} {G : kG} {l : Launch} {y : MethodName} {ws ws' : List Cond} {rm : Room} {av : List Value} {w : va_W} {QF : kQ} {cc : ByteArray} {maxL : Nat} {ret : Option FieldType}
    (hy : plainName y.cls = true) (hw : ws = Cond.code y cc maxL ret :: ws') (hlen : (lg_sl av).length ≤ maxL)
    (body : ∀ (p : Program) (e : Env) (s : State) (m : MethodId) (below : List Frame) (meth : Method) (c : Code) (A : Nat → Prop) (ls : Array Slot), CallFix p m c cc maxL s av.toArray ws y.cls → meth.sig.returnType = ret → meth.locks = false → meth.name = y.name → kK G s → va_P G.1 vwCl w s.heap → va_D A w → (∀ q : Nat, s.heap.size ≤ q → A q) → va_S A s.heap s.heap [] → lv_has ls maxL (lv_args 0 av) → kZ Z A s s.heap →
      W p l e rm s m av.toArray below meth c s.heap [] 0 0 (MQ below (QF A) av.toArray s rm.cells rm.slots A) (F0 m 0 ls [])) : kMz Z G l y ws rm av w QF := by
  intro sz
  refine Met.ofW (cc := cc) (maxL := maxL) (ret := ret) hy hw ?_
  intro p e s m args below meth c s₁ B hml hv
  obtain ⟨rfl, hsz, hP, hK, hD0, hZ⟩ := hv
  have hts := atoms_spec (ws := ws) B.pre
  have hown : s.vm.findClass y.cls = some m.cls := findClass_of_methodNamed B.named
  subst hsz
  have hl := lv_entry av (n := maxL) hlen
  rw [lg_entry_eq]
  exact body p e s m below meth c (va_A w s.heap.size) _ ⟨B.exec, B.bytes, hml, hown, hts⟩ B.returns B.notSynchronized (name_of_methodNamed B.named B.method).1 hK hP (hD0.self (sz := s.heap.size)) (fun q h => Or.inr h) va_S.rf hl hZ
section KR
variable {p : Program} {l : Launch} {e : Env} {R : Room} {s : State} {m : MethodId} {args : Array Value} {below : List Frame} {meth : Method} {c : Code} {H : Heap} {locs : List Loc} {cells slots : Nat} {Q : State → Prop}
variable {cc : ByteArray} {pc nL : Nat} {ls : Array Slot} {rest : List Value} {G : kG} {A : Nat → Prop} {ws : va_W} {Ts : List Cond} {own : String} {Z : kZs}

theorem kzVi {S : Type} {post : Int32 → S → Prop} {out : S → va_W} {y : MethodName} {bytes : ByteArray} {maxL index : Nat} {wsy ws' : List Cond} {rm : Room} {b : Nat} {As : List Value} {wc wr : va_W} {C : String} {T : u_T} {N : Nat} {fs : List Value} {rt : Option FieldType}
    (F : CallFix p m c cc nL s args Ts own) (hK : kK G s) (hP : va_P G.1 vwCl ws H) (hD : va_D A ws) (hS : va_S A s.heap H locs) (hA : ∀ q : Nat, s.heap.size ≤ q → A q) (hls : ls.size = nL) (hZ : kZ Z A s s.heap) (hM : kMz Z G l y wsy rm (.ref b :: As) wc (kQi G post out)) (isC isR : List Nat)
    (ci q0 : Nat) (hg : GoodIn Ts (wsV own index C y wsy)) (hwy : wsy = Cond.code y bytes maxL rt :: ws') (n : Nat) (hn9 : As.length = n) (hd : y.cls = C ∧ y.cls ≠ "java/lang/invoke/MethodHandle" ∧ y.cls ≠ "java/lang/invoke/VarHandle" ∧ (parseMethodDescriptor y.desc).map (fun d => d.parameters.length) = some n) (hR : rm.frames + 1 ≤ R.frames ∧ 8 + (maxL + 11) + rm.locals ≤ R.locals) (hf : cells + rm.cells ≤ R.cells ∧ slots + rm.slots ≤ R.slots)
    (hc : vwCl[ci]? = some (C, T, N)) (hre : wc[q0]? = some (b, .inr (ci, fs))) (hC : isC.map (fun i => ws[i]?) = wc.map some) (hRr : isR.map (fun i => ws[i]?) = wr.map some) (hn1 : va_nd isC = true) (hn : va_nd isR = true) (hdis : ∀ i ∈ isR, i ∉ isC) (hroom : (rest.map fun v => v.category).sum ≤ 8) {st : List Value} (hst : st = As.reverse ++ .ref b :: rest) (hdg : decode cc pc = .ok (.invokevirtual index, 3))
    (kk : ∀ (r : Int32) (u : S) (H1 : Heap) (locs1 : List Loc), post r u → va_P G.1 vwCl (wr ++ out u) H1 → va_D A (wr ++ out u) → va_S A s.heap H1 locs1 → W p l e R s m args below meth c H1 locs1 (cells + rm.cells) (slots + rm.slots) Q (F0 m (pc + 3) ls (.int r :: rest))) : W p l e R s m args below meth c H locs cells slots Q (F0 m pc ls st) := by
  subst hst
  have hPc : va_P G.1 vwCl wc H := fun k q hk => by
    have h1 : (isC.map (fun i => ws[i]?))[k]? = some (some q) := by rw [hC, List.getElem?_map, hk]; rfl
    rw [List.getElem?_map] at h1
    cases hi : isC[k]? with
    | none => rw [hi] at h1; cases h1
    | some i => rw [hi] at h1; exact hP i q (Option.some.inj h1)
  have hDc := hD.sub (ws' := wc) isC hn1 hC
  have hFc := va_free (wc := wc) hD hS hA isC hC
  refine va_calli (va_runV (As := As) (rest := rest) F (hM H.size) (cwV n F.2.2.2.2 hg hwy rfl rfl hd hR) ⟨kPcz.blind, va_recv hK.1 hPc hc hre, fun U hU hW => ⟨rfl, by rw [hU], by rw [hU]; exact hPc, hK.warm hW, hDc.weaken (fun _ _ _ _ => trivial), by rw [hU]; exact ((hZ.kept hS.2.1).narrow hFc).warm hW⟩⟩ rfl hn9 hls rfl (lv_room hroom) hdg hf) hS (fun q _ h => hFc q h) hFc (fun r u t H1 locs1 ht hvm hw hB hz1 hk1 hS1 => ?_)
  obtain ⟨hP1, hD1⟩ := hB
  rw [ht] at hP1
  obtain ⟨hP2, hD2⟩ := va_join (wr := wr) (w1 := out u) hP hD isC isR hC hRr hn hdis hk1 hFc hP1 hD1
  exact kk r u H1 locs1 hw hP2 hD2 hS1
theorem kzUi {S : Type} {post : Int32 → S → Prop} {out : S → va_W} {y : MethodName} {bytes : ByteArray} {maxL index : Nat} {wsy ws' : List Cond} {rm : Room} {As : List Value} {wc wr : va_W} {rt : Option FieldType}
    (F : CallFix p m c cc nL s args Ts own) (hK : kK G s) (hP : va_P G.1 vwCl ws H) (hD : va_D A ws) (hS : va_S A s.heap H locs) (hA : ∀ q : Nat, s.heap.size ≤ q → A q) (hls : ls.size = nL) (j : Nat) (hj : j < 5) (hZ : kZ Z A s s.heap) (hM : kMz Z G l y wsy rm (.ref (Z.1 j) :: As) wc (kQi G post out)) (isC isR : List Nat)
    (hg : GoodIn Ts (wsV own index RJ0 y wsy)) (hwy : wsy = Cond.code y bytes maxL rt :: ws') (n : Nat) (hn9 : As.length = n) (hd : y.cls = RJ0 ∧ y.cls ≠ "java/lang/invoke/MethodHandle" ∧ y.cls ≠ "java/lang/invoke/VarHandle" ∧ (parseMethodDescriptor y.desc).map (fun d => d.parameters.length) = some n) (hR : rm.frames + 1 ≤ R.frames ∧ 8 + (maxL + 11) + rm.locals ≤ R.locals) (hf : cells + rm.cells ≤ R.cells ∧ slots + rm.slots ≤ R.slots)
    (hC : isC.map (fun i => ws[i]?) = wc.map some) (hRr : isR.map (fun i => ws[i]?) = wr.map some) (hn1 : va_nd isC = true) (hn : va_nd isR = true) (hdis : ∀ i ∈ isR, i ∉ isC) (hroom : (rest.map fun v => v.category).sum ≤ 8) {st : List Value} (hst : st = As.reverse ++ .ref (Z.1 j) :: rest) (hdg : decode cc pc = .ok (.invokevirtual index, 3))
    (kk : ∀ (r : Int32) (u : S) (H1 : Heap) (locs1 : List Loc), post r u → va_P G.1 vwCl (wr ++ out u) H1 → va_D A (wr ++ out u) → va_S A s.heap H1 locs1 → W p l e R s m args below meth c H1 locs1 (cells + rm.cells) (slots + rm.slots) Q (F0 m (pc + 3) ls (.int r :: rest))) : W p l e R s m args below meth c H locs cells slots Q (F0 m pc ls st) := by
  subst hst
  have hPc : va_P G.1 vwCl wc H := fun k q hk => by
    have h1 : (isC.map (fun i => ws[i]?))[k]? = some (some q) := by rw [hC, List.getElem?_map, hk]; rfl
    rw [List.getElem?_map] at h1
    cases hi : isC[k]? with
    | none => rw [hi] at h1; cases h1
    | some i => rw [hi] at h1; exact hP i q (Option.some.inj h1)
  have hDc := hD.sub (ws' := wc) isC hn1 hC
  have hFc := va_free (wc := wc) hD hS hA isC hC
  refine va_calli (va_runV (As := As) (rest := rest) F (hM H.size) (cwV n F.2.2.2.2 hg hwy rfl rfl hd hR) ⟨kPcz.blind, vk_recv hZ.2.2.1 hj hS, fun U hU hW => ⟨rfl, by rw [hU], by rw [hU]; exact hPc, hK.warm hW, hDc.weaken (fun _ _ _ _ => trivial), by rw [hU]; exact ((hZ.kept hS.2.1).narrow hFc).warm hW⟩⟩ rfl hn9 hls rfl (lv_room hroom) hdg hf) hS (fun q _ h => hFc q h) hFc (fun r u t H1 locs1 ht hvm hw hB hz1 hk1 hS1 => ?_)
  obtain ⟨hP1, hD1⟩ := hB
  rw [ht] at hP1
  obtain ⟨hP2, hD2⟩ := va_join (wr := wr) (w1 := out u) hP hD isC isR hC hRr hn hdis hk1 hFc hP1 hD1
  exact kk r u H1 locs1 hw hP2 hD2 hS1
theorem kzPUi {S : Type} {post : Int32 → S → Prop} {out : S → va_W} {y : MethodName} {bytes : ByteArray} {maxL index : Nat} {wsy ws' : List Cond} {rm : Room} {As : List Value} {rt : Option FieldType}
    (F : CallFix p m c cc nL s args Ts own) (hK : kK G s) (hP : va_P G.1 vwCl ws H) (hD : va_D A ws) (hS : va_S A s.heap H locs) (hA : ∀ q : Nat, s.heap.size ≤ q → A q) (hls : ls.size = nL) (j : Nat) (hj : j < 5) (hZ : kZ Z A s s.heap) (hM : kMz Z G l y wsy rm (.ref (Z.1 j) :: As) [] (kQi G post out)) (hout : ∀ u : S, out u = [])
    (hg : GoodIn Ts (wsV own index RJ0 y wsy)) (hwy : wsy = Cond.code y bytes maxL rt :: ws') (n : Nat) (hn9 : As.length = n) (hd : y.cls = RJ0 ∧ y.cls ≠ "java/lang/invoke/MethodHandle" ∧ y.cls ≠ "java/lang/invoke/VarHandle" ∧ (parseMethodDescriptor y.desc).map (fun d => d.parameters.length) = some n) (hR : rm.frames + 1 ≤ R.frames ∧ 8 + (maxL + 11) + rm.locals ≤ R.locals) (hf : cells + rm.cells ≤ R.cells ∧ slots + rm.slots ≤ R.slots)
    (hroom : (rest.map fun v => v.category).sum ≤ 8) {st : List Value} (hst : st = As.reverse ++ .ref (Z.1 j) :: rest) (hdg : decode cc pc = .ok (.invokevirtual index, 3))
    (kk : ∀ (r : Int32) (u : S) (H1 : Heap) (locs1 : List Loc), post r u → va_P G.1 vwCl ws H1 → va_D A ws → va_S A s.heap H1 locs1 → W p l e R s m args below meth c H1 locs1 (cells + rm.cells) (slots + rm.slots) Q (F0 m (pc + 3) ls (.int r :: rest))) : W p l e R s m args below meth c H locs cells slots Q (F0 m pc ls st) := by
  refine kzUi (wc := []) (wr := ws) F hK hP hD hS hA hls j hj hZ hM [] (List.range ws.length) hg hwy n hn9 hd hR hf rfl (k_rng ws) rfl (k_nd _ List.nodup_range) (fun _ _ h => by cases h) hroom hst hdg (fun r u H1 locs1 hp hP1 hD1 hS1 => ?_)
  rw [hout u, List.append_nil] at hP1 hD1
  exact kk r u H1 locs1 hp hP1 hD1 hS1
theorem kzSi {S : Type} {post : Int32 → S → Prop} {out : S → va_W} {y : MethodName} {bytes : ByteArray} {maxL index : Nat} {wsy ws' : List Cond} {rm : Room} {As : List Value} {wc wr : va_W} {rt : Option FieldType}
    (F : CallFix p m c cc nL s args Ts own) (hK : kK G s) (hP : va_P G.1 vwCl ws H) (hD : va_D A ws) (hS : va_S A s.heap H locs) (hA : ∀ q : Nat, s.heap.size ≤ q → A q) (hls : ls.size = nL) (hZ : kZ Z A s s.heap) (hM : kMz Z G l y wsy rm As wc (kQi G post out)) (isC isR : List Nat)
    (hg : GoodIn Ts (va_wsS own index y wsy)) (hwy : wsy = Cond.code y bytes maxL rt :: ws') (n : Nat) (hn9 : As.length = n) (hd : y.cls ≠ "java/lang/invoke/MethodHandle" ∧ y.cls ≠ "java/lang/invoke/VarHandle" ∧ (parseMethodDescriptor y.desc).map (fun d => d.parameters.length) = some n) (hR : rm.frames + 1 ≤ R.frames ∧ 8 + (maxL + 11) + rm.locals ≤ R.locals) (hf : cells + rm.cells ≤ R.cells ∧ slots + rm.slots ≤ R.slots)
    (hC : isC.map (fun i => ws[i]?) = wc.map some) (hRr : isR.map (fun i => ws[i]?) = wr.map some) (hn1 : va_nd isC = true) (hn : va_nd isR = true) (hdis : ∀ i ∈ isR, i ∉ isC) (hroom : (rest.map fun v => v.category).sum ≤ 8) {st : List Value} (hst : st = As.reverse ++ rest) (hdg : decode cc pc = .ok (.invokestatic index, 3))
    (kk : ∀ (r : Int32) (u : S) (H1 : Heap) (locs1 : List Loc), post r u → va_P G.1 vwCl (wr ++ out u) H1 → va_D A (wr ++ out u) → va_S A s.heap H1 locs1 → W p l e R s m args below meth c H1 locs1 (cells + rm.cells) (slots + rm.slots) Q (F0 m (pc + 3) ls (.int r :: rest))) : W p l e R s m args below meth c H locs cells slots Q (F0 m pc ls st) := by
  subst hst
  have hPc : va_P G.1 vwCl wc H := fun k q hk => by
    have h1 : (isC.map (fun i => ws[i]?))[k]? = some (some q) := by rw [hC, List.getElem?_map, hk]; rfl
    rw [List.getElem?_map] at h1
    cases hi : isC[k]? with
    | none => rw [hi] at h1; cases h1
    | some i => rw [hi] at h1; exact hP i q (Option.some.inj h1)
  have hDc := hD.sub (ws' := wc) isC hn1 hC
  have hFc := va_free (wc := wc) hD hS hA isC hC
  refine va_calli (va_runS (As := As) (rest := rest) F (hM H.size) (va_cwS n F.2.2.2.2 hg hwy rfl rfl hd hR) ⟨kPcz.blind, fun U hU hW => ⟨rfl, by rw [hU], by rw [hU]; exact hPc, hK.warm hW, hDc.weaken (fun _ _ _ _ => trivial), by rw [hU]; exact ((hZ.kept hS.2.1).narrow hFc).warm hW⟩⟩ rfl hn9 hls rfl (lv_room hroom) hdg hf) hS (fun q _ h => hFc q h) hFc (fun r u t H1 locs1 ht hvm hw hB hz1 hk1 hS1 => ?_)
  obtain ⟨hP1, hD1⟩ := hB
  rw [ht] at hP1
  obtain ⟨hP2, hD2⟩ := va_join (wr := wr) (w1 := out u) hP hD isC isR hC hRr hn hdis hk1 hFc hP1 hD1
  exact kk r u H1 locs1 hw hP2 hD2 hS1
theorem kzPSi {S : Type} {post : Int32 → S → Prop} {out : S → va_W} {y : MethodName} {bytes : ByteArray} {maxL index : Nat} {wsy ws' : List Cond} {rm : Room} {As : List Value} {rt : Option FieldType}
    (F : CallFix p m c cc nL s args Ts own) (hK : kK G s) (hP : va_P G.1 vwCl ws H) (hD : va_D A ws) (hS : va_S A s.heap H locs) (hA : ∀ q : Nat, s.heap.size ≤ q → A q) (hls : ls.size = nL) (hZ : kZ Z A s s.heap) (hM : kMz Z G l y wsy rm As [] (kQi G post out)) (hout : ∀ u : S, out u = [])
    (hg : GoodIn Ts (va_wsS own index y wsy)) (hwy : wsy = Cond.code y bytes maxL rt :: ws') (n : Nat) (hn9 : As.length = n) (hd : y.cls ≠ "java/lang/invoke/MethodHandle" ∧ y.cls ≠ "java/lang/invoke/VarHandle" ∧ (parseMethodDescriptor y.desc).map (fun d => d.parameters.length) = some n) (hR : rm.frames + 1 ≤ R.frames ∧ 8 + (maxL + 11) + rm.locals ≤ R.locals) (hf : cells + rm.cells ≤ R.cells ∧ slots + rm.slots ≤ R.slots)
    (hroom : (rest.map fun v => v.category).sum ≤ 8) {st : List Value} (hst : st = As.reverse ++ rest) (hdg : decode cc pc = .ok (.invokestatic index, 3))
    (kk : ∀ (r : Int32) (u : S) (H1 : Heap) (locs1 : List Loc), post r u → va_P G.1 vwCl ws H1 → va_D A ws → va_S A s.heap H1 locs1 → W p l e R s m args below meth c H1 locs1 (cells + rm.cells) (slots + rm.slots) Q (F0 m (pc + 3) ls (.int r :: rest))) : W p l e R s m args below meth c H locs cells slots Q (F0 m pc ls st) := by
  refine kzSi (wc := []) (wr := ws) F hK hP hD hS hA hls hZ hM [] (List.range ws.length) hg hwy n hn9 hd hR hf rfl (k_rng ws) rfl (k_nd _ List.nodup_range) (fun _ _ h => by cases h) hroom hst hdg (fun r u H1 locs1 hp hP1 hD1 hS1 => ?_)
  rw [hout u, List.append_nil] at hP1 hD1
  exact kk r u H1 locs1 hp hP1 hD1 hS1
theorem kzSv {S : Type} {post : S → Prop} {out : S → va_W} {y : MethodName} {bytes : ByteArray} {maxL index : Nat} {wsy ws' : List Cond} {rm : Room} {As : List Value} {wc wr : va_W}
    (F : CallFix p m c cc nL s args Ts own) (hK : kK G s) (hP : va_P G.1 vwCl ws H) (hD : va_D A ws) (hS : va_S A s.heap H locs) (hA : ∀ q : Nat, s.heap.size ≤ q → A q) (hls : ls.size = nL) (hZ : kZ Z A s s.heap) (hM : kMz Z G l y wsy rm As wc (kQv G post out)) (isC isR : List Nat)
    (hg : GoodIn Ts (va_wsS own index y wsy)) (hwy : wsy = Cond.code y bytes maxL none :: ws') (n : Nat) (hn9 : As.length = n) (hd : y.cls ≠ "java/lang/invoke/MethodHandle" ∧ y.cls ≠ "java/lang/invoke/VarHandle" ∧ (parseMethodDescriptor y.desc).map (fun d => d.parameters.length) = some n) (hR : rm.frames + 1 ≤ R.frames ∧ 8 + (maxL + 11) + rm.locals ≤ R.locals) (hf : cells + rm.cells ≤ R.cells ∧ slots + rm.slots ≤ R.slots)
    (hC : isC.map (fun i => ws[i]?) = wc.map some) (hRr : isR.map (fun i => ws[i]?) = wr.map some) (hn1 : va_nd isC = true) (hn : va_nd isR = true) (hdis : ∀ i ∈ isR, i ∉ isC) (hroom : (rest.map fun v => v.category).sum ≤ 8) {st : List Value} (hst : st = As.reverse ++ rest) (hdg : decode cc pc = .ok (.invokestatic index, 3))
    (kk : ∀ (u : S) (H1 : Heap) (locs1 : List Loc), post u → va_P G.1 vwCl (wr ++ out u) H1 → va_D A (wr ++ out u) → va_S A s.heap H1 locs1 → W p l e R s m args below meth c H1 locs1 (cells + rm.cells) (slots + rm.slots) Q (F0 m (pc + 3) ls (rest))) : W p l e R s m args below meth c H locs cells slots Q (F0 m pc ls st) := by
  subst hst
  have hPc : va_P G.1 vwCl wc H := fun k q hk => by
    have h1 : (isC.map (fun i => ws[i]?))[k]? = some (some q) := by rw [hC, List.getElem?_map, hk]; rfl
    rw [List.getElem?_map] at h1
    cases hi : isC[k]? with
    | none => rw [hi] at h1; cases h1
    | some i => rw [hi] at h1; exact hP i q (Option.some.inj h1)
  have hDc := hD.sub (ws' := wc) isC hn1 hC
  have hFc := va_free (wc := wc) hD hS hA isC hC
  refine va_callv (va_runS (As := As) (rest := rest) F (hM H.size) (va_cwS n F.2.2.2.2 hg hwy rfl rfl hd hR) ⟨kPcz.blind, fun U hU hW => ⟨rfl, by rw [hU], by rw [hU]; exact hPc, hK.warm hW, hDc.weaken (fun _ _ _ _ => trivial), by rw [hU]; exact ((hZ.kept hS.2.1).narrow hFc).warm hW⟩⟩ rfl hn9 hls rfl (lv_room hroom) hdg hf) hS (fun q _ h => hFc q h) hFc (fun u t H1 locs1 ht hvm hw hB hz1 hk1 hS1 => ?_)
  obtain ⟨hP1, hD1⟩ := hB
  rw [ht] at hP1
  obtain ⟨hP2, hD2⟩ := va_join (wr := wr) (w1 := out u) hP hD isC isR hC hRr hn hdis hk1 hFc hP1 hD1
  exact kk u H1 locs1 hw hP2 hD2 hS1
theorem kzPSv {S : Type} {post : S → Prop} {out : S → va_W} {y : MethodName} {bytes : ByteArray} {maxL index : Nat} {wsy ws' : List Cond} {rm : Room} {As : List Value}
    (F : CallFix p m c cc nL s args Ts own) (hK : kK G s) (hP : va_P G.1 vwCl ws H) (hD : va_D A ws) (hS : va_S A s.heap H locs) (hA : ∀ q : Nat, s.heap.size ≤ q → A q) (hls : ls.size = nL) (hZ : kZ Z A s s.heap) (hM : kMz Z G l y wsy rm As [] (kQv G post out)) (hout : ∀ u : S, out u = [])
    (hg : GoodIn Ts (va_wsS own index y wsy)) (hwy : wsy = Cond.code y bytes maxL none :: ws') (n : Nat) (hn9 : As.length = n) (hd : y.cls ≠ "java/lang/invoke/MethodHandle" ∧ y.cls ≠ "java/lang/invoke/VarHandle" ∧ (parseMethodDescriptor y.desc).map (fun d => d.parameters.length) = some n) (hR : rm.frames + 1 ≤ R.frames ∧ 8 + (maxL + 11) + rm.locals ≤ R.locals) (hf : cells + rm.cells ≤ R.cells ∧ slots + rm.slots ≤ R.slots)
    (hroom : (rest.map fun v => v.category).sum ≤ 8) {st : List Value} (hst : st = As.reverse ++ rest) (hdg : decode cc pc = .ok (.invokestatic index, 3))
    (kk : ∀ (u : S) (H1 : Heap) (locs1 : List Loc), post u → va_P G.1 vwCl ws H1 → va_D A ws → va_S A s.heap H1 locs1 → W p l e R s m args below meth c H1 locs1 (cells + rm.cells) (slots + rm.slots) Q (F0 m (pc + 3) ls (rest))) : W p l e R s m args below meth c H locs cells slots Q (F0 m pc ls st) := by
  refine kzSv (wc := []) (wr := ws) F hK hP hD hS hA hls hZ hM [] (List.range ws.length) hg hwy n hn9 hd hR hf rfl (k_rng ws) rfl (k_nd _ List.nodup_range) (fun _ _ h => by cases h) hroom hst hdg (fun u H1 locs1 hp hP1 hD1 hS1 => ?_)
  rw [hout u, List.append_nil] at hP1 hD1
  exact kk u H1 locs1 hp hP1 hD1 hS1
/-- the literals and the statics themselves -/
theorem kzlit (F : CallFix p m c cc nL s args Ts RX6) (hZ : kZ Z A s s.heap) (i : Nat) {index : Nat} {tx : String} (hi : kidx[i]? = some (index, tx)) (hdg : decode cc pc = .ok (.ldc index, 2))
    (kk : W p l e R s m args below meth c H locs cells slots Q (F0 m (pc + 2) ls (.ref (Z.1 i) :: rest))) : W p l e R s m args below meth c H locs cells slots Q (F0 m pc ls rest) :=
  va_ldcS F.1 F.2.1 F.2.2.2.1 (hZ.2.2.2.1 i _ hi) hdg kk
theorem kzcs (F : CallFix p m c cc nL s args Ts own) (hZ : kZ Z A s s.heap) (hS : va_S A s.heap H locs) {index : Nat} (hlink : Cond.fieldLink own index "java/lang/String" "COMPACT_STRINGS" "Z" ∈ Ts) (hdg : decode cc pc = .ok (.getstatic index, 3))
    (kk : W p l e R s m args below meth c H locs cells slots Q (F0 m (pc + 3) ls (.int 1 :: rest))) : W p l e R s m args below meth c H locs cells slots Q (F0 m pc ls rest) :=
  va_gets F.1 F.2.1 hZ.1 hS F.2.2.2.1 (F.2.2.2.2 _ hlink) (fun _ h => h) hdg kk
theorem kzsf (F : CallFix p m c cc nL s args Ts own) (hZ : kZ Z A s s.heap) (hS : va_S A s.heap H locs) {index : Nat} (hlink : Cond.fieldLink own index "jdk/internal/util/Preconditions" "SIOOBE_FORMATTER" "Ljava/util/function/BiFunction;" ∈ Ts) (hdg : decode cc pc = .ok (.getstatic index, 3))
    (k1 : W p l e R s m args below meth c H locs cells slots Q (F0 m (pc + 3) ls (.null :: rest))) (k2 : ∀ t : Nat, W p l e R s m args below meth c H locs cells slots Q (F0 m (pc + 3) ls (.ref t :: rest))) : W p l e R s m args below meth c H locs cells slots Q (F0 m pc ls rest) := by
  rcases hZ.2.1 with hq | ⟨t, hq⟩
  · exact va_gets F.1 F.2.1 hq hS F.2.2.2.1 (F.2.2.2.2 _ hlink) (fun _ h => h) hdg k1
  · exact va_gets F.1 F.2.1 hq hS F.2.2.2.1 (F.2.2.2.2 _ hlink) (fun _ h => h) hdg (k2 t)
theorem kzcod (F : CallFix p m c cc nL s args Ts own) (hZ : kZ Z A s s.heap) (hS : va_S A s.heap H locs) {i : Nat} (hi : i < 5) {index : Nat} (hlink : Cond.fieldLink own index "java/lang/String" "coder" "B" ∈ Ts) (hdg : decode cc pc = .ok (.getfield index, 3))
    (kk : W p l e R s m args below meth c H locs cells slots Q (F0 m (pc + 3) ls (.int 0 :: rest))) : W p l e R s m args below meth c H locs cells slots Q (F0 m pc ls (.ref (Z.1 i) :: rest)) :=
  vk_getf F.1 F.2.1 (hZ.2.2.1.1 i hi).2.1 hS F.2.2.2.1 (F.2.2.2.2 _ hlink) (fun _ h => h) hdg kk
theorem kzval (F : CallFix p m c cc nL s args Ts own) (hZ : kZ Z A s s.heap) (hS : va_S A s.heap H locs) {i : Nat} (hi : i < 5) {index : Nat} (hlink : Cond.fieldLink own index "java/lang/String" "value" "[B" ∈ Ts) (hdg : decode cc pc = .ok (.getfield index, 3))
    (kk : W p l e R s m args below meth c H locs cells slots Q (F0 m (pc + 3) ls (.ref (Z.2 i) :: rest))) : W p l e R s m args below meth c H locs cells slots Q (F0 m pc ls (.ref (Z.1 i) :: rest)) :=
  vk_getf F.1 F.2.1 (hZ.2.2.1.1 i hi).2.2.1 hS F.2.2.2.1 (F.2.2.2.2 _ hlink) (fun _ h => h) hdg kk
theorem kzlen (F : CallFix p m c cc nL s args Ts own) (hZ : kZ Z A s s.heap) (hS : va_S A s.heap H locs) {i : Nat} (hi : i < 5) (hdg : decode cc pc = .ok (.arraylength, 1))
    (kk : W p l e R s m args below meth c H locs cells slots Q (F0 m (pc + 1) ls (.int (nI (klen.getD i 0)) :: rest))) : W p l e R s m args below meth c H locs cells slots Q (F0 m pc ls (.ref (Z.2 i) :: rest)) :=
  va_tlen F.1 F.2.1 (hZ.2.2.1.1 i hi).2.2.2 hS rfl hdg kk
theorem klen_le : ∀ i, klen.getD i 0 ≤ 6 := by
  intro i
  match i with
  | 0 => decide
  | 1 => decide
  | 2 => decide
  | 3 => decide
  | 4 => decide
  | n + 5 => exact Nat.zero_le _
theorem kzbyt (F : CallFix p m c cc nL s args Ts own) (hZ : kZ Z A s s.heap) (hS : va_S A s.heap H locs) {i : Nat} (hi : i < 5) {k : Nat} (hk : k < klen.getD i 0) (hdg : decode cc pc = .ok (.baload, 1))
    (kk : W p l e R s m args below meth c H locs cells slots Q (F0 m (pc + 1) ls (.int ((kbyt.getD i []).getD k 0) :: rest))) : W p l e R s m args below meth c H locs cells slots Q (F0 m pc ls (.int (nI k) :: .ref (Z.2 i) :: rest)) := by
  have h6 := klen_le i
  exact va_tb F.1 F.2.1 (hZ.2.2.1.1 i hi).2.2.2 hS (vp_in_nI hk (by omega)) (by show Value.int _ = _; rw [nI_clamp (by omega)]) hdg kk
end KR
theorem kb_shr : ∀ i, i < 5 → nI (klen.getD i 0) >>> ((0 : Int32) &&& 31) = nI (klen.getD i 0) := by decide +kernel
theorem kb_c : ∀ i, i < 5 → ∀ k, k < klen.getD i 0 → ((((kbyt.getD i []).getD k 0) &&& 255).toUInt32 % 65536).toInt32 = (kbyt.getD i []).getD k 0 := by decide +kernel
theorem kb_n : ∀ i, i < 5 → ∀ k, k < klen.getD i 0 → narrow .char (.int ((kbyt.getD i []).getD k 0)) = .int ((kbyt.getD i []).getD k 0) := by
  have h : ∀ i, i < 5 → ∀ k, k < klen.getD i 0 → (kbyt.getD i []).getD k 0 ∈ ((List.range 128).map nI) := by decide +kernel
  have g : ∀ v ∈ ((List.range 128).map nI), narrow .char (.int v) = .int v := by decide +kernel
  exact fun i hi k hk => g _ (h i hi k hk)

