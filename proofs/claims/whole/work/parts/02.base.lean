/-! pictures of cells, contracts over them, one row for a call -/
abbrev kG : Type := va_G × ClassId × ClassId × ClassId × ClassId
abbrev kTys (G : kG) : List (ClassId × FieldType) := [(G.2.1, .int), (G.2.2.1, .boolean), (G.2.2.2.1, .object RX2), (G.2.2.2.2, .object RX7)]
def kNest : List (String × Nat × MethodName × String) := [(RX1, 19, yX8_mix, RX8), (RX2, 17, yX8_mix, RX8), (RX3, 58, yX8_mix, RX8), (RX3, 35, yX2_init, RX8), (RX4, 15, yX2_init, RX8), (RX0, 22, yX7_init, RX8), (RX0, 44, yX8_hasGroup, RX8), (RX0, 48, yX8_leastOf, RX8), (RX0, 75, yX8_shareOf, RX8), (RX0, 97, yX8_binderOf, RX8), (RX0, 153, yX8_keyOf, RX8), (RX0, 166, yX8_hasVersion, RX8), (RX0, 169, yX8_hasVersionAbove, RX8), (RX0, 172, yX8_isShare, RX8), (RX0, 181, yX8_mix, RX8), (RX5, 33, yX7_init, RX8), (RX5, 54, yX8_mix, RX8), (RX5, 115, yX8_greatestOf, RX8), (RX5, 134, yX8_binderOf, RX8), (RX5, 158, yX8_keyOf, RX8), (RX5, 169, yX8_isShare, RX8), (RX5, 173, yX8_shareOf, RX8), (RX5, 176, yX8_hasVersionAbove, RX8), (RX8, 9, yX0_init, RX8), (RX8, 35, yX2_init, RX8), (RX8, 50, yX6_init, RX8)]
def kNW (U : State) : Prop := ∀ q ∈ kNest, va_Nw (.methodLinkNest q.1 q.2.1 q.2.2.1 q.2.2.2) U
def kK (G : kG) (U : State) : Prop := va_K G.1 vwCl (kTys G) U ∧ kNW U
theorem kK.calling {G : kG} {U : State} {g : JFrame} {mk : MethodId} {a : Array Value} (h : kK G U) : kK G (U.calling g mk a) := ⟨va_K.moved (u := U) (U := U.calling g mk a) (Vm.Alike.refl U.vm) h.1, fun q hq => va_Nw.same rfl rfl (h.2 q hq)⟩
theorem kK.warm {G : kG} {s U : State} (hW : s.WarmedH U.vm) (h : kK G s) : kK G U := ⟨va_K.moved hW.alike h.1, fun q hq => va_Nw.warmM hW (h.2 q hq)⟩
theorem kK.nest {G : kG} {s : State} (h : kK G s) (i : Nat) {own : String} {idx : Nat} {y : MethodName} {host : String} (hi : kNest[i]? = some (own, idx, y, host)) : va_Nw (.methodLinkNest own idx y host) s := h.2 _ (List.mem_of_getElem? hi)
/-- a contract's start: the arguments, the cells, the tables -/
def kPc (G : kG) (av : List Value) (w : va_W) (sz : Nat) : Array Value → State → Prop := va_Pc av (fun U => U.heap.size = sz ∧ va_P G.1 vwCl w U.heap ∧ kK G U ∧ va_D (fun _ => True) w)
theorem kPc.blind {G : kG} {av : List Value} {w : va_W} {sz : Nat} : FrameBlind (kPc G av w sz) := by
  intro a U g mk q
  obtain ⟨q0, q1, qP, qK, qD⟩ := q
  exact ⟨q0, q1, qP, qK.calling, qD⟩
abbrev kQ : Type := (Nat → Prop) → Array Value → State → Outcome → State → Prop
def kQi {S : Type} (G : kG) (post : Int32 → S → Prop) (out : S → va_W) : kQ := fun A => va_Qi post (fun u t => va_P G.1 vwCl (out u) t.heap ∧ va_D A (out u)) A
def kQv {S : Type} (G : kG) (post : S → Prop) (out : S → va_W) : kQ := fun A => va_Qv post (fun u t => va_P G.1 vwCl (out u) t.heap ∧ va_D A (out u)) A
def kQr {S : Type} (G : kG) (post : S → Prop) (ad : S → Nat) (out : S → va_W) : kQ := fun A => va_Qr post (fun u a t => a = ad u ∧ va_P G.1 vwCl (out u) t.heap ∧ va_D A (out u)) A
/-- a contract -/
def kM (G : kG) (l : Launch) (y : MethodName) (ws : List Cond) (rm : Room) (av : List Value) (w : va_W) (QF : kQ) : Prop := ∀ sz : Nat, Met l y ws rm (kPc G av w sz) (QF (va_A w sz)) rm.cells rm.slots (va_A w sz)
theorem kStart {G : kG} {l : Launch} {y : MethodName} {ws ws' : List Cond} {rm : Room} {av : List Value} {w : va_W} {QF : kQ} {cc : ByteArray} {maxL : Nat} {ret : Option FieldType}
    (hy : plainName y.cls = true) (hw : ws = Cond.code y cc maxL ret :: ws') (hlen : (lg_sl av).length ≤ maxL)
    (body : ∀ (p : Program) (e : Env) (s : State) (m : MethodId) (below : List Frame) (meth : Method) (c : Code) (A : Nat → Prop) (ls : Array Slot), CallFix p m c cc maxL s av.toArray ws y.cls → meth.sig.returnType = ret → meth.locks = false → meth.name = y.name → kK G s → va_P G.1 vwCl w s.heap → va_D A w → (∀ q : Nat, s.heap.size ≤ q → A q) → va_S A s.heap s.heap [] → lv_has ls maxL (lv_args 0 av) →
      W p l e rm s m av.toArray below meth c s.heap [] 0 0 (MQ below (QF A) av.toArray s rm.cells rm.slots A) (F0 m 0 ls [])) : kM G l y ws rm av w QF := by
  intro sz
  refine Met.ofW (cc := cc) (maxL := maxL) (ret := ret) hy hw ?_
  intro p e s m args below meth c s₁ B hml hv
  obtain ⟨rfl, hsz, hP, hK, hD0⟩ := hv
  have hts := atoms_spec (ws := ws) B.pre
  have hown : s.vm.findClass y.cls = some m.cls := findClass_of_methodNamed B.named
  subst hsz
  have hl := lv_entry av (n := maxL) hlen
  rw [lg_entry_eq]
  exact body p e s m below meth c (va_A w s.heap.size) _ ⟨B.exec, B.bytes, hml, hown, hts⟩ B.returns B.notSynchronized (name_of_methodNamed B.named B.method).1 hK hP (hD0.self (sz := s.heap.size)) (fun q h => Or.inr h) va_S.rf hl
/-- cells of the class: the objects by what they hold (their refs, and their ints by the field's place), the arrays -/
def aI (G : kG) (a n : Nat) (f : Nat → Int32) : Nat × va_E := (a, .inl (G.2.1, n, .inl f))
def aZ (G : kG) (a n : Nat) (f : Nat → Int32) : Nat × va_E := (a, .inl (G.2.2.1, n, .inl f))
def aM (G : kG) (a n : Nat) (f : Nat → Option Nat) : Nat × va_E := (a, .inl (G.2.2.2.1, n, .inr (.inr (.inr (.inr f)))))
def aT (G : kG) (a n : Nat) (f : Nat → Option Nat) : Nat × va_E := (a, .inl (G.2.2.2.2, n, .inr (.inr (.inr (.inr f)))))
def oMs (h n : Nat) : Nat × va_E := (h, .inr (2, [.ref n]))
def oLa (h : Nat) (p : Nat → Int32) : Nat × va_E := (h, .inr (1, [.int (p 0), .int (p 1), .int (p 2)]))
def oTi (h : Nat) (p : Nat → Int32) : Nat × va_E := (h, .inr (7, [.int (p 0), .int (p 1), .int (p 2), .int (p 3), .int (p 4)]))
def oRo (h w : Nat) (p : Nat → Int32) : Nat × va_E := (h, .inr (4, [.ref w, .int (p 1), .int (p 2)]))
def oPe (h c s i o d : Nat) (p : Nat → Int32) : Nat × va_E := (h, .inr (3, [.int (p 0), .int (p 1), .int (p 2), .int (p 3), .int (p 4), .int (p 5), .int (p 6), .int (p 7), .int (p 8), .int (p 9), .int (p 10), .int (p 11), .int (p 12), .ref c, .ref s, .ref i, .ref o, .ref d]))
def oCl (h pe ti : Nat) (p : Nat → Int32) : Nat × va_E := (h, .inr (0, [.ref pe, .ref ti, .int (p 2), .int (p 3), .int (p 4), .int (p 5), .int (p 6), .int (p 7), .int (p 8)]))
def oSe (h pe ta sn sb : Nat) (p : Nat → Int32) : Nat × va_E := (h, .inr (5, [.ref pe, .ref ta, .int (p 2), .int (p 3), .ref sn, .ref sb, .int (p 6), .int (p 7), .int (p 8)]))
def oTx (h a0 a2 a3 a4 : Nat) (p : Nat → Int32) : Nat × va_E := (h, .inr (6, [.ref a0, .int (p 1), .ref a2, .ref a3, .ref a4, .int (p 5), .int (p 6), .int (p 7)]))
def oTo (h cl se rc rs ar co cd tx : Nat) (p : Nat → Int32) : Nat × va_E := (h, .inr (8, [.ref cl, .ref se, .ref rc, .ref rs, .ref ar, .ref co, .ref cd, .ref tx, .int (p 8)]))
/-- the reference's world: row r of σ is the array of field r, or at 0 its int -/
def su (σ : Nat → Nat → Int32) (r j : Nat) (v : Int32) : Nat → Nat → Int32 := va_up σ r (upd (σ r) j v)
def mW (G : kG) (h : Nat) (a : Nat → Nat) (σ : Nat → Nat → Int32) : va_W := [(h, .inr (9, [.ref (a 0), .ref (a 1), .ref (a 2), .ref (a 3), .ref (a 4), .ref (a 5), .ref (a 6), .ref (a 7), .ref (a 8), .ref (a 9), .ref (a 10), .ref (a 11), .int (σ 12 0), .int (σ 13 0), .int (σ 14 0), .ref (a 15), .int (σ 16 0), .int (σ 17 0), .int (σ 18 0), .int (σ 19 0), .int (σ 20 0), .int (σ 21 0), .ref (a 22), .int (σ 23 0), .ref (a 24), .ref (a 25), .ref (a 26), .ref (a 27), .ref (a 28), .ref (a 29), .int (σ 30 0), .int (σ 31 0), .int (σ 32 0), .ref (a 33), .ref (a 34), .ref (a 35), .int (σ 36 0), .int (σ 37 0), .int (σ 38 0), .int (σ 39 0), .int (σ 40 0), .int (σ 41 0), .ref (a 42)])), (a 0, .inl (G.2.1, 2, .inl (σ 0))), (a 1, .inl (G.2.1, 2, .inl (σ 1))), (a 2, .inl (G.2.1, 2, .inl (σ 2))), (a 3, .inl (G.2.1, 2, .inl (σ 3))), (a 4, .inl (G.2.1, 2, .inl (σ 4))), (a 5, .inl (G.2.1, 2, .inl (σ 5))), (a 6, .inl (G.2.1, 2, .inl (σ 6))), (a 7, .inl (G.2.1, 2, .inl (σ 7))), (a 8, .inl (G.2.1, 2, .inl (σ 8))), (a 9, .inl (G.2.1, 2, .inl (σ 9))), (a 10, .inl (G.2.1, 4, .inl (σ 10))), (a 11, .inl (G.2.1, 4, .inl (σ 11))), (a 15, .inl (G.2.1, 6, .inl (σ 15))), (a 22, .inl (G.2.1, 15, .inl (σ 22))), (a 24, .inl (G.2.1, 4, .inl (σ 24))), (a 25, .inl (G.2.1, 4, .inl (σ 25))), (a 26, .inl (G.2.1, 2, .inl (σ 26))), (a 27, .inl (G.2.1, 144, .inl (σ 27))), (a 28, .inl (G.2.1, 36, .inl (σ 28))), (a 29, .inl (G.2.1, 9, .inl (σ 29))), (a 33, .inl (G.2.1, 2, .inl (σ 33))), (a 34, .inl (G.2.1, 2, .inl (σ 34))), (a 35, .inl (G.2.1, 200, .inl (σ 35))), (a 42, .inl (G.2.2.1, 4, .inl (σ 42)))]
def kushr (x y : Int32) : Int32 := (x.toUInt32 >>> (y.toUInt32 &&& Int32.toUInt32 31)).toInt32
def krem (x y : Int32) : Int32 := x - x / y * y
def bI (b : Bool) : Int32 := if b then 1 else 0
theorem ksw (x : Int32) (lo hi : Int) : (x.toInt < lo ∨ hi < x.toInt) ∨ (¬ x.toInt < lo ∧ ¬ hi < x.toInt) := by omega
theorem kswE (x : Int32) (n : Int) {v : Int32} (hv : v.toInt = n) : x = v ∨ ¬ x.toInt = n := by
  by_cases h : x.toInt = n
  · exact Or.inl (Int32.toInt_inj.mp (h.trans hv.symm))
  · exact Or.inr h
theorem k_nd : ∀ l : List Nat, l.Nodup → va_nd l = true
  | [], _ => rfl
  | a :: l, h => by
    have h := List.nodup_cons.mp h
    simp [va_nd, h.1, k_nd l h.2]
theorem k_rng (ws : va_W) : (List.range ws.length).map (fun i => ws[i]?) = ws.map some := by
  apply List.ext_getElem?
  intro i
  simp only [List.getElem?_map]
  by_cases h : i < ws.length
  · simp [h]
  · simp [h]
section KR
variable {p : Program} {l : Launch} {e : Env} {R : Room} {s : State} {m : MethodId} {args : Array Value} {below : List Frame} {meth : Method} {c : Code} {H : Heap} {locs : List Loc} {cells slots : Nat} {Q : State → Prop}
variable {cc : ByteArray} {pc nL : Nat} {ls : Array Slot} {rest : List Value} {G : kG} {A : Nat → Prop} {ws : va_W} {Ts : List Cond} {own : String}
/-- the end of a method -/
theorem kRi {S : Type} {post : Int32 → S → Prop} {out : S → va_W} {v : Int32} (F : CallFix p m c cc nL s args Ts own) (hr : meth.sig.returnType = some .int) (hlocks : meth.locks = false) (hS : va_S A s.heap H locs) (hdg : decode cc pc = .ok (.ireturn, 1)) (u : S) (hp : post v u) (hP : va_P G.1 vwCl (out u) H) (hD : va_D A (out u)) : W p l e R s m args below meth c H locs cells slots (MQ below (kQi G post out A) args s cells slots A) (F0 m pc ls [.int v]) :=
  W.iret F.1 F.2.1 hr (fun _ ht _ => ⟨⟨v, u, rfl, hp, by rw [ht]; exact hP, hD⟩, hS.F ht⟩) hS.2.2 hdg hlocks
theorem kRz {S : Type} {post : Int32 → S → Prop} {out : S → va_W} {v : Int32} {ty : FieldType} (F : CallFix p m c cc nL s args Ts own) (hr : meth.sig.returnType = some ty) (hlocks : meth.locks = false) (hS : va_S A s.heap H locs) (hdg : decode cc pc = .ok (.ireturn, 1)) (hn : narrow ty (.int v) = .int v) (u : S) (hp : post v u) (hP : va_P G.1 vwCl (out u) H) (hD : va_D A (out u)) : W p l e R s m args below meth c H locs cells slots (MQ below (kQi G post out A) args s cells slots A) (F0 m pc ls [.int v]) :=
  W.zret F.1 F.2.1 hr hn (fun _ ht _ => ⟨⟨v, u, rfl, hp, by rw [ht]; exact hP, hD⟩, hS.F ht⟩) hS.2.2 hdg hlocks
theorem kRv {S : Type} {post : S → Prop} {out : S → va_W} (F : CallFix p m c cc nL s args Ts own) (hr : meth.sig.returnType = none) (hlocks : meth.locks = false) (hS : va_S A s.heap H locs) (hdg : decode cc pc = .ok (.return_, 1)) (u : S) (hp : post u) (hP : va_P G.1 vwCl (out u) H) (hD : va_D A (out u)) : W p l e R s m args below meth c H locs cells slots (MQ below (kQv G post out A) args s cells slots A) (F0 m pc ls []) :=
  W.vret F.1 F.2.1 hr (fun _ ht _ => ⟨⟨u, rfl, hp, by rw [ht]; exact hP, hD⟩, hS.F ht⟩) hS.2.2 hdg hlocks
theorem kRr {S : Type} {post : S → Prop} {ad : S → Nat} {out : S → va_W} {v : Nat} {C : String} (F : CallFix p m c cc nL s args Ts own) (hr : meth.sig.returnType = some (.object C)) (hlocks : meth.locks = false) (hS : va_S A s.heap H locs) (hdg : decode cc pc = .ok (.areturn, 1)) (u : S) (hp : post u) (ha : v = ad u) (hP : va_P G.1 vwCl (out u) H) (hD : va_D A (out u)) : W p l e R s m args below meth c H locs cells slots (MQ below (kQr G post ad out A) args s cells slots A) (F0 m pc ls [.ref v]) :=
  W.aret F.1 F.2.1 hr (Or.inl ⟨C, rfl⟩) (Or.inr ⟨v, rfl⟩) (fun _ ht _ => ⟨⟨u, v, rfl, hp, ha, by rw [ht]; exact hP, hD⟩, hS.F ht⟩) hS.2.2 hdg hlocks
/-- fields -/
theorem kget (F : CallFix p m c cc nL s args Ts own) (hK : kK G s) (hP : va_P G.1 vwCl ws H) {C : String} {T : u_T} {N : Nat} (ci q0 k : Nat) (hin : ∀ w ∈ u_ws C T N, w ∈ Ts) (hc : vwCl[ci]? = some (C, T, N)) {a index : Nat} {fs : List Value} (he : ws[q0]? = some (a, .inr (ci, fs))) (hk : k < N) (hlink : Cond.fieldLink own index (T k).1 (T k).2.1 (T k).2.2.1 ∈ Ts) {v : Value} (hv : fs[k]? = some v) (hdg : decode cc pc = .ok (.getfield index, 3))
    (kk : W p l e R s m args below meth c H locs cells slots Q (F0 m (pc + 3) ls (v :: rest))) : W p l e R s m args below meth c H locs cells slots Q (F0 m pc ls (.ref a :: rest)) :=
  va_get F.1 F.2.1 F.2.2.2.2 hin F.2.2.2.1 hK.1 hP q0 he hc k hk (F.2.2.2.2 _ hlink) (fun _ h => h) hv hdg kk
theorem kput (F : CallFix p m c cc nL s args Ts own) (hK : kK G s) (hP : va_P G.1 vwCl ws H) (hD : va_D A ws) (hS : va_S A s.heap H locs) {C : String} {T : u_T} {N : Nat} {ty0 : Nat → FieldType} (ci q0 k : Nat) (hin : ∀ w ∈ u_ws C T N, w ∈ Ts) (hc : vwCl[ci]? = some (C, T, N)) (hty : ∀ k, k < N → parseFieldDescriptor (T k).2.2.1 = some (ty0 k)) (hnm : ∀ a, a < N → ∀ b, b < N → a ≠ b → (T a).2.1 ≠ (T b).2.1) {a index : Nat} {fs : List Value} {v0 : Int32} (ob : (Nat → Int32) → va_W) (p0 : Nat → Int32) (he : ws[q0]? = some (a, .inr (ci, fs))) (hk : k < N) (hlink : Cond.fieldLink own index (T k).1 (T k).2.1 (T k).2.2.1 ∈ Ts) (hfin : (T k).2.2.2 = false) (hn : narrow (ty0 k) (.int v0) = .int v0) (hfit : fits (ty0 k) (.int v0) = true) (hl : k < fs.length)
    (hw : ws.set q0 (a, .inr (ci, fs.set k (.int v0))) = ob (upd p0 k v0)) (hdg : decode cc pc = .ok (.putfield index, 3)) (kk : ∀ (H1 : Heap) (locs1 : List Loc) (p1 : Nat → Int32), p1 = upd p0 k v0 → va_P G.1 vwCl (ob p1) H1 → va_D A (ob p1) → va_S A s.heap H1 locs1 → W p l e R s m args below meth c H1 locs1 cells slots Q (F0 m (pc + 3) ls rest)) : W p l e R s m args below meth c H locs cells slots Q (F0 m pc ls (.int v0 :: .ref a :: rest)) := by
  refine va_put F.1 F.2.1 F.2.2.2.2 hin ty0 hty hnm F.2.2.2.1 hK.1 hP hD hS q0 he hc k hk (F.2.2.2.2 _ hlink) (fun _ h => h) hfin (hty k hk) hn hfit hl hdg (fun H1 locs1 hP1 hD1 hS1 => ?_)
  rw [hw] at hP1 hD1
  exact kk H1 locs1 _ rfl hP1 hD1 hS1
/-- arrays -/
theorem k_in {i : Int32} {n : Nat} (k : Nat) (hi : i = nI k) (hk : k < n) (hn : n ≤ 2147483647) : vp_in i n ∧ i.toNatClampNeg = k := by
  subst hi
  exact ⟨vp_in_nI hk (by omega), nI_clamp (by omega)⟩
theorem kild (F : CallFix p m c cc nL s args Ts own) (hK : kK G s) (hP : va_P G.1 vwCl ws H) (q0 k : Nat) {a n : Nat} {f : Nat → Int32} (ha : ws[q0]? = some (a, .inl (G.2.1, n, .inl f))) {i : Int32} (hi : i = nI k) (hk : k < n) (hn : n ≤ 2147483647) (hdg : decode cc pc = .ok (.iaload, 1))
    (kk : W p l e R s m args below meth c H locs cells slots Q (F0 m (pc + 1) ls (.int (f k) :: rest))) : W p l e R s m args below meth c H locs cells slots Q (F0 m pc ls (.int i :: .ref a :: rest)) := by
  obtain ⟨h1, h2⟩ := k_in k hi hk hn
  refine va_iald F.1 F.2.1 hK.1 hP q0 0 ha rfl h1 hdg ?_
  rw [h2]
  exact kk
theorem kist (F : CallFix p m c cc nL s args Ts own) (hK : kK G s) (hP : va_P G.1 vwCl ws H) (hD : va_D A ws) (hS : va_S A s.heap H locs) (q0 k : Nat) (ob : (Nat → Int32) → va_W) {a n : Nat} {f : Nat → Int32} (ha : ws[q0]? = some (a, .inl (G.2.1, n, .inl f))) {i x : Int32} (hi : i = nI k) (hk : k < n) (hn : n ≤ 2147483647) (hw : ws.set q0 (a, .inl (G.2.1, n, .inl (upd f k x))) = ob (upd f k x)) (hdg : decode cc pc = .ok (.iastore, 1))
    (kk : ∀ (H1 : Heap) (locs1 : List Loc) (f1 : Nat → Int32), f1 = upd f k x → va_P G.1 vwCl (ob f1) H1 → va_D A (ob f1) → va_S A s.heap H1 locs1 → W p l e R s m args below meth c H1 locs1 cells slots Q (F0 m (pc + 1) ls rest)) : W p l e R s m args below meth c H locs cells slots Q (F0 m pc ls (.int x :: .int i :: .ref a :: rest)) := by
  obtain ⟨h1, h2⟩ := k_in k hi hk hn
  refine va_iast F.1 F.2.1 hK.1 hP hD hS q0 0 ha rfl h1 hdg (fun H1 locs1 hP1 hD1 hS1 => ?_)
  rw [h2, hw] at hP1 hD1
  exact kk H1 locs1 _ rfl hP1 hD1 hS1
theorem kzld (F : CallFix p m c cc nL s args Ts own) (hK : kK G s) (hP : va_P G.1 vwCl ws H) (q0 k : Nat) {a n : Nat} {f : Nat → Int32} (ha : ws[q0]? = some (a, .inl (G.2.2.1, n, .inl f))) {i : Int32} (hi : i = nI k) (hk : k < n) (hn : n ≤ 2147483647) (hdg : decode cc pc = .ok (.baload, 1))
    (kk : W p l e R s m args below meth c H locs cells slots Q (F0 m (pc + 1) ls (.int (f k) :: rest))) : W p l e R s m args below meth c H locs cells slots Q (F0 m pc ls (.int i :: .ref a :: rest)) := by
  obtain ⟨h1, h2⟩ := k_in k hi hk hn
  refine va_zald F.1 F.2.1 hK.1 hP q0 1 ha rfl h1 hdg ?_
  rw [h2]
  exact kk
theorem kzst (F : CallFix p m c cc nL s args Ts own) (hK : kK G s) (hP : va_P G.1 vwCl ws H) (hD : va_D A ws) (hS : va_S A s.heap H locs) (q0 k : Nat) (ob : (Nat → Int32) → va_W) {a n : Nat} {f : Nat → Int32} (ha : ws[q0]? = some (a, .inl (G.2.2.1, n, .inl f))) {i x : Int32} (hi : i = nI k) (hk : k < n) (hn : n ≤ 2147483647) (hx : vp_nar .boolean x = x) (hw : ws.set q0 (a, .inl (G.2.2.1, n, .inl (upd f k x))) = ob (upd f k x)) (hdg : decode cc pc = .ok (.bastore, 1))
    (kk : ∀ (H1 : Heap) (locs1 : List Loc) (f1 : Nat → Int32), f1 = upd f k x → va_P G.1 vwCl (ob f1) H1 → va_D A (ob f1) → va_S A s.heap H1 locs1 → W p l e R s m args below meth c H1 locs1 cells slots Q (F0 m (pc + 1) ls rest)) : W p l e R s m args below meth c H locs cells slots Q (F0 m pc ls (.int x :: .int i :: .ref a :: rest)) := by
  obtain ⟨h1, h2⟩ := k_in k hi hk hn
  refine va_zast F.1 F.2.1 hK.1 hP hD hS q0 1 ha rfl h1 hdg (fun H1 locs1 hP1 hD1 hS1 => ?_)
  rw [h2, hx, hw] at hP1 hD1
  exact kk H1 locs1 _ rfl hP1 hD1 hS1
theorem kald (F : CallFix p m c cc nL s args Ts own) (hK : kK G s) (hP : va_P G.1 vwCl ws H) (q0 t0 k : Nat) {cA : ClassId} {C : String} {a n x : Nat} {f : Nat → Option Nat} (ha : ws[q0]? = some (a, .inl (cA, n, .inr (.inr (.inr (.inr f)))))) (ht : (kTys G)[t0]? = some (cA, .object C)) {i : Int32} (hi : i = nI k) (hk : k < n) (hn : n ≤ 2147483647) (hx : f k = some x) (hdg : decode cc pc = .ok (.aaload, 1))
    (kk : W p l e R s m args below meth c H locs cells slots Q (F0 m (pc + 1) ls (.ref x :: rest))) : W p l e R s m args below meth c H locs cells slots Q (F0 m pc ls (.int i :: .ref a :: rest)) := by
  obtain ⟨h1, h2⟩ := k_in k hi hk hn
  refine va_aldq F.1 F.2.1 hK.1 hP q0 t0 ha ht h1 hdg ?_
  rw [h2, hx]
  exact kk
theorem kast (F : CallFix p m c cc nL s args Ts own) (hK : kK G s) (hP : va_P G.1 vwCl ws H) (hD : va_D A ws) (hS : va_S A s.heap H locs) (q0 t0 qk ci k : Nat) (ob : (Nat → Option Nat) → va_W) {cA : ClassId} {r : vw_C} {a n v : Nat} {vs : List Value} {f : Nat → Option Nat} (ha : ws[q0]? = some (a, .inl (cA, n, .inr (.inr (.inr (.inr f)))))) (ht : (kTys G)[t0]? = some (cA, .object r.1)) (hv : ws[qk]? = some (v, .inr (ci, vs))) (hc : vwCl[ci]? = some r) {i : Int32} (hi : i = nI k) (hk : k < n) (hn : n ≤ 2147483647) (hw : ws.set q0 (a, .inl (cA, n, .inr (.inr (.inr (.inr (va_up f k (some v))))))) = ob (va_up f k (some v))) (hdg : decode cc pc = .ok (.aastore, 1))
    (kk : ∀ (H1 : Heap) (locs1 : List Loc) (f1 : Nat → Option Nat), f1 = va_up f k (some v) → va_P G.1 vwCl (ob f1) H1 → va_D A (ob f1) → va_S A s.heap H1 locs1 → W p l e R s m args below meth c H1 locs1 cells slots Q (F0 m (pc + 1) ls rest)) : W p l e R s m args below meth c H locs cells slots Q (F0 m pc ls (.ref v :: .int i :: .ref a :: rest)) := by
  obtain ⟨h1, h2⟩ := k_in k hi hk hn
  refine va_astq F.1 F.2.1 hK.1 hP hD hS q0 t0 qk ci ha ht hv hc h1 hdg (fun H1 locs1 hP1 hD1 hS1 => ?_)
  rw [h2, hw] at hP1 hD1
  exact kk H1 locs1 _ rfl hP1 hD1 hS1
/-- the reference's fields and arrays -/
theorem kMput (F : CallFix p m c cc nL s args Ts own) (hK : kK G s) {h : Nat} {ad : Nat → Nat} {σ : Nat → Nat → Int32} (hP : va_P G.1 vwCl (mW G h ad σ) H) (hD : va_D A (mW G h ad σ)) (hS : va_S A s.heap H locs) (k : Nat) (hin : ∀ w ∈ u_ws RX9 TX9 43, w ∈ Ts) {index : Nat} {fs : List Value} {v0 : Int32} (he : (mW G h ad σ)[0]? = some (h, .inr (9, fs))) (hk : k < 43) (hlink : Cond.fieldLink own index (TX9 k).1 (TX9 k).2.1 (TX9 k).2.2.1 ∈ Ts) (hfin : (TX9 k).2.2.2 = false) (hn : narrow (tyX9 k) (.int v0) = .int v0) (hfit : fits (tyX9 k) (.int v0) = true) (hl : k < fs.length)
    (hw : (mW G h ad σ).set 0 (h, .inr (9, fs.set k (.int v0))) = mW G h ad (su σ k 0 v0)) (hdg : decode cc pc = .ok (.putfield index, 3)) (kk : ∀ (H1 : Heap) (locs1 : List Loc) (σ1 : Nat → Nat → Int32), σ1 = su σ k 0 v0 → va_P G.1 vwCl (mW G h ad σ1) H1 → va_D A (mW G h ad σ1) → va_S A s.heap H1 locs1 → W p l e R s m args below meth c H1 locs1 cells slots Q (F0 m (pc + 3) ls rest)) : W p l e R s m args below meth c H locs cells slots Q (F0 m pc ls (.int v0 :: .ref h :: rest)) := by
  refine va_put F.1 F.2.1 F.2.2.2.2 hin tyX9 tyX9_ok nmX9 F.2.2.2.1 hK.1 hP hD hS 0 he (show vwCl[9]? = some (RX9, TX9, 43) from rfl) k hk (F.2.2.2.2 _ hlink) (fun _ h => h) hfin (tyX9_ok k hk) hn hfit hl hdg (fun H1 locs1 hP1 hD1 hS1 => ?_)
  rw [hw] at hP1 hD1
  exact kk H1 locs1 _ rfl hP1 hD1 hS1
theorem kMst (F : CallFix p m c cc nL s args Ts own) (hK : kK G s) {h : Nat} {ad : Nat → Nat} {σ : Nat → Nat → Int32} (hP : va_P G.1 vwCl (mW G h ad σ) H) (hD : va_D A (mW G h ad σ)) (hS : va_S A s.heap H locs) (r q0 k : Nat) {n : Nat} (ha : (mW G h ad σ)[q0]? = some (ad r, .inl (G.2.1, n, .inl (σ r)))) {i x : Int32} (hi : i = nI k) (hk : k < n) (hn : n ≤ 2147483647) (hw : (mW G h ad σ).set q0 (ad r, .inl (G.2.1, n, .inl (upd (σ r) k x))) = mW G h ad (su σ r k x)) (hdg : decode cc pc = .ok (.iastore, 1))
    (kk : ∀ (H1 : Heap) (locs1 : List Loc) (σ1 : Nat → Nat → Int32), σ1 = su σ r k x → va_P G.1 vwCl (mW G h ad σ1) H1 → va_D A (mW G h ad σ1) → va_S A s.heap H1 locs1 → W p l e R s m args below meth c H1 locs1 cells slots Q (F0 m (pc + 1) ls rest)) : W p l e R s m args below meth c H locs cells slots Q (F0 m pc ls (.int x :: .int i :: .ref (ad r) :: rest)) := by
  obtain ⟨h1, h2⟩ := k_in k hi hk hn
  refine va_iast F.1 F.2.1 hK.1 hP hD hS q0 0 ha rfl h1 hdg (fun H1 locs1 hP1 hD1 hS1 => ?_)
  rw [h2, hw] at hP1 hD1
  exact kk H1 locs1 _ rfl hP1 hD1 hS1
theorem kMzst (F : CallFix p m c cc nL s args Ts own) (hK : kK G s) {h : Nat} {ad : Nat → Nat} {σ : Nat → Nat → Int32} (hP : va_P G.1 vwCl (mW G h ad σ) H) (hD : va_D A (mW G h ad σ)) (hS : va_S A s.heap H locs) (r q0 k : Nat) {n : Nat} (ha : (mW G h ad σ)[q0]? = some (ad r, .inl (G.2.2.1, n, .inl (σ r)))) {i x : Int32} (hi : i = nI k) (hk : k < n) (hn : n ≤ 2147483647) (hx : vp_nar .boolean x = x) (hw : (mW G h ad σ).set q0 (ad r, .inl (G.2.2.1, n, .inl (upd (σ r) k x))) = mW G h ad (su σ r k x)) (hdg : decode cc pc = .ok (.bastore, 1))
    (kk : ∀ (H1 : Heap) (locs1 : List Loc) (σ1 : Nat → Nat → Int32), σ1 = su σ r k x → va_P G.1 vwCl (mW G h ad σ1) H1 → va_D A (mW G h ad σ1) → va_S A s.heap H1 locs1 → W p l e R s m args below meth c H1 locs1 cells slots Q (F0 m (pc + 1) ls rest)) : W p l e R s m args below meth c H locs cells slots Q (F0 m pc ls (.int x :: .int i :: .ref (ad r) :: rest)) := by
  obtain ⟨h1, h2⟩ := k_in k hi hk hn
  refine va_zast F.1 F.2.1 hK.1 hP hD hS q0 1 ha rfl h1 hdg (fun H1 locs1 hP1 hD1 hS1 => ?_)
  rw [h2, hx, hw] at hP1 hD1
  exact kk H1 locs1 _ rfl hP1 hD1 hS1
/-- calls: the callee's contract, the cells cut out and joined -/
theorem kVi {S : Type} {post : Int32 → S → Prop} {out : S → va_W} {y : MethodName} {bytes : ByteArray} {maxL index : Nat} {wsy ws' : List Cond} {rm : Room} {b : Nat} {As : List Value} {wc wr : va_W} {C : String} {T : u_T} {N : Nat} {fs : List Value} {rt : Option FieldType}
    (F : CallFix p m c cc nL s args Ts own) (hK : kK G s) (hP : va_P G.1 vwCl ws H) (hD : va_D A ws) (hS : va_S A s.heap H locs) (hA : ∀ q : Nat, s.heap.size ≤ q → A q) (hls : ls.size = nL) (hM : kM G l y wsy rm (.ref b :: As) wc (kQi G post out)) (isC isR : List Nat)
    (ci q0 : Nat) (hg : GoodIn Ts (wsV own index C y wsy)) (hwy : wsy = Cond.code y bytes maxL rt :: ws') (n : Nat) (hn9 : As.length = n) (hd : y.cls = C ∧ y.cls ≠ "java/lang/invoke/MethodHandle" ∧ y.cls ≠ "java/lang/invoke/VarHandle" ∧ (parseMethodDescriptor y.desc).map (fun d => d.parameters.length) = some n) (hR : rm.frames + 1 ≤ R.frames ∧ 8 + (maxL + 11) + rm.locals ≤ R.locals) (hf : cells + rm.cells ≤ R.cells ∧ slots + rm.slots ≤ R.slots)
    (hc : vwCl[ci]? = some (C, T, N)) (hre : wc[q0]? = some (b, .inr (ci, fs))) (hC : isC.map (fun i => ws[i]?) = wc.map some) (hRr : isR.map (fun i => ws[i]?) = wr.map some) (hn1 : va_nd isC = true) (hn : va_nd isR = true) (hdis : ∀ i ∈ isR, i ∉ isC) (hroom : (rest.map fun v => v.category).sum ≤ 8) {st : List Value} (hst : st = As.reverse ++ .ref b :: rest) (hdg : decode cc pc = .ok (.invokevirtual index, 3))
    (kk : ∀ (r : Int32) (u : S) (H1 : Heap) (locs1 : List Loc), post r u → va_P G.1 vwCl (wr ++ out u) H1 → va_D A (wr ++ out u) → va_S A s.heap H1 locs1 → W p l e R s m args below meth c H1 locs1 (cells + rm.cells) (slots + rm.slots) Q (F0 m (pc + 3) ls (.int r :: rest))) : W p l e R s m args below meth c H locs cells slots Q (F0 m pc ls st) := by
  subst hst
  have hPc : va_P G.1 vwCl wc H := fun k q hk => by
    have h1 : (isC.map (fun i => ws[i]?))[k]? = some (some q) := by rw [hC, List.getElem?_map, hk]; rfl
    rw [List.getElem?_map] at h1
    cases hi : isC[k]? with
    | none => rw [hi] at h1; cases h1
    | some i => rw [hi] at h1; exact hP i q (Option.some.inj h1)
  have hDc := hD.sub (ws' := wc) isC hn1 hC
  have hFc := va_free (wc := wc) hD hS hA isC hC
  refine va_calli (va_runV (As := As) (rest := rest) F (hM H.size) (cwV n F.2.2.2.2 hg hwy rfl rfl hd hR) ⟨kPc.blind, va_recv hK.1 hPc hc hre, fun U hU hW => ⟨rfl, by rw [hU], by rw [hU]; exact hPc, hK.warm hW, hDc.weaken (fun _ _ _ _ => trivial)⟩⟩ rfl hn9 hls rfl (lv_room hroom) hdg hf) hS (fun q _ h => hFc q h) hFc (fun r u t H1 locs1 ht hvm hw hB hz1 hk1 hS1 => ?_)
  obtain ⟨hP1, hD1⟩ := hB
  rw [ht] at hP1
  obtain ⟨hP2, hD2⟩ := va_join (wr := wr) (w1 := out u) hP hD isC isR hC hRr hn hdis hk1 hFc hP1 hD1
  exact kk r u H1 locs1 hw hP2 hD2 hS1
theorem kVv {S : Type} {post : S → Prop} {out : S → va_W} {y : MethodName} {bytes : ByteArray} {maxL index : Nat} {wsy ws' : List Cond} {rm : Room} {b : Nat} {As : List Value} {wc wr : va_W} {C : String} {T : u_T} {N : Nat} {fs : List Value}
    (F : CallFix p m c cc nL s args Ts own) (hK : kK G s) (hP : va_P G.1 vwCl ws H) (hD : va_D A ws) (hS : va_S A s.heap H locs) (hA : ∀ q : Nat, s.heap.size ≤ q → A q) (hls : ls.size = nL) (hM : kM G l y wsy rm (.ref b :: As) wc (kQv G post out)) (isC isR : List Nat)
    (ci q0 : Nat) (hg : GoodIn Ts (wsV own index C y wsy)) (hwy : wsy = Cond.code y bytes maxL none :: ws') (n : Nat) (hn9 : As.length = n) (hd : y.cls = C ∧ y.cls ≠ "java/lang/invoke/MethodHandle" ∧ y.cls ≠ "java/lang/invoke/VarHandle" ∧ (parseMethodDescriptor y.desc).map (fun d => d.parameters.length) = some n) (hR : rm.frames + 1 ≤ R.frames ∧ 8 + (maxL + 11) + rm.locals ≤ R.locals) (hf : cells + rm.cells ≤ R.cells ∧ slots + rm.slots ≤ R.slots)
    (hc : vwCl[ci]? = some (C, T, N)) (hre : wc[q0]? = some (b, .inr (ci, fs))) (hC : isC.map (fun i => ws[i]?) = wc.map some) (hRr : isR.map (fun i => ws[i]?) = wr.map some) (hn1 : va_nd isC = true) (hn : va_nd isR = true) (hdis : ∀ i ∈ isR, i ∉ isC) (hroom : (rest.map fun v => v.category).sum ≤ 8) {st : List Value} (hst : st = As.reverse ++ .ref b :: rest) (hdg : decode cc pc = .ok (.invokevirtual index, 3))
    (kk : ∀ (u : S) (H1 : Heap) (locs1 : List Loc), post u → va_P G.1 vwCl (wr ++ out u) H1 → va_D A (wr ++ out u) → va_S A s.heap H1 locs1 → W p l e R s m args below meth c H1 locs1 (cells + rm.cells) (slots + rm.slots) Q (F0 m (pc + 3) ls (rest))) : W p l e R s m args below meth c H locs cells slots Q (F0 m pc ls st) := by
  subst hst
  have hPc : va_P G.1 vwCl wc H := fun k q hk => by
    have h1 : (isC.map (fun i => ws[i]?))[k]? = some (some q) := by rw [hC, List.getElem?_map, hk]; rfl
    rw [List.getElem?_map] at h1
    cases hi : isC[k]? with
    | none => rw [hi] at h1; cases h1
    | some i => rw [hi] at h1; exact hP i q (Option.some.inj h1)
  have hDc := hD.sub (ws' := wc) isC hn1 hC
  have hFc := va_free (wc := wc) hD hS hA isC hC
  refine va_callv (va_runV (As := As) (rest := rest) F (hM H.size) (cwV n F.2.2.2.2 hg hwy rfl rfl hd hR) ⟨kPc.blind, va_recv hK.1 hPc hc hre, fun U hU hW => ⟨rfl, by rw [hU], by rw [hU]; exact hPc, hK.warm hW, hDc.weaken (fun _ _ _ _ => trivial)⟩⟩ rfl hn9 hls rfl (lv_room hroom) hdg hf) hS (fun q _ h => hFc q h) hFc (fun u t H1 locs1 ht hvm hw hB hz1 hk1 hS1 => ?_)
  obtain ⟨hP1, hD1⟩ := hB
  rw [ht] at hP1
  obtain ⟨hP2, hD2⟩ := va_join (wr := wr) (w1 := out u) hP hD isC isR hC hRr hn hdis hk1 hFc hP1 hD1
  exact kk u H1 locs1 hw hP2 hD2 hS1
theorem kVr {S : Type} {post : S → Prop} {ad : S → Nat} {out : S → va_W} {y : MethodName} {bytes : ByteArray} {maxL index : Nat} {wsy ws' : List Cond} {rm : Room} {b : Nat} {As : List Value} {wc wr : va_W} {C : String} {T : u_T} {N : Nat} {fs : List Value} {rt : Option FieldType}
    (F : CallFix p m c cc nL s args Ts own) (hK : kK G s) (hP : va_P G.1 vwCl ws H) (hD : va_D A ws) (hS : va_S A s.heap H locs) (hA : ∀ q : Nat, s.heap.size ≤ q → A q) (hls : ls.size = nL) (hM : kM G l y wsy rm (.ref b :: As) wc (kQr G post ad out)) (isC isR : List Nat)
    (ci q0 : Nat) (hg : GoodIn Ts (wsV own index C y wsy)) (hwy : wsy = Cond.code y bytes maxL rt :: ws') (n : Nat) (hn9 : As.length = n) (hd : y.cls = C ∧ y.cls ≠ "java/lang/invoke/MethodHandle" ∧ y.cls ≠ "java/lang/invoke/VarHandle" ∧ (parseMethodDescriptor y.desc).map (fun d => d.parameters.length) = some n) (hR : rm.frames + 1 ≤ R.frames ∧ 8 + (maxL + 11) + rm.locals ≤ R.locals) (hf : cells + rm.cells ≤ R.cells ∧ slots + rm.slots ≤ R.slots)
    (hc : vwCl[ci]? = some (C, T, N)) (hre : wc[q0]? = some (b, .inr (ci, fs))) (hC : isC.map (fun i => ws[i]?) = wc.map some) (hRr : isR.map (fun i => ws[i]?) = wr.map some) (hn1 : va_nd isC = true) (hn : va_nd isR = true) (hdis : ∀ i ∈ isR, i ∉ isC) (hroom : (rest.map fun v => v.category).sum ≤ 8) {st : List Value} (hst : st = As.reverse ++ .ref b :: rest) (hdg : decode cc pc = .ok (.invokevirtual index, 3))
    (kk : ∀ (u : S) (H1 : Heap) (locs1 : List Loc), post u → va_P G.1 vwCl (wr ++ out u) H1 → va_D A (wr ++ out u) → va_S A s.heap H1 locs1 → W p l e R s m args below meth c H1 locs1 (cells + rm.cells) (slots + rm.slots) Q (F0 m (pc + 3) ls (.ref (ad u) :: rest))) : W p l e R s m args below meth c H locs cells slots Q (F0 m pc ls st) := by
  subst hst
  have hPc : va_P G.1 vwCl wc H := fun k q hk => by
    have h1 : (isC.map (fun i => ws[i]?))[k]? = some (some q) := by rw [hC, List.getElem?_map, hk]; rfl
    rw [List.getElem?_map] at h1
    cases hi : isC[k]? with
    | none => rw [hi] at h1; cases h1
    | some i => rw [hi] at h1; exact hP i q (Option.some.inj h1)
  have hDc := hD.sub (ws' := wc) isC hn1 hC
  have hFc := va_free (wc := wc) hD hS hA isC hC
  refine va_callr (va_runV (As := As) (rest := rest) F (hM H.size) (cwV n F.2.2.2.2 hg hwy rfl rfl hd hR) ⟨kPc.blind, va_recv hK.1 hPc hc hre, fun U hU hW => ⟨rfl, by rw [hU], by rw [hU]; exact hPc, hK.warm hW, hDc.weaken (fun _ _ _ _ => trivial)⟩⟩ rfl hn9 hls rfl (lv_room hroom) hdg hf) hS (fun q _ h => hFc q h) hFc (fun u ra t H1 locs1 ht hvm hw hB hz1 hk1 hS1 => ?_)
  obtain ⟨rfl, hP1, hD1⟩ := hB
  rw [ht] at hP1
  obtain ⟨hP2, hD2⟩ := va_join (wr := wr) (w1 := out u) hP hD isC isR hC hRr hn hdis hk1 hFc hP1 hD1
  exact kk u H1 locs1 hw hP2 hD2 hS1
theorem kSi {S : Type} {post : Int32 → S → Prop} {out : S → va_W} {y : MethodName} {bytes : ByteArray} {maxL index : Nat} {wsy ws' : List Cond} {rm : Room} {As : List Value} {wc wr : va_W} {rt : Option FieldType}
    (F : CallFix p m c cc nL s args Ts own) (hK : kK G s) (hP : va_P G.1 vwCl ws H) (hD : va_D A ws) (hS : va_S A s.heap H locs) (hA : ∀ q : Nat, s.heap.size ≤ q → A q) (hls : ls.size = nL) (hM : kM G l y wsy rm As wc (kQi G post out)) (isC isR : List Nat)
    (hg : GoodIn Ts (va_wsS own index y wsy)) (hwy : wsy = Cond.code y bytes maxL rt :: ws') (n : Nat) (hn9 : As.length = n) (hd : y.cls ≠ "java/lang/invoke/MethodHandle" ∧ y.cls ≠ "java/lang/invoke/VarHandle" ∧ (parseMethodDescriptor y.desc).map (fun d => d.parameters.length) = some n) (hR : rm.frames + 1 ≤ R.frames ∧ 8 + (maxL + 11) + rm.locals ≤ R.locals) (hf : cells + rm.cells ≤ R.cells ∧ slots + rm.slots ≤ R.slots)
    (hC : isC.map (fun i => ws[i]?) = wc.map some) (hRr : isR.map (fun i => ws[i]?) = wr.map some) (hn1 : va_nd isC = true) (hn : va_nd isR = true) (hdis : ∀ i ∈ isR, i ∉ isC) (hroom : (rest.map fun v => v.category).sum ≤ 8) {st : List Value} (hst : st = As.reverse ++ rest) (hdg : decode cc pc = .ok (.invokestatic index, 3))
    (kk : ∀ (r : Int32) (u : S) (H1 : Heap) (locs1 : List Loc), post r u → va_P G.1 vwCl (wr ++ out u) H1 → va_D A (wr ++ out u) → va_S A s.heap H1 locs1 → W p l e R s m args below meth c H1 locs1 (cells + rm.cells) (slots + rm.slots) Q (F0 m (pc + 3) ls (.int r :: rest))) : W p l e R s m args below meth c H locs cells slots Q (F0 m pc ls st) := by
  subst hst
  have hPc : va_P G.1 vwCl wc H := fun k q hk => by
    have h1 : (isC.map (fun i => ws[i]?))[k]? = some (some q) := by rw [hC, List.getElem?_map, hk]; rfl
    rw [List.getElem?_map] at h1
    cases hi : isC[k]? with
    | none => rw [hi] at h1; cases h1
    | some i => rw [hi] at h1; exact hP i q (Option.some.inj h1)
  have hDc := hD.sub (ws' := wc) isC hn1 hC
  have hFc := va_free (wc := wc) hD hS hA isC hC
  refine va_calli (va_runS (As := As) (rest := rest) F (hM H.size) (va_cwS n F.2.2.2.2 hg hwy rfl rfl hd hR) ⟨kPc.blind, fun U hU hW => ⟨rfl, by rw [hU], by rw [hU]; exact hPc, hK.warm hW, hDc.weaken (fun _ _ _ _ => trivial)⟩⟩ rfl hn9 hls rfl (lv_room hroom) hdg hf) hS (fun q _ h => hFc q h) hFc (fun r u t H1 locs1 ht hvm hw hB hz1 hk1 hS1 => ?_)
  obtain ⟨hP1, hD1⟩ := hB
  rw [ht] at hP1
  obtain ⟨hP2, hD2⟩ := va_join (wr := wr) (w1 := out u) hP hD isC isR hC hRr hn hdis hk1 hFc hP1 hD1
  exact kk r u H1 locs1 hw hP2 hD2 hS1
theorem kNi {S : Type} {post : Int32 → S → Prop} {out : S → va_W} {y : MethodName} {bytes : ByteArray} {maxL index : Nat} {wsy ws' : List Cond} {rm : Room} {As : List Value} {wc wr : va_W} {rt : Option FieldType} {host : String}
    (F : CallFix p m c cc nL s args Ts own) (hK : kK G s) (hP : va_P G.1 vwCl ws H) (hD : va_D A ws) (hS : va_S A s.heap H locs) (hA : ∀ q : Nat, s.heap.size ≤ q → A q) (hls : ls.size = nL) (hM : kM G l y wsy rm As wc (kQi G post out)) (isC isR : List Nat)
    (ni : Nat) (hni : kNest[ni]? = some (own, index, y, host)) (hg : GoodIn Ts wsy) (hst1 : Cond.static y ∈ Ts) (hini : Cond.initialized y.cls ∈ Ts) (hwy : wsy = Cond.code y bytes maxL rt :: ws') (n : Nat) (hn9 : As.length = n) (hd : y.cls ≠ "java/lang/invoke/MethodHandle" ∧ y.cls ≠ "java/lang/invoke/VarHandle" ∧ (parseMethodDescriptor y.desc).map (fun d => d.parameters.length) = some n) (hR : rm.frames + 1 ≤ R.frames ∧ 8 + (maxL + 11) + rm.locals ≤ R.locals) (hf : cells + rm.cells ≤ R.cells ∧ slots + rm.slots ≤ R.slots)
    (hC : isC.map (fun i => ws[i]?) = wc.map some) (hRr : isR.map (fun i => ws[i]?) = wr.map some) (hn1 : va_nd isC = true) (hn : va_nd isR = true) (hdis : ∀ i ∈ isR, i ∉ isC) (hroom : (rest.map fun v => v.category).sum ≤ 8) {st : List Value} (hst : st = As.reverse ++ rest) (hdg : decode cc pc = .ok (.invokestatic index, 3))
    (kk : ∀ (r : Int32) (u : S) (H1 : Heap) (locs1 : List Loc), post r u → va_P G.1 vwCl (wr ++ out u) H1 → va_D A (wr ++ out u) → va_S A s.heap H1 locs1 → W p l e R s m args below meth c H1 locs1 (cells + rm.cells) (slots + rm.slots) Q (F0 m (pc + 3) ls (.int r :: rest))) : W p l e R s m args below meth c H locs cells slots Q (F0 m pc ls st) := by
  subst hst
  have hPc : va_P G.1 vwCl wc H := fun k q hk => by
    have h1 : (isC.map (fun i => ws[i]?))[k]? = some (some q) := by rw [hC, List.getElem?_map, hk]; rfl
    rw [List.getElem?_map] at h1
    cases hi : isC[k]? with
    | none => rw [hi] at h1; cases h1
    | some i => rw [hi] at h1; exact hP i q (Option.some.inj h1)
  have hDc := hD.sub (ws' := wc) isC hn1 hC
  have hFc := va_free (wc := wc) hD hS hA isC hC
  refine va_calli (va_runSN (As := As) (rest := rest) F (hM H.size) (⟨va_cnB n F.2.2.2.2 hg hwy rfl rfl (hK.nest ni hni) (F.2.2.2.2 _ hini) hd hR, F.2.2.2.2 _ hst1, trivial⟩) ⟨kPc.blind, fun U hU hW => ⟨rfl, by rw [hU], by rw [hU]; exact hPc, hK.warm hW, hDc.weaken (fun _ _ _ _ => trivial)⟩⟩ rfl hn9 hls rfl (lv_room hroom) hdg hf) hS (fun q _ h => hFc q h) hFc (fun r u t H1 locs1 ht hvm hw hB hz1 hk1 hS1 => ?_)
  obtain ⟨hP1, hD1⟩ := hB
  rw [ht] at hP1
  obtain ⟨hP2, hD2⟩ := va_join (wr := wr) (w1 := out u) hP hD isC isR hC hRr hn hdis hk1 hFc hP1 hD1
  exact kk r u H1 locs1 hw hP2 hD2 hS1
theorem kIv {S : Type} {post : S → Prop} {out : S → va_W} {y : MethodName} {bytes : ByteArray} {maxL index : Nat} {wsy ws' : List Cond} {rm : Room} {b : Nat} {As : List Value} {wc wr : va_W}
    (F : CallFix p m c cc nL s args Ts own) (hK : kK G s) (hP : va_P G.1 vwCl ws H) (hD : va_D A ws) (hS : va_S A s.heap H locs) (hA : ∀ q : Nat, s.heap.size ≤ q → A q) (hls : ls.size = nL) (hM : kM G l y wsy rm (.ref b :: As) wc (kQv G post out)) (isC isR : List Nat)
    (hg : GoodIn Ts wsy) (hlk : Cond.methodLink own index y ∈ Ts) (hin1 : Cond.instanceMethod y ∈ Ts) (hini : Cond.initialized y.cls ∈ Ts) (hnm : y.name = "<init>") (hwy : wsy = Cond.code y bytes maxL none :: ws') (n : Nat) (hn9 : As.length = n) (hd : y.cls ≠ "java/lang/invoke/MethodHandle" ∧ y.cls ≠ "java/lang/invoke/VarHandle" ∧ (parseMethodDescriptor y.desc).map (fun d => d.parameters.length) = some n) (hR : rm.frames + 1 ≤ R.frames ∧ 8 + (maxL + 11) + rm.locals ≤ R.locals) (hf : cells + rm.cells ≤ R.cells ∧ slots + rm.slots ≤ R.slots)
    (hC : isC.map (fun i => ws[i]?) = wc.map some) (hRr : isR.map (fun i => ws[i]?) = wr.map some) (hn1 : va_nd isC = true) (hn : va_nd isR = true) (hdis : ∀ i ∈ isR, i ∉ isC) (hroom : (rest.map fun v => v.category).sum ≤ 8) {st : List Value} (hst : st = As.reverse ++ .ref b :: rest) (hdg : decode cc pc = .ok (.invokespecial index, 3))
    (kk : ∀ (u : S) (H1 : Heap) (locs1 : List Loc), post u → va_P G.1 vwCl (wr ++ out u) H1 → va_D A (wr ++ out u) → va_S A s.heap H1 locs1 → W p l e R s m args below meth c H1 locs1 (cells + rm.cells) (slots + rm.slots) Q (F0 m (pc + 3) ls (rest))) : W p l e R s m args below meth c H locs cells slots Q (F0 m pc ls st) := by
  subst hst
  have hPc : va_P G.1 vwCl wc H := fun k q hk => by
    have h1 : (isC.map (fun i => ws[i]?))[k]? = some (some q) := by rw [hC, List.getElem?_map, hk]; rfl
    rw [List.getElem?_map] at h1
    cases hi : isC[k]? with
    | none => rw [hi] at h1; cases h1
    | some i => rw [hi] at h1; exact hP i q (Option.some.inj h1)
  have hDc := hD.sub (ws' := wc) isC hn1 hC
  have hFc := va_free (wc := wc) hD hS hA isC hC
  refine va_callv (va_runI (As := As) (rest := rest) F (hM H.size) (cwI n F.2.2.2.2 hg hwy rfl rfl (F.2.2.2.2 _ hini) (F.2.2.2.2 _ hlk) (F.2.2.2.2 _ hin1) hnm hd hR) ⟨kPc.blind, fun U hU hW => ⟨rfl, by rw [hU], by rw [hU]; exact hPc, hK.warm hW, hDc.weaken (fun _ _ _ _ => trivial)⟩⟩ rfl hn9 hls rfl (lv_room hroom) hdg hf) hS (fun q _ h => hFc q h) hFc (fun u t H1 locs1 ht hvm hw hB hz1 hk1 hS1 => ?_)
  obtain ⟨hP1, hD1⟩ := hB
  rw [ht] at hP1
  obtain ⟨hP2, hD2⟩ := va_join (wr := wr) (w1 := out u) hP hD isC isR hC hRr hn hdis hk1 hFc hP1 hD1
  exact kk u H1 locs1 hw hP2 hD2 hS1
theorem kJv {S : Type} {post : S → Prop} {out : S → va_W} {y : MethodName} {bytes : ByteArray} {maxL index : Nat} {wsy ws' : List Cond} {rm : Room} {b : Nat} {As : List Value} {wc wr : va_W} {host : String}
    (F : CallFix p m c cc nL s args Ts own) (hK : kK G s) (hP : va_P G.1 vwCl ws H) (hD : va_D A ws) (hS : va_S A s.heap H locs) (hA : ∀ q : Nat, s.heap.size ≤ q → A q) (hls : ls.size = nL) (hM : kM G l y wsy rm (.ref b :: As) wc (kQv G post out)) (isC isR : List Nat)
    (ni : Nat) (hni : kNest[ni]? = some (own, index, y, host)) (hg : GoodIn Ts wsy) (hin1 : Cond.instanceMethod y ∈ Ts) (hini : Cond.initialized y.cls ∈ Ts) (hnm : y.name = "<init>") (hwy : wsy = Cond.code y bytes maxL none :: ws') (n : Nat) (hn9 : As.length = n) (hd : y.cls ≠ "java/lang/invoke/MethodHandle" ∧ y.cls ≠ "java/lang/invoke/VarHandle" ∧ (parseMethodDescriptor y.desc).map (fun d => d.parameters.length) = some n) (hR : rm.frames + 1 ≤ R.frames ∧ 8 + (maxL + 11) + rm.locals ≤ R.locals) (hf : cells + rm.cells ≤ R.cells ∧ slots + rm.slots ≤ R.slots)
    (hC : isC.map (fun i => ws[i]?) = wc.map some) (hRr : isR.map (fun i => ws[i]?) = wr.map some) (hn1 : va_nd isC = true) (hn : va_nd isR = true) (hdis : ∀ i ∈ isR, i ∉ isC) (hroom : (rest.map fun v => v.category).sum ≤ 8) {st : List Value} (hst : st = As.reverse ++ .ref b :: rest) (hdg : decode cc pc = .ok (.invokespecial index, 3))
    (kk : ∀ (u : S) (H1 : Heap) (locs1 : List Loc), post u → va_P G.1 vwCl (wr ++ out u) H1 → va_D A (wr ++ out u) → va_S A s.heap H1 locs1 → W p l e R s m args below meth c H1 locs1 (cells + rm.cells) (slots + rm.slots) Q (F0 m (pc + 3) ls (rest))) : W p l e R s m args below meth c H locs cells slots Q (F0 m pc ls st) := by
  subst hst
  have hPc : va_P G.1 vwCl wc H := fun k q hk => by
    have h1 : (isC.map (fun i => ws[i]?))[k]? = some (some q) := by rw [hC, List.getElem?_map, hk]; rfl
    rw [List.getElem?_map] at h1
    cases hi : isC[k]? with
    | none => rw [hi] at h1; cases h1
    | some i => rw [hi] at h1; exact hP i q (Option.some.inj h1)
  have hDc := hD.sub (ws' := wc) isC hn1 hC
  have hFc := va_free (wc := wc) hD hS hA isC hC
  refine va_callv (va_runIN (As := As) (rest := rest) F (hM H.size) (⟨va_cnB n F.2.2.2.2 hg hwy rfl rfl (hK.nest ni hni) (F.2.2.2.2 _ hini) hd hR, hnm, F.2.2.2.2 _ hin1⟩) ⟨kPc.blind, fun U hU hW => ⟨rfl, by rw [hU], by rw [hU]; exact hPc, hK.warm hW, hDc.weaken (fun _ _ _ _ => trivial)⟩⟩ rfl hn9 hls rfl (lv_room hroom) hdg hf) hS (fun q _ h => hFc q h) hFc (fun u t H1 locs1 ht hvm hw hB hz1 hk1 hS1 => ?_)
  obtain ⟨hP1, hD1⟩ := hB
  rw [ht] at hP1
  obtain ⟨hP2, hD2⟩ := va_join (wr := wr) (w1 := out u) hP hD isC isR hC hRr hn hdis hk1 hFc hP1 hD1
  exact kk u H1 locs1 hw hP2 hD2 hS1
theorem kPSi {S : Type} {post : Int32 → S → Prop} {out : S → va_W} {y : MethodName} {bytes : ByteArray} {maxL index : Nat} {wsy ws' : List Cond} {rm : Room} {As : List Value} {rt : Option FieldType}
    (F : CallFix p m c cc nL s args Ts own) (hK : kK G s) (hP : va_P G.1 vwCl ws H) (hD : va_D A ws) (hS : va_S A s.heap H locs) (hA : ∀ q : Nat, s.heap.size ≤ q → A q) (hls : ls.size = nL) (hM : kM G l y wsy rm As [] (kQi G post out)) (hout : ∀ u : S, out u = [])
    (hg : GoodIn Ts (va_wsS own index y wsy)) (hwy : wsy = Cond.code y bytes maxL rt :: ws') (n : Nat) (hn9 : As.length = n) (hd : y.cls ≠ "java/lang/invoke/MethodHandle" ∧ y.cls ≠ "java/lang/invoke/VarHandle" ∧ (parseMethodDescriptor y.desc).map (fun d => d.parameters.length) = some n) (hR : rm.frames + 1 ≤ R.frames ∧ 8 + (maxL + 11) + rm.locals ≤ R.locals) (hf : cells + rm.cells ≤ R.cells ∧ slots + rm.slots ≤ R.slots)
    (hroom : (rest.map fun v => v.category).sum ≤ 8) {st : List Value} (hst : st = As.reverse ++ rest) (hdg : decode cc pc = .ok (.invokestatic index, 3))
    (kk : ∀ (r : Int32) (u : S) (H1 : Heap) (locs1 : List Loc), post r u → va_P G.1 vwCl ws H1 → va_D A ws → va_S A s.heap H1 locs1 → W p l e R s m args below meth c H1 locs1 (cells + rm.cells) (slots + rm.slots) Q (F0 m (pc + 3) ls (.int r :: rest))) : W p l e R s m args below meth c H locs cells slots Q (F0 m pc ls st) := by
  refine kSi (wc := []) (wr := ws) F hK hP hD hS hA hls hM [] (List.range ws.length) hg hwy n hn9 hd hR hf rfl (k_rng ws) rfl (k_nd _ List.nodup_range) (fun _ _ h => by cases h) hroom hst hdg (fun r u H1 locs1 hp hP1 hD1 hS1 => ?_)
  rw [hout u, List.append_nil] at hP1 hD1
  exact kk r u H1 locs1 hp hP1 hD1 hS1
theorem kPNi {S : Type} {post : Int32 → S → Prop} {out : S → va_W} {y : MethodName} {bytes : ByteArray} {maxL index : Nat} {wsy ws' : List Cond} {rm : Room} {As : List Value} {rt : Option FieldType} {host : String}
    (F : CallFix p m c cc nL s args Ts own) (hK : kK G s) (hP : va_P G.1 vwCl ws H) (hD : va_D A ws) (hS : va_S A s.heap H locs) (hA : ∀ q : Nat, s.heap.size ≤ q → A q) (hls : ls.size = nL) (hM : kM G l y wsy rm As [] (kQi G post out)) (hout : ∀ u : S, out u = [])
    (ni : Nat) (hni : kNest[ni]? = some (own, index, y, host)) (hg : GoodIn Ts wsy) (hst1 : Cond.static y ∈ Ts) (hini : Cond.initialized y.cls ∈ Ts) (hwy : wsy = Cond.code y bytes maxL rt :: ws') (n : Nat) (hn9 : As.length = n) (hd : y.cls ≠ "java/lang/invoke/MethodHandle" ∧ y.cls ≠ "java/lang/invoke/VarHandle" ∧ (parseMethodDescriptor y.desc).map (fun d => d.parameters.length) = some n) (hR : rm.frames + 1 ≤ R.frames ∧ 8 + (maxL + 11) + rm.locals ≤ R.locals) (hf : cells + rm.cells ≤ R.cells ∧ slots + rm.slots ≤ R.slots)
    (hroom : (rest.map fun v => v.category).sum ≤ 8) {st : List Value} (hst : st = As.reverse ++ rest) (hdg : decode cc pc = .ok (.invokestatic index, 3))
    (kk : ∀ (r : Int32) (u : S) (H1 : Heap) (locs1 : List Loc), post r u → va_P G.1 vwCl ws H1 → va_D A ws → va_S A s.heap H1 locs1 → W p l e R s m args below meth c H1 locs1 (cells + rm.cells) (slots + rm.slots) Q (F0 m (pc + 3) ls (.int r :: rest))) : W p l e R s m args below meth c H locs cells slots Q (F0 m pc ls st) := by
  refine kNi (wc := []) (wr := ws) F hK hP hD hS hA hls hM [] (List.range ws.length) ni hni hg hst1 hini hwy n hn9 hd hR hf rfl (k_rng ws) rfl (k_nd _ List.nodup_range) (fun _ _ h => by cases h) hroom hst hdg (fun r u H1 locs1 hp hP1 hD1 hS1 => ?_)
  rw [hout u, List.append_nil] at hP1 hD1
  exact kk r u H1 locs1 hp hP1 hD1 hS1
theorem kWVi {S : Type} {post : Int32 → S → Prop} {out : S → va_W} {y : MethodName} {bytes : ByteArray} {maxL index : Nat} {wsy ws' : List Cond} {rm : Room} {b : Nat} {As : List Value} {C : String} {T : u_T} {N : Nat} {fs : List Value} {rt : Option FieldType}
    (F : CallFix p m c cc nL s args Ts own) (hK : kK G s) (hP : va_P G.1 vwCl ws H) (hD : va_D A ws) (hS : va_S A s.heap H locs) (hA : ∀ q : Nat, s.heap.size ≤ q → A q) (hls : ls.size = nL) (hM : kM G l y wsy rm (.ref b :: As) ws (kQi G post out))
    (ci q0 : Nat) (hg : GoodIn Ts (wsV own index C y wsy)) (hwy : wsy = Cond.code y bytes maxL rt :: ws') (n : Nat) (hn9 : As.length = n) (hd : y.cls = C ∧ y.cls ≠ "java/lang/invoke/MethodHandle" ∧ y.cls ≠ "java/lang/invoke/VarHandle" ∧ (parseMethodDescriptor y.desc).map (fun d => d.parameters.length) = some n) (hR : rm.frames + 1 ≤ R.frames ∧ 8 + (maxL + 11) + rm.locals ≤ R.locals) (hf : cells + rm.cells ≤ R.cells ∧ slots + rm.slots ≤ R.slots)
    (hc : vwCl[ci]? = some (C, T, N)) (hre : ws[q0]? = some (b, .inr (ci, fs))) (hroom : (rest.map fun v => v.category).sum ≤ 8) {st : List Value} (hst : st = As.reverse ++ .ref b :: rest) (hdg : decode cc pc = .ok (.invokevirtual index, 3))
    (kk : ∀ (r : Int32) (u : S) (H1 : Heap) (locs1 : List Loc), post r u → va_P G.1 vwCl (out u) H1 → va_D A (out u) → va_S A s.heap H1 locs1 → W p l e R s m args below meth c H1 locs1 (cells + rm.cells) (slots + rm.slots) Q (F0 m (pc + 3) ls (.int r :: rest))) : W p l e R s m args below meth c H locs cells slots Q (F0 m pc ls st) := by
  refine kVi (wc := ws) (wr := []) F hK hP hD hS hA hls hM (List.range ws.length) [] ci q0 hg hwy n hn9 hd hR hf hc hre (k_rng ws) rfl (k_nd _ List.nodup_range) rfl (fun _ h => by cases h) hroom hst hdg (fun r u H1 locs1 hp hP1 hD1 hS1 => ?_)
  exact kk r u H1 locs1 hp hP1 hD1 hS1
theorem kWVv {S : Type} {post : S → Prop} {out : S → va_W} {y : MethodName} {bytes : ByteArray} {maxL index : Nat} {wsy ws' : List Cond} {rm : Room} {b : Nat} {As : List Value} {C : String} {T : u_T} {N : Nat} {fs : List Value}
    (F : CallFix p m c cc nL s args Ts own) (hK : kK G s) (hP : va_P G.1 vwCl ws H) (hD : va_D A ws) (hS : va_S A s.heap H locs) (hA : ∀ q : Nat, s.heap.size ≤ q → A q) (hls : ls.size = nL) (hM : kM G l y wsy rm (.ref b :: As) ws (kQv G post out))
    (ci q0 : Nat) (hg : GoodIn Ts (wsV own index C y wsy)) (hwy : wsy = Cond.code y bytes maxL none :: ws') (n : Nat) (hn9 : As.length = n) (hd : y.cls = C ∧ y.cls ≠ "java/lang/invoke/MethodHandle" ∧ y.cls ≠ "java/lang/invoke/VarHandle" ∧ (parseMethodDescriptor y.desc).map (fun d => d.parameters.length) = some n) (hR : rm.frames + 1 ≤ R.frames ∧ 8 + (maxL + 11) + rm.locals ≤ R.locals) (hf : cells + rm.cells ≤ R.cells ∧ slots + rm.slots ≤ R.slots)
    (hc : vwCl[ci]? = some (C, T, N)) (hre : ws[q0]? = some (b, .inr (ci, fs))) (hroom : (rest.map fun v => v.category).sum ≤ 8) {st : List Value} (hst : st = As.reverse ++ .ref b :: rest) (hdg : decode cc pc = .ok (.invokevirtual index, 3))
    (kk : ∀ (u : S) (H1 : Heap) (locs1 : List Loc), post u → va_P G.1 vwCl (out u) H1 → va_D A (out u) → va_S A s.heap H1 locs1 → W p l e R s m args below meth c H1 locs1 (cells + rm.cells) (slots + rm.slots) Q (F0 m (pc + 3) ls (rest))) : W p l e R s m args below meth c H locs cells slots Q (F0 m pc ls st) := by
  refine kVv (wc := ws) (wr := []) F hK hP hD hS hA hls hM (List.range ws.length) [] ci q0 hg hwy n hn9 hd hR hf hc hre (k_rng ws) rfl (k_nd _ List.nodup_range) rfl (fun _ h => by cases h) hroom hst hdg (fun u H1 locs1 hp hP1 hD1 hS1 => ?_)
  exact kk u H1 locs1 hp hP1 hD1 hS1
end KR
