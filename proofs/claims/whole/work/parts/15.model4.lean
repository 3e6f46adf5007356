set_option maxHeartbeats 8000000 in
set_option maxRecDepth 100000 in
theorem c_X9_greets (l : Launch) (G : kG) (h : Nat) (a : Nat → Nat) (σ : kS) (v : Int32) (g : Int32) (i : Int32) (S : Nat) (Mn : Nat) (E : Nat) (K : Nat) (hKe : σ 20 0 = nI K) (hK3 : K ≤ 3) (hE : σ 23 0 = nI E) (hE4 : E ≤ 4) (hs : σ 2 1 = nI S) (hS : S ≤ 2147483646) (hM : σ 26 0 = nI Mn) (hM8 : Mn ≤ 8) (hvv : v = 1 ∨ v = 2 ∨ v = 3) : kM G l yX9_greets wsX9_greets ({ frames := 3, cells := 0, slots := 0, locals := 69 }) [.ref h, .int v, .int g, .int i] (mW G h a σ) (kQv G (fun (uu : kS) => uu = mgreets σ v g i S Mn E K) (fun (uu : kS) => mW G h a uu)) := by
  refine kStart (cc := cX9_greets) (maxL := 8) (ret := none) (by decide) rfl (Nat.le_of_ble_eq_true rfl) (fun pg ev st mi bl mt cd A ls0 F hr hlocks hin hK hP0 hD0 hA hS0 hl0 => ?_)
  obtain ⟨hx, hb, hml, hown, hts⟩ := id F
  have hl0 : lv_has ls0 8 [(0, .ref h), (1, .int v), (2, .int g), (3, .int i)] := hl0
  have iX9 : ∀ w ∈ u_ws RX9 TX9 43, w ∈ wsX9_greets := fun w h => List.mem_cons_of_mem _ (List.mem_append_right _ h)
  refine lv_iload_n hx hb dX9_greets_0 rfl (lv_at hl0 1 rfl) ?_
  refine lv_iconst (v := 3) hx hb dX9_greets_1 (by decide) ?_
  refine lv_icmp_ne (tgt := 18) hx hb dX9_greets_2 (by decide) (fun c1 => ?_) (fun c1 => ?_)
  · refine lv_iconst (v := (-1)) hx hb dX9_greets_18 (by decide) ?_
    refine lv_istore (lv' := [(4, .int (-1)), (0, .ref h), (1, .int v), (2, .int g), (3, .int i)]) hx hb dX9_greets_19 hl0 (by decide) rfl (fun ls2 hl2 => ?_)
    clear hl0
    refine lv_iload hx hb dX9_greets_21 (lv_at hl2 0 rfl) ?_
    refine lv_iconst (v := (-1)) hx hb dX9_greets_23 (by decide) ?_
    refine lv_icmp_eq (tgt := 61) hx hb dX9_greets_24 (by decide) (fun c3 => ?_) (fun c3 => ?_)
    · refine lv_iconst (v := 0) hx hb dX9_greets_61 (by decide) ?_
      refine lv_istore (lv' := [(5, .int 0), (4, .int (-1)), (0, .ref h), (1, .int v), (2, .int g), (3, .int i)]) hx hb dX9_greets_62 hl2 (by decide) rfl (fun ls4 hl4 => ?_)
      clear hl2
      refine lv_iload hx hb dX9_greets_64 (lv_at hl4 0 rfl) ?_
      refine lv_if_eq (tgt := 83) hx hb dX9_greets_66 (by decide) (fun c5 => ?_) (fun c5 => ?_)
      · refine lv_iconst (v := 0) hx hb dX9_greets_83 (by decide) ?_
        refine lv_istore (lv' := [(6, .int 0), (5, .int 0), (4, .int (-1)), (0, .ref h), (1, .int v), (2, .int g), (3, .int i)]) hx hb dX9_greets_84 hl4 (by decide) rfl (fun ls6 hl6 => ?_)
        clear hl4
        refine lv_iload hx hb dX9_greets_86 (lv_at hl6 1 rfl) ?_
        refine lv_if_eq (tgt := 121) hx hb dX9_greets_88 (by decide) (fun c7 => ?_) (fun c7 => ?_)
        · refine lv_iload hx hb dX9_greets_121 (lv_at hl6 1 rfl) ?_
          refine lv_if_eq (tgt := 173) hx hb dX9_greets_123 (by decide) (fun c8 => ?_) (fun c8 => ?_)
          · refine lv_iconst (v := 0) hx hb dX9_greets_173 (by decide) ?_
            refine lv_istore (lv' := [(7, .int 0), (6, .int 0), (5, .int 0), (4, .int (-1)), (0, .ref h), (1, .int v), (2, .int g), (3, .int i)]) hx hb dX9_greets_174 hl6 (by decide) rfl (fun ls9 hl9 => ?_)
            clear hl6
            refine lv_iload hx hb dX9_greets_176 (lv_at hl9 0 rfl) ?_
            refine lv_if_eq (tgt := 224) hx hb dX9_greets_178 (by decide) (fun c10 => ?_) (fun c10 => ?_)
            · refine lv_aload_n hx hb dX9_greets_224 rfl (lv_at hl9 4 rfl) ?_
              refine lv_iconst (v := 1) hx hb dX9_greets_225 (by decide) ?_
              refine lv_bipush (v := 8) hx hb dX9_greets_226 (by decide) ?_
              refine kWVv F hK hP0 hD0 hS0 hA hl9.1 (c_X9_takes l G h a σ 1 8 (by first | assumption | decide | omega) (by first | assumption | decide | omega)) 9 0 gX9_greets_X9_takes rfl 2 rfl (by decide +kernel) ⟨Nat.le_of_ble_eq_true rfl, Nat.le_of_ble_eq_true rfl⟩ ⟨Nat.zero_le _, Nat.zero_le _⟩ rfl rfl (Nat.le_of_ble_eq_true rfl) rfl dX9_greets_228 (fun σ_11 H12 locs12 hw11 (hP12 : va_P G.1 vwCl (mW G h a σ_11) H12) (hD12 : va_D A (mW G h a σ_11)) hS12 => ?_)
              clear hP0 hD0 hS0
              have w11_0 : σ_11 = mtakes σ 1 (8 + 1) := hw11
              refine lv_aload_n hx hb dX9_greets_231 rfl (lv_at hl9 4 rfl) ?_
              refine kget F hK hP12 9 0 9 iX9 rfl rfl (by decide) (List.mem_of_getElem? (i := 7) rfl) rfl dX9_greets_232 ?_
              refine lv_iconst (v := 1) hx hb dX9_greets_235 (by decide) ?_
              refine lv_aload_n hx hb dX9_greets_236 rfl (lv_at hl9 4 rfl) ?_
              refine kget F hK hP12 9 0 29 iX9 rfl rfl (by decide) (List.mem_of_getElem? (i := 1) rfl) rfl dX9_greets_237 ?_
              refine lv_iconst (v := 4) hx hb dX9_greets_240 (by decide) ?_
              refine kild F hK hP12 20 4 rfl rfl (by decide) (Nat.le_of_ble_eq_true rfl) dX9_greets_241 ?_
              rw [show (σ_11 29 4) = (σ 29 4) from by subst w11_0; first | rfl | (simp only [msend, msees]; (repeat' split) <;> rfl)]
              refine lv_aload_n hx hb dX9_greets_242 rfl (lv_at hl9 4 rfl) ?_
              refine kget F hK hP12 9 0 2 iX9 rfl rfl (by decide) (List.mem_of_getElem? (i := 8) rfl) rfl dX9_greets_243 ?_
              refine lv_iconst (v := 1) hx hb dX9_greets_246 (by decide) ?_
              refine kild F hK hP12 3 1 rfl rfl (by decide) (Nat.le_of_ble_eq_true rfl) dX9_greets_247 ?_
              rw [show (σ_11 2 1) = (σ 2 1) from by subst w11_0; first | rfl | (simp only [msend, msees]; (repeat' split) <;> rfl)]
              refine lv_iload_n hx hb dX9_greets_248 rfl (lv_at hl9 6 rfl) ?_
              refine kPSi F hK hP12 hD12 hS12 hA hl9.1 (c_X9_prime l G g) (fun _ => rfl) gX9_greets_X9_prime rfl 1 rfl (by decide +kernel) ⟨Nat.le_of_ble_eq_true rfl, Nat.le_of_ble_eq_true rfl⟩ ⟨Nat.zero_le _, Nat.zero_le _⟩ (Nat.le_of_ble_eq_true rfl) rfl dX9_greets_249 (fun r13 u13 H14 locs14 hw13 (hP14 : va_P G.1 vwCl (mW G h a σ_11) H14) (hD14 : va_D A (mW G h a σ_11)) hS14 => ?_)
              clear hP12 hD12 hS12
              have w13_0 : r13 = kprime g := hw13
              refine kPSi F hK hP14 hD14 hS14 hA hl9.1 (c_X9_power l G (σ 29 4) (σ 2 1) r13 S (by subst_vars; exact kprime_1 _) hs hS) (fun _ => rfl) gX9_greets_X9_power rfl 3 rfl (by decide +kernel) ⟨Nat.le_of_ble_eq_true rfl, Nat.le_of_ble_eq_true rfl⟩ ⟨Nat.zero_le _, Nat.zero_le _⟩ (Nat.le_of_ble_eq_true rfl) rfl dX9_greets_252 (fun r15 u15 H16 locs16 hw15 (hP16 : va_P G.1 vwCl (mW G h a σ_11) H16) (hD16 : va_D A (mW G h a σ_11)) hS16 => ?_)
              clear hP14 hD14 hS14
              have w15_0 : r15 = mpw (σ 29 4) r13 S := hw15
              refine lv_iload hx hb dX9_greets_255 (lv_at hl9 1 rfl) ?_
              refine kPSi F hK hP16 hD16 hS16 hA hl9.1 (c_X9_keyOf l G r15 0) (fun _ => rfl) gX9_greets_X9_keyOf rfl 2 rfl (by decide +kernel) ⟨Nat.le_of_ble_eq_true rfl, Nat.le_of_ble_eq_true rfl⟩ ⟨Nat.zero_le _, Nat.zero_le _⟩ (Nat.le_of_ble_eq_true rfl) rfl dX9_greets_257 (fun r17 u17 H18 locs18 hw17 (hP18 : va_P G.1 vwCl (mW G h a σ_11) H18) (hD18 : va_D A (mW G h a σ_11)) hS18 => ?_)
              clear hP16 hD16 hS16
              have w17_0 : r17 = kmix (kmix 7 r15) 0 := hw17
              refine kMst F hK hP18 hD18 hS18 9 10 1 rfl rfl (by decide) (Nat.le_of_ble_eq_true rfl) rfl dX9_greets_260 (fun H19 locs19 σ19 eσ19 hP19 hD19 hS19 => ?_)
              clear hP18 hD18 hS18
              refine lv_aload_n hx hb dX9_greets_261 rfl (lv_at hl9 4 rfl) ?_
              refine kget F hK hP19 9 0 6 iX9 rfl rfl (by decide) (List.mem_of_getElem? (i := 9) rfl) rfl dX9_greets_262 ?_
              refine lv_iconst (v := 1) hx hb dX9_greets_265 (by decide) ?_
              refine lv_iload_n hx hb dX9_greets_266 rfl (lv_at hl9 5 rfl) ?_
              refine kMst F hK hP19 hD19 hS19 6 7 1 rfl rfl (by decide) (Nat.le_of_ble_eq_true rfl) rfl dX9_greets_267 (fun H20 locs20 σ20 eσ20 hP20 hD20 hS20 => ?_)
              clear hP19 hD19 hS19
              refine lv_aload_n hx hb dX9_greets_268 rfl (lv_at hl9 4 rfl) ?_
              refine kget F hK hP20 9 0 7 iX9 rfl rfl (by decide) (List.mem_of_getElem? (i := 10) rfl) rfl dX9_greets_269 ?_
              refine lv_iconst (v := 1) hx hb dX9_greets_272 (by decide) ?_
              refine lv_iload_n hx hb dX9_greets_273 rfl (lv_at hl9 6 rfl) ?_
              refine kMst F hK hP20 hD20 hS20 7 8 1 rfl rfl (by decide) (Nat.le_of_ble_eq_true rfl) rfl dX9_greets_274 (fun H21 locs21 σ21 eσ21 hP21 hD21 hS21 => ?_)
              clear hP20 hD20 hS20
              refine lv_aload_n hx hb dX9_greets_275 rfl (lv_at hl9 4 rfl) ?_
              refine kget F hK hP21 9 0 8 iX9 rfl rfl (by decide) (List.mem_of_getElem? (i := 11) rfl) rfl dX9_greets_276 ?_
              refine lv_iconst (v := 1) hx hb dX9_greets_279 (by decide) ?_
              refine lv_iload hx hb dX9_greets_280 (lv_at hl9 2 rfl) ?_
              refine lv_if_eq (tgt := 289) hx hb dX9_greets_282 (by decide) (fun c22 => ?_) (fun c22 => ?_)
              · refine lv_iconst (v := 0) hx hb dX9_greets_289 (by decide) ?_
                refine kMst F hK hP21 hD21 hS21 8 9 1 rfl rfl (by decide) (Nat.le_of_ble_eq_true rfl) rfl dX9_greets_290 (fun H23 locs23 σ23 eσ23 hP23 hD23 hS23 => ?_)
                clear hP21 hD21 hS21
                refine lv_aload_n hx hb dX9_greets_291 rfl (lv_at hl9 4 rfl) ?_
                refine lv_iconst (v := 3) hx hb dX9_greets_292 (by decide) ?_
                refine kWVv F hK hP23 hD23 hS23 hA hl9.1 (c_X9_clears l G h a σ23 3) 9 0 gX9_greets_X9_clears rfl 1 rfl (by decide +kernel) ⟨Nat.le_of_ble_eq_true rfl, Nat.le_of_ble_eq_true rfl⟩ ⟨Nat.zero_le _, Nat.zero_le _⟩ rfl rfl (Nat.le_of_ble_eq_true rfl) rfl dX9_greets_293 (fun σ_24 H25 locs25 hw24 (hP25 : va_P G.1 vwCl (mW G h a σ_24) H25) (hD25 : va_D A (mW G h a σ_24)) hS25 => ?_)
                clear hP23 hD23 hS23
                have w24_0 : σ_24 = mclr σ23 3 := hw24
                refine lv_aload_n hx hb dX9_greets_296 rfl (lv_at hl9 4 rfl) ?_
                refine kget F hK hP25 9 0 29 iX9 rfl rfl (by decide) (List.mem_of_getElem? (i := 1) rfl) rfl dX9_greets_297 ?_
                refine lv_iconst (v := 1) hx hb dX9_greets_300 (by decide) ?_
                refine lv_iload_n hx hb dX9_greets_301 rfl (lv_at hl9 5 rfl) ?_
                refine kMst F hK hP25 hD25 hS25 29 20 1 rfl rfl (by decide) (Nat.le_of_ble_eq_true rfl) rfl dX9_greets_302 (fun H26 locs26 σ26 eσ26 hP26 hD26 hS26 => ?_)
                clear hP25 hD25 hS25
                refine lv_aload_n hx hb dX9_greets_303 rfl (lv_at hl9 4 rfl) ?_
                refine kget F hK hP26 9 0 29 iX9 rfl rfl (by decide) (List.mem_of_getElem? (i := 1) rfl) rfl dX9_greets_304 ?_
                refine lv_iconst (v := 2) hx hb dX9_greets_307 (by decide) ?_
                refine lv_iload_n hx hb dX9_greets_308 rfl (lv_at hl9 6 rfl) ?_
                refine kMst F hK hP26 hD26 hS26 29 20 2 rfl rfl (by decide) (Nat.le_of_ble_eq_true rfl) rfl dX9_greets_309 (fun H27 locs27 σ27 eσ27 hP27 hD27 hS27 => ?_)
                clear hP26 hD26 hS26
                refine lv_aload_n hx hb dX9_greets_310 rfl (lv_at hl9 4 rfl) ?_
                refine kget F hK hP27 9 0 29 iX9 rfl rfl (by decide) (List.mem_of_getElem? (i := 1) rfl) rfl dX9_greets_311 ?_
                refine lv_iconst (v := 3) hx hb dX9_greets_314 (by decide) ?_
                refine lv_iload_n hx hb dX9_greets_315 rfl (lv_at hl9 6 rfl) ?_
                refine lv_aload_n hx hb dX9_greets_316 rfl (lv_at hl9 4 rfl) ?_
                refine kget F hK hP27 9 0 2 iX9 rfl rfl (by decide) (List.mem_of_getElem? (i := 8) rfl) rfl dX9_greets_317 ?_
                refine lv_iconst (v := 1) hx hb dX9_greets_320 (by decide) ?_
                refine kild F hK hP27 3 1 rfl rfl (by decide) (Nat.le_of_ble_eq_true rfl) dX9_greets_321 ?_
                rw [show (σ27 2 1) = (σ 2 1) from by subst eσ27; subst eσ26; subst w24_0; subst eσ23; subst eσ21; subst eσ20; subst eσ19; subst w11_0; first | rfl | (simp only [msend, msees]; (repeat' split) <;> rfl)]
                refine kPSi F hK hP27 hD27 hS27 hA hl9.1 (c_X9_shareOf l G g (σ 2 1) S hs hS) (fun _ => rfl) gX9_greets_X9_shareOf rfl 2 rfl (by decide +kernel) ⟨Nat.le_of_ble_eq_true rfl, Nat.le_of_ble_eq_true rfl⟩ ⟨Nat.zero_le _, Nat.zero_le _⟩ (Nat.le_of_ble_eq_true rfl) rfl dX9_greets_322 (fun r28 u28 H29 locs29 hw28 (hP29 : va_P G.1 vwCl (mW G h a σ27) H29) (hD29 : va_D A (mW G h a σ27)) hS29 => ?_)
                clear hP27 hD27 hS27
                have w28_0 : r28 = mshare g S := hw28
                refine kMst F hK hP29 hD29 hS29 29 20 3 rfl rfl (by decide) (Nat.le_of_ble_eq_true rfl) rfl dX9_greets_325 (fun H30 locs30 σ30 eσ30 hP30 hD30 hS30 => ?_)
                clear hP29 hD29 hS29
                refine lv_aload_n hx hb dX9_greets_326 rfl (lv_at hl9 4 rfl) ?_
                refine kget F hK hP30 9 0 29 iX9 rfl rfl (by decide) (List.mem_of_getElem? (i := 1) rfl) rfl dX9_greets_327 ?_
                refine lv_iconst (v := 4) hx hb dX9_greets_330 (by decide) ?_
                refine lv_aload_n hx hb dX9_greets_331 rfl (lv_at hl9 4 rfl) ?_
                refine kget F hK hP30 9 0 0 iX9 rfl rfl (by decide) (List.mem_of_getElem? (i := 12) rfl) rfl dX9_greets_332 ?_
                refine lv_iconst (v := 1) hx hb dX9_greets_335 (by decide) ?_
                refine kild F hK hP30 1 1 rfl rfl (by decide) (Nat.le_of_ble_eq_true rfl) dX9_greets_336 ?_
                rw [show (σ30 0 1) = (σ 0 1) from by subst eσ30; subst eσ27; subst eσ26; subst w24_0; subst eσ23; subst eσ21; subst eσ20; subst eσ19; subst w11_0; first | rfl | (simp only [msend, msees]; (repeat' split) <;> rfl)]
                refine lv_iload_n hx hb dX9_greets_337 rfl (lv_at hl9 5 rfl) ?_
                refine kPSi F hK hP30 hD30 hS30 hA hl9.1 (c_X9_hasAbove l G (σ 0 1) v hvv) (fun _ => rfl) gX9_greets_X9_hasAbove rfl 2 rfl (by decide +kernel) ⟨Nat.le_of_ble_eq_true rfl, Nat.le_of_ble_eq_true rfl⟩ ⟨Nat.zero_le _, Nat.zero_le _⟩ (Nat.le_of_ble_eq_true rfl) rfl dX9_greets_338 (fun r31 u31 H32 locs32 hw31 (hP32 : va_P G.1 vwCl (mW G h a σ30) H32) (hD32 : va_D A (mW G h a σ30)) hS32 => ?_)
                clear hP30 hD30 hS30
                have w31_0 : r31 = mab (σ 0 1) v := hw31
                refine lv_if_eq (tgt := 348) hx hb dX9_greets_341 (by decide) (fun c33 => ?_) (fun c33 => ?_)
                · refine lv_iconst (v := 0) hx hb dX9_greets_348 (by decide) ?_
                  refine kMst F hK hP32 hD32 hS32 29 20 4 rfl rfl (by decide) (Nat.le_of_ble_eq_true rfl) rfl dX9_greets_349 (fun H34 locs34 σ34 eσ34 hP34 hD34 hS34 => ?_)
                  clear hP32 hD32 hS32
                  refine lv_aload_n hx hb dX9_greets_350 rfl (lv_at hl9 4 rfl) ?_
                  refine kget F hK hP34 9 0 29 iX9 rfl rfl (by decide) (List.mem_of_getElem? (i := 1) rfl) rfl dX9_greets_351 ?_
                  refine lv_iconst (v := 5) hx hb dX9_greets_354 (by decide) ?_
                  refine lv_iload hx hb dX9_greets_355 (lv_at hl9 2 rfl) ?_
                  refine lv_if_eq (tgt := 364) hx hb dX9_greets_357 (by decide) (fun c35 => ?_) (fun c35 => ?_)
                  · refine lv_iconst (v := 0) hx hb dX9_greets_364 (by decide) ?_
                    refine kMst F hK hP34 hD34 hS34 29 20 5 rfl rfl (by decide) (Nat.le_of_ble_eq_true rfl) rfl dX9_greets_365 (fun H36 locs36 σ36 eσ36 hP36 hD36 hS36 => ?_)
                    clear hP34 hD34 hS34
                    refine lv_aload_n hx hb dX9_greets_366 rfl (lv_at hl9 4 rfl) ?_
                    refine kget F hK hP36 9 0 29 iX9 rfl rfl (by decide) (List.mem_of_getElem? (i := 1) rfl) rfl dX9_greets_367 ?_
                    refine lv_bipush (v := 6) hx hb dX9_greets_370 (by decide) ?_
                    refine lv_iload hx hb dX9_greets_372 (lv_at hl9 0 rfl) ?_
                    refine lv_if_eq (tgt := 381) hx hb dX9_greets_374 (by decide) (fun c37 => ?_) (fun c37 => ?_)
                    · refine lv_iconst (v := 0) hx hb dX9_greets_381 (by decide) ?_
                      refine kMst F hK hP36 hD36 hS36 29 20 6 rfl rfl (by decide) (Nat.le_of_ble_eq_true rfl) rfl dX9_greets_382 (fun H38 locs38 σ38 eσ38 hP38 hD38 hS38 => ?_)
                      clear hP36 hD36 hS36
                      refine lv_aload_n hx hb dX9_greets_383 rfl (lv_at hl9 4 rfl) ?_
                      refine lv_iconst (v := 1) hx hb dX9_greets_384 (by decide) ?_
                      refine lv_bipush (v := 6) hx hb dX9_greets_385 (by decide) ?_
                      refine kWVv F hK hP38 hD38 hS38 hA hl9.1 (c_X9_takes l G h a σ38 1 6 (by first | assumption | decide | omega) (by first | assumption | decide | omega)) 9 0 gX9_greets_X9_takes rfl 2 rfl (by decide +kernel) ⟨Nat.le_of_ble_eq_true rfl, Nat.le_of_ble_eq_true rfl⟩ ⟨Nat.zero_le _, Nat.zero_le _⟩ rfl rfl (Nat.le_of_ble_eq_true rfl) rfl dX9_greets_387 (fun σ_39 H40 locs40 hw39 (hP40 : va_P G.1 vwCl (mW G h a σ_39) H40) (hD40 : va_D A (mW G h a σ_39)) hS40 => ?_)
                      clear hP38 hD38 hS38
                      have w39_0 : σ_39 = mtakes σ38 1 (6 + 1) := hw39
                      refine lv_aload_n hx hb dX9_greets_390 rfl (lv_at hl9 4 rfl) ?_
                      refine kget F hK hP40 9 0 29 iX9 rfl rfl (by decide) (List.mem_of_getElem? (i := 1) rfl) rfl dX9_greets_391 ?_
                      refine lv_bipush (v := 7) hx hb dX9_greets_394 (by decide) ?_
                      refine lv_aload_n hx hb dX9_greets_396 rfl (lv_at hl9 4 rfl) ?_
                      refine lv_iconst (v := 1) hx hb dX9_greets_397 (by decide) ?_
                      refine lv_iconst (v := 1) hx hb dX9_greets_398 (by decide) ?_
                      refine kWVi F hK hP40 hD40 hS40 hA hl9.1 (c_X9_proof l G h a σ_39 1 1 (by first | assumption | decide | omega)) 9 0 gX9_greets_X9_proof rfl 2 rfl (by decide +kernel) ⟨Nat.le_of_ble_eq_true rfl, Nat.le_of_ble_eq_true rfl⟩ ⟨Nat.zero_le _, Nat.zero_le _⟩ rfl rfl (Nat.le_of_ble_eq_true rfl) rfl dX9_greets_399 (fun r41 u41 H42 locs42 hw41 (hP42 : va_P G.1 vwCl (mW G h a σ_39) H42) (hD42 : va_D A (mW G h a σ_39)) hS42 => ?_)
                      clear hP40 hD40 hS40
                      have w41_0 : r41 = mproof σ_39 1 1 := hw41
                      refine kMst F hK hP42 hD42 hS42 29 20 7 rfl rfl (by decide) (Nat.le_of_ble_eq_true rfl) rfl dX9_greets_402 (fun H43 locs43 σ43 eσ43 hP43 hD43 hS43 => ?_)
                      clear hP42 hD42 hS42
                      refine lv_aload_n hx hb dX9_greets_403 rfl (lv_at hl9 4 rfl) ?_
                      refine lv_iconst (v := 0) hx hb dX9_greets_404 (by decide) ?_
                      refine kWVv F hK hP43 hD43 hS43 hA hl9.1 (c_X9_sends l G h a σ43 0 Mn (by first | assumption | decide | omega) (by subst eσ43; subst w41_0; subst w39_0; subst eσ38; subst eσ36; subst eσ34; subst w31_0; subst eσ30; subst w28_0; subst eσ27; subst eσ26; subst w24_0; subst eσ23; subst eσ21; subst eσ20; subst eσ19; subst w17_0; subst w15_0; subst w13_0; subst w11_0; first | exact hM | (simp only [msees, mtakes, mclr]; (repeat' split) <;> exact hM)) hM8) 9 0 gX9_greets_X9_sends rfl 1 rfl (by decide +kernel) ⟨Nat.le_of_ble_eq_true rfl, Nat.le_of_ble_eq_true rfl⟩ ⟨Nat.zero_le _, Nat.zero_le _⟩ rfl rfl (Nat.le_of_ble_eq_true rfl) rfl dX9_greets_405 (fun σ_44 H45 locs45 hw44 (hP45 : va_P G.1 vwCl (mW G h a σ_44) H45) (hD45 : va_D A (mW G h a σ_44)) hS45 => ?_)
                      clear hP43 hD43 hS43
                      have w44_0 : σ_44 = msend σ43 0 Mn := hw44
                      refine lv_aload_n hx hb dX9_greets_408 rfl (lv_at hl9 4 rfl) ?_
                      refine kget F hK hP45 9 0 3 iX9 rfl rfl (by decide) (List.mem_of_getElem? (i := 13) rfl) rfl dX9_greets_409 ?_
                      refine lv_iconst (v := 1) hx hb dX9_greets_412 (by decide) ?_
                      refine lv_iconst (v := 3) hx hb dX9_greets_413 (by decide) ?_
                      refine kMst F hK hP45 hD45 hS45 3 4 1 rfl rfl (by decide) (Nat.le_of_ble_eq_true rfl) rfl dX9_greets_414 (fun H46 locs46 σ46 eσ46 hP46 hD46 hS46 => ?_)
                      clear hP45 hD45 hS45
                      have q47 : σ46 = mgreets σ v g i S Mn E K := by
                        subst eσ46
                        subst w44_0
                        subst eσ43
                        subst w41_0
                        subst w39_0
                        subst eσ38
                        subst eσ36
                        subst eσ34
                        subst w31_0
                        subst eσ30
                        subst w28_0
                        subst eσ27
                        subst eσ26
                        subst w24_0
                        subst eσ23
                        subst eσ21
                        subst eσ20
                        subst eσ19
                        subst w17_0
                        subst w15_0
                        subst w13_0
                        subst w11_0
                        first | (simp only [mgreets, mgrY, mearl, mgrT, mgrC, mgrB, mgrA, mgrE, kd10, c1, eq_true c3, eq_true c5, eq_true c7, eq_true c8, eq_true c10, eq_true c22, eq_true c33, eq_true c35, eq_true c37, eq_self, ↓reduceIte, and_self, and_true, true_and]; done) | (simp only [mgreets, mgrY, mearl, mgrT, mgrC, mgrB, mgrA, mgrE, kd10, c1, eq_true c3, eq_true c5, eq_true c7, eq_true c8, eq_true c10, eq_true c22, eq_true c33, eq_true c35, eq_true c37, eq_self, ↓reduceIte, and_self, and_true, true_and]; (try and_intros) <;> rfl)
                      exact kRv F hr hlocks hS46 dX9_greets_415 σ46 q47 hP46 hD46
                    · exact absurd (by decide) c37
                  · exact absurd (by decide) c35
                · refine lv_iconst (v := 1) hx hb dX9_greets_344 (by decide) ?_
                  refine lv_goto (tgt := 349) hx hb dX9_greets_345 (by decide) ?_
                  refine kMst F hK hP32 hD32 hS32 29 20 4 rfl rfl (by decide) (Nat.le_of_ble_eq_true rfl) rfl dX9_greets_349 (fun H48 locs48 σ48 eσ48 hP48 hD48 hS48 => ?_)
                  clear hP32 hD32 hS32
                  refine lv_aload_n hx hb dX9_greets_350 rfl (lv_at hl9 4 rfl) ?_
                  refine kget F hK hP48 9 0 29 iX9 rfl rfl (by decide) (List.mem_of_getElem? (i := 1) rfl) rfl dX9_greets_351 ?_
                  refine lv_iconst (v := 5) hx hb dX9_greets_354 (by decide) ?_
                  refine lv_iload hx hb dX9_greets_355 (lv_at hl9 2 rfl) ?_
                  refine lv_if_eq (tgt := 364) hx hb dX9_greets_357 (by decide) (fun c49 => ?_) (fun c49 => ?_)
                  · refine lv_iconst (v := 0) hx hb dX9_greets_364 (by decide) ?_
                    refine kMst F hK hP48 hD48 hS48 29 20 5 rfl rfl (by decide) (Nat.le_of_ble_eq_true rfl) rfl dX9_greets_365 (fun H50 locs50 σ50 eσ50 hP50 hD50 hS50 => ?_)
                    clear hP48 hD48 hS48
                    refine lv_aload_n hx hb dX9_greets_366 rfl (lv_at hl9 4 rfl) ?_
                    refine kget F hK hP50 9 0 29 iX9 rfl rfl (by decide) (List.mem_of_getElem? (i := 1) rfl) rfl dX9_greets_367 ?_
                    refine lv_bipush (v := 6) hx hb dX9_greets_370 (by decide) ?_
                    refine lv_iload hx hb dX9_greets_372 (lv_at hl9 0 rfl) ?_
                    refine lv_if_eq (tgt := 381) hx hb dX9_greets_374 (by decide) (fun c51 => ?_) (fun c51 => ?_)
                    · refine lv_iconst (v := 0) hx hb dX9_greets_381 (by decide) ?_
                      refine kMst F hK hP50 hD50 hS50 29 20 6 rfl rfl (by decide) (Nat.le_of_ble_eq_true rfl) rfl dX9_greets_382 (fun H52 locs52 σ52 eσ52 hP52 hD52 hS52 => ?_)
                      clear hP50 hD50 hS50
                      refine lv_aload_n hx hb dX9_greets_383 rfl (lv_at hl9 4 rfl) ?_
                      refine lv_iconst (v := 1) hx hb dX9_greets_384 (by decide) ?_
                      refine lv_bipush (v := 6) hx hb dX9_greets_385 (by decide) ?_
                      refine kWVv F hK hP52 hD52 hS52 hA hl9.1 (c_X9_takes l G h a σ52 1 6 (by first | assumption | decide | omega) (by first | assumption | decide | omega)) 9 0 gX9_greets_X9_takes rfl 2 rfl (by decide +kernel) ⟨Nat.le_of_ble_eq_true rfl, Nat.le_of_ble_eq_true rfl⟩ ⟨Nat.zero_le _, Nat.zero_le _⟩ rfl rfl (Nat.le_of_ble_eq_true rfl) rfl dX9_greets_387 (fun σ_53 H54 locs54 hw53 (hP54 : va_P G.1 vwCl (mW G h a σ_53) H54) (hD54 : va_D A (mW G h a σ_53)) hS54 => ?_)
                      clear hP52 hD52 hS52
                      have w53_0 : σ_53 = mtakes σ52 1 (6 + 1) := hw53
                      refine lv_aload_n hx hb dX9_greets_390 rfl (lv_at hl9 4 rfl) ?_
                      refine kget F hK hP54 9 0 29 iX9 rfl rfl (by decide) (List.mem_of_getElem? (i := 1) rfl) rfl dX9_greets_391 ?_
                      refine lv_bipush (v := 7) hx hb dX9_greets_394 (by decide) ?_
                      refine lv_aload_n hx hb dX9_greets_396 rfl (lv_at hl9 4 rfl) ?_
                      refine lv_iconst (v := 1) hx hb dX9_greets_397 (by decide) ?_
                      refine lv_iconst (v := 1) hx hb dX9_greets_398 (by decide) ?_
                      refine kWVi F hK hP54 hD54 hS54 hA hl9.1 (c_X9_proof l G h a σ_53 1 1 (by first | assumption | decide | omega)) 9 0 gX9_greets_X9_proof rfl 2 rfl (by decide +kernel) ⟨Nat.le_of_ble_eq_true rfl, Nat.le_of_ble_eq_true rfl⟩ ⟨Nat.zero_le _, Nat.zero_le _⟩ rfl rfl (Nat.le_of_ble_eq_true rfl) rfl dX9_greets_399 (fun r55 u55 H56 locs56 hw55 (hP56 : va_P G.1 vwCl (mW G h a σ_53) H56) (hD56 : va_D A (mW G h a σ_53)) hS56 => ?_)
                      clear hP54 hD54 hS54
                      have w55_0 : r55 = mproof σ_53 1 1 := hw55
                      refine kMst F hK hP56 hD56 hS56 29 20 7 rfl rfl (by decide) (Nat.le_of_ble_eq_true rfl) rfl dX9_greets_402 (fun H57 locs57 σ57 eσ57 hP57 hD57 hS57 => ?_)
                      clear hP56 hD56 hS56
                      refine lv_aload_n hx hb dX9_greets_403 rfl (lv_at hl9 4 rfl) ?_
                      refine lv_iconst (v := 0) hx hb dX9_greets_404 (by decide) ?_
                      refine kWVv F hK hP57 hD57 hS57 hA hl9.1 (c_X9_sends l G h a σ57 0 Mn (by first | assumption | decide | omega) (by subst eσ57; subst w55_0; subst w53_0; subst eσ52; subst eσ50; subst eσ48; subst w31_0; subst eσ30; subst w28_0; subst eσ27; subst eσ26; subst w24_0; subst eσ23; subst eσ21; subst eσ20; subst eσ19; subst w17_0; subst w15_0; subst w13_0; subst w11_0; first | exact hM | (simp only [msees, mtakes, mclr]; (repeat' split) <;> exact hM)) hM8) 9 0 gX9_greets_X9_sends rfl 1 rfl (by decide +kernel) ⟨Nat.le_of_ble_eq_true rfl, Nat.le_of_ble_eq_true rfl⟩ ⟨Nat.zero_le _, Nat.zero_le _⟩ rfl rfl (Nat.le_of_ble_eq_true rfl) rfl dX9_greets_405 (fun σ_58 H59 locs59 hw58 (hP59 : va_P G.1 vwCl (mW G h a σ_58) H59) (hD59 : va_D A (mW G h a σ_58)) hS59 => ?_)
                      clear hP57 hD57 hS57
                      have w58_0 : σ_58 = msend σ57 0 Mn := hw58
                      refine lv_aload_n hx hb dX9_greets_408 rfl (lv_at hl9 4 rfl) ?_
                      refine kget F hK hP59 9 0 3 iX9 rfl rfl (by decide) (List.mem_of_getElem? (i := 13) rfl) rfl dX9_greets_409 ?_
                      refine lv_iconst (v := 1) hx hb dX9_greets_412 (by decide) ?_
                      refine lv_iconst (v := 3) hx hb dX9_greets_413 (by decide) ?_
                      refine kMst F hK hP59 hD59 hS59 3 4 1 rfl rfl (by decide) (Nat.le_of_ble_eq_true rfl) rfl dX9_greets_414 (fun H60 locs60 σ60 eσ60 hP60 hD60 hS60 => ?_)
                      clear hP59 hD59 hS59
                      have q61 : σ60 = mgreets σ v g i S Mn E K := by
                        subst eσ60
                        subst w58_0
                        subst eσ57
                        subst w55_0
                        subst w53_0
                        subst eσ52
                        subst eσ50
                        subst eσ48
                        subst w31_0
                        subst eσ30
                        subst w28_0
                        subst eσ27
                        subst eσ26
                        subst w24_0
                        subst eσ23
                        subst eσ21
                        subst eσ20
                        subst eσ19
                        subst w17_0
                        subst w15_0
                        subst w13_0
                        subst w11_0
                        first | (simp only [mgreets, mgrY, mearl, mgrT, mgrC, mgrB, mgrA, mgrE, kd10, c1, eq_true c3, eq_true c5, eq_true c7, eq_true c8, eq_true c10, eq_true c22, c33, eq_true c49, eq_true c51, eq_self, ↓reduceIte, and_self, and_true, true_and]; done) | (simp only [mgreets, mgrY, mearl, mgrT, mgrC, mgrB, mgrA, mgrE, kd10, c1, eq_true c3, eq_true c5, eq_true c7, eq_true c8, eq_true c10, eq_true c22, c33, eq_true c49, eq_true c51, eq_self, ↓reduceIte, and_self, and_true, true_and]; (try and_intros) <;> rfl)
                      exact kRv F hr hlocks hS60 dX9_greets_415 σ60 q61 hP60 hD60
                    · exact absurd (by decide) c51
                  · exact absurd (by decide) c49
              · exact absurd (by decide) c22
            · exact absurd (by decide) c10
          · exact absurd (by decide) c8
        · exact absurd (by decide) c7
      · exact absurd (by decide) c5
    · exact absurd (by decide) c3
  · refine lv_aload_n hx hb dX9_greets_5 rfl (lv_at hl0 0 rfl) ?_
    refine lv_aload_n hx hb dX9_greets_6 rfl (lv_at hl0 0 rfl) ?_
    refine kget F hK hP0 9 0 29 iX9 rfl rfl (by decide) (List.mem_of_getElem? (i := 1) rfl) rfl dX9_greets_7 ?_
    refine lv_iconst (v := 5) hx hb dX9_greets_10 (by decide) ?_
    refine kild F hK hP0 20 5 rfl rfl (by decide) (Nat.le_of_ble_eq_true rfl) dX9_greets_11 ?_
    refine kWVi F hK hP0 hD0 hS0 hA hl0.1 (c_X9_ticketOf l G h a σ (σ 29 5) K hKe hK3) 9 0 gX9_greets_X9_ticketOf rfl 1 rfl (by decide +kernel) ⟨Nat.le_of_ble_eq_true rfl, Nat.le_of_ble_eq_true rfl⟩ ⟨Nat.zero_le _, Nat.zero_le _⟩ rfl rfl (Nat.le_of_ble_eq_true rfl) rfl dX9_greets_12 (fun r62 u62 H63 locs63 hw62 (hP63 : va_P G.1 vwCl (mW G h a σ) H63) (hD63 : va_D A (mW G h a σ)) hS63 => ?_)
    clear hP0 hD0 hS0
    have w62_0 : r62 = mtof σ (σ 29 5) K := hw62
    rcases mtof_cases σ (σ 29 5) K with hv | ⟨j, hj, hv⟩
    · have gv : r62 = -1 := w62_0.trans hv
      clear w62_0
      subst gv
      refine lv_goto (tgt := 19) hx hb dX9_greets_15 (by decide) ?_
      refine lv_istore (lv' := [(4, .int (-1)), (0, .ref h), (1, .int v), (2, .int g), (3, .int i)]) hx hb dX9_greets_19 hl0 (by decide) rfl (fun ls64 hl64 => ?_)
      clear hl0
      refine lv_iload hx hb dX9_greets_21 (lv_at hl64 0 rfl) ?_
      refine lv_iconst (v := (-1)) hx hb dX9_greets_23 (by decide) ?_
      refine lv_icmp_eq (tgt := 61) hx hb dX9_greets_24 (by decide) (fun c65 => ?_) (fun c65 => ?_)
      · refine lv_iconst (v := 0) hx hb dX9_greets_61 (by decide) ?_
        refine lv_istore (lv' := [(5, .int 0), (4, .int (-1)), (0, .ref h), (1, .int v), (2, .int g), (3, .int i)]) hx hb dX9_greets_62 hl64 (by decide) rfl (fun ls66 hl66 => ?_)
        clear hl64
        refine lv_iload hx hb dX9_greets_64 (lv_at hl66 0 rfl) ?_
        refine lv_if_eq (tgt := 83) hx hb dX9_greets_66 (by decide) (fun c67 => ?_) (fun c67 => ?_)
        · refine lv_iconst (v := 0) hx hb dX9_greets_83 (by decide) ?_
          refine lv_istore (lv' := [(6, .int 0), (5, .int 0), (4, .int (-1)), (0, .ref h), (1, .int v), (2, .int g), (3, .int i)]) hx hb dX9_greets_84 hl66 (by decide) rfl (fun ls68 hl68 => ?_)
          clear hl66
          refine lv_iload hx hb dX9_greets_86 (lv_at hl68 1 rfl) ?_
          refine lv_if_eq (tgt := 121) hx hb dX9_greets_88 (by decide) (fun c69 => ?_) (fun c69 => ?_)
          · refine lv_iload hx hb dX9_greets_121 (lv_at hl68 1 rfl) ?_
            refine lv_if_eq (tgt := 173) hx hb dX9_greets_123 (by decide) (fun c70 => ?_) (fun c70 => ?_)
            · refine lv_iconst (v := 0) hx hb dX9_greets_173 (by decide) ?_
              refine lv_istore (lv' := [(7, .int 0), (6, .int 0), (5, .int 0), (4, .int (-1)), (0, .ref h), (1, .int v), (2, .int g), (3, .int i)]) hx hb dX9_greets_174 hl68 (by decide) rfl (fun ls71 hl71 => ?_)
              clear hl68
              refine lv_iload hx hb dX9_greets_176 (lv_at hl71 0 rfl) ?_
              refine lv_if_eq (tgt := 224) hx hb dX9_greets_178 (by decide) (fun c72 => ?_) (fun c72 => ?_)
              · refine lv_aload_n hx hb dX9_greets_224 rfl (lv_at hl71 4 rfl) ?_
                refine lv_iconst (v := 1) hx hb dX9_greets_225 (by decide) ?_
                refine lv_bipush (v := 8) hx hb dX9_greets_226 (by decide) ?_
                refine kWVv F hK hP63 hD63 hS63 hA hl71.1 (c_X9_takes l G h a σ 1 8 (by first | assumption | decide | omega) (by first | assumption | decide | omega)) 9 0 gX9_greets_X9_takes rfl 2 rfl (by decide +kernel) ⟨Nat.le_of_ble_eq_true rfl, Nat.le_of_ble_eq_true rfl⟩ ⟨Nat.zero_le _, Nat.zero_le _⟩ rfl rfl (Nat.le_of_ble_eq_true rfl) rfl dX9_greets_228 (fun σ_73 H74 locs74 hw73 (hP74 : va_P G.1 vwCl (mW G h a σ_73) H74) (hD74 : va_D A (mW G h a σ_73)) hS74 => ?_)
                clear hP63 hD63 hS63
                have w73_0 : σ_73 = mtakes σ 1 (8 + 1) := hw73
                refine lv_aload_n hx hb dX9_greets_231 rfl (lv_at hl71 4 rfl) ?_
                refine kget F hK hP74 9 0 9 iX9 rfl rfl (by decide) (List.mem_of_getElem? (i := 7) rfl) rfl dX9_greets_232 ?_
                refine lv_iconst (v := 1) hx hb dX9_greets_235 (by decide) ?_
                refine lv_aload_n hx hb dX9_greets_236 rfl (lv_at hl71 4 rfl) ?_
                refine kget F hK hP74 9 0 29 iX9 rfl rfl (by decide) (List.mem_of_getElem? (i := 1) rfl) rfl dX9_greets_237 ?_
                refine lv_iconst (v := 4) hx hb dX9_greets_240 (by decide) ?_
                refine kild F hK hP74 20 4 rfl rfl (by decide) (Nat.le_of_ble_eq_true rfl) dX9_greets_241 ?_
                rw [show (σ_73 29 4) = (σ 29 4) from by subst w73_0; first | rfl | (simp only [msend, msees]; (repeat' split) <;> rfl)]
                refine lv_aload_n hx hb dX9_greets_242 rfl (lv_at hl71 4 rfl) ?_
                refine kget F hK hP74 9 0 2 iX9 rfl rfl (by decide) (List.mem_of_getElem? (i := 8) rfl) rfl dX9_greets_243 ?_
                refine lv_iconst (v := 1) hx hb dX9_greets_246 (by decide) ?_
                refine kild F hK hP74 3 1 rfl rfl (by decide) (Nat.le_of_ble_eq_true rfl) dX9_greets_247 ?_
                rw [show (σ_73 2 1) = (σ 2 1) from by subst w73_0; first | rfl | (simp only [msend, msees]; (repeat' split) <;> rfl)]
                refine lv_iload_n hx hb dX9_greets_248 rfl (lv_at hl71 6 rfl) ?_
                refine kPSi F hK hP74 hD74 hS74 hA hl71.1 (c_X9_prime l G g) (fun _ => rfl) gX9_greets_X9_prime rfl 1 rfl (by decide +kernel) ⟨Nat.le_of_ble_eq_true rfl, Nat.le_of_ble_eq_true rfl⟩ ⟨Nat.zero_le _, Nat.zero_le _⟩ (Nat.le_of_ble_eq_true rfl) rfl dX9_greets_249 (fun r75 u75 H76 locs76 hw75 (hP76 : va_P G.1 vwCl (mW G h a σ_73) H76) (hD76 : va_D A (mW G h a σ_73)) hS76 => ?_)
                clear hP74 hD74 hS74
                have w75_0 : r75 = kprime g := hw75
                refine kPSi F hK hP76 hD76 hS76 hA hl71.1 (c_X9_power l G (σ 29 4) (σ 2 1) r75 S (by subst_vars; exact kprime_1 _) hs hS) (fun _ => rfl) gX9_greets_X9_power rfl 3 rfl (by decide +kernel) ⟨Nat.le_of_ble_eq_true rfl, Nat.le_of_ble_eq_true rfl⟩ ⟨Nat.zero_le _, Nat.zero_le _⟩ (Nat.le_of_ble_eq_true rfl) rfl dX9_greets_252 (fun r77 u77 H78 locs78 hw77 (hP78 : va_P G.1 vwCl (mW G h a σ_73) H78) (hD78 : va_D A (mW G h a σ_73)) hS78 => ?_)
                clear hP76 hD76 hS76
                have w77_0 : r77 = mpw (σ 29 4) r75 S := hw77
                refine lv_iload hx hb dX9_greets_255 (lv_at hl71 1 rfl) ?_
                refine kPSi F hK hP78 hD78 hS78 hA hl71.1 (c_X9_keyOf l G r77 0) (fun _ => rfl) gX9_greets_X9_keyOf rfl 2 rfl (by decide +kernel) ⟨Nat.le_of_ble_eq_true rfl, Nat.le_of_ble_eq_true rfl⟩ ⟨Nat.zero_le _, Nat.zero_le _⟩ (Nat.le_of_ble_eq_true rfl) rfl dX9_greets_257 (fun r79 u79 H80 locs80 hw79 (hP80 : va_P G.1 vwCl (mW G h a σ_73) H80) (hD80 : va_D A (mW G h a σ_73)) hS80 => ?_)
                clear hP78 hD78 hS78
                have w79_0 : r79 = kmix (kmix 7 r77) 0 := hw79
                refine kMst F hK hP80 hD80 hS80 9 10 1 rfl rfl (by decide) (Nat.le_of_ble_eq_true rfl) rfl dX9_greets_260 (fun H81 locs81 σ81 eσ81 hP81 hD81 hS81 => ?_)
                clear hP80 hD80 hS80
                refine lv_aload_n hx hb dX9_greets_261 rfl (lv_at hl71 4 rfl) ?_
                refine kget F hK hP81 9 0 6 iX9 rfl rfl (by decide) (List.mem_of_getElem? (i := 9) rfl) rfl dX9_greets_262 ?_
                refine lv_iconst (v := 1) hx hb dX9_greets_265 (by decide) ?_
                refine lv_iload_n hx hb dX9_greets_266 rfl (lv_at hl71 5 rfl) ?_
                refine kMst F hK hP81 hD81 hS81 6 7 1 rfl rfl (by decide) (Nat.le_of_ble_eq_true rfl) rfl dX9_greets_267 (fun H82 locs82 σ82 eσ82 hP82 hD82 hS82 => ?_)
                clear hP81 hD81 hS81
                refine lv_aload_n hx hb dX9_greets_268 rfl (lv_at hl71 4 rfl) ?_
                refine kget F hK hP82 9 0 7 iX9 rfl rfl (by decide) (List.mem_of_getElem? (i := 10) rfl) rfl dX9_greets_269 ?_
                refine lv_iconst (v := 1) hx hb dX9_greets_272 (by decide) ?_
                refine lv_iload_n hx hb dX9_greets_273 rfl (lv_at hl71 6 rfl) ?_
                refine kMst F hK hP82 hD82 hS82 7 8 1 rfl rfl (by decide) (Nat.le_of_ble_eq_true rfl) rfl dX9_greets_274 (fun H83 locs83 σ83 eσ83 hP83 hD83 hS83 => ?_)
                clear hP82 hD82 hS82
                refine lv_aload_n hx hb dX9_greets_275 rfl (lv_at hl71 4 rfl) ?_
                refine kget F hK hP83 9 0 8 iX9 rfl rfl (by decide) (List.mem_of_getElem? (i := 11) rfl) rfl dX9_greets_276 ?_
                refine lv_iconst (v := 1) hx hb dX9_greets_279 (by decide) ?_
                refine lv_iload hx hb dX9_greets_280 (lv_at hl71 2 rfl) ?_
                refine lv_if_eq (tgt := 289) hx hb dX9_greets_282 (by decide) (fun c84 => ?_) (fun c84 => ?_)
                · refine lv_iconst (v := 0) hx hb dX9_greets_289 (by decide) ?_
                  refine kMst F hK hP83 hD83 hS83 8 9 1 rfl rfl (by decide) (Nat.le_of_ble_eq_true rfl) rfl dX9_greets_290 (fun H85 locs85 σ85 eσ85 hP85 hD85 hS85 => ?_)
                  clear hP83 hD83 hS83
                  refine lv_aload_n hx hb dX9_greets_291 rfl (lv_at hl71 4 rfl) ?_
                  refine lv_iconst (v := 3) hx hb dX9_greets_292 (by decide) ?_
                  refine kWVv F hK hP85 hD85 hS85 hA hl71.1 (c_X9_clears l G h a σ85 3) 9 0 gX9_greets_X9_clears rfl 1 rfl (by decide +kernel) ⟨Nat.le_of_ble_eq_true rfl, Nat.le_of_ble_eq_true rfl⟩ ⟨Nat.zero_le _, Nat.zero_le _⟩ rfl rfl (Nat.le_of_ble_eq_true rfl) rfl dX9_greets_293 (fun σ_86 H87 locs87 hw86 (hP87 : va_P G.1 vwCl (mW G h a σ_86) H87) (hD87 : va_D A (mW G h a σ_86)) hS87 => ?_)
                  clear hP85 hD85 hS85
                  have w86_0 : σ_86 = mclr σ85 3 := hw86
                  refine lv_aload_n hx hb dX9_greets_296 rfl (lv_at hl71 4 rfl) ?_
                  refine kget F hK hP87 9 0 29 iX9 rfl rfl (by decide) (List.mem_of_getElem? (i := 1) rfl) rfl dX9_greets_297 ?_
                  refine lv_iconst (v := 1) hx hb dX9_greets_300 (by decide) ?_
                  refine lv_iload_n hx hb dX9_greets_301 rfl (lv_at hl71 5 rfl) ?_
                  refine kMst F hK hP87 hD87 hS87 29 20 1 rfl rfl (by decide) (Nat.le_of_ble_eq_true rfl) rfl dX9_greets_302 (fun H88 locs88 σ88 eσ88 hP88 hD88 hS88 => ?_)
                  clear hP87 hD87 hS87
                  refine lv_aload_n hx hb dX9_greets_303 rfl (lv_at hl71 4 rfl) ?_
                  refine kget F hK hP88 9 0 29 iX9 rfl rfl (by decide) (List.mem_of_getElem? (i := 1) rfl) rfl dX9_greets_304 ?_
                  refine lv_iconst (v := 2) hx hb dX9_greets_307 (by decide) ?_
                  refine lv_iload_n hx hb dX9_greets_308 rfl (lv_at hl71 6 rfl) ?_
                  refine kMst F hK hP88 hD88 hS88 29 20 2 rfl rfl (by decide) (Nat.le_of_ble_eq_true rfl) rfl dX9_greets_309 (fun H89 locs89 σ89 eσ89 hP89 hD89 hS89 => ?_)
                  clear hP88 hD88 hS88
                  refine lv_aload_n hx hb dX9_greets_310 rfl (lv_at hl71 4 rfl) ?_
                  refine kget F hK hP89 9 0 29 iX9 rfl rfl (by decide) (List.mem_of_getElem? (i := 1) rfl) rfl dX9_greets_311 ?_
                  refine lv_iconst (v := 3) hx hb dX9_greets_314 (by decide) ?_
                  refine lv_iload_n hx hb dX9_greets_315 rfl (lv_at hl71 6 rfl) ?_
                  refine lv_aload_n hx hb dX9_greets_316 rfl (lv_at hl71 4 rfl) ?_
                  refine kget F hK hP89 9 0 2 iX9 rfl rfl (by decide) (List.mem_of_getElem? (i := 8) rfl) rfl dX9_greets_317 ?_
                  refine lv_iconst (v := 1) hx hb dX9_greets_320 (by decide) ?_
                  refine kild F hK hP89 3 1 rfl rfl (by decide) (Nat.le_of_ble_eq_true rfl) dX9_greets_321 ?_
                  rw [show (σ89 2 1) = (σ 2 1) from by subst eσ89; subst eσ88; subst w86_0; subst eσ85; subst eσ83; subst eσ82; subst eσ81; subst w73_0; first | rfl | (simp only [msend, msees]; (repeat' split) <;> rfl)]
                  refine kPSi F hK hP89 hD89 hS89 hA hl71.1 (c_X9_shareOf l G g (σ 2 1) S hs hS) (fun _ => rfl) gX9_greets_X9_shareOf rfl 2 rfl (by decide +kernel) ⟨Nat.le_of_ble_eq_true rfl, Nat.le_of_ble_eq_true rfl⟩ ⟨Nat.zero_le _, Nat.zero_le _⟩ (Nat.le_of_ble_eq_true rfl) rfl dX9_greets_322 (fun r90 u90 H91 locs91 hw90 (hP91 : va_P G.1 vwCl (mW G h a σ89) H91) (hD91 : va_D A (mW G h a σ89)) hS91 => ?_)
                  clear hP89 hD89 hS89
                  have w90_0 : r90 = mshare g S := hw90
                  refine kMst F hK hP91 hD91 hS91 29 20 3 rfl rfl (by decide) (Nat.le_of_ble_eq_true rfl) rfl dX9_greets_325 (fun H92 locs92 σ92 eσ92 hP92 hD92 hS92 => ?_)
                  clear hP91 hD91 hS91
                  refine lv_aload_n hx hb dX9_greets_326 rfl (lv_at hl71 4 rfl) ?_
                  refine kget F hK hP92 9 0 29 iX9 rfl rfl (by decide) (List.mem_of_getElem? (i := 1) rfl) rfl dX9_greets_327 ?_
                  refine lv_iconst (v := 4) hx hb dX9_greets_330 (by decide) ?_
                  refine lv_aload_n hx hb dX9_greets_331 rfl (lv_at hl71 4 rfl) ?_
                  refine kget F hK hP92 9 0 0 iX9 rfl rfl (by decide) (List.mem_of_getElem? (i := 12) rfl) rfl dX9_greets_332 ?_
                  refine lv_iconst (v := 1) hx hb dX9_greets_335 (by decide) ?_
                  refine kild F hK hP92 1 1 rfl rfl (by decide) (Nat.le_of_ble_eq_true rfl) dX9_greets_336 ?_
                  rw [show (σ92 0 1) = (σ 0 1) from by subst eσ92; subst eσ89; subst eσ88; subst w86_0; subst eσ85; subst eσ83; subst eσ82; subst eσ81; subst w73_0; first | rfl | (simp only [msend, msees]; (repeat' split) <;> rfl)]
                  refine lv_iload_n hx hb dX9_greets_337 rfl (lv_at hl71 5 rfl) ?_
                  refine kPSi F hK hP92 hD92 hS92 hA hl71.1 (c_X9_hasAbove l G (σ 0 1) v hvv) (fun _ => rfl) gX9_greets_X9_hasAbove rfl 2 rfl (by decide +kernel) ⟨Nat.le_of_ble_eq_true rfl, Nat.le_of_ble_eq_true rfl⟩ ⟨Nat.zero_le _, Nat.zero_le _⟩ (Nat.le_of_ble_eq_true rfl) rfl dX9_greets_338 (fun r93 u93 H94 locs94 hw93 (hP94 : va_P G.1 vwCl (mW G h a σ92) H94) (hD94 : va_D A (mW G h a σ92)) hS94 => ?_)
                  clear hP92 hD92 hS92
                  have w93_0 : r93 = mab (σ 0 1) v := hw93
                  refine lv_if_eq (tgt := 348) hx hb dX9_greets_341 (by decide) (fun c95 => ?_) (fun c95 => ?_)
                  · refine lv_iconst (v := 0) hx hb dX9_greets_348 (by decide) ?_
                    refine kMst F hK hP94 hD94 hS94 29 20 4 rfl rfl (by decide) (Nat.le_of_ble_eq_true rfl) rfl dX9_greets_349 (fun H96 locs96 σ96 eσ96 hP96 hD96 hS96 => ?_)
                    clear hP94 hD94 hS94
                    refine lv_aload_n hx hb dX9_greets_350 rfl (lv_at hl71 4 rfl) ?_
                    refine kget F hK hP96 9 0 29 iX9 rfl rfl (by decide) (List.mem_of_getElem? (i := 1) rfl) rfl dX9_greets_351 ?_
                    refine lv_iconst (v := 5) hx hb dX9_greets_354 (by decide) ?_
                    refine lv_iload hx hb dX9_greets_355 (lv_at hl71 2 rfl) ?_
                    refine lv_if_eq (tgt := 364) hx hb dX9_greets_357 (by decide) (fun c97 => ?_) (fun c97 => ?_)
                    · refine lv_iconst (v := 0) hx hb dX9_greets_364 (by decide) ?_
                      refine kMst F hK hP96 hD96 hS96 29 20 5 rfl rfl (by decide) (Nat.le_of_ble_eq_true rfl) rfl dX9_greets_365 (fun H98 locs98 σ98 eσ98 hP98 hD98 hS98 => ?_)
                      clear hP96 hD96 hS96
                      refine lv_aload_n hx hb dX9_greets_366 rfl (lv_at hl71 4 rfl) ?_
                      refine kget F hK hP98 9 0 29 iX9 rfl rfl (by decide) (List.mem_of_getElem? (i := 1) rfl) rfl dX9_greets_367 ?_
                      refine lv_bipush (v := 6) hx hb dX9_greets_370 (by decide) ?_
                      refine lv_iload hx hb dX9_greets_372 (lv_at hl71 0 rfl) ?_
                      refine lv_if_eq (tgt := 381) hx hb dX9_greets_374 (by decide) (fun c99 => ?_) (fun c99 => ?_)
                      · refine lv_iconst (v := 0) hx hb dX9_greets_381 (by decide) ?_
                        refine kMst F hK hP98 hD98 hS98 29 20 6 rfl rfl (by decide) (Nat.le_of_ble_eq_true rfl) rfl dX9_greets_382 (fun H100 locs100 σ100 eσ100 hP100 hD100 hS100 => ?_)
                        clear hP98 hD98 hS98
                        refine lv_aload_n hx hb dX9_greets_383 rfl (lv_at hl71 4 rfl) ?_
                        refine lv_iconst (v := 1) hx hb dX9_greets_384 (by decide) ?_
                        refine lv_bipush (v := 6) hx hb dX9_greets_385 (by decide) ?_
                        refine kWVv F hK hP100 hD100 hS100 hA hl71.1 (c_X9_takes l G h a σ100 1 6 (by first | assumption | decide | omega) (by first | assumption | decide | omega)) 9 0 gX9_greets_X9_takes rfl 2 rfl (by decide +kernel) ⟨Nat.le_of_ble_eq_true rfl, Nat.le_of_ble_eq_true rfl⟩ ⟨Nat.zero_le _, Nat.zero_le _⟩ rfl rfl (Nat.le_of_ble_eq_true rfl) rfl dX9_greets_387 (fun σ_101 H102 locs102 hw101 (hP102 : va_P G.1 vwCl (mW G h a σ_101) H102) (hD102 : va_D A (mW G h a σ_101)) hS102 => ?_)
                        clear hP100 hD100 hS100
                        have w101_0 : σ_101 = mtakes σ100 1 (6 + 1) := hw101
                        refine lv_aload_n hx hb dX9_greets_390 rfl (lv_at hl71 4 rfl) ?_
                        refine kget F hK hP102 9 0 29 iX9 rfl rfl (by decide) (List.mem_of_getElem? (i := 1) rfl) rfl dX9_greets_391 ?_
                        refine lv_bipush (v := 7) hx hb dX9_greets_394 (by decide) ?_
                        refine lv_aload_n hx hb dX9_greets_396 rfl (lv_at hl71 4 rfl) ?_
                        refine lv_iconst (v := 1) hx hb dX9_greets_397 (by decide) ?_
                        refine lv_iconst (v := 1) hx hb dX9_greets_398 (by decide) ?_
                        refine kWVi F hK hP102 hD102 hS102 hA hl71.1 (c_X9_proof l G h a σ_101 1 1 (by first | assumption | decide | omega)) 9 0 gX9_greets_X9_proof rfl 2 rfl (by decide +kernel) ⟨Nat.le_of_ble_eq_true rfl, Nat.le_of_ble_eq_true rfl⟩ ⟨Nat.zero_le _, Nat.zero_le _⟩ rfl rfl (Nat.le_of_ble_eq_true rfl) rfl dX9_greets_399 (fun r103 u103 H104 locs104 hw103 (hP104 : va_P G.1 vwCl (mW G h a σ_101) H104) (hD104 : va_D A (mW G h a σ_101)) hS104 => ?_)
                        clear hP102 hD102 hS102
                        have w103_0 : r103 = mproof σ_101 1 1 := hw103
                        refine kMst F hK hP104 hD104 hS104 29 20 7 rfl rfl (by decide) (Nat.le_of_ble_eq_true rfl) rfl dX9_greets_402 (fun H105 locs105 σ105 eσ105 hP105 hD105 hS105 => ?_)
                        clear hP104 hD104 hS104
                        refine lv_aload_n hx hb dX9_greets_403 rfl (lv_at hl71 4 rfl) ?_
                        refine lv_iconst (v := 0) hx hb dX9_greets_404 (by decide) ?_
                        refine kWVv F hK hP105 hD105 hS105 hA hl71.1 (c_X9_sends l G h a σ105 0 Mn (by first | assumption | decide | omega) (by subst eσ105; subst w103_0; subst w101_0; subst eσ100; subst eσ98; subst eσ96; subst w93_0; subst eσ92; subst w90_0; subst eσ89; subst eσ88; subst w86_0; subst eσ85; subst eσ83; subst eσ82; subst eσ81; subst w79_0; subst w77_0; subst w75_0; subst w73_0; first | exact hM | (simp only [msees, mtakes, mclr]; (repeat' split) <;> exact hM)) hM8) 9 0 gX9_greets_X9_sends rfl 1 rfl (by decide +kernel) ⟨Nat.le_of_ble_eq_true rfl, Nat.le_of_ble_eq_true rfl⟩ ⟨Nat.zero_le _, Nat.zero_le _⟩ rfl rfl (Nat.le_of_ble_eq_true rfl) rfl dX9_greets_405 (fun σ_106 H107 locs107 hw106 (hP107 : va_P G.1 vwCl (mW G h a σ_106) H107) (hD107 : va_D A (mW G h a σ_106)) hS107 => ?_)
                        clear hP105 hD105 hS105
                        have w106_0 : σ_106 = msend σ105 0 Mn := hw106
                        refine lv_aload_n hx hb dX9_greets_408 rfl (lv_at hl71 4 rfl) ?_
                        refine kget F hK hP107 9 0 3 iX9 rfl rfl (by decide) (List.mem_of_getElem? (i := 13) rfl) rfl dX9_greets_409 ?_
                        refine lv_iconst (v := 1) hx hb dX9_greets_412 (by decide) ?_
                        refine lv_iconst (v := 3) hx hb dX9_greets_413 (by decide) ?_
                        refine kMst F hK hP107 hD107 hS107 3 4 1 rfl rfl (by decide) (Nat.le_of_ble_eq_true rfl) rfl dX9_greets_414 (fun H108 locs108 σ108 eσ108 hP108 hD108 hS108 => ?_)
                        clear hP107 hD107 hS107
                        have q109 : σ108 = mgreets σ v g i S Mn E K := by
                          subst eσ108
                          subst w106_0
                          subst eσ105
                          subst w103_0
                          subst w101_0
                          subst eσ100
                          subst eσ98
                          subst eσ96
                          subst w93_0
                          subst eσ92
                          subst w90_0
                          subst eσ89
                          subst eσ88
                          subst w86_0
                          subst eσ85
                          subst eσ83
                          subst eσ82
                          subst eσ81
                          subst w79_0
                          subst w77_0
                          subst w75_0
                          subst w73_0
                          first | (simp only [mgreets, mgrY, mearl, mgrT, mgrC, mgrB, mgrA, mgrE, kd10, eq_true c1, hv, eq_true c65, eq_true c67, eq_true c69, eq_true c70, eq_true c72, eq_true c84, eq_true c95, eq_true c97, eq_true c99, eq_self, ↓reduceIte, and_self, and_true, true_and]; done) | (simp only [mgreets, mgrY, mearl, mgrT, mgrC, mgrB, mgrA, mgrE, kd10, eq_true c1, hv, eq_true c65, eq_true c67, eq_true c69, eq_true c70, eq_true c72, eq_true c84, eq_true c95, eq_true c97, eq_true c99, eq_self, ↓reduceIte, and_self, and_true, true_and]; (try and_intros) <;> rfl)
                        exact kRv F hr hlocks hS108 dX9_greets_415 σ108 q109 hP108 hD108
                      · exact absurd (by decide) c99
                    · exact absurd (by decide) c97
                  · refine lv_iconst (v := 1) hx hb dX9_greets_344 (by decide) ?_
                    refine lv_goto (tgt := 349) hx hb dX9_greets_345 (by decide) ?_
                    refine kMst F hK hP94 hD94 hS94 29 20 4 rfl rfl (by decide) (Nat.le_of_ble_eq_true rfl) rfl dX9_greets_349 (fun H110 locs110 σ110 eσ110 hP110 hD110 hS110 => ?_)
                    clear hP94 hD94 hS94
                    refine lv_aload_n hx hb dX9_greets_350 rfl (lv_at hl71 4 rfl) ?_
                    refine kget F hK hP110 9 0 29 iX9 rfl rfl (by decide) (List.mem_of_getElem? (i := 1) rfl) rfl dX9_greets_351 ?_
                    refine lv_iconst (v := 5) hx hb dX9_greets_354 (by decide) ?_
                    refine lv_iload hx hb dX9_greets_355 (lv_at hl71 2 rfl) ?_
                    refine lv_if_eq (tgt := 364) hx hb dX9_greets_357 (by decide) (fun c111 => ?_) (fun c111 => ?_)
                    · refine lv_iconst (v := 0) hx hb dX9_greets_364 (by decide) ?_
                      refine kMst F hK hP110 hD110 hS110 29 20 5 rfl rfl (by decide) (Nat.le_of_ble_eq_true rfl) rfl dX9_greets_365 (fun H112 locs112 σ112 eσ112 hP112 hD112 hS112 => ?_)
                      clear hP110 hD110 hS110
                      refine lv_aload_n hx hb dX9_greets_366 rfl (lv_at hl71 4 rfl) ?_
                      refine kget F hK hP112 9 0 29 iX9 rfl rfl (by decide) (List.mem_of_getElem? (i := 1) rfl) rfl dX9_greets_367 ?_
                      refine lv_bipush (v := 6) hx hb dX9_greets_370 (by decide) ?_
                      refine lv_iload hx hb dX9_greets_372 (lv_at hl71 0 rfl) ?_
                      refine lv_if_eq (tgt := 381) hx hb dX9_greets_374 (by decide) (fun c113 => ?_) (fun c113 => ?_)
                      · refine lv_iconst (v := 0) hx hb dX9_greets_381 (by decide) ?_
                        refine kMst F hK hP112 hD112 hS112 29 20 6 rfl rfl (by decide) (Nat.le_of_ble_eq_true rfl) rfl dX9_greets_382 (fun H114 locs114 σ114 eσ114 hP114 hD114 hS114 => ?_)
                        clear hP112 hD112 hS112
                        refine lv_aload_n hx hb dX9_greets_383 rfl (lv_at hl71 4 rfl) ?_
                        refine lv_iconst (v := 1) hx hb dX9_greets_384 (by decide) ?_
                        refine lv_bipush (v := 6) hx hb dX9_greets_385 (by decide) ?_
                        refine kWVv F hK hP114 hD114 hS114 hA hl71.1 (c_X9_takes l G h a σ114 1 6 (by first | assumption | decide | omega) (by first | assumption | decide | omega)) 9 0 gX9_greets_X9_takes rfl 2 rfl (by decide +kernel) ⟨Nat.le_of_ble_eq_true rfl, Nat.le_of_ble_eq_true rfl⟩ ⟨Nat.zero_le _, Nat.zero_le _⟩ rfl rfl (Nat.le_of_ble_eq_true rfl) rfl dX9_greets_387 (fun σ_115 H116 locs116 hw115 (hP116 : va_P G.1 vwCl (mW G h a σ_115) H116) (hD116 : va_D A (mW G h a σ_115)) hS116 => ?_)
                        clear hP114 hD114 hS114
                        have w115_0 : σ_115 = mtakes σ114 1 (6 + 1) := hw115
                        refine lv_aload_n hx hb dX9_greets_390 rfl (lv_at hl71 4 rfl) ?_
                        refine kget F hK hP116 9 0 29 iX9 rfl rfl (by decide) (List.mem_of_getElem? (i := 1) rfl) rfl dX9_greets_391 ?_
                        refine lv_bipush (v := 7) hx hb dX9_greets_394 (by decide) ?_
                        refine lv_aload_n hx hb dX9_greets_396 rfl (lv_at hl71 4 rfl) ?_
                        refine lv_iconst (v := 1) hx hb dX9_greets_397 (by decide) ?_
                        refine lv_iconst (v := 1) hx hb dX9_greets_398 (by decide) ?_
                        refine kWVi F hK hP116 hD116 hS116 hA hl71.1 (c_X9_proof l G h a σ_115 1 1 (by first | assumption | decide | omega)) 9 0 gX9_greets_X9_proof rfl 2 rfl (by decide +kernel) ⟨Nat.le_of_ble_eq_true rfl, Nat.le_of_ble_eq_true rfl⟩ ⟨Nat.zero_le _, Nat.zero_le _⟩ rfl rfl (Nat.le_of_ble_eq_true rfl) rfl dX9_greets_399 (fun r117 u117 H118 locs118 hw117 (hP118 : va_P G.1 vwCl (mW G h a σ_115) H118) (hD118 : va_D A (mW G h a σ_115)) hS118 => ?_)
                        clear hP116 hD116 hS116
                        have w117_0 : r117 = mproof σ_115 1 1 := hw117
                        refine kMst F hK hP118 hD118 hS118 29 20 7 rfl rfl (by decide) (Nat.le_of_ble_eq_true rfl) rfl dX9_greets_402 (fun H119 locs119 σ119 eσ119 hP119 hD119 hS119 => ?_)
                        clear hP118 hD118 hS118
                        refine lv_aload_n hx hb dX9_greets_403 rfl (lv_at hl71 4 rfl) ?_
                        refine lv_iconst (v := 0) hx hb dX9_greets_404 (by decide) ?_
                        refine kWVv F hK hP119 hD119 hS119 hA hl71.1 (c_X9_sends l G h a σ119 0 Mn (by first | assumption | decide | omega) (by subst eσ119; subst w117_0; subst w115_0; subst eσ114; subst eσ112; subst eσ110; subst w93_0; subst eσ92; subst w90_0; subst eσ89; subst eσ88; subst w86_0; subst eσ85; subst eσ83; subst eσ82; subst eσ81; subst w79_0; subst w77_0; subst w75_0; subst w73_0; first | exact hM | (simp only [msees, mtakes, mclr]; (repeat' split) <;> exact hM)) hM8) 9 0 gX9_greets_X9_sends rfl 1 rfl (by decide +kernel) ⟨Nat.le_of_ble_eq_true rfl, Nat.le_of_ble_eq_true rfl⟩ ⟨Nat.zero_le _, Nat.zero_le _⟩ rfl rfl (Nat.le_of_ble_eq_true rfl) rfl dX9_greets_405 (fun σ_120 H121 locs121 hw120 (hP121 : va_P G.1 vwCl (mW G h a σ_120) H121) (hD121 : va_D A (mW G h a σ_120)) hS121 => ?_)
                        clear hP119 hD119 hS119
                        have w120_0 : σ_120 = msend σ119 0 Mn := hw120
                        refine lv_aload_n hx hb dX9_greets_408 rfl (lv_at hl71 4 rfl) ?_
                        refine kget F hK hP121 9 0 3 iX9 rfl rfl (by decide) (List.mem_of_getElem? (i := 13) rfl) rfl dX9_greets_409 ?_
                        refine lv_iconst (v := 1) hx hb dX9_greets_412 (by decide) ?_
                        refine lv_iconst (v := 3) hx hb dX9_greets_413 (by decide) ?_
                        refine kMst F hK hP121 hD121 hS121 3 4 1 rfl rfl (by decide) (Nat.le_of_ble_eq_true rfl) rfl dX9_greets_414 (fun H122 locs122 σ122 eσ122 hP122 hD122 hS122 => ?_)
                        clear hP121 hD121 hS121
                        have q123 : σ122 = mgreets σ v g i S Mn E K := by
                          subst eσ122
                          subst w120_0
                          subst eσ119
                          subst w117_0
                          subst w115_0
                          subst eσ114
                          subst eσ112
                          subst eσ110
                          subst w93_0
                          subst eσ92
                          subst w90_0
                          subst eσ89
                          subst eσ88
                          subst w86_0
                          subst eσ85
                          subst eσ83
                          subst eσ82
                          subst eσ81
                          subst w79_0
                          subst w77_0
                          subst w75_0
                          subst w73_0
                          first | (simp only [mgreets, mgrY, mearl, mgrT, mgrC, mgrB, mgrA, mgrE, kd10, eq_true c1, hv, eq_true c65, eq_true c67, eq_true c69, eq_true c70, eq_true c72, eq_true c84, c95, eq_true c111, eq_true c113, eq_self, ↓reduceIte, and_self, and_true, true_and]; done) | (simp only [mgreets, mgrY, mearl, mgrT, mgrC, mgrB, mgrA, mgrE, kd10, eq_true c1, hv, eq_true c65, eq_true c67, eq_true c69, eq_true c70, eq_true c72, eq_true c84, c95, eq_true c111, eq_true c113, eq_self, ↓reduceIte, and_self, and_true, true_and]; (try and_intros) <;> rfl)
                        exact kRv F hr hlocks hS122 dX9_greets_415 σ122 q123 hP122 hD122
                      · exact absurd (by decide) c113
                    · exact absurd (by decide) c111
                · exact absurd (by decide) c84
              · exact absurd (by decide) c72
            · exact absurd (by decide) c70
          · exact absurd (by decide) c69
        · exact absurd (by decide) c67
      · exact absurd (by decide) c65
    · have gv : r62 = nI j := w62_0.trans hv
      clear w62_0
      subst gv
      have hjc : (nI j).toNatClampNeg = j := nI_clamp (by omega)
      have hjm : ¬ nI j = -1 := nI_nm1 (by omega)
      refine lv_goto (tgt := 19) hx hb dX9_greets_15 (by decide) ?_
      refine lv_istore (lv' := [(4, .int (nI j)), (0, .ref h), (1, .int v), (2, .int g), (3, .int i)]) hx hb dX9_greets_19 hl0 (by decide) rfl (fun ls124 hl124 => ?_)
      clear hl0
      refine lv_iload hx hb dX9_greets_21 (lv_at hl124 0 rfl) ?_
      refine lv_iconst (v := (-1)) hx hb dX9_greets_23 (by decide) ?_
      refine lv_icmp_eq (tgt := 61) hx hb dX9_greets_24 (by decide) (fun c125 => ?_) (fun c125 => ?_)
      · exact absurd c125 hjm
      · refine lv_aload_n hx hb dX9_greets_27 rfl (lv_at hl124 1 rfl) ?_
        refine kget F hK hP63 9 0 14 iX9 rfl rfl (by decide) (List.mem_of_getElem? (i := 2) rfl) rfl dX9_greets_28 ?_
        refine lv_aload_n hx hb dX9_greets_31 rfl (lv_at hl124 1 rfl) ?_
        refine kget F hK hP63 9 0 22 iX9 rfl rfl (by decide) (List.mem_of_getElem? (i := 3) rfl) rfl dX9_greets_32 ?_
        refine lv_iconst (v := 5) hx hb dX9_greets_35 (by decide) ?_
        refine lv_iload hx hb dX9_greets_36 (lv_at hl124 0 rfl) ?_
        refine lv_imul hx hb dX9_greets_38 ?_
        refine lv_iconst (v := 2) hx hb dX9_greets_39 (by decide) ?_
        refine lv_iadd hx hb dX9_greets_40 ?_
        refine kild F hK hP63 14 (5 * j + 2) rfl mix_52 (by omega) (Nat.le_of_ble_eq_true rfl) dX9_greets_41 ?_
        refine lv_isub hx hb dX9_greets_42 ?_
        refine lv_aload_n hx hb dX9_greets_43 rfl (lv_at hl124 1 rfl) ?_
        refine kget F hK hP63 9 0 22 iX9 rfl rfl (by decide) (List.mem_of_getElem? (i := 3) rfl) rfl dX9_greets_44 ?_
        refine lv_iconst (v := 5) hx hb dX9_greets_47 (by decide) ?_
        refine lv_iload hx hb dX9_greets_48 (lv_at hl124 0 rfl) ?_
        refine lv_imul hx hb dX9_greets_50 ?_
        refine lv_iconst (v := 1) hx hb dX9_greets_51 (by decide) ?_
        refine lv_iadd hx hb dX9_greets_52 ?_
        refine kild F hK hP63 14 (5 * j + 1) rfl mix_51 (by omega) (Nat.le_of_ble_eq_true rfl) dX9_greets_53 ?_
        refine lv_icmp_gt (tgt := 61) hx hb dX9_greets_54 (by decide) (fun c126 => ?_) (fun c126 => ?_)
        · refine lv_iconst (v := 0) hx hb dX9_greets_61 (by decide) ?_
          refine lv_istore (lv' := [(5, .int 0), (4, .int (nI j)), (0, .ref h), (1, .int v), (2, .int g), (3, .int i)]) hx hb dX9_greets_62 hl124 (by decide) rfl (fun ls127 hl127 => ?_)
          clear hl124
          refine lv_iload hx hb dX9_greets_64 (lv_at hl127 0 rfl) ?_
          refine lv_if_eq (tgt := 83) hx hb dX9_greets_66 (by decide) (fun c128 => ?_) (fun c128 => ?_)
          · refine lv_iconst (v := 0) hx hb dX9_greets_83 (by decide) ?_
            refine lv_istore (lv' := [(6, .int 0), (5, .int 0), (4, .int (nI j)), (0, .ref h), (1, .int v), (2, .int g), (3, .int i)]) hx hb dX9_greets_84 hl127 (by decide) rfl (fun ls129 hl129 => ?_)
            clear hl127
            refine lv_iload hx hb dX9_greets_86 (lv_at hl129 1 rfl) ?_
            refine lv_if_eq (tgt := 121) hx hb dX9_greets_88 (by decide) (fun c130 => ?_) (fun c130 => ?_)
            · refine lv_iload hx hb dX9_greets_121 (lv_at hl129 1 rfl) ?_
              refine lv_if_eq (tgt := 173) hx hb dX9_greets_123 (by decide) (fun c131 => ?_) (fun c131 => ?_)
              · refine lv_iconst (v := 0) hx hb dX9_greets_173 (by decide) ?_
                refine lv_istore (lv' := [(7, .int 0), (6, .int 0), (5, .int 0), (4, .int (nI j)), (0, .ref h), (1, .int v), (2, .int g), (3, .int i)]) hx hb dX9_greets_174 hl129 (by decide) rfl (fun ls132 hl132 => ?_)
                clear hl129
                refine lv_iload hx hb dX9_greets_176 (lv_at hl132 0 rfl) ?_
                refine lv_if_eq (tgt := 224) hx hb dX9_greets_178 (by decide) (fun c133 => ?_) (fun c133 => ?_)
                · refine lv_aload_n hx hb dX9_greets_224 rfl (lv_at hl132 4 rfl) ?_
                  refine lv_iconst (v := 1) hx hb dX9_greets_225 (by decide) ?_
                  refine lv_bipush (v := 8) hx hb dX9_greets_226 (by decide) ?_
                  refine kWVv F hK hP63 hD63 hS63 hA hl132.1 (c_X9_takes l G h a σ 1 8 (by first | assumption | decide | omega) (by first | assumption | decide | omega)) 9 0 gX9_greets_X9_takes rfl 2 rfl (by decide +kernel) ⟨Nat.le_of_ble_eq_true rfl, Nat.le_of_ble_eq_true rfl⟩ ⟨Nat.zero_le _, Nat.zero_le _⟩ rfl rfl (Nat.le_of_ble_eq_true rfl) rfl dX9_greets_228 (fun σ_134 H135 locs135 hw134 (hP135 : va_P G.1 vwCl (mW G h a σ_134) H135) (hD135 : va_D A (mW G h a σ_134)) hS135 => ?_)
                  clear hP63 hD63 hS63
                  have w134_0 : σ_134 = mtakes σ 1 (8 + 1) := hw134
                  refine lv_aload_n hx hb dX9_greets_231 rfl (lv_at hl132 4 rfl) ?_
                  refine kget F hK hP135 9 0 9 iX9 rfl rfl (by decide) (List.mem_of_getElem? (i := 7) rfl) rfl dX9_greets_232 ?_
                  refine lv_iconst (v := 1) hx hb dX9_greets_235 (by decide) ?_
                  refine lv_aload_n hx hb dX9_greets_236 rfl (lv_at hl132 4 rfl) ?_
                  refine kget F hK hP135 9 0 29 iX9 rfl rfl (by decide) (List.mem_of_getElem? (i := 1) rfl) rfl dX9_greets_237 ?_
                  refine lv_iconst (v := 4) hx hb dX9_greets_240 (by decide) ?_
                  refine kild F hK hP135 20 4 rfl rfl (by decide) (Nat.le_of_ble_eq_true rfl) dX9_greets_241 ?_
                  rw [show (σ_134 29 4) = (σ 29 4) from by subst w134_0; first | rfl | (simp only [msend, msees]; (repeat' split) <;> rfl)]
                  refine lv_aload_n hx hb dX9_greets_242 rfl (lv_at hl132 4 rfl) ?_
                  refine kget F hK hP135 9 0 2 iX9 rfl rfl (by decide) (List.mem_of_getElem? (i := 8) rfl) rfl dX9_greets_243 ?_
                  refine lv_iconst (v := 1) hx hb dX9_greets_246 (by decide) ?_
                  refine kild F hK hP135 3 1 rfl rfl (by decide) (Nat.le_of_ble_eq_true rfl) dX9_greets_247 ?_
                  rw [show (σ_134 2 1) = (σ 2 1) from by subst w134_0; first | rfl | (simp only [msend, msees]; (repeat' split) <;> rfl)]
                  refine lv_iload_n hx hb dX9_greets_248 rfl (lv_at hl132 6 rfl) ?_
                  refine kPSi F hK hP135 hD135 hS135 hA hl132.1 (c_X9_prime l G g) (fun _ => rfl) gX9_greets_X9_prime rfl 1 rfl (by decide +kernel) ⟨Nat.le_of_ble_eq_true rfl, Nat.le_of_ble_eq_true rfl⟩ ⟨Nat.zero_le _, Nat.zero_le _⟩ (Nat.le_of_ble_eq_true rfl) rfl dX9_greets_249 (fun r136 u136 H137 locs137 hw136 (hP137 : va_P G.1 vwCl (mW G h a σ_134) H137) (hD137 : va_D A (mW G h a σ_134)) hS137 => ?_)
                  clear hP135 hD135 hS135
                  have w136_0 : r136 = kprime g := hw136
                  refine kPSi F hK hP137 hD137 hS137 hA hl132.1 (c_X9_power l G (σ 29 4) (σ 2 1) r136 S (by subst_vars; exact kprime_1 _) hs hS) (fun _ => rfl) gX9_greets_X9_power rfl 3 rfl (by decide +kernel) ⟨Nat.le_of_ble_eq_true rfl, Nat.le_of_ble_eq_true rfl⟩ ⟨Nat.zero_le _, Nat.zero_le _⟩ (Nat.le_of_ble_eq_true rfl) rfl dX9_greets_252 (fun r138 u138 H139 locs139 hw138 (hP139 : va_P G.1 vwCl (mW G h a σ_134) H139) (hD139 : va_D A (mW G h a σ_134)) hS139 => ?_)
                  clear hP137 hD137 hS137
                  have w138_0 : r138 = mpw (σ 29 4) r136 S := hw138
                  refine lv_iload hx hb dX9_greets_255 (lv_at hl132 1 rfl) ?_
                  refine kPSi F hK hP139 hD139 hS139 hA hl132.1 (c_X9_keyOf l G r138 0) (fun _ => rfl) gX9_greets_X9_keyOf rfl 2 rfl (by decide +kernel) ⟨Nat.le_of_ble_eq_true rfl, Nat.le_of_ble_eq_true rfl⟩ ⟨Nat.zero_le _, Nat.zero_le _⟩ (Nat.le_of_ble_eq_true rfl) rfl dX9_greets_257 (fun r140 u140 H141 locs141 hw140 (hP141 : va_P G.1 vwCl (mW G h a σ_134) H141) (hD141 : va_D A (mW G h a σ_134)) hS141 => ?_)
                  clear hP139 hD139 hS139
                  have w140_0 : r140 = kmix (kmix 7 r138) 0 := hw140
                  refine kMst F hK hP141 hD141 hS141 9 10 1 rfl rfl (by decide) (Nat.le_of_ble_eq_true rfl) rfl dX9_greets_260 (fun H142 locs142 σ142 eσ142 hP142 hD142 hS142 => ?_)
                  clear hP141 hD141 hS141
                  refine lv_aload_n hx hb dX9_greets_261 rfl (lv_at hl132 4 rfl) ?_
                  refine kget F hK hP142 9 0 6 iX9 rfl rfl (by decide) (List.mem_of_getElem? (i := 9) rfl) rfl dX9_greets_262 ?_
                  refine lv_iconst (v := 1) hx hb dX9_greets_265 (by decide) ?_
                  refine lv_iload_n hx hb dX9_greets_266 rfl (lv_at hl132 5 rfl) ?_
                  refine kMst F hK hP142 hD142 hS142 6 7 1 rfl rfl (by decide) (Nat.le_of_ble_eq_true rfl) rfl dX9_greets_267 (fun H143 locs143 σ143 eσ143 hP143 hD143 hS143 => ?_)
                  clear hP142 hD142 hS142
                  refine lv_aload_n hx hb dX9_greets_268 rfl (lv_at hl132 4 rfl) ?_
                  refine kget F hK hP143 9 0 7 iX9 rfl rfl (by decide) (List.mem_of_getElem? (i := 10) rfl) rfl dX9_greets_269 ?_
                  refine lv_iconst (v := 1) hx hb dX9_greets_272 (by decide) ?_
                  refine lv_iload_n hx hb dX9_greets_273 rfl (lv_at hl132 6 rfl) ?_
                  refine kMst F hK hP143 hD143 hS143 7 8 1 rfl rfl (by decide) (Nat.le_of_ble_eq_true rfl) rfl dX9_greets_274 (fun H144 locs144 σ144 eσ144 hP144 hD144 hS144 => ?_)
                  clear hP143 hD143 hS143
                  refine lv_aload_n hx hb dX9_greets_275 rfl (lv_at hl132 4 rfl) ?_
                  refine kget F hK hP144 9 0 8 iX9 rfl rfl (by decide) (List.mem_of_getElem? (i := 11) rfl) rfl dX9_greets_276 ?_
                  refine lv_iconst (v := 1) hx hb dX9_greets_279 (by decide) ?_
                  refine lv_iload hx hb dX9_greets_280 (lv_at hl132 2 rfl) ?_
                  refine lv_if_eq (tgt := 289) hx hb dX9_greets_282 (by decide) (fun c145 => ?_) (fun c145 => ?_)
                  · refine lv_iconst (v := 0) hx hb dX9_greets_289 (by decide) ?_
                    refine kMst F hK hP144 hD144 hS144 8 9 1 rfl rfl (by decide) (Nat.le_of_ble_eq_true rfl) rfl dX9_greets_290 (fun H146 locs146 σ146 eσ146 hP146 hD146 hS146 => ?_)
                    clear hP144 hD144 hS144
                    refine lv_aload_n hx hb dX9_greets_291 rfl (lv_at hl132 4 rfl) ?_
                    refine lv_iconst (v := 3) hx hb dX9_greets_292 (by decide) ?_
                    refine kWVv F hK hP146 hD146 hS146 hA hl132.1 (c_X9_clears l G h a σ146 3) 9 0 gX9_greets_X9_clears rfl 1 rfl (by decide +kernel) ⟨Nat.le_of_ble_eq_true rfl, Nat.le_of_ble_eq_true rfl⟩ ⟨Nat.zero_le _, Nat.zero_le _⟩ rfl rfl (Nat.le_of_ble_eq_true rfl) rfl dX9_greets_293 (fun σ_147 H148 locs148 hw147 (hP148 : va_P G.1 vwCl (mW G h a σ_147) H148) (hD148 : va_D A (mW G h a σ_147)) hS148 => ?_)
                    clear hP146 hD146 hS146
                    have w147_0 : σ_147 = mclr σ146 3 := hw147
                    refine lv_aload_n hx hb dX9_greets_296 rfl (lv_at hl132 4 rfl) ?_
                    refine kget F hK hP148 9 0 29 iX9 rfl rfl (by decide) (List.mem_of_getElem? (i := 1) rfl) rfl dX9_greets_297 ?_
                    refine lv_iconst (v := 1) hx hb dX9_greets_300 (by decide) ?_
                    refine lv_iload_n hx hb dX9_greets_301 rfl (lv_at hl132 5 rfl) ?_
                    refine kMst F hK hP148 hD148 hS148 29 20 1 rfl rfl (by decide) (Nat.le_of_ble_eq_true rfl) rfl dX9_greets_302 (fun H149 locs149 σ149 eσ149 hP149 hD149 hS149 => ?_)
                    clear hP148 hD148 hS148
                    refine lv_aload_n hx hb dX9_greets_303 rfl (lv_at hl132 4 rfl) ?_
                    refine kget F hK hP149 9 0 29 iX9 rfl rfl (by decide) (List.mem_of_getElem? (i := 1) rfl) rfl dX9_greets_304 ?_
                    refine lv_iconst (v := 2) hx hb dX9_greets_307 (by decide) ?_
                    refine lv_iload_n hx hb dX9_greets_308 rfl (lv_at hl132 6 rfl) ?_
                    refine kMst F hK hP149 hD149 hS149 29 20 2 rfl rfl (by decide) (Nat.le_of_ble_eq_true rfl) rfl dX9_greets_309 (fun H150 locs150 σ150 eσ150 hP150 hD150 hS150 => ?_)
                    clear hP149 hD149 hS149
                    refine lv_aload_n hx hb dX9_greets_310 rfl (lv_at hl132 4 rfl) ?_
                    refine kget F hK hP150 9 0 29 iX9 rfl rfl (by decide) (List.mem_of_getElem? (i := 1) rfl) rfl dX9_greets_311 ?_
                    refine lv_iconst (v := 3) hx hb dX9_greets_314 (by decide) ?_
                    refine lv_iload_n hx hb dX9_greets_315 rfl (lv_at hl132 6 rfl) ?_
                    refine lv_aload_n hx hb dX9_greets_316 rfl (lv_at hl132 4 rfl) ?_
                    refine kget F hK hP150 9 0 2 iX9 rfl rfl (by decide) (List.mem_of_getElem? (i := 8) rfl) rfl dX9_greets_317 ?_
                    refine lv_iconst (v := 1) hx hb dX9_greets_320 (by decide) ?_
                    refine kild F hK hP150 3 1 rfl rfl (by decide) (Nat.le_of_ble_eq_true rfl) dX9_greets_321 ?_
                    rw [show (σ150 2 1) = (σ 2 1) from by subst eσ150; subst eσ149; subst w147_0; subst eσ146; subst eσ144; subst eσ143; subst eσ142; subst w134_0; first | rfl | (simp only [msend, msees]; (repeat' split) <;> rfl)]
                    refine kPSi F hK hP150 hD150 hS150 hA hl132.1 (c_X9_shareOf l G g (σ 2 1) S hs hS) (fun _ => rfl) gX9_greets_X9_shareOf rfl 2 rfl (by decide +kernel) ⟨Nat.le_of_ble_eq_true rfl, Nat.le_of_ble_eq_true rfl⟩ ⟨Nat.zero_le _, Nat.zero_le _⟩ (Nat.le_of_ble_eq_true rfl) rfl dX9_greets_322 (fun r151 u151 H152 locs152 hw151 (hP152 : va_P G.1 vwCl (mW G h a σ150) H152) (hD152 : va_D A (mW G h a σ150)) hS152 => ?_)
                    clear hP150 hD150 hS150
                    have w151_0 : r151 = mshare g S := hw151
                    refine kMst F hK hP152 hD152 hS152 29 20 3 rfl rfl (by decide) (Nat.le_of_ble_eq_true rfl) rfl dX9_greets_325 (fun H153 locs153 σ153 eσ153 hP153 hD153 hS153 => ?_)
                    clear hP152 hD152 hS152
                    refine lv_aload_n hx hb dX9_greets_326 rfl (lv_at hl132 4 rfl) ?_
                    refine kget F hK hP153 9 0 29 iX9 rfl rfl (by decide) (List.mem_of_getElem? (i := 1) rfl) rfl dX9_greets_327 ?_
                    refine lv_iconst (v := 4) hx hb dX9_greets_330 (by decide) ?_
                    refine lv_aload_n hx hb dX9_greets_331 rfl (lv_at hl132 4 rfl) ?_
                    refine kget F hK hP153 9 0 0 iX9 rfl rfl (by decide) (List.mem_of_getElem? (i := 12) rfl) rfl dX9_greets_332 ?_
                    refine lv_iconst (v := 1) hx hb dX9_greets_335 (by decide) ?_
                    refine kild F hK hP153 1 1 rfl rfl (by decide) (Nat.le_of_ble_eq_true rfl) dX9_greets_336 ?_
                    rw [show (σ153 0 1) = (σ 0 1) from by subst eσ153; subst eσ150; subst eσ149; subst w147_0; subst eσ146; subst eσ144; subst eσ143; subst eσ142; subst w134_0; first | rfl | (simp only [msend, msees]; (repeat' split) <;> rfl)]
                    refine lv_iload_n hx hb dX9_greets_337 rfl (lv_at hl132 5 rfl) ?_
                    refine kPSi F hK hP153 hD153 hS153 hA hl132.1 (c_X9_hasAbove l G (σ 0 1) v hvv) (fun _ => rfl) gX9_greets_X9_hasAbove rfl 2 rfl (by decide +kernel) ⟨Nat.le_of_ble_eq_true rfl, Nat.le_of_ble_eq_true rfl⟩ ⟨Nat.zero_le _, Nat.zero_le _⟩ (Nat.le_of_ble_eq_true rfl) rfl dX9_greets_338 (fun r154 u154 H155 locs155 hw154 (hP155 : va_P G.1 vwCl (mW G h a σ153) H155) (hD155 : va_D A (mW G h a σ153)) hS155 => ?_)
                    clear hP153 hD153 hS153
                    have w154_0 : r154 = mab (σ 0 1) v := hw154
                    refine lv_if_eq (tgt := 348) hx hb dX9_greets_341 (by decide) (fun c156 => ?_) (fun c156 => ?_)
                    · refine lv_iconst (v := 0) hx hb dX9_greets_348 (by decide) ?_
                      refine kMst F hK hP155 hD155 hS155 29 20 4 rfl rfl (by decide) (Nat.le_of_ble_eq_true rfl) rfl dX9_greets_349 (fun H157 locs157 σ157 eσ157 hP157 hD157 hS157 => ?_)
                      clear hP155 hD155 hS155
                      refine lv_aload_n hx hb dX9_greets_350 rfl (lv_at hl132 4 rfl) ?_
                      refine kget F hK hP157 9 0 29 iX9 rfl rfl (by decide) (List.mem_of_getElem? (i := 1) rfl) rfl dX9_greets_351 ?_
                      refine lv_iconst (v := 5) hx hb dX9_greets_354 (by decide) ?_
                      refine lv_iload hx hb dX9_greets_355 (lv_at hl132 2 rfl) ?_
                      refine lv_if_eq (tgt := 364) hx hb dX9_greets_357 (by decide) (fun c158 => ?_) (fun c158 => ?_)
                      · refine lv_iconst (v := 0) hx hb dX9_greets_364 (by decide) ?_
                        refine kMst F hK hP157 hD157 hS157 29 20 5 rfl rfl (by decide) (Nat.le_of_ble_eq_true rfl) rfl dX9_greets_365 (fun H159 locs159 σ159 eσ159 hP159 hD159 hS159 => ?_)
                        clear hP157 hD157 hS157
                        refine lv_aload_n hx hb dX9_greets_366 rfl (lv_at hl132 4 rfl) ?_
                        refine kget F hK hP159 9 0 29 iX9 rfl rfl (by decide) (List.mem_of_getElem? (i := 1) rfl) rfl dX9_greets_367 ?_
                        refine lv_bipush (v := 6) hx hb dX9_greets_370 (by decide) ?_
                        refine lv_iload hx hb dX9_greets_372 (lv_at hl132 0 rfl) ?_
                        refine lv_if_eq (tgt := 381) hx hb dX9_greets_374 (by decide) (fun c160 => ?_) (fun c160 => ?_)
                        · refine lv_iconst (v := 0) hx hb dX9_greets_381 (by decide) ?_
                          refine kMst F hK hP159 hD159 hS159 29 20 6 rfl rfl (by decide) (Nat.le_of_ble_eq_true rfl) rfl dX9_greets_382 (fun H161 locs161 σ161 eσ161 hP161 hD161 hS161 => ?_)
                          clear hP159 hD159 hS159
                          refine lv_aload_n hx hb dX9_greets_383 rfl (lv_at hl132 4 rfl) ?_
                          refine lv_iconst (v := 1) hx hb dX9_greets_384 (by decide) ?_
                          refine lv_bipush (v := 6) hx hb dX9_greets_385 (by decide) ?_
                          refine kWVv F hK hP161 hD161 hS161 hA hl132.1 (c_X9_takes l G h a σ161 1 6 (by first | assumption | decide | omega) (by first | assumption | decide | omega)) 9 0 gX9_greets_X9_takes rfl 2 rfl (by decide +kernel) ⟨Nat.le_of_ble_eq_true rfl, Nat.le_of_ble_eq_true rfl⟩ ⟨Nat.zero_le _, Nat.zero_le _⟩ rfl rfl (Nat.le_of_ble_eq_true rfl) rfl dX9_greets_387 (fun σ_162 H163 locs163 hw162 (hP163 : va_P G.1 vwCl (mW G h a σ_162) H163) (hD163 : va_D A (mW G h a σ_162)) hS163 => ?_)
                          clear hP161 hD161 hS161
                          have w162_0 : σ_162 = mtakes σ161 1 (6 + 1) := hw162
                          refine lv_aload_n hx hb dX9_greets_390 rfl (lv_at hl132 4 rfl) ?_
                          refine kget F hK hP163 9 0 29 iX9 rfl rfl (by decide) (List.mem_of_getElem? (i := 1) rfl) rfl dX9_greets_391 ?_
                          refine lv_bipush (v := 7) hx hb dX9_greets_394 (by decide) ?_
                          refine lv_aload_n hx hb dX9_greets_396 rfl (lv_at hl132 4 rfl) ?_
                          refine lv_iconst (v := 1) hx hb dX9_greets_397 (by decide) ?_
                          refine lv_iconst (v := 1) hx hb dX9_greets_398 (by decide) ?_
                          refine kWVi F hK hP163 hD163 hS163 hA hl132.1 (c_X9_proof l G h a σ_162 1 1 (by first | assumption | decide | omega)) 9 0 gX9_greets_X9_proof rfl 2 rfl (by decide +kernel) ⟨Nat.le_of_ble_eq_true rfl, Nat.le_of_ble_eq_true rfl⟩ ⟨Nat.zero_le _, Nat.zero_le _⟩ rfl rfl (Nat.le_of_ble_eq_true rfl) rfl dX9_greets_399 (fun r164 u164 H165 locs165 hw164 (hP165 : va_P G.1 vwCl (mW G h a σ_162) H165) (hD165 : va_D A (mW G h a σ_162)) hS165 => ?_)
                          clear hP163 hD163 hS163
                          have w164_0 : r164 = mproof σ_162 1 1 := hw164
                          refine kMst F hK hP165 hD165 hS165 29 20 7 rfl rfl (by decide) (Nat.le_of_ble_eq_true rfl) rfl dX9_greets_402 (fun H166 locs166 σ166 eσ166 hP166 hD166 hS166 => ?_)
                          clear hP165 hD165 hS165
                          refine lv_aload_n hx hb dX9_greets_403 rfl (lv_at hl132 4 rfl) ?_
                          refine lv_iconst (v := 0) hx hb dX9_greets_404 (by decide) ?_
                          refine kWVv F hK hP166 hD166 hS166 hA hl132.1 (c_X9_sends l G h a σ166 0 Mn (by first | assumption | decide | omega) (by subst eσ166; subst w164_0; subst w162_0; subst eσ161; subst eσ159; subst eσ157; subst w154_0; subst eσ153; subst w151_0; subst eσ150; subst eσ149; subst w147_0; subst eσ146; subst eσ144; subst eσ143; subst eσ142; subst w140_0; subst w138_0; subst w136_0; subst w134_0; first | exact hM | (simp only [msees, mtakes, mclr]; (repeat' split) <;> exact hM)) hM8) 9 0 gX9_greets_X9_sends rfl 1 rfl (by decide +kernel) ⟨Nat.le_of_ble_eq_true rfl, Nat.le_of_ble_eq_true rfl⟩ ⟨Nat.zero_le _, Nat.zero_le _⟩ rfl rfl (Nat.le_of_ble_eq_true rfl) rfl dX9_greets_405 (fun σ_167 H168 locs168 hw167 (hP168 : va_P G.1 vwCl (mW G h a σ_167) H168) (hD168 : va_D A (mW G h a σ_167)) hS168 => ?_)
                          clear hP166 hD166 hS166
                          have w167_0 : σ_167 = msend σ166 0 Mn := hw167
                          refine lv_aload_n hx hb dX9_greets_408 rfl (lv_at hl132 4 rfl) ?_
                          refine kget F hK hP168 9 0 3 iX9 rfl rfl (by decide) (List.mem_of_getElem? (i := 13) rfl) rfl dX9_greets_409 ?_
                          refine lv_iconst (v := 1) hx hb dX9_greets_412 (by decide) ?_
                          refine lv_iconst (v := 3) hx hb dX9_greets_413 (by decide) ?_
                          refine kMst F hK hP168 hD168 hS168 3 4 1 rfl rfl (by decide) (Nat.le_of_ble_eq_true rfl) rfl dX9_greets_414 (fun H169 locs169 σ169 eσ169 hP169 hD169 hS169 => ?_)
                          clear hP168 hD168 hS168
                          have q170 : σ169 = mgreets σ v g i S Mn E K := by
                            subst eσ169
                            subst w167_0
                            subst eσ166
                            subst w164_0
                            subst w162_0
                            subst eσ161
                            subst eσ159
                            subst eσ157
                            subst w154_0
                            subst eσ153
                            subst w151_0
                            subst eσ150
                            subst eσ149
                            subst w147_0
                            subst eσ146
                            subst eσ144
                            subst eσ143
                            subst eσ142
                            subst w140_0
                            subst w138_0
                            subst w136_0
                            subst w134_0
                            first | (simp only [mgreets, mgrY, mearl, mgrT, mgrC, mgrB, mgrA, mgrE, kd10, eq_true c1, hv, hjc, hjm, c125, eq_true c126, eq_true c128, eq_true c130, eq_true c131, eq_true c133, eq_true c145, eq_true c156, eq_true c158, eq_true c160, eq_self, ↓reduceIte, and_self, and_true, true_and]; done) | (simp only [mgreets, mgrY, mearl, mgrT, mgrC, mgrB, mgrA, mgrE, kd10, eq_true c1, hv, hjc, hjm, c125, eq_true c126, eq_true c128, eq_true c130, eq_true c131, eq_true c133, eq_true c145, eq_true c156, eq_true c158, eq_true c160, eq_self, ↓reduceIte, and_self, and_true, true_and]; (try and_intros) <;> rfl)
                          exact kRv F hr hlocks hS169 dX9_greets_415 σ169 q170 hP169 hD169
                        · exact absurd (by decide) c160
                      · exact absurd (by decide) c158
                    · refine lv_iconst (v := 1) hx hb dX9_greets_344 (by decide) ?_
                      refine lv_goto (tgt := 349) hx hb dX9_greets_345 (by decide) ?_
                      refine kMst F hK hP155 hD155 hS155 29 20 4 rfl rfl (by decide) (Nat.le_of_ble_eq_true rfl) rfl dX9_greets_349 (fun H171 locs171 σ171 eσ171 hP171 hD171 hS171 => ?_)
                      clear hP155 hD155 hS155
                      refine lv_aload_n hx hb dX9_greets_350 rfl (lv_at hl132 4 rfl) ?_
                      refine kget F hK hP171 9 0 29 iX9 rfl rfl (by decide) (List.mem_of_getElem? (i := 1) rfl) rfl dX9_greets_351 ?_
                      refine lv_iconst (v := 5) hx hb dX9_greets_354 (by decide) ?_
                      refine lv_iload hx hb dX9_greets_355 (lv_at hl132 2 rfl) ?_
                      refine lv_if_eq (tgt := 364) hx hb dX9_greets_357 (by decide) (fun c172 => ?_) (fun c172 => ?_)
                      · refine lv_iconst (v := 0) hx hb dX9_greets_364 (by decide) ?_
                        refine kMst F hK hP171 hD171 hS171 29 20 5 rfl rfl (by decide) (Nat.le_of_ble_eq_true rfl) rfl dX9_greets_365 (fun H173 locs173 σ173 eσ173 hP173 hD173 hS173 => ?_)
                        clear hP171 hD171 hS171
                        refine lv_aload_n hx hb dX9_greets_366 rfl (lv_at hl132 4 rfl) ?_
                        refine kget F hK hP173 9 0 29 iX9 rfl rfl (by decide) (List.mem_of_getElem? (i := 1) rfl) rfl dX9_greets_367 ?_
                        refine lv_bipush (v := 6) hx hb dX9_greets_370 (by decide) ?_
                        refine lv_iload hx hb dX9_greets_372 (lv_at hl132 0 rfl) ?_
                        refine lv_if_eq (tgt := 381) hx hb dX9_greets_374 (by decide) (fun c174 => ?_) (fun c174 => ?_)
                        · refine lv_iconst (v := 0) hx hb dX9_greets_381 (by decide) ?_
                          refine kMst F hK hP173 hD173 hS173 29 20 6 rfl rfl (by decide) (Nat.le_of_ble_eq_true rfl) rfl dX9_greets_382 (fun H175 locs175 σ175 eσ175 hP175 hD175 hS175 => ?_)
                          clear hP173 hD173 hS173
                          refine lv_aload_n hx hb dX9_greets_383 rfl (lv_at hl132 4 rfl) ?_
                          refine lv_iconst (v := 1) hx hb dX9_greets_384 (by decide) ?_
                          refine lv_bipush (v := 6) hx hb dX9_greets_385 (by decide) ?_
                          refine kWVv F hK hP175 hD175 hS175 hA hl132.1 (c_X9_takes l G h a σ175 1 6 (by first | assumption | decide | omega) (by first | assumption | decide | omega)) 9 0 gX9_greets_X9_takes rfl 2 rfl (by decide +kernel) ⟨Nat.le_of_ble_eq_true rfl, Nat.le_of_ble_eq_true rfl⟩ ⟨Nat.zero_le _, Nat.zero_le _⟩ rfl rfl (Nat.le_of_ble_eq_true rfl) rfl dX9_greets_387 (fun σ_176 H177 locs177 hw176 (hP177 : va_P G.1 vwCl (mW G h a σ_176) H177) (hD177 : va_D A (mW G h a σ_176)) hS177 => ?_)
                          clear hP175 hD175 hS175
                          have w176_0 : σ_176 = mtakes σ175 1 (6 + 1) := hw176
                          refine lv_aload_n hx hb dX9_greets_390 rfl (lv_at hl132 4 rfl) ?_
                          refine kget F hK hP177 9 0 29 iX9 rfl rfl (by decide) (List.mem_of_getElem? (i := 1) rfl) rfl dX9_greets_391 ?_
                          refine lv_bipush (v := 7) hx hb dX9_greets_394 (by decide) ?_
                          refine lv_aload_n hx hb dX9_greets_396 rfl (lv_at hl132 4 rfl) ?_
                          refine lv_iconst (v := 1) hx hb dX9_greets_397 (by decide) ?_
                          refine lv_iconst (v := 1) hx hb dX9_greets_398 (by decide) ?_
                          refine kWVi F hK hP177 hD177 hS177 hA hl132.1 (c_X9_proof l G h a σ_176 1 1 (by first | assumption | decide | omega)) 9 0 gX9_greets_X9_proof rfl 2 rfl (by decide +kernel) ⟨Nat.le_of_ble_eq_true rfl, Nat.le_of_ble_eq_true rfl⟩ ⟨Nat.zero_le _, Nat.zero_le _⟩ rfl rfl (Nat.le_of_ble_eq_true rfl) rfl dX9_greets_399 (fun r178 u178 H179 locs179 hw178 (hP179 : va_P G.1 vwCl (mW G h a σ_176) H179) (hD179 : va_D A (mW G h a σ_176)) hS179 => ?_)
                          clear hP177 hD177 hS177
                          have w178_0 : r178 = mproof σ_176 1 1 := hw178
                          refine kMst F hK hP179 hD179 hS179 29 20 7 rfl rfl (by decide) (Nat.le_of_ble_eq_true rfl) rfl dX9_greets_402 (fun H180 locs180 σ180 eσ180 hP180 hD180 hS180 => ?_)
                          clear hP179 hD179 hS179
                          refine lv_aload_n hx hb dX9_greets_403 rfl (lv_at hl132 4 rfl) ?_
                          refine lv_iconst (v := 0) hx hb dX9_greets_404 (by decide) ?_
                          refine kWVv F hK hP180 hD180 hS180 hA hl132.1 (c_X9_sends l G h a σ180 0 Mn (by first | assumption | decide | omega) (by subst eσ180; subst w178_0; subst w176_0; subst eσ175; subst eσ173; subst eσ171; subst w154_0; subst eσ153; subst w151_0; subst eσ150; subst eσ149; subst w147_0; subst eσ146; subst eσ144; subst eσ143; subst eσ142; subst w140_0; subst w138_0; subst w136_0; subst w134_0; first | exact hM | (simp only [msees, mtakes, mclr]; (repeat' split) <;> exact hM)) hM8) 9 0 gX9_greets_X9_sends rfl 1 rfl (by decide +kernel) ⟨Nat.le_of_ble_eq_true rfl, Nat.le_of_ble_eq_true rfl⟩ ⟨Nat.zero_le _, Nat.zero_le _⟩ rfl rfl (Nat.le_of_ble_eq_true rfl) rfl dX9_greets_405 (fun σ_181 H182 locs182 hw181 (hP182 : va_P G.1 vwCl (mW G h a σ_181) H182) (hD182 : va_D A (mW G h a σ_181)) hS182 => ?_)
                          clear hP180 hD180 hS180
                          have w181_0 : σ_181 = msend σ180 0 Mn := hw181
                          refine lv_aload_n hx hb dX9_greets_408 rfl (lv_at hl132 4 rfl) ?_
                          refine kget F hK hP182 9 0 3 iX9 rfl rfl (by decide) (List.mem_of_getElem? (i := 13) rfl) rfl dX9_greets_409 ?_
                          refine lv_iconst (v := 1) hx hb dX9_greets_412 (by decide) ?_
                          refine lv_iconst (v := 3) hx hb dX9_greets_413 (by decide) ?_
                          refine kMst F hK hP182 hD182 hS182 3 4 1 rfl rfl (by decide) (Nat.le_of_ble_eq_true rfl) rfl dX9_greets_414 (fun H183 locs183 σ183 eσ183 hP183 hD183 hS183 => ?_)
                          clear hP182 hD182 hS182
                          have q184 : σ183 = mgreets σ v g i S Mn E K := by
                            subst eσ183
                            subst w181_0
                            subst eσ180
                            subst w178_0
                            subst w176_0
                            subst eσ175
                            subst eσ173
                            subst eσ171
                            subst w154_0
                            subst eσ153
                            subst w151_0
                            subst eσ150
                            subst eσ149
                            subst w147_0
                            subst eσ146
                            subst eσ144
                            subst eσ143
                            subst eσ142
                            subst w140_0
                            subst w138_0
                            subst w136_0
                            subst w134_0
                            first | (simp only [mgreets, mgrY, mearl, mgrT, mgrC, mgrB, mgrA, mgrE, kd10, eq_true c1, hv, hjc, hjm, c125, eq_true c126, eq_true c128, eq_true c130, eq_true c131, eq_true c133, eq_true c145, c156, eq_true c172, eq_true c174, eq_self, ↓reduceIte, and_self, and_true, true_and]; done) | (simp only [mgreets, mgrY, mearl, mgrT, mgrC, mgrB, mgrA, mgrE, kd10, eq_true c1, hv, hjc, hjm, c125, eq_true c126, eq_true c128, eq_true c130, eq_true c131, eq_true c133, eq_true c145, c156, eq_true c172, eq_true c174, eq_self, ↓reduceIte, and_self, and_true, true_and]; (try and_intros) <;> rfl)
                          exact kRv F hr hlocks hS183 dX9_greets_415 σ183 q184 hP183 hD183
                        · exact absurd (by decide) c174
                      · exact absurd (by decide) c172
                  · exact absurd (by decide) c145
                · exact absurd (by decide) c133
              · exact absurd (by decide) c131
            · exact absurd (by decide) c130
          · exact absurd (by decide) c128
        · refine lv_iconst (v := 1) hx hb dX9_greets_57 (by decide) ?_
          refine lv_goto (tgt := 62) hx hb dX9_greets_58 (by decide) ?_
          refine lv_istore (lv' := [(5, .int 1), (4, .int (nI j)), (0, .ref h), (1, .int v), (2, .int g), (3, .int i)]) hx hb dX9_greets_62 hl124 (by decide) rfl (fun ls185 hl185 => ?_)
          clear hl124
          refine lv_iload hx hb dX9_greets_64 (lv_at hl185 0 rfl) ?_
          refine lv_if_eq (tgt := 83) hx hb dX9_greets_66 (by decide) (fun c186 => ?_) (fun c186 => ?_)
          · exact absurd c186 (by decide)
          · refine lv_aload_n hx hb dX9_greets_69 rfl (lv_at hl185 2 rfl) ?_
            refine kget F hK hP63 9 0 22 iX9 rfl rfl (by decide) (List.mem_of_getElem? (i := 3) rfl) rfl dX9_greets_70 ?_
            refine lv_iconst (v := 5) hx hb dX9_greets_73 (by decide) ?_
            refine lv_iload hx hb dX9_greets_74 (lv_at hl185 1 rfl) ?_
            refine lv_imul hx hb dX9_greets_76 ?_
            refine lv_iconst (v := 3) hx hb dX9_greets_77 (by decide) ?_
            refine lv_iadd hx hb dX9_greets_78 ?_
            refine kild F hK hP63 14 (5 * j + 3) rfl mix_53 (by omega) (Nat.le_of_ble_eq_true rfl) dX9_greets_79 ?_
            refine lv_goto (tgt := 84) hx hb dX9_greets_80 (by decide) ?_
            refine lv_istore (lv' := [(6, .int (σ 22 (5 * j + 3))), (5, .int 1), (4, .int (nI j)), (0, .ref h), (1, .int v), (2, .int g), (3, .int i)]) hx hb dX9_greets_84 hl185 (by decide) rfl (fun ls187 hl187 => ?_)
            clear hl185
            refine lv_iload hx hb dX9_greets_86 (lv_at hl187 1 rfl) ?_
            refine lv_if_eq (tgt := 121) hx hb dX9_greets_88 (by decide) (fun c188 => ?_) (fun c188 => ?_)
            · exact absurd c188 (by decide)
            · refine lv_aload_n hx hb dX9_greets_91 rfl (lv_at hl187 3 rfl) ?_
              refine kget F hK hP63 9 0 29 iX9 rfl rfl (by decide) (List.mem_of_getElem? (i := 1) rfl) rfl dX9_greets_92 ?_
              refine lv_bipush (v := 7) hx hb dX9_greets_95 (by decide) ?_
              refine kild F hK hP63 20 7 rfl rfl (by decide) (Nat.le_of_ble_eq_true rfl) dX9_greets_97 ?_
              refine lv_aload_n hx hb dX9_greets_98 rfl (lv_at hl187 3 rfl) ?_
              refine lv_iload hx hb dX9_greets_99 (lv_at hl187 0 rfl) ?_
              refine lv_aload_n hx hb dX9_greets_101 rfl (lv_at hl187 3 rfl) ?_
              refine kget F hK hP63 9 0 5 iX9 rfl rfl (by decide) (List.mem_of_getElem? (i := 4) rfl) rfl dX9_greets_102 ?_
              refine lv_iconst (v := 1) hx hb dX9_greets_105 (by decide) ?_
              refine kild F hK hP63 6 1 rfl rfl (by decide) (Nat.le_of_ble_eq_true rfl) dX9_greets_106 ?_
              refine kWVi F hK hP63 hD63 hS63 hA hl187.1 (c_X9_binder l G h a σ (σ 22 (5 * j + 3)) (σ 5 1)) 9 0 gX9_greets_X9_binder rfl 2 rfl (by decide +kernel) ⟨Nat.le_of_ble_eq_true rfl, Nat.le_of_ble_eq_true rfl⟩ ⟨Nat.zero_le _, Nat.zero_le _⟩ rfl rfl (Nat.le_of_ble_eq_true rfl) rfl dX9_greets_107 (fun r189 u189 H190 locs190 hw189 (hP190 : va_P G.1 vwCl (mW G h a σ) H190) (hD190 : va_D A (mW G h a σ)) hS190 => ?_)
              clear hP63 hD63 hS63
              have w189_0 : r189 = kbind (σ 22 (5 * j + 3)) (σ 5 1) (σ 29) := hw189
              refine lv_icmp_eq (tgt := 121) hx hb dX9_greets_110 (by decide) (fun c191 => ?_) (fun c191 => ?_)
              · refine lv_iload hx hb dX9_greets_121 (lv_at hl187 1 rfl) ?_
                refine lv_if_eq (tgt := 173) hx hb dX9_greets_123 (by decide) (fun c192 => ?_) (fun c192 => ?_)
                · exact absurd c192 (by decide)
                · refine lv_aload_n hx hb dX9_greets_126 rfl (lv_at hl187 3 rfl) ?_
                  refine kget F hK hP190 9 0 29 iX9 rfl rfl (by decide) (List.mem_of_getElem? (i := 1) rfl) rfl dX9_greets_127 ?_
                  refine lv_bipush (v := 8) hx hb dX9_greets_130 (by decide) ?_
                  refine kild F hK hP190 20 8 rfl rfl (by decide) (Nat.le_of_ble_eq_true rfl) dX9_greets_132 ?_
                  refine lv_if_lt (tgt := 173) hx hb dX9_greets_133 (by decide) (fun c193 => ?_) (fun c193 => ?_)
                  · refine lv_iconst (v := 0) hx hb dX9_greets_173 (by decide) ?_
                    refine lv_istore (lv' := [(7, .int 0), (6, .int (σ 22 (5 * j + 3))), (5, .int 1), (4, .int (nI j)), (0, .ref h), (1, .int v), (2, .int g), (3, .int i)]) hx hb dX9_greets_174 hl187 (by decide) rfl (fun ls194 hl194 => ?_)
                    clear hl187
                    refine lv_iload hx hb dX9_greets_176 (lv_at hl194 0 rfl) ?_
                    refine lv_if_eq (tgt := 224) hx hb dX9_greets_178 (by decide) (fun c195 => ?_) (fun c195 => ?_)
                    · refine lv_aload_n hx hb dX9_greets_224 rfl (lv_at hl194 4 rfl) ?_
                      refine lv_iconst (v := 1) hx hb dX9_greets_225 (by decide) ?_
                      refine lv_bipush (v := 8) hx hb dX9_greets_226 (by decide) ?_
                      refine kWVv F hK hP190 hD190 hS190 hA hl194.1 (c_X9_takes l G h a σ 1 8 (by first | assumption | decide | omega) (by first | assumption | decide | omega)) 9 0 gX9_greets_X9_takes rfl 2 rfl (by decide +kernel) ⟨Nat.le_of_ble_eq_true rfl, Nat.le_of_ble_eq_true rfl⟩ ⟨Nat.zero_le _, Nat.zero_le _⟩ rfl rfl (Nat.le_of_ble_eq_true rfl) rfl dX9_greets_228 (fun σ_196 H197 locs197 hw196 (hP197 : va_P G.1 vwCl (mW G h a σ_196) H197) (hD197 : va_D A (mW G h a σ_196)) hS197 => ?_)
                      clear hP190 hD190 hS190
                      have w196_0 : σ_196 = mtakes σ 1 (8 + 1) := hw196
                      refine lv_aload_n hx hb dX9_greets_231 rfl (lv_at hl194 4 rfl) ?_
                      refine kget F hK hP197 9 0 9 iX9 rfl rfl (by decide) (List.mem_of_getElem? (i := 7) rfl) rfl dX9_greets_232 ?_
                      refine lv_iconst (v := 1) hx hb dX9_greets_235 (by decide) ?_
                      refine lv_aload_n hx hb dX9_greets_236 rfl (lv_at hl194 4 rfl) ?_
                      refine kget F hK hP197 9 0 29 iX9 rfl rfl (by decide) (List.mem_of_getElem? (i := 1) rfl) rfl dX9_greets_237 ?_
                      refine lv_iconst (v := 4) hx hb dX9_greets_240 (by decide) ?_
                      refine kild F hK hP197 20 4 rfl rfl (by decide) (Nat.le_of_ble_eq_true rfl) dX9_greets_241 ?_
                      rw [show (σ_196 29 4) = (σ 29 4) from by subst w196_0; first | rfl | (simp only [msend, msees]; (repeat' split) <;> rfl)]
                      refine lv_aload_n hx hb dX9_greets_242 rfl (lv_at hl194 4 rfl) ?_
                      refine kget F hK hP197 9 0 2 iX9 rfl rfl (by decide) (List.mem_of_getElem? (i := 8) rfl) rfl dX9_greets_243 ?_
                      refine lv_iconst (v := 1) hx hb dX9_greets_246 (by decide) ?_
                      refine kild F hK hP197 3 1 rfl rfl (by decide) (Nat.le_of_ble_eq_true rfl) dX9_greets_247 ?_
                      rw [show (σ_196 2 1) = (σ 2 1) from by subst w196_0; first | rfl | (simp only [msend, msees]; (repeat' split) <;> rfl)]
                      refine lv_iload_n hx hb dX9_greets_248 rfl (lv_at hl194 6 rfl) ?_
                      refine kPSi F hK hP197 hD197 hS197 hA hl194.1 (c_X9_prime l G g) (fun _ => rfl) gX9_greets_X9_prime rfl 1 rfl (by decide +kernel) ⟨Nat.le_of_ble_eq_true rfl, Nat.le_of_ble_eq_true rfl⟩ ⟨Nat.zero_le _, Nat.zero_le _⟩ (Nat.le_of_ble_eq_true rfl) rfl dX9_greets_249 (fun r198 u198 H199 locs199 hw198 (hP199 : va_P G.1 vwCl (mW G h a σ_196) H199) (hD199 : va_D A (mW G h a σ_196)) hS199 => ?_)
                      clear hP197 hD197 hS197
                      have w198_0 : r198 = kprime g := hw198
                      refine kPSi F hK hP199 hD199 hS199 hA hl194.1 (c_X9_power l G (σ 29 4) (σ 2 1) r198 S (by subst_vars; exact kprime_1 _) hs hS) (fun _ => rfl) gX9_greets_X9_power rfl 3 rfl (by decide +kernel) ⟨Nat.le_of_ble_eq_true rfl, Nat.le_of_ble_eq_true rfl⟩ ⟨Nat.zero_le _, Nat.zero_le _⟩ (Nat.le_of_ble_eq_true rfl) rfl dX9_greets_252 (fun r200 u200 H201 locs201 hw200 (hP201 : va_P G.1 vwCl (mW G h a σ_196) H201) (hD201 : va_D A (mW G h a σ_196)) hS201 => ?_)
                      clear hP199 hD199 hS199
                      have w200_0 : r200 = mpw (σ 29 4) r198 S := hw200
                      refine lv_iload hx hb dX9_greets_255 (lv_at hl194 1 rfl) ?_
                      refine kPSi F hK hP201 hD201 hS201 hA hl194.1 (c_X9_keyOf l G r200 (σ 22 (5 * j + 3))) (fun _ => rfl) gX9_greets_X9_keyOf rfl 2 rfl (by decide +kernel) ⟨Nat.le_of_ble_eq_true rfl, Nat.le_of_ble_eq_true rfl⟩ ⟨Nat.zero_le _, Nat.zero_le _⟩ (Nat.le_of_ble_eq_true rfl) rfl dX9_greets_257 (fun r202 u202 H203 locs203 hw202 (hP203 : va_P G.1 vwCl (mW G h a σ_196) H203) (hD203 : va_D A (mW G h a σ_196)) hS203 => ?_)
                      clear hP201 hD201 hS201
                      have w202_0 : r202 = kmix (kmix 7 r200) (σ 22 (5 * j + 3)) := hw202
                      refine kMst F hK hP203 hD203 hS203 9 10 1 rfl rfl (by decide) (Nat.le_of_ble_eq_true rfl) rfl dX9_greets_260 (fun H204 locs204 σ204 eσ204 hP204 hD204 hS204 => ?_)
                      clear hP203 hD203 hS203
                      refine lv_aload_n hx hb dX9_greets_261 rfl (lv_at hl194 4 rfl) ?_
                      refine kget F hK hP204 9 0 6 iX9 rfl rfl (by decide) (List.mem_of_getElem? (i := 9) rfl) rfl dX9_greets_262 ?_
                      refine lv_iconst (v := 1) hx hb dX9_greets_265 (by decide) ?_
                      refine lv_iload_n hx hb dX9_greets_266 rfl (lv_at hl194 5 rfl) ?_
                      refine kMst F hK hP204 hD204 hS204 6 7 1 rfl rfl (by decide) (Nat.le_of_ble_eq_true rfl) rfl dX9_greets_267 (fun H205 locs205 σ205 eσ205 hP205 hD205 hS205 => ?_)
                      clear hP204 hD204 hS204
                      refine lv_aload_n hx hb dX9_greets_268 rfl (lv_at hl194 4 rfl) ?_
                      refine kget F hK hP205 9 0 7 iX9 rfl rfl (by decide) (List.mem_of_getElem? (i := 10) rfl) rfl dX9_greets_269 ?_
                      refine lv_iconst (v := 1) hx hb dX9_greets_272 (by decide) ?_
                      refine lv_iload_n hx hb dX9_greets_273 rfl (lv_at hl194 6 rfl) ?_
                      refine kMst F hK hP205 hD205 hS205 7 8 1 rfl rfl (by decide) (Nat.le_of_ble_eq_true rfl) rfl dX9_greets_274 (fun H206 locs206 σ206 eσ206 hP206 hD206 hS206 => ?_)
                      clear hP205 hD205 hS205
                      refine lv_aload_n hx hb dX9_greets_275 rfl (lv_at hl194 4 rfl) ?_
                      refine kget F hK hP206 9 0 8 iX9 rfl rfl (by decide) (List.mem_of_getElem? (i := 11) rfl) rfl dX9_greets_276 ?_
                      refine lv_iconst (v := 1) hx hb dX9_greets_279 (by decide) ?_
                      refine lv_iload hx hb dX9_greets_280 (lv_at hl194 2 rfl) ?_
                      refine lv_if_eq (tgt := 289) hx hb dX9_greets_282 (by decide) (fun c207 => ?_) (fun c207 => ?_)
                      · exact absurd c207 (by decide)
                      · refine lv_iconst (v := 1) hx hb dX9_greets_285 (by decide) ?_
                        refine lv_goto (tgt := 290) hx hb dX9_greets_286 (by decide) ?_
                        refine kMst F hK hP206 hD206 hS206 8 9 1 rfl rfl (by decide) (Nat.le_of_ble_eq_true rfl) rfl dX9_greets_290 (fun H208 locs208 σ208 eσ208 hP208 hD208 hS208 => ?_)
                        clear hP206 hD206 hS206
                        refine lv_aload_n hx hb dX9_greets_291 rfl (lv_at hl194 4 rfl) ?_
                        refine lv_iconst (v := 3) hx hb dX9_greets_292 (by decide) ?_
                        refine kWVv F hK hP208 hD208 hS208 hA hl194.1 (c_X9_clears l G h a σ208 3) 9 0 gX9_greets_X9_clears rfl 1 rfl (by decide +kernel) ⟨Nat.le_of_ble_eq_true rfl, Nat.le_of_ble_eq_true rfl⟩ ⟨Nat.zero_le _, Nat.zero_le _⟩ rfl rfl (Nat.le_of_ble_eq_true rfl) rfl dX9_greets_293 (fun σ_209 H210 locs210 hw209 (hP210 : va_P G.1 vwCl (mW G h a σ_209) H210) (hD210 : va_D A (mW G h a σ_209)) hS210 => ?_)
                        clear hP208 hD208 hS208
                        have w209_0 : σ_209 = mclr σ208 3 := hw209
                        refine lv_aload_n hx hb dX9_greets_296 rfl (lv_at hl194 4 rfl) ?_
                        refine kget F hK hP210 9 0 29 iX9 rfl rfl (by decide) (List.mem_of_getElem? (i := 1) rfl) rfl dX9_greets_297 ?_
                        refine lv_iconst (v := 1) hx hb dX9_greets_300 (by decide) ?_
                        refine lv_iload_n hx hb dX9_greets_301 rfl (lv_at hl194 5 rfl) ?_
                        refine kMst F hK hP210 hD210 hS210 29 20 1 rfl rfl (by decide) (Nat.le_of_ble_eq_true rfl) rfl dX9_greets_302 (fun H211 locs211 σ211 eσ211 hP211 hD211 hS211 => ?_)
                        clear hP210 hD210 hS210
                        refine lv_aload_n hx hb dX9_greets_303 rfl (lv_at hl194 4 rfl) ?_
                        refine kget F hK hP211 9 0 29 iX9 rfl rfl (by decide) (List.mem_of_getElem? (i := 1) rfl) rfl dX9_greets_304 ?_
                        refine lv_iconst (v := 2) hx hb dX9_greets_307 (by decide) ?_
                        refine lv_iload_n hx hb dX9_greets_308 rfl (lv_at hl194 6 rfl) ?_
                        refine kMst F hK hP211 hD211 hS211 29 20 2 rfl rfl (by decide) (Nat.le_of_ble_eq_true rfl) rfl dX9_greets_309 (fun H212 locs212 σ212 eσ212 hP212 hD212 hS212 => ?_)
                        clear hP211 hD211 hS211
                        refine lv_aload_n hx hb dX9_greets_310 rfl (lv_at hl194 4 rfl) ?_
                        refine kget F hK hP212 9 0 29 iX9 rfl rfl (by decide) (List.mem_of_getElem? (i := 1) rfl) rfl dX9_greets_311 ?_
                        refine lv_iconst (v := 3) hx hb dX9_greets_314 (by decide) ?_
                        refine lv_iload_n hx hb dX9_greets_315 rfl (lv_at hl194 6 rfl) ?_
                        refine lv_aload_n hx hb dX9_greets_316 rfl (lv_at hl194 4 rfl) ?_
                        refine kget F hK hP212 9 0 2 iX9 rfl rfl (by decide) (List.mem_of_getElem? (i := 8) rfl) rfl dX9_greets_317 ?_
                        refine lv_iconst (v := 1) hx hb dX9_greets_320 (by decide) ?_
                        refine kild F hK hP212 3 1 rfl rfl (by decide) (Nat.le_of_ble_eq_true rfl) dX9_greets_321 ?_
                        rw [show (σ212 2 1) = (σ 2 1) from by subst eσ212; subst eσ211; subst w209_0; subst eσ208; subst eσ206; subst eσ205; subst eσ204; subst w196_0; first | rfl | (simp only [msend, msees]; (repeat' split) <;> rfl)]
                        refine kPSi F hK hP212 hD212 hS212 hA hl194.1 (c_X9_shareOf l G g (σ 2 1) S hs hS) (fun _ => rfl) gX9_greets_X9_shareOf rfl 2 rfl (by decide +kernel) ⟨Nat.le_of_ble_eq_true rfl, Nat.le_of_ble_eq_true rfl⟩ ⟨Nat.zero_le _, Nat.zero_le _⟩ (Nat.le_of_ble_eq_true rfl) rfl dX9_greets_322 (fun r213 u213 H214 locs214 hw213 (hP214 : va_P G.1 vwCl (mW G h a σ212) H214) (hD214 : va_D A (mW G h a σ212)) hS214 => ?_)
                        clear hP212 hD212 hS212
                        have w213_0 : r213 = mshare g S := hw213
                        refine kMst F hK hP214 hD214 hS214 29 20 3 rfl rfl (by decide) (Nat.le_of_ble_eq_true rfl) rfl dX9_greets_325 (fun H215 locs215 σ215 eσ215 hP215 hD215 hS215 => ?_)
                        clear hP214 hD214 hS214
                        refine lv_aload_n hx hb dX9_greets_326 rfl (lv_at hl194 4 rfl) ?_
                        refine kget F hK hP215 9 0 29 iX9 rfl rfl (by decide) (List.mem_of_getElem? (i := 1) rfl) rfl dX9_greets_327 ?_
                        refine lv_iconst (v := 4) hx hb dX9_greets_330 (by decide) ?_
                        refine lv_aload_n hx hb dX9_greets_331 rfl (lv_at hl194 4 rfl) ?_
                        refine kget F hK hP215 9 0 0 iX9 rfl rfl (by decide) (List.mem_of_getElem? (i := 12) rfl) rfl dX9_greets_332 ?_
                        refine lv_iconst (v := 1) hx hb dX9_greets_335 (by decide) ?_
                        refine kild F hK hP215 1 1 rfl rfl (by decide) (Nat.le_of_ble_eq_true rfl) dX9_greets_336 ?_
                        rw [show (σ215 0 1) = (σ 0 1) from by subst eσ215; subst eσ212; subst eσ211; subst w209_0; subst eσ208; subst eσ206; subst eσ205; subst eσ204; subst w196_0; first | rfl | (simp only [msend, msees]; (repeat' split) <;> rfl)]
                        refine lv_iload_n hx hb dX9_greets_337 rfl (lv_at hl194 5 rfl) ?_
                        refine kPSi F hK hP215 hD215 hS215 hA hl194.1 (c_X9_hasAbove l G (σ 0 1) v hvv) (fun _ => rfl) gX9_greets_X9_hasAbove rfl 2 rfl (by decide +kernel) ⟨Nat.le_of_ble_eq_true rfl, Nat.le_of_ble_eq_true rfl⟩ ⟨Nat.zero_le _, Nat.zero_le _⟩ (Nat.le_of_ble_eq_true rfl) rfl dX9_greets_338 (fun r216 u216 H217 locs217 hw216 (hP217 : va_P G.1 vwCl (mW G h a σ215) H217) (hD217 : va_D A (mW G h a σ215)) hS217 => ?_)
                        clear hP215 hD215 hS215
                        have w216_0 : r216 = mab (σ 0 1) v := hw216
                        refine lv_if_eq (tgt := 348) hx hb dX9_greets_341 (by decide) (fun c218 => ?_) (fun c218 => ?_)
                        · refine lv_iconst (v := 0) hx hb dX9_greets_348 (by decide) ?_
                          refine kMst F hK hP217 hD217 hS217 29 20 4 rfl rfl (by decide) (Nat.le_of_ble_eq_true rfl) rfl dX9_greets_349 (fun H219 locs219 σ219 eσ219 hP219 hD219 hS219 => ?_)
                          clear hP217 hD217 hS217
                          refine lv_aload_n hx hb dX9_greets_350 rfl (lv_at hl194 4 rfl) ?_
                          refine kget F hK hP219 9 0 29 iX9 rfl rfl (by decide) (List.mem_of_getElem? (i := 1) rfl) rfl dX9_greets_351 ?_
                          refine lv_iconst (v := 5) hx hb dX9_greets_354 (by decide) ?_
                          refine lv_iload hx hb dX9_greets_355 (lv_at hl194 2 rfl) ?_
                          refine lv_if_eq (tgt := 364) hx hb dX9_greets_357 (by decide) (fun c220 => ?_) (fun c220 => ?_)
                          · exact absurd c220 (by decide)
                          · refine lv_iconst (v := 1) hx hb dX9_greets_360 (by decide) ?_
                            refine lv_goto (tgt := 365) hx hb dX9_greets_361 (by decide) ?_
                            refine kMst F hK hP219 hD219 hS219 29 20 5 rfl rfl (by decide) (Nat.le_of_ble_eq_true rfl) rfl dX9_greets_365 (fun H221 locs221 σ221 eσ221 hP221 hD221 hS221 => ?_)
                            clear hP219 hD219 hS219
                            refine lv_aload_n hx hb dX9_greets_366 rfl (lv_at hl194 4 rfl) ?_
                            refine kget F hK hP221 9 0 29 iX9 rfl rfl (by decide) (List.mem_of_getElem? (i := 1) rfl) rfl dX9_greets_367 ?_
                            refine lv_bipush (v := 6) hx hb dX9_greets_370 (by decide) ?_
                            refine lv_iload hx hb dX9_greets_372 (lv_at hl194 0 rfl) ?_
                            refine lv_if_eq (tgt := 381) hx hb dX9_greets_374 (by decide) (fun c222 => ?_) (fun c222 => ?_)
                            · refine lv_iconst (v := 0) hx hb dX9_greets_381 (by decide) ?_
                              refine kMst F hK hP221 hD221 hS221 29 20 6 rfl rfl (by decide) (Nat.le_of_ble_eq_true rfl) rfl dX9_greets_382 (fun H223 locs223 σ223 eσ223 hP223 hD223 hS223 => ?_)
                              clear hP221 hD221 hS221
                              refine lv_aload_n hx hb dX9_greets_383 rfl (lv_at hl194 4 rfl) ?_
                              refine lv_iconst (v := 1) hx hb dX9_greets_384 (by decide) ?_
                              refine lv_bipush (v := 6) hx hb dX9_greets_385 (by decide) ?_
                              refine kWVv F hK hP223 hD223 hS223 hA hl194.1 (c_X9_takes l G h a σ223 1 6 (by first | assumption | decide | omega) (by first | assumption | decide | omega)) 9 0 gX9_greets_X9_takes rfl 2 rfl (by decide +kernel) ⟨Nat.le_of_ble_eq_true rfl, Nat.le_of_ble_eq_true rfl⟩ ⟨Nat.zero_le _, Nat.zero_le _⟩ rfl rfl (Nat.le_of_ble_eq_true rfl) rfl dX9_greets_387 (fun σ_224 H225 locs225 hw224 (hP225 : va_P G.1 vwCl (mW G h a σ_224) H225) (hD225 : va_D A (mW G h a σ_224)) hS225 => ?_)
                              clear hP223 hD223 hS223
                              have w224_0 : σ_224 = mtakes σ223 1 (6 + 1) := hw224
                              refine lv_aload_n hx hb dX9_greets_390 rfl (lv_at hl194 4 rfl) ?_
                              refine kget F hK hP225 9 0 29 iX9 rfl rfl (by decide) (List.mem_of_getElem? (i := 1) rfl) rfl dX9_greets_391 ?_
                              refine lv_bipush (v := 7) hx hb dX9_greets_394 (by decide) ?_
                              refine lv_aload_n hx hb dX9_greets_396 rfl (lv_at hl194 4 rfl) ?_
                              refine lv_iconst (v := 1) hx hb dX9_greets_397 (by decide) ?_
                              refine lv_iconst (v := 1) hx hb dX9_greets_398 (by decide) ?_
                              refine kWVi F hK hP225 hD225 hS225 hA hl194.1 (c_X9_proof l G h a σ_224 1 1 (by first | assumption | decide | omega)) 9 0 gX9_greets_X9_proof rfl 2 rfl (by decide +kernel) ⟨Nat.le_of_ble_eq_true rfl, Nat.le_of_ble_eq_true rfl⟩ ⟨Nat.zero_le _, Nat.zero_le _⟩ rfl rfl (Nat.le_of_ble_eq_true rfl) rfl dX9_greets_399 (fun r226 u226 H227 locs227 hw226 (hP227 : va_P G.1 vwCl (mW G h a σ_224) H227) (hD227 : va_D A (mW G h a σ_224)) hS227 => ?_)
                              clear hP225 hD225 hS225
                              have w226_0 : r226 = mproof σ_224 1 1 := hw226
                              refine kMst F hK hP227 hD227 hS227 29 20 7 rfl rfl (by decide) (Nat.le_of_ble_eq_true rfl) rfl dX9_greets_402 (fun H228 locs228 σ228 eσ228 hP228 hD228 hS228 => ?_)
                              clear hP227 hD227 hS227
                              refine lv_aload_n hx hb dX9_greets_403 rfl (lv_at hl194 4 rfl) ?_
                              refine lv_iconst (v := 0) hx hb dX9_greets_404 (by decide) ?_
                              refine kWVv F hK hP228 hD228 hS228 hA hl194.1 (c_X9_sends l G h a σ228 0 Mn (by first | assumption | decide | omega) (by subst eσ228; subst w226_0; subst w224_0; subst eσ223; subst eσ221; subst eσ219; subst w216_0; subst eσ215; subst w213_0; subst eσ212; subst eσ211; subst w209_0; subst eσ208; subst eσ206; subst eσ205; subst eσ204; subst w202_0; subst w200_0; subst w198_0; subst w196_0; subst w189_0; first | exact hM | (simp only [msees, mtakes, mclr]; (repeat' split) <;> exact hM)) hM8) 9 0 gX9_greets_X9_sends rfl 1 rfl (by decide +kernel) ⟨Nat.le_of_ble_eq_true rfl, Nat.le_of_ble_eq_true rfl⟩ ⟨Nat.zero_le _, Nat.zero_le _⟩ rfl rfl (Nat.le_of_ble_eq_true rfl) rfl dX9_greets_405 (fun σ_229 H230 locs230 hw229 (hP230 : va_P G.1 vwCl (mW G h a σ_229) H230) (hD230 : va_D A (mW G h a σ_229)) hS230 => ?_)
                              clear hP228 hD228 hS228
                              have w229_0 : σ_229 = msend σ228 0 Mn := hw229
                              refine lv_aload_n hx hb dX9_greets_408 rfl (lv_at hl194 4 rfl) ?_
                              refine kget F hK hP230 9 0 3 iX9 rfl rfl (by decide) (List.mem_of_getElem? (i := 13) rfl) rfl dX9_greets_409 ?_
                              refine lv_iconst (v := 1) hx hb dX9_greets_412 (by decide) ?_
                              refine lv_iconst (v := 3) hx hb dX9_greets_413 (by decide) ?_
                              refine kMst F hK hP230 hD230 hS230 3 4 1 rfl rfl (by decide) (Nat.le_of_ble_eq_true rfl) rfl dX9_greets_414 (fun H231 locs231 σ231 eσ231 hP231 hD231 hS231 => ?_)
                              clear hP230 hD230 hS230
                              have q232 : σ231 = mgreets σ v g i S Mn E K := by
                                subst eσ231
                                subst w229_0
                                subst eσ228
                                subst w226_0
                                subst w224_0
                                subst eσ223
                                subst eσ221
                                subst eσ219
                                subst w216_0
                                subst eσ215
                                subst w213_0
                                subst eσ212
                                subst eσ211
                                subst w209_0
                                subst eσ208
                                subst eσ206
                                subst eσ205
                                subst eσ204
                                subst w202_0
                                subst w200_0
                                subst w198_0
                                subst w196_0
                                subst w189_0
                                first | (simp only [mgreets, mgrY, mearl, mgrT, mgrC, mgrB, mgrA, mgrE, kd10, eq_true c1, hv, hjc, hjm, c125, c126, c186, c188, eq_true c191, c192, eq_true c193, eq_true c195, c207, eq_true c218, c220, eq_true c222, eq_self, ↓reduceIte, and_self, and_true, true_and]; done) | (simp only [mgreets, mgrY, mearl, mgrT, mgrC, mgrB, mgrA, mgrE, kd10, eq_true c1, hv, hjc, hjm, c125, c126, c186, c188, eq_true c191, c192, eq_true c193, eq_true c195, c207, eq_true c218, c220, eq_true c222, eq_self, ↓reduceIte, and_self, and_true, true_and]; (try and_intros) <;> rfl)
                              exact kRv F hr hlocks hS231 dX9_greets_415 σ231 q232 hP231 hD231
                            · exact absurd (by decide) c222
                        · refine lv_iconst (v := 1) hx hb dX9_greets_344 (by decide) ?_
                          refine lv_goto (tgt := 349) hx hb dX9_greets_345 (by decide) ?_
                          refine kMst F hK hP217 hD217 hS217 29 20 4 rfl rfl (by decide) (Nat.le_of_ble_eq_true rfl) rfl dX9_greets_349 (fun H233 locs233 σ233 eσ233 hP233 hD233 hS233 => ?_)
                          clear hP217 hD217 hS217
                          refine lv_aload_n hx hb dX9_greets_350 rfl (lv_at hl194 4 rfl) ?_
                          refine kget F hK hP233 9 0 29 iX9 rfl rfl (by decide) (List.mem_of_getElem? (i := 1) rfl) rfl dX9_greets_351 ?_
                          refine lv_iconst (v := 5) hx hb dX9_greets_354 (by decide) ?_
                          refine lv_iload hx hb dX9_greets_355 (lv_at hl194 2 rfl) ?_
                          refine lv_if_eq (tgt := 364) hx hb dX9_greets_357 (by decide) (fun c234 => ?_) (fun c234 => ?_)
                          · exact absurd c234 (by decide)
                          · refine lv_iconst (v := 1) hx hb dX9_greets_360 (by decide) ?_
                            refine lv_goto (tgt := 365) hx hb dX9_greets_361 (by decide) ?_
                            refine kMst F hK hP233 hD233 hS233 29 20 5 rfl rfl (by decide) (Nat.le_of_ble_eq_true rfl) rfl dX9_greets_365 (fun H235 locs235 σ235 eσ235 hP235 hD235 hS235 => ?_)
                            clear hP233 hD233 hS233
                            refine lv_aload_n hx hb dX9_greets_366 rfl (lv_at hl194 4 rfl) ?_
                            refine kget F hK hP235 9 0 29 iX9 rfl rfl (by decide) (List.mem_of_getElem? (i := 1) rfl) rfl dX9_greets_367 ?_
                            refine lv_bipush (v := 6) hx hb dX9_greets_370 (by decide) ?_
                            refine lv_iload hx hb dX9_greets_372 (lv_at hl194 0 rfl) ?_
                            refine lv_if_eq (tgt := 381) hx hb dX9_greets_374 (by decide) (fun c236 => ?_) (fun c236 => ?_)
                            · refine lv_iconst (v := 0) hx hb dX9_greets_381 (by decide) ?_
                              refine kMst F hK hP235 hD235 hS235 29 20 6 rfl rfl (by decide) (Nat.le_of_ble_eq_true rfl) rfl dX9_greets_382 (fun H237 locs237 σ237 eσ237 hP237 hD237 hS237 => ?_)
                              clear hP235 hD235 hS235
                              refine lv_aload_n hx hb dX9_greets_383 rfl (lv_at hl194 4 rfl) ?_
                              refine lv_iconst (v := 1) hx hb dX9_greets_384 (by decide) ?_
                              refine lv_bipush (v := 6) hx hb dX9_greets_385 (by decide) ?_
                              refine kWVv F hK hP237 hD237 hS237 hA hl194.1 (c_X9_takes l G h a σ237 1 6 (by first | assumption | decide | omega) (by first | assumption | decide | omega)) 9 0 gX9_greets_X9_takes rfl 2 rfl (by decide +kernel) ⟨Nat.le_of_ble_eq_true rfl, Nat.le_of_ble_eq_true rfl⟩ ⟨Nat.zero_le _, Nat.zero_le _⟩ rfl rfl (Nat.le_of_ble_eq_true rfl) rfl dX9_greets_387 (fun σ_238 H239 locs239 hw238 (hP239 : va_P G.1 vwCl (mW G h a σ_238) H239) (hD239 : va_D A (mW G h a σ_238)) hS239 => ?_)
                              clear hP237 hD237 hS237
                              have w238_0 : σ_238 = mtakes σ237 1 (6 + 1) := hw238
                              refine lv_aload_n hx hb dX9_greets_390 rfl (lv_at hl194 4 rfl) ?_
                              refine kget F hK hP239 9 0 29 iX9 rfl rfl (by decide) (List.mem_of_getElem? (i := 1) rfl) rfl dX9_greets_391 ?_
                              refine lv_bipush (v := 7) hx hb dX9_greets_394 (by decide) ?_
                              refine lv_aload_n hx hb dX9_greets_396 rfl (lv_at hl194 4 rfl) ?_
                              refine lv_iconst (v := 1) hx hb dX9_greets_397 (by decide) ?_
                              refine lv_iconst (v := 1) hx hb dX9_greets_398 (by decide) ?_
                              refine kWVi F hK hP239 hD239 hS239 hA hl194.1 (c_X9_proof l G h a σ_238 1 1 (by first | assumption | decide | omega)) 9 0 gX9_greets_X9_proof rfl 2 rfl (by decide +kernel) ⟨Nat.le_of_ble_eq_true rfl, Nat.le_of_ble_eq_true rfl⟩ ⟨Nat.zero_le _, Nat.zero_le _⟩ rfl rfl (Nat.le_of_ble_eq_true rfl) rfl dX9_greets_399 (fun r240 u240 H241 locs241 hw240 (hP241 : va_P G.1 vwCl (mW G h a σ_238) H241) (hD241 : va_D A (mW G h a σ_238)) hS241 => ?_)
                              clear hP239 hD239 hS239
                              have w240_0 : r240 = mproof σ_238 1 1 := hw240
                              refine kMst F hK hP241 hD241 hS241 29 20 7 rfl rfl (by decide) (Nat.le_of_ble_eq_true rfl) rfl dX9_greets_402 (fun H242 locs242 σ242 eσ242 hP242 hD242 hS242 => ?_)
                              clear hP241 hD241 hS241
                              refine lv_aload_n hx hb dX9_greets_403 rfl (lv_at hl194 4 rfl) ?_
                              refine lv_iconst (v := 0) hx hb dX9_greets_404 (by decide) ?_
                              refine kWVv F hK hP242 hD242 hS242 hA hl194.1 (c_X9_sends l G h a σ242 0 Mn (by first | assumption | decide | omega) (by subst eσ242; subst w240_0; subst w238_0; subst eσ237; subst eσ235; subst eσ233; subst w216_0; subst eσ215; subst w213_0; subst eσ212; subst eσ211; subst w209_0; subst eσ208; subst eσ206; subst eσ205; subst eσ204; subst w202_0; subst w200_0; subst w198_0; subst w196_0; subst w189_0; first | exact hM | (simp only [msees, mtakes, mclr]; (repeat' split) <;> exact hM)) hM8) 9 0 gX9_greets_X9_sends rfl 1 rfl (by decide +kernel) ⟨Nat.le_of_ble_eq_true rfl, Nat.le_of_ble_eq_true rfl⟩ ⟨Nat.zero_le _, Nat.zero_le _⟩ rfl rfl (Nat.le_of_ble_eq_true rfl) rfl dX9_greets_405 (fun σ_243 H244 locs244 hw243 (hP244 : va_P G.1 vwCl (mW G h a σ_243) H244) (hD244 : va_D A (mW G h a σ_243)) hS244 => ?_)
                              clear hP242 hD242 hS242
                              have w243_0 : σ_243 = msend σ242 0 Mn := hw243
                              refine lv_aload_n hx hb dX9_greets_408 rfl (lv_at hl194 4 rfl) ?_
                              refine kget F hK hP244 9 0 3 iX9 rfl rfl (by decide) (List.mem_of_getElem? (i := 13) rfl) rfl dX9_greets_409 ?_
                              refine lv_iconst (v := 1) hx hb dX9_greets_412 (by decide) ?_
                              refine lv_iconst (v := 3) hx hb dX9_greets_413 (by decide) ?_
                              refine kMst F hK hP244 hD244 hS244 3 4 1 rfl rfl (by decide) (Nat.le_of_ble_eq_true rfl) rfl dX9_greets_414 (fun H245 locs245 σ245 eσ245 hP245 hD245 hS245 => ?_)
                              clear hP244 hD244 hS244
                              have q246 : σ245 = mgreets σ v g i S Mn E K := by
                                subst eσ245
                                subst w243_0
                                subst eσ242
                                subst w240_0
                                subst w238_0
                                subst eσ237
                                subst eσ235
                                subst eσ233
                                subst w216_0
                                subst eσ215
                                subst w213_0
                                subst eσ212
                                subst eσ211
                                subst w209_0
                                subst eσ208
                                subst eσ206
                                subst eσ205
                                subst eσ204
                                subst w202_0
                                subst w200_0
                                subst w198_0
                                subst w196_0
                                subst w189_0
                                first | (simp only [mgreets, mgrY, mearl, mgrT, mgrC, mgrB, mgrA, mgrE, kd10, eq_true c1, hv, hjc, hjm, c125, c126, c186, c188, eq_true c191, c192, eq_true c193, eq_true c195, c207, c218, c234, eq_true c236, eq_self, ↓reduceIte, and_self, and_true, true_and]; done) | (simp only [mgreets, mgrY, mearl, mgrT, mgrC, mgrB, mgrA, mgrE, kd10, eq_true c1, hv, hjc, hjm, c125, c126, c186, c188, eq_true c191, c192, eq_true c193, eq_true c195, c207, c218, c234, eq_true c236, eq_self, ↓reduceIte, and_self, and_true, true_and]; (try and_intros) <;> rfl)
                              exact kRv F hr hlocks hS245 dX9_greets_415 σ245 q246 hP245 hD245
                            · exact absurd (by decide) c236
                    · exact absurd (by decide) c195
                  · refine lv_iload_n hx hb dX9_greets_136 rfl (lv_at hl187 6 rfl) ?_
                    refine lv_if_ne (tgt := 173) hx hb dX9_greets_137 (by decide) (fun c247 => ?_) (fun c247 => ?_)
                    · refine lv_iconst (v := 0) hx hb dX9_greets_173 (by decide) ?_
                      refine lv_istore (lv' := [(7, .int 0), (6, .int (σ 22 (5 * j + 3))), (5, .int 1), (4, .int (nI j)), (0, .ref h), (1, .int v), (2, .int g), (3, .int i)]) hx hb dX9_greets_174 hl187 (by decide) rfl (fun ls248 hl248 => ?_)
                      clear hl187
                      refine lv_iload hx hb dX9_greets_176 (lv_at hl248 0 rfl) ?_
                      refine lv_if_eq (tgt := 224) hx hb dX9_greets_178 (by decide) (fun c249 => ?_) (fun c249 => ?_)
                      · refine lv_aload_n hx hb dX9_greets_224 rfl (lv_at hl248 4 rfl) ?_
                        refine lv_iconst (v := 1) hx hb dX9_greets_225 (by decide) ?_
                        refine lv_bipush (v := 8) hx hb dX9_greets_226 (by decide) ?_
                        refine kWVv F hK hP190 hD190 hS190 hA hl248.1 (c_X9_takes l G h a σ 1 8 (by first | assumption | decide | omega) (by first | assumption | decide | omega)) 9 0 gX9_greets_X9_takes rfl 2 rfl (by decide +kernel) ⟨Nat.le_of_ble_eq_true rfl, Nat.le_of_ble_eq_true rfl⟩ ⟨Nat.zero_le _, Nat.zero_le _⟩ rfl rfl (Nat.le_of_ble_eq_true rfl) rfl dX9_greets_228 (fun σ_250 H251 locs251 hw250 (hP251 : va_P G.1 vwCl (mW G h a σ_250) H251) (hD251 : va_D A (mW G h a σ_250)) hS251 => ?_)
                        clear hP190 hD190 hS190
                        have w250_0 : σ_250 = mtakes σ 1 (8 + 1) := hw250
                        refine lv_aload_n hx hb dX9_greets_231 rfl (lv_at hl248 4 rfl) ?_
                        refine kget F hK hP251 9 0 9 iX9 rfl rfl (by decide) (List.mem_of_getElem? (i := 7) rfl) rfl dX9_greets_232 ?_
                        refine lv_iconst (v := 1) hx hb dX9_greets_235 (by decide) ?_
                        refine lv_aload_n hx hb dX9_greets_236 rfl (lv_at hl248 4 rfl) ?_
                        refine kget F hK hP251 9 0 29 iX9 rfl rfl (by decide) (List.mem_of_getElem? (i := 1) rfl) rfl dX9_greets_237 ?_
                        refine lv_iconst (v := 4) hx hb dX9_greets_240 (by decide) ?_
                        refine kild F hK hP251 20 4 rfl rfl (by decide) (Nat.le_of_ble_eq_true rfl) dX9_greets_241 ?_
                        rw [show (σ_250 29 4) = (σ 29 4) from by subst w250_0; first | rfl | (simp only [msend, msees]; (repeat' split) <;> rfl)]
                        refine lv_aload_n hx hb dX9_greets_242 rfl (lv_at hl248 4 rfl) ?_
                        refine kget F hK hP251 9 0 2 iX9 rfl rfl (by decide) (List.mem_of_getElem? (i := 8) rfl) rfl dX9_greets_243 ?_
                        refine lv_iconst (v := 1) hx hb dX9_greets_246 (by decide) ?_
                        refine kild F hK hP251 3 1 rfl rfl (by decide) (Nat.le_of_ble_eq_true rfl) dX9_greets_247 ?_
                        rw [show (σ_250 2 1) = (σ 2 1) from by subst w250_0; first | rfl | (simp only [msend, msees]; (repeat' split) <;> rfl)]
                        refine lv_iload_n hx hb dX9_greets_248 rfl (lv_at hl248 6 rfl) ?_
                        refine kPSi F hK hP251 hD251 hS251 hA hl248.1 (c_X9_prime l G g) (fun _ => rfl) gX9_greets_X9_prime rfl 1 rfl (by decide +kernel) ⟨Nat.le_of_ble_eq_true rfl, Nat.le_of_ble_eq_true rfl⟩ ⟨Nat.zero_le _, Nat.zero_le _⟩ (Nat.le_of_ble_eq_true rfl) rfl dX9_greets_249 (fun r252 u252 H253 locs253 hw252 (hP253 : va_P G.1 vwCl (mW G h a σ_250) H253) (hD253 : va_D A (mW G h a σ_250)) hS253 => ?_)
                        clear hP251 hD251 hS251
                        have w252_0 : r252 = kprime g := hw252
                        refine kPSi F hK hP253 hD253 hS253 hA hl248.1 (c_X9_power l G (σ 29 4) (σ 2 1) r252 S (by subst_vars; exact kprime_1 _) hs hS) (fun _ => rfl) gX9_greets_X9_power rfl 3 rfl (by decide +kernel) ⟨Nat.le_of_ble_eq_true rfl, Nat.le_of_ble_eq_true rfl⟩ ⟨Nat.zero_le _, Nat.zero_le _⟩ (Nat.le_of_ble_eq_true rfl) rfl dX9_greets_252 (fun r254 u254 H255 locs255 hw254 (hP255 : va_P G.1 vwCl (mW G h a σ_250) H255) (hD255 : va_D A (mW G h a σ_250)) hS255 => ?_)
                        clear hP253 hD253 hS253
                        have w254_0 : r254 = mpw (σ 29 4) r252 S := hw254
                        refine lv_iload hx hb dX9_greets_255 (lv_at hl248 1 rfl) ?_
                        refine kPSi F hK hP255 hD255 hS255 hA hl248.1 (c_X9_keyOf l G r254 (σ 22 (5 * j + 3))) (fun _ => rfl) gX9_greets_X9_keyOf rfl 2 rfl (by decide +kernel) ⟨Nat.le_of_ble_eq_true rfl, Nat.le_of_ble_eq_true rfl⟩ ⟨Nat.zero_le _, Nat.zero_le _⟩ (Nat.le_of_ble_eq_true rfl) rfl dX9_greets_257 (fun r256 u256 H257 locs257 hw256 (hP257 : va_P G.1 vwCl (mW G h a σ_250) H257) (hD257 : va_D A (mW G h a σ_250)) hS257 => ?_)
                        clear hP255 hD255 hS255
                        have w256_0 : r256 = kmix (kmix 7 r254) (σ 22 (5 * j + 3)) := hw256
                        refine kMst F hK hP257 hD257 hS257 9 10 1 rfl rfl (by decide) (Nat.le_of_ble_eq_true rfl) rfl dX9_greets_260 (fun H258 locs258 σ258 eσ258 hP258 hD258 hS258 => ?_)
                        clear hP257 hD257 hS257
                        refine lv_aload_n hx hb dX9_greets_261 rfl (lv_at hl248 4 rfl) ?_
                        refine kget F hK hP258 9 0 6 iX9 rfl rfl (by decide) (List.mem_of_getElem? (i := 9) rfl) rfl dX9_greets_262 ?_
                        refine lv_iconst (v := 1) hx hb dX9_greets_265 (by decide) ?_
                        refine lv_iload_n hx hb dX9_greets_266 rfl (lv_at hl248 5 rfl) ?_
                        refine kMst F hK hP258 hD258 hS258 6 7 1 rfl rfl (by decide) (Nat.le_of_ble_eq_true rfl) rfl dX9_greets_267 (fun H259 locs259 σ259 eσ259 hP259 hD259 hS259 => ?_)
                        clear hP258 hD258 hS258
                        refine lv_aload_n hx hb dX9_greets_268 rfl (lv_at hl248 4 rfl) ?_
                        refine kget F hK hP259 9 0 7 iX9 rfl rfl (by decide) (List.mem_of_getElem? (i := 10) rfl) rfl dX9_greets_269 ?_
                        refine lv_iconst (v := 1) hx hb dX9_greets_272 (by decide) ?_
                        refine lv_iload_n hx hb dX9_greets_273 rfl (lv_at hl248 6 rfl) ?_
                        refine kMst F hK hP259 hD259 hS259 7 8 1 rfl rfl (by decide) (Nat.le_of_ble_eq_true rfl) rfl dX9_greets_274 (fun H260 locs260 σ260 eσ260 hP260 hD260 hS260 => ?_)
                        clear hP259 hD259 hS259
                        refine lv_aload_n hx hb dX9_greets_275 rfl (lv_at hl248 4 rfl) ?_
                        refine kget F hK hP260 9 0 8 iX9 rfl rfl (by decide) (List.mem_of_getElem? (i := 11) rfl) rfl dX9_greets_276 ?_
                        refine lv_iconst (v := 1) hx hb dX9_greets_279 (by decide) ?_
                        refine lv_iload hx hb dX9_greets_280 (lv_at hl248 2 rfl) ?_
                        refine lv_if_eq (tgt := 289) hx hb dX9_greets_282 (by decide) (fun c261 => ?_) (fun c261 => ?_)
                        · exact absurd c261 (by decide)
                        · refine lv_iconst (v := 1) hx hb dX9_greets_285 (by decide) ?_
                          refine lv_goto (tgt := 290) hx hb dX9_greets_286 (by decide) ?_
                          refine kMst F hK hP260 hD260 hS260 8 9 1 rfl rfl (by decide) (Nat.le_of_ble_eq_true rfl) rfl dX9_greets_290 (fun H262 locs262 σ262 eσ262 hP262 hD262 hS262 => ?_)
                          clear hP260 hD260 hS260
                          refine lv_aload_n hx hb dX9_greets_291 rfl (lv_at hl248 4 rfl) ?_
                          refine lv_iconst (v := 3) hx hb dX9_greets_292 (by decide) ?_
                          refine kWVv F hK hP262 hD262 hS262 hA hl248.1 (c_X9_clears l G h a σ262 3) 9 0 gX9_greets_X9_clears rfl 1 rfl (by decide +kernel) ⟨Nat.le_of_ble_eq_true rfl, Nat.le_of_ble_eq_true rfl⟩ ⟨Nat.zero_le _, Nat.zero_le _⟩ rfl rfl (Nat.le_of_ble_eq_true rfl) rfl dX9_greets_293 (fun σ_263 H264 locs264 hw263 (hP264 : va_P G.1 vwCl (mW G h a σ_263) H264) (hD264 : va_D A (mW G h a σ_263)) hS264 => ?_)
                          clear hP262 hD262 hS262
                          have w263_0 : σ_263 = mclr σ262 3 := hw263
                          refine lv_aload_n hx hb dX9_greets_296 rfl (lv_at hl248 4 rfl) ?_
                          refine kget F hK hP264 9 0 29 iX9 rfl rfl (by decide) (List.mem_of_getElem? (i := 1) rfl) rfl dX9_greets_297 ?_
                          refine lv_iconst (v := 1) hx hb dX9_greets_300 (by decide) ?_
                          refine lv_iload_n hx hb dX9_greets_301 rfl (lv_at hl248 5 rfl) ?_
                          refine kMst F hK hP264 hD264 hS264 29 20 1 rfl rfl (by decide) (Nat.le_of_ble_eq_true rfl) rfl dX9_greets_302 (fun H265 locs265 σ265 eσ265 hP265 hD265 hS265 => ?_)
                          clear hP264 hD264 hS264
                          refine lv_aload_n hx hb dX9_greets_303 rfl (lv_at hl248 4 rfl) ?_
                          refine kget F hK hP265 9 0 29 iX9 rfl rfl (by decide) (List.mem_of_getElem? (i := 1) rfl) rfl dX9_greets_304 ?_
                          refine lv_iconst (v := 2) hx hb dX9_greets_307 (by decide) ?_
                          refine lv_iload_n hx hb dX9_greets_308 rfl (lv_at hl248 6 rfl) ?_
                          refine kMst F hK hP265 hD265 hS265 29 20 2 rfl rfl (by decide) (Nat.le_of_ble_eq_true rfl) rfl dX9_greets_309 (fun H266 locs266 σ266 eσ266 hP266 hD266 hS266 => ?_)
                          clear hP265 hD265 hS265
                          refine lv_aload_n hx hb dX9_greets_310 rfl (lv_at hl248 4 rfl) ?_
                          refine kget F hK hP266 9 0 29 iX9 rfl rfl (by decide) (List.mem_of_getElem? (i := 1) rfl) rfl dX9_greets_311 ?_
                          refine lv_iconst (v := 3) hx hb dX9_greets_314 (by decide) ?_
                          refine lv_iload_n hx hb dX9_greets_315 rfl (lv_at hl248 6 rfl) ?_
                          refine lv_aload_n hx hb dX9_greets_316 rfl (lv_at hl248 4 rfl) ?_
                          refine kget F hK hP266 9 0 2 iX9 rfl rfl (by decide) (List.mem_of_getElem? (i := 8) rfl) rfl dX9_greets_317 ?_
                          refine lv_iconst (v := 1) hx hb dX9_greets_320 (by decide) ?_
                          refine kild F hK hP266 3 1 rfl rfl (by decide) (Nat.le_of_ble_eq_true rfl) dX9_greets_321 ?_
                          rw [show (σ266 2 1) = (σ 2 1) from by subst eσ266; subst eσ265; subst w263_0; subst eσ262; subst eσ260; subst eσ259; subst eσ258; subst w250_0; first | rfl | (simp only [msend, msees]; (repeat' split) <;> rfl)]
                          refine kPSi F hK hP266 hD266 hS266 hA hl248.1 (c_X9_shareOf l G g (σ 2 1) S hs hS) (fun _ => rfl) gX9_greets_X9_shareOf rfl 2 rfl (by decide +kernel) ⟨Nat.le_of_ble_eq_true rfl, Nat.le_of_ble_eq_true rfl⟩ ⟨Nat.zero_le _, Nat.zero_le _⟩ (Nat.le_of_ble_eq_true rfl) rfl dX9_greets_322 (fun r267 u267 H268 locs268 hw267 (hP268 : va_P G.1 vwCl (mW G h a σ266) H268) (hD268 : va_D A (mW G h a σ266)) hS268 => ?_)
                          clear hP266 hD266 hS266
                          have w267_0 : r267 = mshare g S := hw267
                          refine kMst F hK hP268 hD268 hS268 29 20 3 rfl rfl (by decide) (Nat.le_of_ble_eq_true rfl) rfl dX9_greets_325 (fun H269 locs269 σ269 eσ269 hP269 hD269 hS269 => ?_)
                          clear hP268 hD268 hS268
                          refine lv_aload_n hx hb dX9_greets_326 rfl (lv_at hl248 4 rfl) ?_
                          refine kget F hK hP269 9 0 29 iX9 rfl rfl (by decide) (List.mem_of_getElem? (i := 1) rfl) rfl dX9_greets_327 ?_
                          refine lv_iconst (v := 4) hx hb dX9_greets_330 (by decide) ?_
                          refine lv_aload_n hx hb dX9_greets_331 rfl (lv_at hl248 4 rfl) ?_
                          refine kget F hK hP269 9 0 0 iX9 rfl rfl (by decide) (List.mem_of_getElem? (i := 12) rfl) rfl dX9_greets_332 ?_
                          refine lv_iconst (v := 1) hx hb dX9_greets_335 (by decide) ?_
                          refine kild F hK hP269 1 1 rfl rfl (by decide) (Nat.le_of_ble_eq_true rfl) dX9_greets_336 ?_
                          rw [show (σ269 0 1) = (σ 0 1) from by subst eσ269; subst eσ266; subst eσ265; subst w263_0; subst eσ262; subst eσ260; subst eσ259; subst eσ258; subst w250_0; first | rfl | (simp only [msend, msees]; (repeat' split) <;> rfl)]
                          refine lv_iload_n hx hb dX9_greets_337 rfl (lv_at hl248 5 rfl) ?_
                          refine kPSi F hK hP269 hD269 hS269 hA hl248.1 (c_X9_hasAbove l G (σ 0 1) v hvv) (fun _ => rfl) gX9_greets_X9_hasAbove rfl 2 rfl (by decide +kernel) ⟨Nat.le_of_ble_eq_true rfl, Nat.le_of_ble_eq_true rfl⟩ ⟨Nat.zero_le _, Nat.zero_le _⟩ (Nat.le_of_ble_eq_true rfl) rfl dX9_greets_338 (fun r270 u270 H271 locs271 hw270 (hP271 : va_P G.1 vwCl (mW G h a σ269) H271) (hD271 : va_D A (mW G h a σ269)) hS271 => ?_)
                          clear hP269 hD269 hS269
                          have w270_0 : r270 = mab (σ 0 1) v := hw270
                          refine lv_if_eq (tgt := 348) hx hb dX9_greets_341 (by decide) (fun c272 => ?_) (fun c272 => ?_)
                          · refine lv_iconst (v := 0) hx hb dX9_greets_348 (by decide) ?_
                            refine kMst F hK hP271 hD271 hS271 29 20 4 rfl rfl (by decide) (Nat.le_of_ble_eq_true rfl) rfl dX9_greets_349 (fun H273 locs273 σ273 eσ273 hP273 hD273 hS273 => ?_)
                            clear hP271 hD271 hS271
                            refine lv_aload_n hx hb dX9_greets_350 rfl (lv_at hl248 4 rfl) ?_
                            refine kget F hK hP273 9 0 29 iX9 rfl rfl (by decide) (List.mem_of_getElem? (i := 1) rfl) rfl dX9_greets_351 ?_
                            refine lv_iconst (v := 5) hx hb dX9_greets_354 (by decide) ?_
                            refine lv_iload hx hb dX9_greets_355 (lv_at hl248 2 rfl) ?_
                            refine lv_if_eq (tgt := 364) hx hb dX9_greets_357 (by decide) (fun c274 => ?_) (fun c274 => ?_)
                            · exact absurd c274 (by decide)
                            · refine lv_iconst (v := 1) hx hb dX9_greets_360 (by decide) ?_
                              refine lv_goto (tgt := 365) hx hb dX9_greets_361 (by decide) ?_
                              refine kMst F hK hP273 hD273 hS273 29 20 5 rfl rfl (by decide) (Nat.le_of_ble_eq_true rfl) rfl dX9_greets_365 (fun H275 locs275 σ275 eσ275 hP275 hD275 hS275 => ?_)
                              clear hP273 hD273 hS273
                              refine lv_aload_n hx hb dX9_greets_366 rfl (lv_at hl248 4 rfl) ?_
                              refine kget F hK hP275 9 0 29 iX9 rfl rfl (by decide) (List.mem_of_getElem? (i := 1) rfl) rfl dX9_greets_367 ?_
                              refine lv_bipush (v := 6) hx hb dX9_greets_370 (by decide) ?_
                              refine lv_iload hx hb dX9_greets_372 (lv_at hl248 0 rfl) ?_
                              refine lv_if_eq (tgt := 381) hx hb dX9_greets_374 (by decide) (fun c276 => ?_) (fun c276 => ?_)
                              · refine lv_iconst (v := 0) hx hb dX9_greets_381 (by decide) ?_
                                refine kMst F hK hP275 hD275 hS275 29 20 6 rfl rfl (by decide) (Nat.le_of_ble_eq_true rfl) rfl dX9_greets_382 (fun H277 locs277 σ277 eσ277 hP277 hD277 hS277 => ?_)
                                clear hP275 hD275 hS275
                                refine lv_aload_n hx hb dX9_greets_383 rfl (lv_at hl248 4 rfl) ?_
                                refine lv_iconst (v := 1) hx hb dX9_greets_384 (by decide) ?_
                                refine lv_bipush (v := 6) hx hb dX9_greets_385 (by decide) ?_
                                refine kWVv F hK hP277 hD277 hS277 hA hl248.1 (c_X9_takes l G h a σ277 1 6 (by first | assumption | decide | omega) (by first | assumption | decide | omega)) 9 0 gX9_greets_X9_takes rfl 2 rfl (by decide +kernel) ⟨Nat.le_of_ble_eq_true rfl, Nat.le_of_ble_eq_true rfl⟩ ⟨Nat.zero_le _, Nat.zero_le _⟩ rfl rfl (Nat.le_of_ble_eq_true rfl) rfl dX9_greets_387 (fun σ_278 H279 locs279 hw278 (hP279 : va_P G.1 vwCl (mW G h a σ_278) H279) (hD279 : va_D A (mW G h a σ_278)) hS279 => ?_)
                                clear hP277 hD277 hS277
                                have w278_0 : σ_278 = mtakes σ277 1 (6 + 1) := hw278
                                refine lv_aload_n hx hb dX9_greets_390 rfl (lv_at hl248 4 rfl) ?_
                                refine kget F hK hP279 9 0 29 iX9 rfl rfl (by decide) (List.mem_of_getElem? (i := 1) rfl) rfl dX9_greets_391 ?_
                                refine lv_bipush (v := 7) hx hb dX9_greets_394 (by decide) ?_
                                refine lv_aload_n hx hb dX9_greets_396 rfl (lv_at hl248 4 rfl) ?_
                                refine lv_iconst (v := 1) hx hb dX9_greets_397 (by decide) ?_
                                refine lv_iconst (v := 1) hx hb dX9_greets_398 (by decide) ?_
                                refine kWVi F hK hP279 hD279 hS279 hA hl248.1 (c_X9_proof l G h a σ_278 1 1 (by first | assumption | decide | omega)) 9 0 gX9_greets_X9_proof rfl 2 rfl (by decide +kernel) ⟨Nat.le_of_ble_eq_true rfl, Nat.le_of_ble_eq_true rfl⟩ ⟨Nat.zero_le _, Nat.zero_le _⟩ rfl rfl (Nat.le_of_ble_eq_true rfl) rfl dX9_greets_399 (fun r280 u280 H281 locs281 hw280 (hP281 : va_P G.1 vwCl (mW G h a σ_278) H281) (hD281 : va_D A (mW G h a σ_278)) hS281 => ?_)
                                clear hP279 hD279 hS279
                                have w280_0 : r280 = mproof σ_278 1 1 := hw280
                                refine kMst F hK hP281 hD281 hS281 29 20 7 rfl rfl (by decide) (Nat.le_of_ble_eq_true rfl) rfl dX9_greets_402 (fun H282 locs282 σ282 eσ282 hP282 hD282 hS282 => ?_)
                                clear hP281 hD281 hS281
                                refine lv_aload_n hx hb dX9_greets_403 rfl (lv_at hl248 4 rfl) ?_
                                refine lv_iconst (v := 0) hx hb dX9_greets_404 (by decide) ?_
                                refine kWVv F hK hP282 hD282 hS282 hA hl248.1 (c_X9_sends l G h a σ282 0 Mn (by first | assumption | decide | omega) (by subst eσ282; subst w280_0; subst w278_0; subst eσ277; subst eσ275; subst eσ273; subst w270_0; subst eσ269; subst w267_0; subst eσ266; subst eσ265; subst w263_0; subst eσ262; subst eσ260; subst eσ259; subst eσ258; subst w256_0; subst w254_0; subst w252_0; subst w250_0; subst w189_0; first | exact hM | (simp only [msees, mtakes, mclr]; (repeat' split) <;> exact hM)) hM8) 9 0 gX9_greets_X9_sends rfl 1 rfl (by decide +kernel) ⟨Nat.le_of_ble_eq_true rfl, Nat.le_of_ble_eq_true rfl⟩ ⟨Nat.zero_le _, Nat.zero_le _⟩ rfl rfl (Nat.le_of_ble_eq_true rfl) rfl dX9_greets_405 (fun σ_283 H284 locs284 hw283 (hP284 : va_P G.1 vwCl (mW G h a σ_283) H284) (hD284 : va_D A (mW G h a σ_283)) hS284 => ?_)
                                clear hP282 hD282 hS282
                                have w283_0 : σ_283 = msend σ282 0 Mn := hw283
                                refine lv_aload_n hx hb dX9_greets_408 rfl (lv_at hl248 4 rfl) ?_
                                refine kget F hK hP284 9 0 3 iX9 rfl rfl (by decide) (List.mem_of_getElem? (i := 13) rfl) rfl dX9_greets_409 ?_
                                refine lv_iconst (v := 1) hx hb dX9_greets_412 (by decide) ?_
                                refine lv_iconst (v := 3) hx hb dX9_greets_413 (by decide) ?_
                                refine kMst F hK hP284 hD284 hS284 3 4 1 rfl rfl (by decide) (Nat.le_of_ble_eq_true rfl) rfl dX9_greets_414 (fun H285 locs285 σ285 eσ285 hP285 hD285 hS285 => ?_)
                                clear hP284 hD284 hS284
                                have q286 : σ285 = mgreets σ v g i S Mn E K := by
                                  subst eσ285
                                  subst w283_0
                                  subst eσ282
                                  subst w280_0
                                  subst w278_0
                                  subst eσ277
                                  subst eσ275
                                  subst eσ273
                                  subst w270_0
                                  subst eσ269
                                  subst w267_0
                                  subst eσ266
                                  subst eσ265
                                  subst w263_0
                                  subst eσ262
                                  subst eσ260
                                  subst eσ259
                                  subst eσ258
                                  subst w256_0
                                  subst w254_0
                                  subst w252_0
                                  subst w250_0
                                  subst w189_0
                                  first | (simp only [mgreets, mgrY, mearl, mgrT, mgrC, mgrB, mgrA, mgrE, kd10, eq_true c1, hv, hjc, hjm, c125, c126, c186, c188, eq_true c191, c192, c193, c247, eq_true c249, c261, eq_true c272, c274, eq_true c276, eq_self, ↓reduceIte, and_self, and_true, true_and]; done) | (simp only [mgreets, mgrY, mearl, mgrT, mgrC, mgrB, mgrA, mgrE, kd10, eq_true c1, hv, hjc, hjm, c125, c126, c186, c188, eq_true c191, c192, c193, c247, eq_true c249, c261, eq_true c272, c274, eq_true c276, eq_self, ↓reduceIte, and_self, and_true, true_and]; (try and_intros) <;> rfl)
                                exact kRv F hr hlocks hS285 dX9_greets_415 σ285 q286 hP285 hD285
                              · exact absurd (by decide) c276
                          · refine lv_iconst (v := 1) hx hb dX9_greets_344 (by decide) ?_
                            refine lv_goto (tgt := 349) hx hb dX9_greets_345 (by decide) ?_
                            refine kMst F hK hP271 hD271 hS271 29 20 4 rfl rfl (by decide) (Nat.le_of_ble_eq_true rfl) rfl dX9_greets_349 (fun H287 locs287 σ287 eσ287 hP287 hD287 hS287 => ?_)
                            clear hP271 hD271 hS271
                            refine lv_aload_n hx hb dX9_greets_350 rfl (lv_at hl248 4 rfl) ?_
                            refine kget F hK hP287 9 0 29 iX9 rfl rfl (by decide) (List.mem_of_getElem? (i := 1) rfl) rfl dX9_greets_351 ?_
                            refine lv_iconst (v := 5) hx hb dX9_greets_354 (by decide) ?_
                            refine lv_iload hx hb dX9_greets_355 (lv_at hl248 2 rfl) ?_
                            refine lv_if_eq (tgt := 364) hx hb dX9_greets_357 (by decide) (fun c288 => ?_) (fun c288 => ?_)
                            · exact absurd c288 (by decide)
                            · refine lv_iconst (v := 1) hx hb dX9_greets_360 (by decide) ?_
                              refine lv_goto (tgt := 365) hx hb dX9_greets_361 (by decide) ?_
                              refine kMst F hK hP287 hD287 hS287 29 20 5 rfl rfl (by decide) (Nat.le_of_ble_eq_true rfl) rfl dX9_greets_365 (fun H289 locs289 σ289 eσ289 hP289 hD289 hS289 => ?_)
                              clear hP287 hD287 hS287
                              refine lv_aload_n hx hb dX9_greets_366 rfl (lv_at hl248 4 rfl) ?_
                              refine kget F hK hP289 9 0 29 iX9 rfl rfl (by decide) (List.mem_of_getElem? (i := 1) rfl) rfl dX9_greets_367 ?_
                              refine lv_bipush (v := 6) hx hb dX9_greets_370 (by decide) ?_
                              refine lv_iload hx hb dX9_greets_372 (lv_at hl248 0 rfl) ?_
                              refine lv_if_eq (tgt := 381) hx hb dX9_greets_374 (by decide) (fun c290 => ?_) (fun c290 => ?_)
                              · refine lv_iconst (v := 0) hx hb dX9_greets_381 (by decide) ?_
                                refine kMst F hK hP289 hD289 hS289 29 20 6 rfl rfl (by decide) (Nat.le_of_ble_eq_true rfl) rfl dX9_greets_382 (fun H291 locs291 σ291 eσ291 hP291 hD291 hS291 => ?_)
                                clear hP289 hD289 hS289
                                refine lv_aload_n hx hb dX9_greets_383 rfl (lv_at hl248 4 rfl) ?_
                                refine lv_iconst (v := 1) hx hb dX9_greets_384 (by decide) ?_
                                refine lv_bipush (v := 6) hx hb dX9_greets_385 (by decide) ?_
                                refine kWVv F hK hP291 hD291 hS291 hA hl248.1 (c_X9_takes l G h a σ291 1 6 (by first | assumption | decide | omega) (by first | assumption | decide | omega)) 9 0 gX9_greets_X9_takes rfl 2 rfl (by decide +kernel) ⟨Nat.le_of_ble_eq_true rfl, Nat.le_of_ble_eq_true rfl⟩ ⟨Nat.zero_le _, Nat.zero_le _⟩ rfl rfl (Nat.le_of_ble_eq_true rfl) rfl dX9_greets_387 (fun σ_292 H293 locs293 hw292 (hP293 : va_P G.1 vwCl (mW G h a σ_292) H293) (hD293 : va_D A (mW G h a σ_292)) hS293 => ?_)
                                clear hP291 hD291 hS291
                                have w292_0 : σ_292 = mtakes σ291 1 (6 + 1) := hw292
                                refine lv_aload_n hx hb dX9_greets_390 rfl (lv_at hl248 4 rfl) ?_
                                refine kget F hK hP293 9 0 29 iX9 rfl rfl (by decide) (List.mem_of_getElem? (i := 1) rfl) rfl dX9_greets_391 ?_
                                refine lv_bipush (v := 7) hx hb dX9_greets_394 (by decide) ?_
                                refine lv_aload_n hx hb dX9_greets_396 rfl (lv_at hl248 4 rfl) ?_
                                refine lv_iconst (v := 1) hx hb dX9_greets_397 (by decide) ?_
                                refine lv_iconst (v := 1) hx hb dX9_greets_398 (by decide) ?_
                                refine kWVi F hK hP293 hD293 hS293 hA hl248.1 (c_X9_proof l G h a σ_292 1 1 (by first | assumption | decide | omega)) 9 0 gX9_greets_X9_proof rfl 2 rfl (by decide +kernel) ⟨Nat.le_of_ble_eq_true rfl, Nat.le_of_ble_eq_true rfl⟩ ⟨Nat.zero_le _, Nat.zero_le _⟩ rfl rfl (Nat.le_of_ble_eq_true rfl) rfl dX9_greets_399 (fun r294 u294 H295 locs295 hw294 (hP295 : va_P G.1 vwCl (mW G h a σ_292) H295) (hD295 : va_D A (mW G h a σ_292)) hS295 => ?_)
                                clear hP293 hD293 hS293
                                have w294_0 : r294 = mproof σ_292 1 1 := hw294
                                refine kMst F hK hP295 hD295 hS295 29 20 7 rfl rfl (by decide) (Nat.le_of_ble_eq_true rfl) rfl dX9_greets_402 (fun H296 locs296 σ296 eσ296 hP296 hD296 hS296 => ?_)
                                clear hP295 hD295 hS295
                                refine lv_aload_n hx hb dX9_greets_403 rfl (lv_at hl248 4 rfl) ?_
                                refine lv_iconst (v := 0) hx hb dX9_greets_404 (by decide) ?_
                                refine kWVv F hK hP296 hD296 hS296 hA hl248.1 (c_X9_sends l G h a σ296 0 Mn (by first | assumption | decide | omega) (by subst eσ296; subst w294_0; subst w292_0; subst eσ291; subst eσ289; subst eσ287; subst w270_0; subst eσ269; subst w267_0; subst eσ266; subst eσ265; subst w263_0; subst eσ262; subst eσ260; subst eσ259; subst eσ258; subst w256_0; subst w254_0; subst w252_0; subst w250_0; subst w189_0; first | exact hM | (simp only [msees, mtakes, mclr]; (repeat' split) <;> exact hM)) hM8) 9 0 gX9_greets_X9_sends rfl 1 rfl (by decide +kernel) ⟨Nat.le_of_ble_eq_true rfl, Nat.le_of_ble_eq_true rfl⟩ ⟨Nat.zero_le _, Nat.zero_le _⟩ rfl rfl (Nat.le_of_ble_eq_true rfl) rfl dX9_greets_405 (fun σ_297 H298 locs298 hw297 (hP298 : va_P G.1 vwCl (mW G h a σ_297) H298) (hD298 : va_D A (mW G h a σ_297)) hS298 => ?_)
                                clear hP296 hD296 hS296
                                have w297_0 : σ_297 = msend σ296 0 Mn := hw297
                                refine lv_aload_n hx hb dX9_greets_408 rfl (lv_at hl248 4 rfl) ?_
                                refine kget F hK hP298 9 0 3 iX9 rfl rfl (by decide) (List.mem_of_getElem? (i := 13) rfl) rfl dX9_greets_409 ?_
                                refine lv_iconst (v := 1) hx hb dX9_greets_412 (by decide) ?_
                                refine lv_iconst (v := 3) hx hb dX9_greets_413 (by decide) ?_
                                refine kMst F hK hP298 hD298 hS298 3 4 1 rfl rfl (by decide) (Nat.le_of_ble_eq_true rfl) rfl dX9_greets_414 (fun H299 locs299 σ299 eσ299 hP299 hD299 hS299 => ?_)
                                clear hP298 hD298 hS298
                                have q300 : σ299 = mgreets σ v g i S Mn E K := by
                                  subst eσ299
                                  subst w297_0
                                  subst eσ296
                                  subst w294_0
                                  subst w292_0
                                  subst eσ291
                                  subst eσ289
                                  subst eσ287
                                  subst w270_0
                                  subst eσ269
                                  subst w267_0
                                  subst eσ266
                                  subst eσ265
                                  subst w263_0
                                  subst eσ262
                                  subst eσ260
                                  subst eσ259
                                  subst eσ258
                                  subst w256_0
                                  subst w254_0
                                  subst w252_0
                                  subst w250_0
                                  subst w189_0
                                  first | (simp only [mgreets, mgrY, mearl, mgrT, mgrC, mgrB, mgrA, mgrE, kd10, eq_true c1, hv, hjc, hjm, c125, c126, c186, c188, eq_true c191, c192, c193, c247, eq_true c249, c261, c272, c288, eq_true c290, eq_self, ↓reduceIte, and_self, and_true, true_and]; done) | (simp only [mgreets, mgrY, mearl, mgrT, mgrC, mgrB, mgrA, mgrE, kd10, eq_true c1, hv, hjc, hjm, c125, c126, c186, c188, eq_true c191, c192, c193, c247, eq_true c249, c261, c272, c288, eq_true c290, eq_self, ↓reduceIte, and_self, and_true, true_and]; (try and_intros) <;> rfl)
                                exact kRv F hr hlocks hS299 dX9_greets_415 σ299 q300 hP299 hD299
                              · exact absurd (by decide) c290
                      · exact absurd (by decide) c249
                    · refine lv_aload_n hx hb dX9_greets_140 rfl (lv_at hl187 3 rfl) ?_
                      refine lv_iload hx hb dX9_greets_141 (lv_at hl187 2 rfl) ?_
                      refine kWVi F hK hP190 hD190 hS190 hA hl187.1 (c_X9_isFitting l G h a σ j (by omega)) 9 0 gX9_greets_X9_isFitting rfl 1 rfl (by decide +kernel) ⟨Nat.le_of_ble_eq_true rfl, Nat.le_of_ble_eq_true rfl⟩ ⟨Nat.zero_le _, Nat.zero_le _⟩ rfl rfl (Nat.le_of_ble_eq_true rfl) rfl dX9_greets_143 (fun r301 u301 H302 locs302 hw301 (hP302 : va_P G.1 vwCl (mW G h a σ) H302) (hD302 : va_D A (mW G h a σ)) hS302 => ?_)
                      clear hP190 hD190 hS190
                      have w301_0 : r301 = mfit σ j := hw301
                      refine lv_if_eq (tgt := 173) hx hb dX9_greets_146 (by decide) (fun c303 => ?_) (fun c303 => ?_)
                      · refine lv_iconst (v := 0) hx hb dX9_greets_173 (by decide) ?_
                        refine lv_istore (lv' := [(7, .int 0), (6, .int (σ 22 (5 * j + 3))), (5, .int 1), (4, .int (nI j)), (0, .ref h), (1, .int v), (2, .int g), (3, .int i)]) hx hb dX9_greets_174 hl187 (by decide) rfl (fun ls304 hl304 => ?_)
                        clear hl187
                        refine lv_iload hx hb dX9_greets_176 (lv_at hl304 0 rfl) ?_
                        refine lv_if_eq (tgt := 224) hx hb dX9_greets_178 (by decide) (fun c305 => ?_) (fun c305 => ?_)
                        · refine lv_aload_n hx hb dX9_greets_224 rfl (lv_at hl304 4 rfl) ?_
                          refine lv_iconst (v := 1) hx hb dX9_greets_225 (by decide) ?_
                          refine lv_bipush (v := 8) hx hb dX9_greets_226 (by decide) ?_
                          refine kWVv F hK hP302 hD302 hS302 hA hl304.1 (c_X9_takes l G h a σ 1 8 (by first | assumption | decide | omega) (by first | assumption | decide | omega)) 9 0 gX9_greets_X9_takes rfl 2 rfl (by decide +kernel) ⟨Nat.le_of_ble_eq_true rfl, Nat.le_of_ble_eq_true rfl⟩ ⟨Nat.zero_le _, Nat.zero_le _⟩ rfl rfl (Nat.le_of_ble_eq_true rfl) rfl dX9_greets_228 (fun σ_306 H307 locs307 hw306 (hP307 : va_P G.1 vwCl (mW G h a σ_306) H307) (hD307 : va_D A (mW G h a σ_306)) hS307 => ?_)
                          clear hP302 hD302 hS302
                          have w306_0 : σ_306 = mtakes σ 1 (8 + 1) := hw306
                          refine lv_aload_n hx hb dX9_greets_231 rfl (lv_at hl304 4 rfl) ?_
                          refine kget F hK hP307 9 0 9 iX9 rfl rfl (by decide) (List.mem_of_getElem? (i := 7) rfl) rfl dX9_greets_232 ?_
                          refine lv_iconst (v := 1) hx hb dX9_greets_235 (by decide) ?_
                          refine lv_aload_n hx hb dX9_greets_236 rfl (lv_at hl304 4 rfl) ?_
                          refine kget F hK hP307 9 0 29 iX9 rfl rfl (by decide) (List.mem_of_getElem? (i := 1) rfl) rfl dX9_greets_237 ?_
                          refine lv_iconst (v := 4) hx hb dX9_greets_240 (by decide) ?_
                          refine kild F hK hP307 20 4 rfl rfl (by decide) (Nat.le_of_ble_eq_true rfl) dX9_greets_241 ?_
                          rw [show (σ_306 29 4) = (σ 29 4) from by subst w306_0; first | rfl | (simp only [msend, msees]; (repeat' split) <;> rfl)]
                          refine lv_aload_n hx hb dX9_greets_242 rfl (lv_at hl304 4 rfl) ?_
                          refine kget F hK hP307 9 0 2 iX9 rfl rfl (by decide) (List.mem_of_getElem? (i := 8) rfl) rfl dX9_greets_243 ?_
                          refine lv_iconst (v := 1) hx hb dX9_greets_246 (by decide) ?_
                          refine kild F hK hP307 3 1 rfl rfl (by decide) (Nat.le_of_ble_eq_true rfl) dX9_greets_247 ?_
                          rw [show (σ_306 2 1) = (σ 2 1) from by subst w306_0; first | rfl | (simp only [msend, msees]; (repeat' split) <;> rfl)]
                          refine lv_iload_n hx hb dX9_greets_248 rfl (lv_at hl304 6 rfl) ?_
                          refine kPSi F hK hP307 hD307 hS307 hA hl304.1 (c_X9_prime l G g) (fun _ => rfl) gX9_greets_X9_prime rfl 1 rfl (by decide +kernel) ⟨Nat.le_of_ble_eq_true rfl, Nat.le_of_ble_eq_true rfl⟩ ⟨Nat.zero_le _, Nat.zero_le _⟩ (Nat.le_of_ble_eq_true rfl) rfl dX9_greets_249 (fun r308 u308 H309 locs309 hw308 (hP309 : va_P G.1 vwCl (mW G h a σ_306) H309) (hD309 : va_D A (mW G h a σ_306)) hS309 => ?_)
                          clear hP307 hD307 hS307
                          have w308_0 : r308 = kprime g := hw308
                          refine kPSi F hK hP309 hD309 hS309 hA hl304.1 (c_X9_power l G (σ 29 4) (σ 2 1) r308 S (by subst_vars; exact kprime_1 _) hs hS) (fun _ => rfl) gX9_greets_X9_power rfl 3 rfl (by decide +kernel) ⟨Nat.le_of_ble_eq_true rfl, Nat.le_of_ble_eq_true rfl⟩ ⟨Nat.zero_le _, Nat.zero_le _⟩ (Nat.le_of_ble_eq_true rfl) rfl dX9_greets_252 (fun r310 u310 H311 locs311 hw310 (hP311 : va_P G.1 vwCl (mW G h a σ_306) H311) (hD311 : va_D A (mW G h a σ_306)) hS311 => ?_)
                          clear hP309 hD309 hS309
                          have w310_0 : r310 = mpw (σ 29 4) r308 S := hw310
                          refine lv_iload hx hb dX9_greets_255 (lv_at hl304 1 rfl) ?_
                          refine kPSi F hK hP311 hD311 hS311 hA hl304.1 (c_X9_keyOf l G r310 (σ 22 (5 * j + 3))) (fun _ => rfl) gX9_greets_X9_keyOf rfl 2 rfl (by decide +kernel) ⟨Nat.le_of_ble_eq_true rfl, Nat.le_of_ble_eq_true rfl⟩ ⟨Nat.zero_le _, Nat.zero_le _⟩ (Nat.le_of_ble_eq_true rfl) rfl dX9_greets_257 (fun r312 u312 H313 locs313 hw312 (hP313 : va_P G.1 vwCl (mW G h a σ_306) H313) (hD313 : va_D A (mW G h a σ_306)) hS313 => ?_)
                          clear hP311 hD311 hS311
                          have w312_0 : r312 = kmix (kmix 7 r310) (σ 22 (5 * j + 3)) := hw312
                          refine kMst F hK hP313 hD313 hS313 9 10 1 rfl rfl (by decide) (Nat.le_of_ble_eq_true rfl) rfl dX9_greets_260 (fun H314 locs314 σ314 eσ314 hP314 hD314 hS314 => ?_)
                          clear hP313 hD313 hS313
                          refine lv_aload_n hx hb dX9_greets_261 rfl (lv_at hl304 4 rfl) ?_
                          refine kget F hK hP314 9 0 6 iX9 rfl rfl (by decide) (List.mem_of_getElem? (i := 9) rfl) rfl dX9_greets_262 ?_
                          refine lv_iconst (v := 1) hx hb dX9_greets_265 (by decide) ?_
                          refine lv_iload_n hx hb dX9_greets_266 rfl (lv_at hl304 5 rfl) ?_
                          refine kMst F hK hP314 hD314 hS314 6 7 1 rfl rfl (by decide) (Nat.le_of_ble_eq_true rfl) rfl dX9_greets_267 (fun H315 locs315 σ315 eσ315 hP315 hD315 hS315 => ?_)
                          clear hP314 hD314 hS314
                          refine lv_aload_n hx hb dX9_greets_268 rfl (lv_at hl304 4 rfl) ?_
                          refine kget F hK hP315 9 0 7 iX9 rfl rfl (by decide) (List.mem_of_getElem? (i := 10) rfl) rfl dX9_greets_269 ?_
                          refine lv_iconst (v := 1) hx hb dX9_greets_272 (by decide) ?_
                          refine lv_iload_n hx hb dX9_greets_273 rfl (lv_at hl304 6 rfl) ?_
                          refine kMst F hK hP315 hD315 hS315 7 8 1 rfl rfl (by decide) (Nat.le_of_ble_eq_true rfl) rfl dX9_greets_274 (fun H316 locs316 σ316 eσ316 hP316 hD316 hS316 => ?_)
                          clear hP315 hD315 hS315
                          refine lv_aload_n hx hb dX9_greets_275 rfl (lv_at hl304 4 rfl) ?_
                          refine kget F hK hP316 9 0 8 iX9 rfl rfl (by decide) (List.mem_of_getElem? (i := 11) rfl) rfl dX9_greets_276 ?_
                          refine lv_iconst (v := 1) hx hb dX9_greets_279 (by decide) ?_
                          refine lv_iload hx hb dX9_greets_280 (lv_at hl304 2 rfl) ?_
                          refine lv_if_eq (tgt := 289) hx hb dX9_greets_282 (by decide) (fun c317 => ?_) (fun c317 => ?_)
                          · exact absurd c317 (by decide)
                          · refine lv_iconst (v := 1) hx hb dX9_greets_285 (by decide) ?_
                            refine lv_goto (tgt := 290) hx hb dX9_greets_286 (by decide) ?_
                            refine kMst F hK hP316 hD316 hS316 8 9 1 rfl rfl (by decide) (Nat.le_of_ble_eq_true rfl) rfl dX9_greets_290 (fun H318 locs318 σ318 eσ318 hP318 hD318 hS318 => ?_)
                            clear hP316 hD316 hS316
                            refine lv_aload_n hx hb dX9_greets_291 rfl (lv_at hl304 4 rfl) ?_
                            refine lv_iconst (v := 3) hx hb dX9_greets_292 (by decide) ?_
                            refine kWVv F hK hP318 hD318 hS318 hA hl304.1 (c_X9_clears l G h a σ318 3) 9 0 gX9_greets_X9_clears rfl 1 rfl (by decide +kernel) ⟨Nat.le_of_ble_eq_true rfl, Nat.le_of_ble_eq_true rfl⟩ ⟨Nat.zero_le _, Nat.zero_le _⟩ rfl rfl (Nat.le_of_ble_eq_true rfl) rfl dX9_greets_293 (fun σ_319 H320 locs320 hw319 (hP320 : va_P G.1 vwCl (mW G h a σ_319) H320) (hD320 : va_D A (mW G h a σ_319)) hS320 => ?_)
                            clear hP318 hD318 hS318
                            have w319_0 : σ_319 = mclr σ318 3 := hw319
                            refine lv_aload_n hx hb dX9_greets_296 rfl (lv_at hl304 4 rfl) ?_
                            refine kget F hK hP320 9 0 29 iX9 rfl rfl (by decide) (List.mem_of_getElem? (i := 1) rfl) rfl dX9_greets_297 ?_
                            refine lv_iconst (v := 1) hx hb dX9_greets_300 (by decide) ?_
                            refine lv_iload_n hx hb dX9_greets_301 rfl (lv_at hl304 5 rfl) ?_
                            refine kMst F hK hP320 hD320 hS320 29 20 1 rfl rfl (by decide) (Nat.le_of_ble_eq_true rfl) rfl dX9_greets_302 (fun H321 locs321 σ321 eσ321 hP321 hD321 hS321 => ?_)
                            clear hP320 hD320 hS320
                            refine lv_aload_n hx hb dX9_greets_303 rfl (lv_at hl304 4 rfl) ?_
                            refine kget F hK hP321 9 0 29 iX9 rfl rfl (by decide) (List.mem_of_getElem? (i := 1) rfl) rfl dX9_greets_304 ?_
                            refine lv_iconst (v := 2) hx hb dX9_greets_307 (by decide) ?_
                            refine lv_iload_n hx hb dX9_greets_308 rfl (lv_at hl304 6 rfl) ?_
                            refine kMst F hK hP321 hD321 hS321 29 20 2 rfl rfl (by decide) (Nat.le_of_ble_eq_true rfl) rfl dX9_greets_309 (fun H322 locs322 σ322 eσ322 hP322 hD322 hS322 => ?_)
                            clear hP321 hD321 hS321
                            refine lv_aload_n hx hb dX9_greets_310 rfl (lv_at hl304 4 rfl) ?_
                            refine kget F hK hP322 9 0 29 iX9 rfl rfl (by decide) (List.mem_of_getElem? (i := 1) rfl) rfl dX9_greets_311 ?_
                            refine lv_iconst (v := 3) hx hb dX9_greets_314 (by decide) ?_
                            refine lv_iload_n hx hb dX9_greets_315 rfl (lv_at hl304 6 rfl) ?_
                            refine lv_aload_n hx hb dX9_greets_316 rfl (lv_at hl304 4 rfl) ?_
                            refine kget F hK hP322 9 0 2 iX9 rfl rfl (by decide) (List.mem_of_getElem? (i := 8) rfl) rfl dX9_greets_317 ?_
                            refine lv_iconst (v := 1) hx hb dX9_greets_320 (by decide) ?_
                            refine kild F hK hP322 3 1 rfl rfl (by decide) (Nat.le_of_ble_eq_true rfl) dX9_greets_321 ?_
                            rw [show (σ322 2 1) = (σ 2 1) from by subst eσ322; subst eσ321; subst w319_0; subst eσ318; subst eσ316; subst eσ315; subst eσ314; subst w306_0; first | rfl | (simp only [msend, msees]; (repeat' split) <;> rfl)]
                            refine kPSi F hK hP322 hD322 hS322 hA hl304.1 (c_X9_shareOf l G g (σ 2 1) S hs hS) (fun _ => rfl) gX9_greets_X9_shareOf rfl 2 rfl (by decide +kernel) ⟨Nat.le_of_ble_eq_true rfl, Nat.le_of_ble_eq_true rfl⟩ ⟨Nat.zero_le _, Nat.zero_le _⟩ (Nat.le_of_ble_eq_true rfl) rfl dX9_greets_322 (fun r323 u323 H324 locs324 hw323 (hP324 : va_P G.1 vwCl (mW G h a σ322) H324) (hD324 : va_D A (mW G h a σ322)) hS324 => ?_)
                            clear hP322 hD322 hS322
                            have w323_0 : r323 = mshare g S := hw323
                            refine kMst F hK hP324 hD324 hS324 29 20 3 rfl rfl (by decide) (Nat.le_of_ble_eq_true rfl) rfl dX9_greets_325 (fun H325 locs325 σ325 eσ325 hP325 hD325 hS325 => ?_)
                            clear hP324 hD324 hS324
                            refine lv_aload_n hx hb dX9_greets_326 rfl (lv_at hl304 4 rfl) ?_
                            refine kget F hK hP325 9 0 29 iX9 rfl rfl (by decide) (List.mem_of_getElem? (i := 1) rfl) rfl dX9_greets_327 ?_
                            refine lv_iconst (v := 4) hx hb dX9_greets_330 (by decide) ?_
                            refine lv_aload_n hx hb dX9_greets_331 rfl (lv_at hl304 4 rfl) ?_
                            refine kget F hK hP325 9 0 0 iX9 rfl rfl (by decide) (List.mem_of_getElem? (i := 12) rfl) rfl dX9_greets_332 ?_
                            refine lv_iconst (v := 1) hx hb dX9_greets_335 (by decide) ?_
                            refine kild F hK hP325 1 1 rfl rfl (by decide) (Nat.le_of_ble_eq_true rfl) dX9_greets_336 ?_
                            rw [show (σ325 0 1) = (σ 0 1) from by subst eσ325; subst eσ322; subst eσ321; subst w319_0; subst eσ318; subst eσ316; subst eσ315; subst eσ314; subst w306_0; first | rfl | (simp only [msend, msees]; (repeat' split) <;> rfl)]
                            refine lv_iload_n hx hb dX9_greets_337 rfl (lv_at hl304 5 rfl) ?_
                            refine kPSi F hK hP325 hD325 hS325 hA hl304.1 (c_X9_hasAbove l G (σ 0 1) v hvv) (fun _ => rfl) gX9_greets_X9_hasAbove rfl 2 rfl (by decide +kernel) ⟨Nat.le_of_ble_eq_true rfl, Nat.le_of_ble_eq_true rfl⟩ ⟨Nat.zero_le _, Nat.zero_le _⟩ (Nat.le_of_ble_eq_true rfl) rfl dX9_greets_338 (fun r326 u326 H327 locs327 hw326 (hP327 : va_P G.1 vwCl (mW G h a σ325) H327) (hD327 : va_D A (mW G h a σ325)) hS327 => ?_)
                            clear hP325 hD325 hS325
                            have w326_0 : r326 = mab (σ 0 1) v := hw326
                            refine lv_if_eq (tgt := 348) hx hb dX9_greets_341 (by decide) (fun c328 => ?_) (fun c328 => ?_)
                            · refine lv_iconst (v := 0) hx hb dX9_greets_348 (by decide) ?_
                              refine kMst F hK hP327 hD327 hS327 29 20 4 rfl rfl (by decide) (Nat.le_of_ble_eq_true rfl) rfl dX9_greets_349 (fun H329 locs329 σ329 eσ329 hP329 hD329 hS329 => ?_)
                              clear hP327 hD327 hS327
                              refine lv_aload_n hx hb dX9_greets_350 rfl (lv_at hl304 4 rfl) ?_
                              refine kget F hK hP329 9 0 29 iX9 rfl rfl (by decide) (List.mem_of_getElem? (i := 1) rfl) rfl dX9_greets_351 ?_
                              refine lv_iconst (v := 5) hx hb dX9_greets_354 (by decide) ?_
                              refine lv_iload hx hb dX9_greets_355 (lv_at hl304 2 rfl) ?_
                              refine lv_if_eq (tgt := 364) hx hb dX9_greets_357 (by decide) (fun c330 => ?_) (fun c330 => ?_)
                              · exact absurd c330 (by decide)
                              · refine lv_iconst (v := 1) hx hb dX9_greets_360 (by decide) ?_
                                refine lv_goto (tgt := 365) hx hb dX9_greets_361 (by decide) ?_
                                refine kMst F hK hP329 hD329 hS329 29 20 5 rfl rfl (by decide) (Nat.le_of_ble_eq_true rfl) rfl dX9_greets_365 (fun H331 locs331 σ331 eσ331 hP331 hD331 hS331 => ?_)
                                clear hP329 hD329 hS329
                                refine lv_aload_n hx hb dX9_greets_366 rfl (lv_at hl304 4 rfl) ?_
                                refine kget F hK hP331 9 0 29 iX9 rfl rfl (by decide) (List.mem_of_getElem? (i := 1) rfl) rfl dX9_greets_367 ?_
                                refine lv_bipush (v := 6) hx hb dX9_greets_370 (by decide) ?_
                                refine lv_iload hx hb dX9_greets_372 (lv_at hl304 0 rfl) ?_
                                refine lv_if_eq (tgt := 381) hx hb dX9_greets_374 (by decide) (fun c332 => ?_) (fun c332 => ?_)
                                · refine lv_iconst (v := 0) hx hb dX9_greets_381 (by decide) ?_
                                  refine kMst F hK hP331 hD331 hS331 29 20 6 rfl rfl (by decide) (Nat.le_of_ble_eq_true rfl) rfl dX9_greets_382 (fun H333 locs333 σ333 eσ333 hP333 hD333 hS333 => ?_)
                                  clear hP331 hD331 hS331
                                  refine lv_aload_n hx hb dX9_greets_383 rfl (lv_at hl304 4 rfl) ?_
                                  refine lv_iconst (v := 1) hx hb dX9_greets_384 (by decide) ?_
                                  refine lv_bipush (v := 6) hx hb dX9_greets_385 (by decide) ?_
                                  refine kWVv F hK hP333 hD333 hS333 hA hl304.1 (c_X9_takes l G h a σ333 1 6 (by first | assumption | decide | omega) (by first | assumption | decide | omega)) 9 0 gX9_greets_X9_takes rfl 2 rfl (by decide +kernel) ⟨Nat.le_of_ble_eq_true rfl, Nat.le_of_ble_eq_true rfl⟩ ⟨Nat.zero_le _, Nat.zero_le _⟩ rfl rfl (Nat.le_of_ble_eq_true rfl) rfl dX9_greets_387 (fun σ_334 H335 locs335 hw334 (hP335 : va_P G.1 vwCl (mW G h a σ_334) H335) (hD335 : va_D A (mW G h a σ_334)) hS335 => ?_)
                                  clear hP333 hD333 hS333
                                  have w334_0 : σ_334 = mtakes σ333 1 (6 + 1) := hw334
                                  refine lv_aload_n hx hb dX9_greets_390 rfl (lv_at hl304 4 rfl) ?_
                                  refine kget F hK hP335 9 0 29 iX9 rfl rfl (by decide) (List.mem_of_getElem? (i := 1) rfl) rfl dX9_greets_391 ?_
                                  refine lv_bipush (v := 7) hx hb dX9_greets_394 (by decide) ?_
                                  refine lv_aload_n hx hb dX9_greets_396 rfl (lv_at hl304 4 rfl) ?_
                                  refine lv_iconst (v := 1) hx hb dX9_greets_397 (by decide) ?_
                                  refine lv_iconst (v := 1) hx hb dX9_greets_398 (by decide) ?_
                                  refine kWVi F hK hP335 hD335 hS335 hA hl304.1 (c_X9_proof l G h a σ_334 1 1 (by first | assumption | decide | omega)) 9 0 gX9_greets_X9_proof rfl 2 rfl (by decide +kernel) ⟨Nat.le_of_ble_eq_true rfl, Nat.le_of_ble_eq_true rfl⟩ ⟨Nat.zero_le _, Nat.zero_le _⟩ rfl rfl (Nat.le_of_ble_eq_true rfl) rfl dX9_greets_399 (fun r336 u336 H337 locs337 hw336 (hP337 : va_P G.1 vwCl (mW G h a σ_334) H337) (hD337 : va_D A (mW G h a σ_334)) hS337 => ?_)
                                  clear hP335 hD335 hS335
                                  have w336_0 : r336 = mproof σ_334 1 1 := hw336
                                  refine kMst F hK hP337 hD337 hS337 29 20 7 rfl rfl (by decide) (Nat.le_of_ble_eq_true rfl) rfl dX9_greets_402 (fun H338 locs338 σ338 eσ338 hP338 hD338 hS338 => ?_)
                                  clear hP337 hD337 hS337
                                  refine lv_aload_n hx hb dX9_greets_403 rfl (lv_at hl304 4 rfl) ?_
                                  refine lv_iconst (v := 0) hx hb dX9_greets_404 (by decide) ?_
                                  refine kWVv F hK hP338 hD338 hS338 hA hl304.1 (c_X9_sends l G h a σ338 0 Mn (by first | assumption | decide | omega) (by subst eσ338; subst w336_0; subst w334_0; subst eσ333; subst eσ331; subst eσ329; subst w326_0; subst eσ325; subst w323_0; subst eσ322; subst eσ321; subst w319_0; subst eσ318; subst eσ316; subst eσ315; subst eσ314; subst w312_0; subst w310_0; subst w308_0; subst w306_0; subst w301_0; subst w189_0; first | exact hM | (simp only [msees, mtakes, mclr]; (repeat' split) <;> exact hM)) hM8) 9 0 gX9_greets_X9_sends rfl 1 rfl (by decide +kernel) ⟨Nat.le_of_ble_eq_true rfl, Nat.le_of_ble_eq_true rfl⟩ ⟨Nat.zero_le _, Nat.zero_le _⟩ rfl rfl (Nat.le_of_ble_eq_true rfl) rfl dX9_greets_405 (fun σ_339 H340 locs340 hw339 (hP340 : va_P G.1 vwCl (mW G h a σ_339) H340) (hD340 : va_D A (mW G h a σ_339)) hS340 => ?_)
                                  clear hP338 hD338 hS338
                                  have w339_0 : σ_339 = msend σ338 0 Mn := hw339
                                  refine lv_aload_n hx hb dX9_greets_408 rfl (lv_at hl304 4 rfl) ?_
                                  refine kget F hK hP340 9 0 3 iX9 rfl rfl (by decide) (List.mem_of_getElem? (i := 13) rfl) rfl dX9_greets_409 ?_
                                  refine lv_iconst (v := 1) hx hb dX9_greets_412 (by decide) ?_
                                  refine lv_iconst (v := 3) hx hb dX9_greets_413 (by decide) ?_
                                  refine kMst F hK hP340 hD340 hS340 3 4 1 rfl rfl (by decide) (Nat.le_of_ble_eq_true rfl) rfl dX9_greets_414 (fun H341 locs341 σ341 eσ341 hP341 hD341 hS341 => ?_)
                                  clear hP340 hD340 hS340
                                  have q342 : σ341 = mgreets σ v g i S Mn E K := by
                                    subst eσ341
                                    subst w339_0
                                    subst eσ338
                                    subst w336_0
                                    subst w334_0
                                    subst eσ333
                                    subst eσ331
                                    subst eσ329
                                    subst w326_0
                                    subst eσ325
                                    subst w323_0
                                    subst eσ322
                                    subst eσ321
                                    subst w319_0
                                    subst eσ318
                                    subst eσ316
                                    subst eσ315
                                    subst eσ314
                                    subst w312_0
                                    subst w310_0
                                    subst w308_0
                                    subst w306_0
                                    subst w301_0
                                    subst w189_0
                                    first | (simp only [mgreets, mgrY, mearl, mgrT, mgrC, mgrB, mgrA, mgrE, kd10, eq_true c1, hv, hjc, hjm, c125, c126, c186, c188, eq_true c191, c192, c193, eq_true c247, eq_true c303, eq_true c305, c317, eq_true c328, c330, eq_true c332, eq_self, ↓reduceIte, and_self, and_true, true_and]; done) | (simp only [mgreets, mgrY, mearl, mgrT, mgrC, mgrB, mgrA, mgrE, kd10, eq_true c1, hv, hjc, hjm, c125, c126, c186, c188, eq_true c191, c192, c193, eq_true c247, eq_true c303, eq_true c305, c317, eq_true c328, c330, eq_true c332, eq_self, ↓reduceIte, and_self, and_true, true_and]; (try and_intros) <;> rfl)
                                  exact kRv F hr hlocks hS341 dX9_greets_415 σ341 q342 hP341 hD341
                                · exact absurd (by decide) c332
                            · refine lv_iconst (v := 1) hx hb dX9_greets_344 (by decide) ?_
                              refine lv_goto (tgt := 349) hx hb dX9_greets_345 (by decide) ?_
                              refine kMst F hK hP327 hD327 hS327 29 20 4 rfl rfl (by decide) (Nat.le_of_ble_eq_true rfl) rfl dX9_greets_349 (fun H343 locs343 σ343 eσ343 hP343 hD343 hS343 => ?_)
                              clear hP327 hD327 hS327
                              refine lv_aload_n hx hb dX9_greets_350 rfl (lv_at hl304 4 rfl) ?_
                              refine kget F hK hP343 9 0 29 iX9 rfl rfl (by decide) (List.mem_of_getElem? (i := 1) rfl) rfl dX9_greets_351 ?_
                              refine lv_iconst (v := 5) hx hb dX9_greets_354 (by decide) ?_
                              refine lv_iload hx hb dX9_greets_355 (lv_at hl304 2 rfl) ?_
                              refine lv_if_eq (tgt := 364) hx hb dX9_greets_357 (by decide) (fun c344 => ?_) (fun c344 => ?_)
                              · exact absurd c344 (by decide)
                              · refine lv_iconst (v := 1) hx hb dX9_greets_360 (by decide) ?_
                                refine lv_goto (tgt := 365) hx hb dX9_greets_361 (by decide) ?_
                                refine kMst F hK hP343 hD343 hS343 29 20 5 rfl rfl (by decide) (Nat.le_of_ble_eq_true rfl) rfl dX9_greets_365 (fun H345 locs345 σ345 eσ345 hP345 hD345 hS345 => ?_)
                                clear hP343 hD343 hS343
                                refine lv_aload_n hx hb dX9_greets_366 rfl (lv_at hl304 4 rfl) ?_
                                refine kget F hK hP345 9 0 29 iX9 rfl rfl (by decide) (List.mem_of_getElem? (i := 1) rfl) rfl dX9_greets_367 ?_
                                refine lv_bipush (v := 6) hx hb dX9_greets_370 (by decide) ?_
                                refine lv_iload hx hb dX9_greets_372 (lv_at hl304 0 rfl) ?_
                                refine lv_if_eq (tgt := 381) hx hb dX9_greets_374 (by decide) (fun c346 => ?_) (fun c346 => ?_)
                                · refine lv_iconst (v := 0) hx hb dX9_greets_381 (by decide) ?_
                                  refine kMst F hK hP345 hD345 hS345 29 20 6 rfl rfl (by decide) (Nat.le_of_ble_eq_true rfl) rfl dX9_greets_382 (fun H347 locs347 σ347 eσ347 hP347 hD347 hS347 => ?_)
                                  clear hP345 hD345 hS345
                                  refine lv_aload_n hx hb dX9_greets_383 rfl (lv_at hl304 4 rfl) ?_
                                  refine lv_iconst (v := 1) hx hb dX9_greets_384 (by decide) ?_
                                  refine lv_bipush (v := 6) hx hb dX9_greets_385 (by decide) ?_
                                  refine kWVv F hK hP347 hD347 hS347 hA hl304.1 (c_X9_takes l G h a σ347 1 6 (by first | assumption | decide | omega) (by first | assumption | decide | omega)) 9 0 gX9_greets_X9_takes rfl 2 rfl (by decide +kernel) ⟨Nat.le_of_ble_eq_true rfl, Nat.le_of_ble_eq_true rfl⟩ ⟨Nat.zero_le _, Nat.zero_le _⟩ rfl rfl (Nat.le_of_ble_eq_true rfl) rfl dX9_greets_387 (fun σ_348 H349 locs349 hw348 (hP349 : va_P G.1 vwCl (mW G h a σ_348) H349) (hD349 : va_D A (mW G h a σ_348)) hS349 => ?_)
                                  clear hP347 hD347 hS347
                                  have w348_0 : σ_348 = mtakes σ347 1 (6 + 1) := hw348
                                  refine lv_aload_n hx hb dX9_greets_390 rfl (lv_at hl304 4 rfl) ?_
                                  refine kget F hK hP349 9 0 29 iX9 rfl rfl (by decide) (List.mem_of_getElem? (i := 1) rfl) rfl dX9_greets_391 ?_
                                  refine lv_bipush (v := 7) hx hb dX9_greets_394 (by decide) ?_
                                  refine lv_aload_n hx hb dX9_greets_396 rfl (lv_at hl304 4 rfl) ?_
                                  refine lv_iconst (v := 1) hx hb dX9_greets_397 (by decide) ?_
                                  refine lv_iconst (v := 1) hx hb dX9_greets_398 (by decide) ?_
                                  refine kWVi F hK hP349 hD349 hS349 hA hl304.1 (c_X9_proof l G h a σ_348 1 1 (by first | assumption | decide | omega)) 9 0 gX9_greets_X9_proof rfl 2 rfl (by decide +kernel) ⟨Nat.le_of_ble_eq_true rfl, Nat.le_of_ble_eq_true rfl⟩ ⟨Nat.zero_le _, Nat.zero_le _⟩ rfl rfl (Nat.le_of_ble_eq_true rfl) rfl dX9_greets_399 (fun r350 u350 H351 locs351 hw350 (hP351 : va_P G.1 vwCl (mW G h a σ_348) H351) (hD351 : va_D A (mW G h a σ_348)) hS351 => ?_)
                                  clear hP349 hD349 hS349
                                  have w350_0 : r350 = mproof σ_348 1 1 := hw350
                                  refine kMst F hK hP351 hD351 hS351 29 20 7 rfl rfl (by decide) (Nat.le_of_ble_eq_true rfl) rfl dX9_greets_402 (fun H352 locs352 σ352 eσ352 hP352 hD352 hS352 => ?_)
                                  clear hP351 hD351 hS351
                                  refine lv_aload_n hx hb dX9_greets_403 rfl (lv_at hl304 4 rfl) ?_
                                  refine lv_iconst (v := 0) hx hb dX9_greets_404 (by decide) ?_
                                  refine kWVv F hK hP352 hD352 hS352 hA hl304.1 (c_X9_sends l G h a σ352 0 Mn (by first | assumption | decide | omega) (by subst eσ352; subst w350_0; subst w348_0; subst eσ347; subst eσ345; subst eσ343; subst w326_0; subst eσ325; subst w323_0; subst eσ322; subst eσ321; subst w319_0; subst eσ318; subst eσ316; subst eσ315; subst eσ314; subst w312_0; subst w310_0; subst w308_0; subst w306_0; subst w301_0; subst w189_0; first | exact hM | (simp only [msees, mtakes, mclr]; (repeat' split) <;> exact hM)) hM8) 9 0 gX9_greets_X9_sends rfl 1 rfl (by decide +kernel) ⟨Nat.le_of_ble_eq_true rfl, Nat.le_of_ble_eq_true rfl⟩ ⟨Nat.zero_le _, Nat.zero_le _⟩ rfl rfl (Nat.le_of_ble_eq_true rfl) rfl dX9_greets_405 (fun σ_353 H354 locs354 hw353 (hP354 : va_P G.1 vwCl (mW G h a σ_353) H354) (hD354 : va_D A (mW G h a σ_353)) hS354 => ?_)
                                  clear hP352 hD352 hS352
                                  have w353_0 : σ_353 = msend σ352 0 Mn := hw353
                                  refine lv_aload_n hx hb dX9_greets_408 rfl (lv_at hl304 4 rfl) ?_
                                  refine kget F hK hP354 9 0 3 iX9 rfl rfl (by decide) (List.mem_of_getElem? (i := 13) rfl) rfl dX9_greets_409 ?_
                                  refine lv_iconst (v := 1) hx hb dX9_greets_412 (by decide) ?_
                                  refine lv_iconst (v := 3) hx hb dX9_greets_413 (by decide) ?_
                                  refine kMst F hK hP354 hD354 hS354 3 4 1 rfl rfl (by decide) (Nat.le_of_ble_eq_true rfl) rfl dX9_greets_414 (fun H355 locs355 σ355 eσ355 hP355 hD355 hS355 => ?_)
                                  clear hP354 hD354 hS354
                                  have q356 : σ355 = mgreets σ v g i S Mn E K := by
                                    subst eσ355
                                    subst w353_0
                                    subst eσ352
                                    subst w350_0
                                    subst w348_0
                                    subst eσ347
                                    subst eσ345
                                    subst eσ343
                                    subst w326_0
                                    subst eσ325
                                    subst w323_0
                                    subst eσ322
                                    subst eσ321
                                    subst w319_0
                                    subst eσ318
                                    subst eσ316
                                    subst eσ315
                                    subst eσ314
                                    subst w312_0
                                    subst w310_0
                                    subst w308_0
                                    subst w306_0
                                    subst w301_0
                                    subst w189_0
                                    first | (simp only [mgreets, mgrY, mearl, mgrT, mgrC, mgrB, mgrA, mgrE, kd10, eq_true c1, hv, hjc, hjm, c125, c126, c186, c188, eq_true c191, c192, c193, eq_true c247, eq_true c303, eq_true c305, c317, c328, c344, eq_true c346, eq_self, ↓reduceIte, and_self, and_true, true_and]; done) | (simp only [mgreets, mgrY, mearl, mgrT, mgrC, mgrB, mgrA, mgrE, kd10, eq_true c1, hv, hjc, hjm, c125, c126, c186, c188, eq_true c191, c192, c193, eq_true c247, eq_true c303, eq_true c305, c317, c328, c344, eq_true c346, eq_self, ↓reduceIte, and_self, and_true, true_and]; (try and_intros) <;> rfl)
                                  exact kRv F hr hlocks hS355 dX9_greets_415 σ355 q356 hP355 hD355
                                · exact absurd (by decide) c346
                        · exact absurd (by decide) c305
                      · refine lv_aload_n hx hb dX9_greets_149 rfl (lv_at hl187 3 rfl) ?_
                        refine lv_aload_n hx hb dX9_greets_150 rfl (lv_at hl187 3 rfl) ?_
                        refine kget F hK hP302 9 0 29 iX9 rfl rfl (by decide) (List.mem_of_getElem? (i := 1) rfl) rfl dX9_greets_151 ?_
                        refine lv_iconst (v := 5) hx hb dX9_greets_154 (by decide) ?_
                        refine kild F hK hP302 20 5 rfl rfl (by decide) (Nat.le_of_ble_eq_true rfl) dX9_greets_155 ?_
                        refine lv_aload_n hx hb dX9_greets_156 rfl (lv_at hl187 3 rfl) ?_
                        refine kget F hK hP302 9 0 29 iX9 rfl rfl (by decide) (List.mem_of_getElem? (i := 1) rfl) rfl dX9_greets_157 ?_
                        refine lv_bipush (v := 7) hx hb dX9_greets_160 (by decide) ?_
                        refine kild F hK hP302 20 7 rfl rfl (by decide) (Nat.le_of_ble_eq_true rfl) dX9_greets_162 ?_
                        refine kWVi F hK hP302 hD302 hS302 hA hl187.1 (c_X9_isSeen l G h a σ (σ 29 5) (σ 29 7) E hE hE4) 9 0 gX9_greets_X9_isSeen rfl 2 rfl (by decide +kernel) ⟨Nat.le_of_ble_eq_true rfl, Nat.le_of_ble_eq_true rfl⟩ ⟨Nat.zero_le _, Nat.zero_le _⟩ rfl rfl (Nat.le_of_ble_eq_true rfl) rfl dX9_greets_163 (fun r357 u357 H358 locs358 hw357 (hP358 : va_P G.1 vwCl (mW G h a σ) H358) (hD358 : va_D A (mW G h a σ)) hS358 => ?_)
                        clear hP302 hD302 hS302
                        have w357_0 : r357 = bI (kany (msP σ (σ 29 5) (σ 29 7)) E) := hw357
                        refine lv_if_ne (tgt := 173) hx hb dX9_greets_166 (by decide) (fun c359 => ?_) (fun c359 => ?_)
                        · refine lv_iconst (v := 0) hx hb dX9_greets_173 (by decide) ?_
                          refine lv_istore (lv' := [(7, .int 0), (6, .int (σ 22 (5 * j + 3))), (5, .int 1), (4, .int (nI j)), (0, .ref h), (1, .int v), (2, .int g), (3, .int i)]) hx hb dX9_greets_174 hl187 (by decide) rfl (fun ls360 hl360 => ?_)
                          clear hl187
                          refine lv_iload hx hb dX9_greets_176 (lv_at hl360 0 rfl) ?_
                          refine lv_if_eq (tgt := 224) hx hb dX9_greets_178 (by decide) (fun c361 => ?_) (fun c361 => ?_)
                          · refine lv_aload_n hx hb dX9_greets_224 rfl (lv_at hl360 4 rfl) ?_
                            refine lv_iconst (v := 1) hx hb dX9_greets_225 (by decide) ?_
                            refine lv_bipush (v := 8) hx hb dX9_greets_226 (by decide) ?_
                            refine kWVv F hK hP358 hD358 hS358 hA hl360.1 (c_X9_takes l G h a σ 1 8 (by first | assumption | decide | omega) (by first | assumption | decide | omega)) 9 0 gX9_greets_X9_takes rfl 2 rfl (by decide +kernel) ⟨Nat.le_of_ble_eq_true rfl, Nat.le_of_ble_eq_true rfl⟩ ⟨Nat.zero_le _, Nat.zero_le _⟩ rfl rfl (Nat.le_of_ble_eq_true rfl) rfl dX9_greets_228 (fun σ_362 H363 locs363 hw362 (hP363 : va_P G.1 vwCl (mW G h a σ_362) H363) (hD363 : va_D A (mW G h a σ_362)) hS363 => ?_)
                            clear hP358 hD358 hS358
                            have w362_0 : σ_362 = mtakes σ 1 (8 + 1) := hw362
                            refine lv_aload_n hx hb dX9_greets_231 rfl (lv_at hl360 4 rfl) ?_
                            refine kget F hK hP363 9 0 9 iX9 rfl rfl (by decide) (List.mem_of_getElem? (i := 7) rfl) rfl dX9_greets_232 ?_
                            refine lv_iconst (v := 1) hx hb dX9_greets_235 (by decide) ?_
                            refine lv_aload_n hx hb dX9_greets_236 rfl (lv_at hl360 4 rfl) ?_
                            refine kget F hK hP363 9 0 29 iX9 rfl rfl (by decide) (List.mem_of_getElem? (i := 1) rfl) rfl dX9_greets_237 ?_
                            refine lv_iconst (v := 4) hx hb dX9_greets_240 (by decide) ?_
                            refine kild F hK hP363 20 4 rfl rfl (by decide) (Nat.le_of_ble_eq_true rfl) dX9_greets_241 ?_
                            rw [show (σ_362 29 4) = (σ 29 4) from by subst w362_0; first | rfl | (simp only [msend, msees]; (repeat' split) <;> rfl)]
                            refine lv_aload_n hx hb dX9_greets_242 rfl (lv_at hl360 4 rfl) ?_
                            refine kget F hK hP363 9 0 2 iX9 rfl rfl (by decide) (List.mem_of_getElem? (i := 8) rfl) rfl dX9_greets_243 ?_
                            refine lv_iconst (v := 1) hx hb dX9_greets_246 (by decide) ?_
                            refine kild F hK hP363 3 1 rfl rfl (by decide) (Nat.le_of_ble_eq_true rfl) dX9_greets_247 ?_
                            rw [show (σ_362 2 1) = (σ 2 1) from by subst w362_0; first | rfl | (simp only [msend, msees]; (repeat' split) <;> rfl)]
                            refine lv_iload_n hx hb dX9_greets_248 rfl (lv_at hl360 6 rfl) ?_
                            refine kPSi F hK hP363 hD363 hS363 hA hl360.1 (c_X9_prime l G g) (fun _ => rfl) gX9_greets_X9_prime rfl 1 rfl (by decide +kernel) ⟨Nat.le_of_ble_eq_true rfl, Nat.le_of_ble_eq_true rfl⟩ ⟨Nat.zero_le _, Nat.zero_le _⟩ (Nat.le_of_ble_eq_true rfl) rfl dX9_greets_249 (fun r364 u364 H365 locs365 hw364 (hP365 : va_P G.1 vwCl (mW G h a σ_362) H365) (hD365 : va_D A (mW G h a σ_362)) hS365 => ?_)
                            clear hP363 hD363 hS363
                            have w364_0 : r364 = kprime g := hw364
                            refine kPSi F hK hP365 hD365 hS365 hA hl360.1 (c_X9_power l G (σ 29 4) (σ 2 1) r364 S (by subst_vars; exact kprime_1 _) hs hS) (fun _ => rfl) gX9_greets_X9_power rfl 3 rfl (by decide +kernel) ⟨Nat.le_of_ble_eq_true rfl, Nat.le_of_ble_eq_true rfl⟩ ⟨Nat.zero_le _, Nat.zero_le _⟩ (Nat.le_of_ble_eq_true rfl) rfl dX9_greets_252 (fun r366 u366 H367 locs367 hw366 (hP367 : va_P G.1 vwCl (mW G h a σ_362) H367) (hD367 : va_D A (mW G h a σ_362)) hS367 => ?_)
                            clear hP365 hD365 hS365
                            have w366_0 : r366 = mpw (σ 29 4) r364 S := hw366
                            refine lv_iload hx hb dX9_greets_255 (lv_at hl360 1 rfl) ?_
                            refine kPSi F hK hP367 hD367 hS367 hA hl360.1 (c_X9_keyOf l G r366 (σ 22 (5 * j + 3))) (fun _ => rfl) gX9_greets_X9_keyOf rfl 2 rfl (by decide +kernel) ⟨Nat.le_of_ble_eq_true rfl, Nat.le_of_ble_eq_true rfl⟩ ⟨Nat.zero_le _, Nat.zero_le _⟩ (Nat.le_of_ble_eq_true rfl) rfl dX9_greets_257 (fun r368 u368 H369 locs369 hw368 (hP369 : va_P G.1 vwCl (mW G h a σ_362) H369) (hD369 : va_D A (mW G h a σ_362)) hS369 => ?_)
                            clear hP367 hD367 hS367
                            have w368_0 : r368 = kmix (kmix 7 r366) (σ 22 (5 * j + 3)) := hw368
                            refine kMst F hK hP369 hD369 hS369 9 10 1 rfl rfl (by decide) (Nat.le_of_ble_eq_true rfl) rfl dX9_greets_260 (fun H370 locs370 σ370 eσ370 hP370 hD370 hS370 => ?_)
                            clear hP369 hD369 hS369
                            refine lv_aload_n hx hb dX9_greets_261 rfl (lv_at hl360 4 rfl) ?_
                            refine kget F hK hP370 9 0 6 iX9 rfl rfl (by decide) (List.mem_of_getElem? (i := 9) rfl) rfl dX9_greets_262 ?_
                            refine lv_iconst (v := 1) hx hb dX9_greets_265 (by decide) ?_
                            refine lv_iload_n hx hb dX9_greets_266 rfl (lv_at hl360 5 rfl) ?_
                            refine kMst F hK hP370 hD370 hS370 6 7 1 rfl rfl (by decide) (Nat.le_of_ble_eq_true rfl) rfl dX9_greets_267 (fun H371 locs371 σ371 eσ371 hP371 hD371 hS371 => ?_)
                            clear hP370 hD370 hS370
                            refine lv_aload_n hx hb dX9_greets_268 rfl (lv_at hl360 4 rfl) ?_
                            refine kget F hK hP371 9 0 7 iX9 rfl rfl (by decide) (List.mem_of_getElem? (i := 10) rfl) rfl dX9_greets_269 ?_
                            refine lv_iconst (v := 1) hx hb dX9_greets_272 (by decide) ?_
                            refine lv_iload_n hx hb dX9_greets_273 rfl (lv_at hl360 6 rfl) ?_
                            refine kMst F hK hP371 hD371 hS371 7 8 1 rfl rfl (by decide) (Nat.le_of_ble_eq_true rfl) rfl dX9_greets_274 (fun H372 locs372 σ372 eσ372 hP372 hD372 hS372 => ?_)
                            clear hP371 hD371 hS371
                            refine lv_aload_n hx hb dX9_greets_275 rfl (lv_at hl360 4 rfl) ?_
                            refine kget F hK hP372 9 0 8 iX9 rfl rfl (by decide) (List.mem_of_getElem? (i := 11) rfl) rfl dX9_greets_276 ?_
                            refine lv_iconst (v := 1) hx hb dX9_greets_279 (by decide) ?_
                            refine lv_iload hx hb dX9_greets_280 (lv_at hl360 2 rfl) ?_
                            refine lv_if_eq (tgt := 289) hx hb dX9_greets_282 (by decide) (fun c373 => ?_) (fun c373 => ?_)
                            · exact absurd c373 (by decide)
                            · refine lv_iconst (v := 1) hx hb dX9_greets_285 (by decide) ?_
                              refine lv_goto (tgt := 290) hx hb dX9_greets_286 (by decide) ?_
                              refine kMst F hK hP372 hD372 hS372 8 9 1 rfl rfl (by decide) (Nat.le_of_ble_eq_true rfl) rfl dX9_greets_290 (fun H374 locs374 σ374 eσ374 hP374 hD374 hS374 => ?_)
                              clear hP372 hD372 hS372
                              refine lv_aload_n hx hb dX9_greets_291 rfl (lv_at hl360 4 rfl) ?_
                              refine lv_iconst (v := 3) hx hb dX9_greets_292 (by decide) ?_
                              refine kWVv F hK hP374 hD374 hS374 hA hl360.1 (c_X9_clears l G h a σ374 3) 9 0 gX9_greets_X9_clears rfl 1 rfl (by decide +kernel) ⟨Nat.le_of_ble_eq_true rfl, Nat.le_of_ble_eq_true rfl⟩ ⟨Nat.zero_le _, Nat.zero_le _⟩ rfl rfl (Nat.le_of_ble_eq_true rfl) rfl dX9_greets_293 (fun σ_375 H376 locs376 hw375 (hP376 : va_P G.1 vwCl (mW G h a σ_375) H376) (hD376 : va_D A (mW G h a σ_375)) hS376 => ?_)
                              clear hP374 hD374 hS374
                              have w375_0 : σ_375 = mclr σ374 3 := hw375
                              refine lv_aload_n hx hb dX9_greets_296 rfl (lv_at hl360 4 rfl) ?_
                              refine kget F hK hP376 9 0 29 iX9 rfl rfl (by decide) (List.mem_of_getElem? (i := 1) rfl) rfl dX9_greets_297 ?_
                              refine lv_iconst (v := 1) hx hb dX9_greets_300 (by decide) ?_
                              refine lv_iload_n hx hb dX9_greets_301 rfl (lv_at hl360 5 rfl) ?_
                              refine kMst F hK hP376 hD376 hS376 29 20 1 rfl rfl (by decide) (Nat.le_of_ble_eq_true rfl) rfl dX9_greets_302 (fun H377 locs377 σ377 eσ377 hP377 hD377 hS377 => ?_)
                              clear hP376 hD376 hS376
                              refine lv_aload_n hx hb dX9_greets_303 rfl (lv_at hl360 4 rfl) ?_
                              refine kget F hK hP377 9 0 29 iX9 rfl rfl (by decide) (List.mem_of_getElem? (i := 1) rfl) rfl dX9_greets_304 ?_
                              refine lv_iconst (v := 2) hx hb dX9_greets_307 (by decide) ?_
                              refine lv_iload_n hx hb dX9_greets_308 rfl (lv_at hl360 6 rfl) ?_
                              refine kMst F hK hP377 hD377 hS377 29 20 2 rfl rfl (by decide) (Nat.le_of_ble_eq_true rfl) rfl dX9_greets_309 (fun H378 locs378 σ378 eσ378 hP378 hD378 hS378 => ?_)
                              clear hP377 hD377 hS377
                              refine lv_aload_n hx hb dX9_greets_310 rfl (lv_at hl360 4 rfl) ?_
                              refine kget F hK hP378 9 0 29 iX9 rfl rfl (by decide) (List.mem_of_getElem? (i := 1) rfl) rfl dX9_greets_311 ?_
                              refine lv_iconst (v := 3) hx hb dX9_greets_314 (by decide) ?_
                              refine lv_iload_n hx hb dX9_greets_315 rfl (lv_at hl360 6 rfl) ?_
                              refine lv_aload_n hx hb dX9_greets_316 rfl (lv_at hl360 4 rfl) ?_
                              refine kget F hK hP378 9 0 2 iX9 rfl rfl (by decide) (List.mem_of_getElem? (i := 8) rfl) rfl dX9_greets_317 ?_
                              refine lv_iconst (v := 1) hx hb dX9_greets_320 (by decide) ?_
                              refine kild F hK hP378 3 1 rfl rfl (by decide) (Nat.le_of_ble_eq_true rfl) dX9_greets_321 ?_
                              rw [show (σ378 2 1) = (σ 2 1) from by subst eσ378; subst eσ377; subst w375_0; subst eσ374; subst eσ372; subst eσ371; subst eσ370; subst w362_0; first | rfl | (simp only [msend, msees]; (repeat' split) <;> rfl)]
                              refine kPSi F hK hP378 hD378 hS378 hA hl360.1 (c_X9_shareOf l G g (σ 2 1) S hs hS) (fun _ => rfl) gX9_greets_X9_shareOf rfl 2 rfl (by decide +kernel) ⟨Nat.le_of_ble_eq_true rfl, Nat.le_of_ble_eq_true rfl⟩ ⟨Nat.zero_le _, Nat.zero_le _⟩ (Nat.le_of_ble_eq_true rfl) rfl dX9_greets_322 (fun r379 u379 H380 locs380 hw379 (hP380 : va_P G.1 vwCl (mW G h a σ378) H380) (hD380 : va_D A (mW G h a σ378)) hS380 => ?_)
                              clear hP378 hD378 hS378
                              have w379_0 : r379 = mshare g S := hw379
                              refine kMst F hK hP380 hD380 hS380 29 20 3 rfl rfl (by decide) (Nat.le_of_ble_eq_true rfl) rfl dX9_greets_325 (fun H381 locs381 σ381 eσ381 hP381 hD381 hS381 => ?_)
                              clear hP380 hD380 hS380
                              refine lv_aload_n hx hb dX9_greets_326 rfl (lv_at hl360 4 rfl) ?_
                              refine kget F hK hP381 9 0 29 iX9 rfl rfl (by decide) (List.mem_of_getElem? (i := 1) rfl) rfl dX9_greets_327 ?_
                              refine lv_iconst (v := 4) hx hb dX9_greets_330 (by decide) ?_
                              refine lv_aload_n hx hb dX9_greets_331 rfl (lv_at hl360 4 rfl) ?_
                              refine kget F hK hP381 9 0 0 iX9 rfl rfl (by decide) (List.mem_of_getElem? (i := 12) rfl) rfl dX9_greets_332 ?_
                              refine lv_iconst (v := 1) hx hb dX9_greets_335 (by decide) ?_
                              refine kild F hK hP381 1 1 rfl rfl (by decide) (Nat.le_of_ble_eq_true rfl) dX9_greets_336 ?_
                              rw [show (σ381 0 1) = (σ 0 1) from by subst eσ381; subst eσ378; subst eσ377; subst w375_0; subst eσ374; subst eσ372; subst eσ371; subst eσ370; subst w362_0; first | rfl | (simp only [msend, msees]; (repeat' split) <;> rfl)]
                              refine lv_iload_n hx hb dX9_greets_337 rfl (lv_at hl360 5 rfl) ?_
                              refine kPSi F hK hP381 hD381 hS381 hA hl360.1 (c_X9_hasAbove l G (σ 0 1) v hvv) (fun _ => rfl) gX9_greets_X9_hasAbove rfl 2 rfl (by decide +kernel) ⟨Nat.le_of_ble_eq_true rfl, Nat.le_of_ble_eq_true rfl⟩ ⟨Nat.zero_le _, Nat.zero_le _⟩ (Nat.le_of_ble_eq_true rfl) rfl dX9_greets_338 (fun r382 u382 H383 locs383 hw382 (hP383 : va_P G.1 vwCl (mW G h a σ381) H383) (hD383 : va_D A (mW G h a σ381)) hS383 => ?_)
                              clear hP381 hD381 hS381
                              have w382_0 : r382 = mab (σ 0 1) v := hw382
                              refine lv_if_eq (tgt := 348) hx hb dX9_greets_341 (by decide) (fun c384 => ?_) (fun c384 => ?_)
                              · refine lv_iconst (v := 0) hx hb dX9_greets_348 (by decide) ?_
                                refine kMst F hK hP383 hD383 hS383 29 20 4 rfl rfl (by decide) (Nat.le_of_ble_eq_true rfl) rfl dX9_greets_349 (fun H385 locs385 σ385 eσ385 hP385 hD385 hS385 => ?_)
                                clear hP383 hD383 hS383
                                refine lv_aload_n hx hb dX9_greets_350 rfl (lv_at hl360 4 rfl) ?_
                                refine kget F hK hP385 9 0 29 iX9 rfl rfl (by decide) (List.mem_of_getElem? (i := 1) rfl) rfl dX9_greets_351 ?_
                                refine lv_iconst (v := 5) hx hb dX9_greets_354 (by decide) ?_
                                refine lv_iload hx hb dX9_greets_355 (lv_at hl360 2 rfl) ?_
                                refine lv_if_eq (tgt := 364) hx hb dX9_greets_357 (by decide) (fun c386 => ?_) (fun c386 => ?_)
                                · exact absurd c386 (by decide)
                                · refine lv_iconst (v := 1) hx hb dX9_greets_360 (by decide) ?_
                                  refine lv_goto (tgt := 365) hx hb dX9_greets_361 (by decide) ?_
                                  refine kMst F hK hP385 hD385 hS385 29 20 5 rfl rfl (by decide) (Nat.le_of_ble_eq_true rfl) rfl dX9_greets_365 (fun H387 locs387 σ387 eσ387 hP387 hD387 hS387 => ?_)
                                  clear hP385 hD385 hS385
                                  refine lv_aload_n hx hb dX9_greets_366 rfl (lv_at hl360 4 rfl) ?_
                                  refine kget F hK hP387 9 0 29 iX9 rfl rfl (by decide) (List.mem_of_getElem? (i := 1) rfl) rfl dX9_greets_367 ?_
                                  refine lv_bipush (v := 6) hx hb dX9_greets_370 (by decide) ?_
                                  refine lv_iload hx hb dX9_greets_372 (lv_at hl360 0 rfl) ?_
                                  refine lv_if_eq (tgt := 381) hx hb dX9_greets_374 (by decide) (fun c388 => ?_) (fun c388 => ?_)
                                  · refine lv_iconst (v := 0) hx hb dX9_greets_381 (by decide) ?_
                                    refine kMst F hK hP387 hD387 hS387 29 20 6 rfl rfl (by decide) (Nat.le_of_ble_eq_true rfl) rfl dX9_greets_382 (fun H389 locs389 σ389 eσ389 hP389 hD389 hS389 => ?_)
                                    clear hP387 hD387 hS387
                                    refine lv_aload_n hx hb dX9_greets_383 rfl (lv_at hl360 4 rfl) ?_
                                    refine lv_iconst (v := 1) hx hb dX9_greets_384 (by decide) ?_
                                    refine lv_bipush (v := 6) hx hb dX9_greets_385 (by decide) ?_
                                    refine kWVv F hK hP389 hD389 hS389 hA hl360.1 (c_X9_takes l G h a σ389 1 6 (by first | assumption | decide | omega) (by first | assumption | decide | omega)) 9 0 gX9_greets_X9_takes rfl 2 rfl (by decide +kernel) ⟨Nat.le_of_ble_eq_true rfl, Nat.le_of_ble_eq_true rfl⟩ ⟨Nat.zero_le _, Nat.zero_le _⟩ rfl rfl (Nat.le_of_ble_eq_true rfl) rfl dX9_greets_387 (fun σ_390 H391 locs391 hw390 (hP391 : va_P G.1 vwCl (mW G h a σ_390) H391) (hD391 : va_D A (mW G h a σ_390)) hS391 => ?_)
                                    clear hP389 hD389 hS389
                                    have w390_0 : σ_390 = mtakes σ389 1 (6 + 1) := hw390
                                    refine lv_aload_n hx hb dX9_greets_390 rfl (lv_at hl360 4 rfl) ?_
                                    refine kget F hK hP391 9 0 29 iX9 rfl rfl (by decide) (List.mem_of_getElem? (i := 1) rfl) rfl dX9_greets_391 ?_
                                    refine lv_bipush (v := 7) hx hb dX9_greets_394 (by decide) ?_
                                    refine lv_aload_n hx hb dX9_greets_396 rfl (lv_at hl360 4 rfl) ?_
                                    refine lv_iconst (v := 1) hx hb dX9_greets_397 (by decide) ?_
                                    refine lv_iconst (v := 1) hx hb dX9_greets_398 (by decide) ?_
                                    refine kWVi F hK hP391 hD391 hS391 hA hl360.1 (c_X9_proof l G h a σ_390 1 1 (by first | assumption | decide | omega)) 9 0 gX9_greets_X9_proof rfl 2 rfl (by decide +kernel) ⟨Nat.le_of_ble_eq_true rfl, Nat.le_of_ble_eq_true rfl⟩ ⟨Nat.zero_le _, Nat.zero_le _⟩ rfl rfl (Nat.le_of_ble_eq_true rfl) rfl dX9_greets_399 (fun r392 u392 H393 locs393 hw392 (hP393 : va_P G.1 vwCl (mW G h a σ_390) H393) (hD393 : va_D A (mW G h a σ_390)) hS393 => ?_)
                                    clear hP391 hD391 hS391
                                    have w392_0 : r392 = mproof σ_390 1 1 := hw392
                                    refine kMst F hK hP393 hD393 hS393 29 20 7 rfl rfl (by decide) (Nat.le_of_ble_eq_true rfl) rfl dX9_greets_402 (fun H394 locs394 σ394 eσ394 hP394 hD394 hS394 => ?_)
                                    clear hP393 hD393 hS393
                                    refine lv_aload_n hx hb dX9_greets_403 rfl (lv_at hl360 4 rfl) ?_
                                    refine lv_iconst (v := 0) hx hb dX9_greets_404 (by decide) ?_
                                    refine kWVv F hK hP394 hD394 hS394 hA hl360.1 (c_X9_sends l G h a σ394 0 Mn (by first | assumption | decide | omega) (by subst eσ394; subst w392_0; subst w390_0; subst eσ389; subst eσ387; subst eσ385; subst w382_0; subst eσ381; subst w379_0; subst eσ378; subst eσ377; subst w375_0; subst eσ374; subst eσ372; subst eσ371; subst eσ370; subst w368_0; subst w366_0; subst w364_0; subst w362_0; subst w357_0; subst w301_0; subst w189_0; first | exact hM | (simp only [msees, mtakes, mclr]; (repeat' split) <;> exact hM)) hM8) 9 0 gX9_greets_X9_sends rfl 1 rfl (by decide +kernel) ⟨Nat.le_of_ble_eq_true rfl, Nat.le_of_ble_eq_true rfl⟩ ⟨Nat.zero_le _, Nat.zero_le _⟩ rfl rfl (Nat.le_of_ble_eq_true rfl) rfl dX9_greets_405 (fun σ_395 H396 locs396 hw395 (hP396 : va_P G.1 vwCl (mW G h a σ_395) H396) (hD396 : va_D A (mW G h a σ_395)) hS396 => ?_)
                                    clear hP394 hD394 hS394
                                    have w395_0 : σ_395 = msend σ394 0 Mn := hw395
                                    refine lv_aload_n hx hb dX9_greets_408 rfl (lv_at hl360 4 rfl) ?_
                                    refine kget F hK hP396 9 0 3 iX9 rfl rfl (by decide) (List.mem_of_getElem? (i := 13) rfl) rfl dX9_greets_409 ?_
                                    refine lv_iconst (v := 1) hx hb dX9_greets_412 (by decide) ?_
                                    refine lv_iconst (v := 3) hx hb dX9_greets_413 (by decide) ?_
                                    refine kMst F hK hP396 hD396 hS396 3 4 1 rfl rfl (by decide) (Nat.le_of_ble_eq_true rfl) rfl dX9_greets_414 (fun H397 locs397 σ397 eσ397 hP397 hD397 hS397 => ?_)
                                    clear hP396 hD396 hS396
                                    have q398 : σ397 = mgreets σ v g i S Mn E K := by
                                      subst eσ397
                                      subst w395_0
                                      subst eσ394
                                      subst w392_0
                                      subst w390_0
                                      subst eσ389
                                      subst eσ387
                                      subst eσ385
                                      subst w382_0
                                      subst eσ381
                                      subst w379_0
                                      subst eσ378
                                      subst eσ377
                                      subst w375_0
                                      subst eσ374
                                      subst eσ372
                                      subst eσ371
                                      subst eσ370
                                      subst w368_0
                                      subst w366_0
                                      subst w364_0
                                      subst w362_0
                                      subst w357_0
                                      subst w301_0
                                      subst w189_0
                                      first | (simp only [mgreets, mgrY, mearl, mgrT, mgrC, mgrB, mgrA, mgrE, kd10, eq_true c1, hv, hjc, hjm, c125, c126, c186, c188, eq_true c191, c192, c193, eq_true c247, c303, c359, eq_true c361, c373, eq_true c384, c386, eq_true c388, eq_self, ↓reduceIte, and_self, and_true, true_and]; done) | (simp only [mgreets, mgrY, mearl, mgrT, mgrC, mgrB, mgrA, mgrE, kd10, eq_true c1, hv, hjc, hjm, c125, c126, c186, c188, eq_true c191, c192, c193, eq_true c247, c303, c359, eq_true c361, c373, eq_true c384, c386, eq_true c388, eq_self, ↓reduceIte, and_self, and_true, true_and]; (try and_intros) <;> rfl)
                                    exact kRv F hr hlocks hS397 dX9_greets_415 σ397 q398 hP397 hD397
                                  · exact absurd (by decide) c388
                              · refine lv_iconst (v := 1) hx hb dX9_greets_344 (by decide) ?_
                                refine lv_goto (tgt := 349) hx hb dX9_greets_345 (by decide) ?_
                                refine kMst F hK hP383 hD383 hS383 29 20 4 rfl rfl (by decide) (Nat.le_of_ble_eq_true rfl) rfl dX9_greets_349 (fun H399 locs399 σ399 eσ399 hP399 hD399 hS399 => ?_)
                                clear hP383 hD383 hS383
                                refine lv_aload_n hx hb dX9_greets_350 rfl (lv_at hl360 4 rfl) ?_
                                refine kget F hK hP399 9 0 29 iX9 rfl rfl (by decide) (List.mem_of_getElem? (i := 1) rfl) rfl dX9_greets_351 ?_
                                refine lv_iconst (v := 5) hx hb dX9_greets_354 (by decide) ?_
                                refine lv_iload hx hb dX9_greets_355 (lv_at hl360 2 rfl) ?_
                                refine lv_if_eq (tgt := 364) hx hb dX9_greets_357 (by decide) (fun c400 => ?_) (fun c400 => ?_)
                                · exact absurd c400 (by decide)
                                · refine lv_iconst (v := 1) hx hb dX9_greets_360 (by decide) ?_
                                  refine lv_goto (tgt := 365) hx hb dX9_greets_361 (by decide) ?_
                                  refine kMst F hK hP399 hD399 hS399 29 20 5 rfl rfl (by decide) (Nat.le_of_ble_eq_true rfl) rfl dX9_greets_365 (fun H401 locs401 σ401 eσ401 hP401 hD401 hS401 => ?_)
                                  clear hP399 hD399 hS399
                                  refine lv_aload_n hx hb dX9_greets_366 rfl (lv_at hl360 4 rfl) ?_
                                  refine kget F hK hP401 9 0 29 iX9 rfl rfl (by decide) (List.mem_of_getElem? (i := 1) rfl) rfl dX9_greets_367 ?_
                                  refine lv_bipush (v := 6) hx hb dX9_greets_370 (by decide) ?_
                                  refine lv_iload hx hb dX9_greets_372 (lv_at hl360 0 rfl) ?_
                                  refine lv_if_eq (tgt := 381) hx hb dX9_greets_374 (by decide) (fun c402 => ?_) (fun c402 => ?_)
                                  · refine lv_iconst (v := 0) hx hb dX9_greets_381 (by decide) ?_
                                    refine kMst F hK hP401 hD401 hS401 29 20 6 rfl rfl (by decide) (Nat.le_of_ble_eq_true rfl) rfl dX9_greets_382 (fun H403 locs403 σ403 eσ403 hP403 hD403 hS403 => ?_)
                                    clear hP401 hD401 hS401
                                    refine lv_aload_n hx hb dX9_greets_383 rfl (lv_at hl360 4 rfl) ?_
                                    refine lv_iconst (v := 1) hx hb dX9_greets_384 (by decide) ?_
                                    refine lv_bipush (v := 6) hx hb dX9_greets_385 (by decide) ?_
                                    refine kWVv F hK hP403 hD403 hS403 hA hl360.1 (c_X9_takes l G h a σ403 1 6 (by first | assumption | decide | omega) (by first | assumption | decide | omega)) 9 0 gX9_greets_X9_takes rfl 2 rfl (by decide +kernel) ⟨Nat.le_of_ble_eq_true rfl, Nat.le_of_ble_eq_true rfl⟩ ⟨Nat.zero_le _, Nat.zero_le _⟩ rfl rfl (Nat.le_of_ble_eq_true rfl) rfl dX9_greets_387 (fun σ_404 H405 locs405 hw404 (hP405 : va_P G.1 vwCl (mW G h a σ_404) H405) (hD405 : va_D A (mW G h a σ_404)) hS405 => ?_)
                                    clear hP403 hD403 hS403
                                    have w404_0 : σ_404 = mtakes σ403 1 (6 + 1) := hw404
                                    refine lv_aload_n hx hb dX9_greets_390 rfl (lv_at hl360 4 rfl) ?_
                                    refine kget F hK hP405 9 0 29 iX9 rfl rfl (by decide) (List.mem_of_getElem? (i := 1) rfl) rfl dX9_greets_391 ?_
                                    refine lv_bipush (v := 7) hx hb dX9_greets_394 (by decide) ?_
                                    refine lv_aload_n hx hb dX9_greets_396 rfl (lv_at hl360 4 rfl) ?_
                                    refine lv_iconst (v := 1) hx hb dX9_greets_397 (by decide) ?_
                                    refine lv_iconst (v := 1) hx hb dX9_greets_398 (by decide) ?_
                                    refine kWVi F hK hP405 hD405 hS405 hA hl360.1 (c_X9_proof l G h a σ_404 1 1 (by first | assumption | decide | omega)) 9 0 gX9_greets_X9_proof rfl 2 rfl (by decide +kernel) ⟨Nat.le_of_ble_eq_true rfl, Nat.le_of_ble_eq_true rfl⟩ ⟨Nat.zero_le _, Nat.zero_le _⟩ rfl rfl (Nat.le_of_ble_eq_true rfl) rfl dX9_greets_399 (fun r406 u406 H407 locs407 hw406 (hP407 : va_P G.1 vwCl (mW G h a σ_404) H407) (hD407 : va_D A (mW G h a σ_404)) hS407 => ?_)
                                    clear hP405 hD405 hS405
                                    have w406_0 : r406 = mproof σ_404 1 1 := hw406
                                    refine kMst F hK hP407 hD407 hS407 29 20 7 rfl rfl (by decide) (Nat.le_of_ble_eq_true rfl) rfl dX9_greets_402 (fun H408 locs408 σ408 eσ408 hP408 hD408 hS408 => ?_)
                                    clear hP407 hD407 hS407
                                    refine lv_aload_n hx hb dX9_greets_403 rfl (lv_at hl360 4 rfl) ?_
                                    refine lv_iconst (v := 0) hx hb dX9_greets_404 (by decide) ?_
                                    refine kWVv F hK hP408 hD408 hS408 hA hl360.1 (c_X9_sends l G h a σ408 0 Mn (by first | assumption | decide | omega) (by subst eσ408; subst w406_0; subst w404_0; subst eσ403; subst eσ401; subst eσ399; subst w382_0; subst eσ381; subst w379_0; subst eσ378; subst eσ377; subst w375_0; subst eσ374; subst eσ372; subst eσ371; subst eσ370; subst w368_0; subst w366_0; subst w364_0; subst w362_0; subst w357_0; subst w301_0; subst w189_0; first | exact hM | (simp only [msees, mtakes, mclr]; (repeat' split) <;> exact hM)) hM8) 9 0 gX9_greets_X9_sends rfl 1 rfl (by decide +kernel) ⟨Nat.le_of_ble_eq_true rfl, Nat.le_of_ble_eq_true rfl⟩ ⟨Nat.zero_le _, Nat.zero_le _⟩ rfl rfl (Nat.le_of_ble_eq_true rfl) rfl dX9_greets_405 (fun σ_409 H410 locs410 hw409 (hP410 : va_P G.1 vwCl (mW G h a σ_409) H410) (hD410 : va_D A (mW G h a σ_409)) hS410 => ?_)
                                    clear hP408 hD408 hS408
                                    have w409_0 : σ_409 = msend σ408 0 Mn := hw409
                                    refine lv_aload_n hx hb dX9_greets_408 rfl (lv_at hl360 4 rfl) ?_
                                    refine kget F hK hP410 9 0 3 iX9 rfl rfl (by decide) (List.mem_of_getElem? (i := 13) rfl) rfl dX9_greets_409 ?_
                                    refine lv_iconst (v := 1) hx hb dX9_greets_412 (by decide) ?_
                                    refine lv_iconst (v := 3) hx hb dX9_greets_413 (by decide) ?_
                                    refine kMst F hK hP410 hD410 hS410 3 4 1 rfl rfl (by decide) (Nat.le_of_ble_eq_true rfl) rfl dX9_greets_414 (fun H411 locs411 σ411 eσ411 hP411 hD411 hS411 => ?_)
                                    clear hP410 hD410 hS410
                                    have q412 : σ411 = mgreets σ v g i S Mn E K := by
                                      subst eσ411
                                      subst w409_0
                                      subst eσ408
                                      subst w406_0
                                      subst w404_0
                                      subst eσ403
                                      subst eσ401
                                      subst eσ399
                                      subst w382_0
                                      subst eσ381
                                      subst w379_0
                                      subst eσ378
                                      subst eσ377
                                      subst w375_0
                                      subst eσ374
                                      subst eσ372
                                      subst eσ371
                                      subst eσ370
                                      subst w368_0
                                      subst w366_0
                                      subst w364_0
                                      subst w362_0
                                      subst w357_0
                                      subst w301_0
                                      subst w189_0
                                      first | (simp only [mgreets, mgrY, mearl, mgrT, mgrC, mgrB, mgrA, mgrE, kd10, eq_true c1, hv, hjc, hjm, c125, c126, c186, c188, eq_true c191, c192, c193, eq_true c247, c303, c359, eq_true c361, c373, c384, c400, eq_true c402, eq_self, ↓reduceIte, and_self, and_true, true_and]; done) | (simp only [mgreets, mgrY, mearl, mgrT, mgrC, mgrB, mgrA, mgrE, kd10, eq_true c1, hv, hjc, hjm, c125, c126, c186, c188, eq_true c191, c192, c193, eq_true c247, c303, c359, eq_true c361, c373, c384, c400, eq_true c402, eq_self, ↓reduceIte, and_self, and_true, true_and]; (try and_intros) <;> rfl)
                                    exact kRv F hr hlocks hS411 dX9_greets_415 σ411 q412 hP411 hD411
                                  · exact absurd (by decide) c402
                          · exact absurd (by decide) c361
                        · refine lv_iconst (v := 1) hx hb dX9_greets_169 (by decide) ?_
                          refine lv_goto (tgt := 174) hx hb dX9_greets_170 (by decide) ?_
                          refine lv_istore (lv' := [(7, .int 1), (6, .int (σ 22 (5 * j + 3))), (5, .int 1), (4, .int (nI j)), (0, .ref h), (1, .int v), (2, .int g), (3, .int i)]) hx hb dX9_greets_174 hl187 (by decide) rfl (fun ls413 hl413 => ?_)
                          clear hl187
                          refine lv_iload hx hb dX9_greets_176 (lv_at hl413 0 rfl) ?_
                          refine lv_if_eq (tgt := 224) hx hb dX9_greets_178 (by decide) (fun c414 => ?_) (fun c414 => ?_)
                          · exact absurd c414 (by decide)
                          · refine lv_aload_n hx hb dX9_greets_181 rfl (lv_at hl413 4 rfl) ?_
                            refine lv_aload_n hx hb dX9_greets_182 rfl (lv_at hl413 4 rfl) ?_
                            refine kget F hK hP358 9 0 29 iX9 rfl rfl (by decide) (List.mem_of_getElem? (i := 1) rfl) rfl dX9_greets_183 ?_
                            refine lv_iconst (v := 5) hx hb dX9_greets_186 (by decide) ?_
                            refine kild F hK hP358 20 5 rfl rfl (by decide) (Nat.le_of_ble_eq_true rfl) dX9_greets_187 ?_
                            refine lv_aload_n hx hb dX9_greets_188 rfl (lv_at hl413 4 rfl) ?_
                            refine kget F hK hP358 9 0 29 iX9 rfl rfl (by decide) (List.mem_of_getElem? (i := 1) rfl) rfl dX9_greets_189 ?_
                            refine lv_bipush (v := 7) hx hb dX9_greets_192 (by decide) ?_
                            refine kild F hK hP358 20 7 rfl rfl (by decide) (Nat.le_of_ble_eq_true rfl) dX9_greets_194 ?_
                            refine kWVv F hK hP358 hD358 hS358 hA hl413.1 (c_X9_sees l G h a σ (σ 29 5) (σ 29 7) E hE hE4) 9 0 gX9_greets_X9_sees rfl 2 rfl (by decide +kernel) ⟨Nat.le_of_ble_eq_true rfl, Nat.le_of_ble_eq_true rfl⟩ ⟨Nat.zero_le _, Nat.zero_le _⟩ rfl rfl (Nat.le_of_ble_eq_true rfl) rfl dX9_greets_195 (fun σ_415 H416 locs416 hw415 (hP416 : va_P G.1 vwCl (mW G h a σ_415) H416) (hD416 : va_D A (mW G h a σ_415)) hS416 => ?_)
                            clear hP358 hD358 hS358
                            have w415_0 : σ_415 = msees σ E (σ 29 5) (σ 29 7) := hw415
                            refine lv_aload_n hx hb dX9_greets_198 rfl (lv_at hl413 4 rfl) ?_
                            refine lv_dup hx hb dX9_greets_199 rfl ?_
                            refine kget F hK hP416 9 0 31 iX9 rfl rfl (by decide) (List.mem_of_getElem? (i := 5) rfl) rfl dX9_greets_200 ?_
                            rw [show (σ_415 31 0) = (σ 31 0) from by subst w415_0; first | rfl | (simp only [msend, msees]; (repeat' split) <;> rfl)]
                            refine lv_iconst (v := 1) hx hb dX9_greets_203 (by decide) ?_
                            refine lv_iadd hx hb dX9_greets_204 ?_
                            refine kMput F hK hP416 hD416 hS416 31 iX9 rfl (by decide) (List.mem_of_getElem? (i := 5) rfl) rfl rfl rfl (Nat.le_of_ble_eq_true rfl) rfl dX9_greets_205 (fun H417 locs417 σ417 eσ417 hP417 hD417 hS417 => ?_)
                            clear hP416 hD416 hS416
                            refine lv_aload_n hx hb dX9_greets_208 rfl (lv_at hl413 4 rfl) ?_
                            refine lv_dup hx hb dX9_greets_209 rfl ?_
                            refine kget F hK hP417 9 0 32 iX9 rfl rfl (by decide) (List.mem_of_getElem? (i := 6) rfl) rfl dX9_greets_210 ?_
                            rw [show (σ417 32 0) = (σ 32 0) from by subst eσ417; subst w415_0; first | rfl | (simp only [msend, msees]; (repeat' split) <;> rfl)]
                            refine lv_aload_n hx hb dX9_greets_213 rfl (lv_at hl413 4 rfl) ?_
                            refine kget F hK hP417 9 0 29 iX9 rfl rfl (by decide) (List.mem_of_getElem? (i := 1) rfl) rfl dX9_greets_214 ?_
                            refine lv_bipush (v := 8) hx hb dX9_greets_217 (by decide) ?_
                            refine kild F hK hP417 20 8 rfl rfl (by decide) (Nat.le_of_ble_eq_true rfl) dX9_greets_219 ?_
                            rw [show (σ417 29 8) = (σ 29 8) from by subst eσ417; subst w415_0; first | rfl | (simp only [msend, msees]; (repeat' split) <;> rfl)]
                            refine lv_iadd hx hb dX9_greets_220 ?_
                            refine kMput F hK hP417 hD417 hS417 32 iX9 rfl (by decide) (List.mem_of_getElem? (i := 6) rfl) rfl rfl rfl (Nat.le_of_ble_eq_true rfl) rfl dX9_greets_221 (fun H418 locs418 σ418 eσ418 hP418 hD418 hS418 => ?_)
                            clear hP417 hD417 hS417
                            refine lv_aload_n hx hb dX9_greets_224 rfl (lv_at hl413 4 rfl) ?_
                            refine lv_iconst (v := 1) hx hb dX9_greets_225 (by decide) ?_
                            refine lv_bipush (v := 8) hx hb dX9_greets_226 (by decide) ?_
                            refine kWVv F hK hP418 hD418 hS418 hA hl413.1 (c_X9_takes l G h a σ418 1 8 (by first | assumption | decide | omega) (by first | assumption | decide | omega)) 9 0 gX9_greets_X9_takes rfl 2 rfl (by decide +kernel) ⟨Nat.le_of_ble_eq_true rfl, Nat.le_of_ble_eq_true rfl⟩ ⟨Nat.zero_le _, Nat.zero_le _⟩ rfl rfl (Nat.le_of_ble_eq_true rfl) rfl dX9_greets_228 (fun σ_419 H420 locs420 hw419 (hP420 : va_P G.1 vwCl (mW G h a σ_419) H420) (hD420 : va_D A (mW G h a σ_419)) hS420 => ?_)
                            clear hP418 hD418 hS418
                            have w419_0 : σ_419 = mtakes σ418 1 (8 + 1) := hw419
                            refine lv_aload_n hx hb dX9_greets_231 rfl (lv_at hl413 4 rfl) ?_
                            refine kget F hK hP420 9 0 9 iX9 rfl rfl (by decide) (List.mem_of_getElem? (i := 7) rfl) rfl dX9_greets_232 ?_
                            refine lv_iconst (v := 1) hx hb dX9_greets_235 (by decide) ?_
                            refine lv_aload_n hx hb dX9_greets_236 rfl (lv_at hl413 4 rfl) ?_
                            refine kget F hK hP420 9 0 29 iX9 rfl rfl (by decide) (List.mem_of_getElem? (i := 1) rfl) rfl dX9_greets_237 ?_
                            refine lv_iconst (v := 4) hx hb dX9_greets_240 (by decide) ?_
                            refine kild F hK hP420 20 4 rfl rfl (by decide) (Nat.le_of_ble_eq_true rfl) dX9_greets_241 ?_
                            rw [show (σ_419 29 4) = (σ 29 4) from by subst w419_0; subst eσ418; subst eσ417; subst w415_0; first | rfl | (simp only [msend, msees]; (repeat' split) <;> rfl)]
                            refine lv_aload_n hx hb dX9_greets_242 rfl (lv_at hl413 4 rfl) ?_
                            refine kget F hK hP420 9 0 2 iX9 rfl rfl (by decide) (List.mem_of_getElem? (i := 8) rfl) rfl dX9_greets_243 ?_
                            refine lv_iconst (v := 1) hx hb dX9_greets_246 (by decide) ?_
                            refine kild F hK hP420 3 1 rfl rfl (by decide) (Nat.le_of_ble_eq_true rfl) dX9_greets_247 ?_
                            rw [show (σ_419 2 1) = (σ 2 1) from by subst w419_0; subst eσ418; subst eσ417; subst w415_0; first | rfl | (simp only [msend, msees]; (repeat' split) <;> rfl)]
                            refine lv_iload_n hx hb dX9_greets_248 rfl (lv_at hl413 6 rfl) ?_
                            refine kPSi F hK hP420 hD420 hS420 hA hl413.1 (c_X9_prime l G g) (fun _ => rfl) gX9_greets_X9_prime rfl 1 rfl (by decide +kernel) ⟨Nat.le_of_ble_eq_true rfl, Nat.le_of_ble_eq_true rfl⟩ ⟨Nat.zero_le _, Nat.zero_le _⟩ (Nat.le_of_ble_eq_true rfl) rfl dX9_greets_249 (fun r421 u421 H422 locs422 hw421 (hP422 : va_P G.1 vwCl (mW G h a σ_419) H422) (hD422 : va_D A (mW G h a σ_419)) hS422 => ?_)
                            clear hP420 hD420 hS420
                            have w421_0 : r421 = kprime g := hw421
                            refine kPSi F hK hP422 hD422 hS422 hA hl413.1 (c_X9_power l G (σ 29 4) (σ 2 1) r421 S (by subst_vars; exact kprime_1 _) hs hS) (fun _ => rfl) gX9_greets_X9_power rfl 3 rfl (by decide +kernel) ⟨Nat.le_of_ble_eq_true rfl, Nat.le_of_ble_eq_true rfl⟩ ⟨Nat.zero_le _, Nat.zero_le _⟩ (Nat.le_of_ble_eq_true rfl) rfl dX9_greets_252 (fun r423 u423 H424 locs424 hw423 (hP424 : va_P G.1 vwCl (mW G h a σ_419) H424) (hD424 : va_D A (mW G h a σ_419)) hS424 => ?_)
                            clear hP422 hD422 hS422
                            have w423_0 : r423 = mpw (σ 29 4) r421 S := hw423
                            refine lv_iload hx hb dX9_greets_255 (lv_at hl413 1 rfl) ?_
                            refine kPSi F hK hP424 hD424 hS424 hA hl413.1 (c_X9_keyOf l G r423 (σ 22 (5 * j + 3))) (fun _ => rfl) gX9_greets_X9_keyOf rfl 2 rfl (by decide +kernel) ⟨Nat.le_of_ble_eq_true rfl, Nat.le_of_ble_eq_true rfl⟩ ⟨Nat.zero_le _, Nat.zero_le _⟩ (Nat.le_of_ble_eq_true rfl) rfl dX9_greets_257 (fun r425 u425 H426 locs426 hw425 (hP426 : va_P G.1 vwCl (mW G h a σ_419) H426) (hD426 : va_D A (mW G h a σ_419)) hS426 => ?_)
                            clear hP424 hD424 hS424
                            have w425_0 : r425 = kmix (kmix 7 r423) (σ 22 (5 * j + 3)) := hw425
                            refine kMst F hK hP426 hD426 hS426 9 10 1 rfl rfl (by decide) (Nat.le_of_ble_eq_true rfl) rfl dX9_greets_260 (fun H427 locs427 σ427 eσ427 hP427 hD427 hS427 => ?_)
                            clear hP426 hD426 hS426
                            refine lv_aload_n hx hb dX9_greets_261 rfl (lv_at hl413 4 rfl) ?_
                            refine kget F hK hP427 9 0 6 iX9 rfl rfl (by decide) (List.mem_of_getElem? (i := 9) rfl) rfl dX9_greets_262 ?_
                            refine lv_iconst (v := 1) hx hb dX9_greets_265 (by decide) ?_
                            refine lv_iload_n hx hb dX9_greets_266 rfl (lv_at hl413 5 rfl) ?_
                            refine kMst F hK hP427 hD427 hS427 6 7 1 rfl rfl (by decide) (Nat.le_of_ble_eq_true rfl) rfl dX9_greets_267 (fun H428 locs428 σ428 eσ428 hP428 hD428 hS428 => ?_)
                            clear hP427 hD427 hS427
                            refine lv_aload_n hx hb dX9_greets_268 rfl (lv_at hl413 4 rfl) ?_
                            refine kget F hK hP428 9 0 7 iX9 rfl rfl (by decide) (List.mem_of_getElem? (i := 10) rfl) rfl dX9_greets_269 ?_
                            refine lv_iconst (v := 1) hx hb dX9_greets_272 (by decide) ?_
                            refine lv_iload_n hx hb dX9_greets_273 rfl (lv_at hl413 6 rfl) ?_
                            refine kMst F hK hP428 hD428 hS428 7 8 1 rfl rfl (by decide) (Nat.le_of_ble_eq_true rfl) rfl dX9_greets_274 (fun H429 locs429 σ429 eσ429 hP429 hD429 hS429 => ?_)
                            clear hP428 hD428 hS428
                            refine lv_aload_n hx hb dX9_greets_275 rfl (lv_at hl413 4 rfl) ?_
                            refine kget F hK hP429 9 0 8 iX9 rfl rfl (by decide) (List.mem_of_getElem? (i := 11) rfl) rfl dX9_greets_276 ?_
                            refine lv_iconst (v := 1) hx hb dX9_greets_279 (by decide) ?_
                            refine lv_iload hx hb dX9_greets_280 (lv_at hl413 2 rfl) ?_
                            refine lv_if_eq (tgt := 289) hx hb dX9_greets_282 (by decide) (fun c430 => ?_) (fun c430 => ?_)
                            · exact absurd c430 (by decide)
                            · refine lv_iconst (v := 1) hx hb dX9_greets_285 (by decide) ?_
                              refine lv_goto (tgt := 290) hx hb dX9_greets_286 (by decide) ?_
                              refine kMst F hK hP429 hD429 hS429 8 9 1 rfl rfl (by decide) (Nat.le_of_ble_eq_true rfl) rfl dX9_greets_290 (fun H431 locs431 σ431 eσ431 hP431 hD431 hS431 => ?_)
                              clear hP429 hD429 hS429
                              refine lv_aload_n hx hb dX9_greets_291 rfl (lv_at hl413 4 rfl) ?_
                              refine lv_iconst (v := 3) hx hb dX9_greets_292 (by decide) ?_
                              refine kWVv F hK hP431 hD431 hS431 hA hl413.1 (c_X9_clears l G h a σ431 3) 9 0 gX9_greets_X9_clears rfl 1 rfl (by decide +kernel) ⟨Nat.le_of_ble_eq_true rfl, Nat.le_of_ble_eq_true rfl⟩ ⟨Nat.zero_le _, Nat.zero_le _⟩ rfl rfl (Nat.le_of_ble_eq_true rfl) rfl dX9_greets_293 (fun σ_432 H433 locs433 hw432 (hP433 : va_P G.1 vwCl (mW G h a σ_432) H433) (hD433 : va_D A (mW G h a σ_432)) hS433 => ?_)
                              clear hP431 hD431 hS431
                              have w432_0 : σ_432 = mclr σ431 3 := hw432
                              refine lv_aload_n hx hb dX9_greets_296 rfl (lv_at hl413 4 rfl) ?_
                              refine kget F hK hP433 9 0 29 iX9 rfl rfl (by decide) (List.mem_of_getElem? (i := 1) rfl) rfl dX9_greets_297 ?_
                              refine lv_iconst (v := 1) hx hb dX9_greets_300 (by decide) ?_
                              refine lv_iload_n hx hb dX9_greets_301 rfl (lv_at hl413 5 rfl) ?_
                              refine kMst F hK hP433 hD433 hS433 29 20 1 rfl rfl (by decide) (Nat.le_of_ble_eq_true rfl) rfl dX9_greets_302 (fun H434 locs434 σ434 eσ434 hP434 hD434 hS434 => ?_)
                              clear hP433 hD433 hS433
                              refine lv_aload_n hx hb dX9_greets_303 rfl (lv_at hl413 4 rfl) ?_
                              refine kget F hK hP434 9 0 29 iX9 rfl rfl (by decide) (List.mem_of_getElem? (i := 1) rfl) rfl dX9_greets_304 ?_
                              refine lv_iconst (v := 2) hx hb dX9_greets_307 (by decide) ?_
                              refine lv_iload_n hx hb dX9_greets_308 rfl (lv_at hl413 6 rfl) ?_
                              refine kMst F hK hP434 hD434 hS434 29 20 2 rfl rfl (by decide) (Nat.le_of_ble_eq_true rfl) rfl dX9_greets_309 (fun H435 locs435 σ435 eσ435 hP435 hD435 hS435 => ?_)
                              clear hP434 hD434 hS434
                              refine lv_aload_n hx hb dX9_greets_310 rfl (lv_at hl413 4 rfl) ?_
                              refine kget F hK hP435 9 0 29 iX9 rfl rfl (by decide) (List.mem_of_getElem? (i := 1) rfl) rfl dX9_greets_311 ?_
                              refine lv_iconst (v := 3) hx hb dX9_greets_314 (by decide) ?_
                              refine lv_iload_n hx hb dX9_greets_315 rfl (lv_at hl413 6 rfl) ?_
                              refine lv_aload_n hx hb dX9_greets_316 rfl (lv_at hl413 4 rfl) ?_
                              refine kget F hK hP435 9 0 2 iX9 rfl rfl (by decide) (List.mem_of_getElem? (i := 8) rfl) rfl dX9_greets_317 ?_
                              refine lv_iconst (v := 1) hx hb dX9_greets_320 (by decide) ?_
                              refine kild F hK hP435 3 1 rfl rfl (by decide) (Nat.le_of_ble_eq_true rfl) dX9_greets_321 ?_
                              rw [show (σ435 2 1) = (σ 2 1) from by subst eσ435; subst eσ434; subst w432_0; subst eσ431; subst eσ429; subst eσ428; subst eσ427; subst w419_0; subst eσ418; subst eσ417; subst w415_0; first | rfl | (simp only [msend, msees]; (repeat' split) <;> rfl)]
                              refine kPSi F hK hP435 hD435 hS435 hA hl413.1 (c_X9_shareOf l G g (σ 2 1) S hs hS) (fun _ => rfl) gX9_greets_X9_shareOf rfl 2 rfl (by decide +kernel) ⟨Nat.le_of_ble_eq_true rfl, Nat.le_of_ble_eq_true rfl⟩ ⟨Nat.zero_le _, Nat.zero_le _⟩ (Nat.le_of_ble_eq_true rfl) rfl dX9_greets_322 (fun r436 u436 H437 locs437 hw436 (hP437 : va_P G.1 vwCl (mW G h a σ435) H437) (hD437 : va_D A (mW G h a σ435)) hS437 => ?_)
                              clear hP435 hD435 hS435
                              have w436_0 : r436 = mshare g S := hw436
                              refine kMst F hK hP437 hD437 hS437 29 20 3 rfl rfl (by decide) (Nat.le_of_ble_eq_true rfl) rfl dX9_greets_325 (fun H438 locs438 σ438 eσ438 hP438 hD438 hS438 => ?_)
                              clear hP437 hD437 hS437
                              refine lv_aload_n hx hb dX9_greets_326 rfl (lv_at hl413 4 rfl) ?_
                              refine kget F hK hP438 9 0 29 iX9 rfl rfl (by decide) (List.mem_of_getElem? (i := 1) rfl) rfl dX9_greets_327 ?_
                              refine lv_iconst (v := 4) hx hb dX9_greets_330 (by decide) ?_
                              refine lv_aload_n hx hb dX9_greets_331 rfl (lv_at hl413 4 rfl) ?_
                              refine kget F hK hP438 9 0 0 iX9 rfl rfl (by decide) (List.mem_of_getElem? (i := 12) rfl) rfl dX9_greets_332 ?_
                              refine lv_iconst (v := 1) hx hb dX9_greets_335 (by decide) ?_
                              refine kild F hK hP438 1 1 rfl rfl (by decide) (Nat.le_of_ble_eq_true rfl) dX9_greets_336 ?_
                              rw [show (σ438 0 1) = (σ 0 1) from by subst eσ438; subst eσ435; subst eσ434; subst w432_0; subst eσ431; subst eσ429; subst eσ428; subst eσ427; subst w419_0; subst eσ418; subst eσ417; subst w415_0; first | rfl | (simp only [msend, msees]; (repeat' split) <;> rfl)]
                              refine lv_iload_n hx hb dX9_greets_337 rfl (lv_at hl413 5 rfl) ?_
                              refine kPSi F hK hP438 hD438 hS438 hA hl413.1 (c_X9_hasAbove l G (σ 0 1) v hvv) (fun _ => rfl) gX9_greets_X9_hasAbove rfl 2 rfl (by decide +kernel) ⟨Nat.le_of_ble_eq_true rfl, Nat.le_of_ble_eq_true rfl⟩ ⟨Nat.zero_le _, Nat.zero_le _⟩ (Nat.le_of_ble_eq_true rfl) rfl dX9_greets_338 (fun r439 u439 H440 locs440 hw439 (hP440 : va_P G.1 vwCl (mW G h a σ438) H440) (hD440 : va_D A (mW G h a σ438)) hS440 => ?_)
                              clear hP438 hD438 hS438
                              have w439_0 : r439 = mab (σ 0 1) v := hw439
                              refine lv_if_eq (tgt := 348) hx hb dX9_greets_341 (by decide) (fun c441 => ?_) (fun c441 => ?_)
                              · refine lv_iconst (v := 0) hx hb dX9_greets_348 (by decide) ?_
                                refine kMst F hK hP440 hD440 hS440 29 20 4 rfl rfl (by decide) (Nat.le_of_ble_eq_true rfl) rfl dX9_greets_349 (fun H442 locs442 σ442 eσ442 hP442 hD442 hS442 => ?_)
                                clear hP440 hD440 hS440
                                refine lv_aload_n hx hb dX9_greets_350 rfl (lv_at hl413 4 rfl) ?_
                                refine kget F hK hP442 9 0 29 iX9 rfl rfl (by decide) (List.mem_of_getElem? (i := 1) rfl) rfl dX9_greets_351 ?_
                                refine lv_iconst (v := 5) hx hb dX9_greets_354 (by decide) ?_
                                refine lv_iload hx hb dX9_greets_355 (lv_at hl413 2 rfl) ?_
                                refine lv_if_eq (tgt := 364) hx hb dX9_greets_357 (by decide) (fun c443 => ?_) (fun c443 => ?_)
                                · exact absurd c443 (by decide)
                                · refine lv_iconst (v := 1) hx hb dX9_greets_360 (by decide) ?_
                                  refine lv_goto (tgt := 365) hx hb dX9_greets_361 (by decide) ?_
                                  refine kMst F hK hP442 hD442 hS442 29 20 5 rfl rfl (by decide) (Nat.le_of_ble_eq_true rfl) rfl dX9_greets_365 (fun H444 locs444 σ444 eσ444 hP444 hD444 hS444 => ?_)
                                  clear hP442 hD442 hS442
                                  refine lv_aload_n hx hb dX9_greets_366 rfl (lv_at hl413 4 rfl) ?_
                                  refine kget F hK hP444 9 0 29 iX9 rfl rfl (by decide) (List.mem_of_getElem? (i := 1) rfl) rfl dX9_greets_367 ?_
                                  refine lv_bipush (v := 6) hx hb dX9_greets_370 (by decide) ?_
                                  refine lv_iload hx hb dX9_greets_372 (lv_at hl413 0 rfl) ?_
                                  refine lv_if_eq (tgt := 381) hx hb dX9_greets_374 (by decide) (fun c445 => ?_) (fun c445 => ?_)
                                  · exact absurd c445 (by decide)
                                  · refine lv_iconst (v := 1) hx hb dX9_greets_377 (by decide) ?_
                                    refine lv_goto (tgt := 382) hx hb dX9_greets_378 (by decide) ?_
                                    refine kMst F hK hP444 hD444 hS444 29 20 6 rfl rfl (by decide) (Nat.le_of_ble_eq_true rfl) rfl dX9_greets_382 (fun H446 locs446 σ446 eσ446 hP446 hD446 hS446 => ?_)
                                    clear hP444 hD444 hS444
                                    refine lv_aload_n hx hb dX9_greets_383 rfl (lv_at hl413 4 rfl) ?_
                                    refine lv_iconst (v := 1) hx hb dX9_greets_384 (by decide) ?_
                                    refine lv_bipush (v := 6) hx hb dX9_greets_385 (by decide) ?_
                                    refine kWVv F hK hP446 hD446 hS446 hA hl413.1 (c_X9_takes l G h a σ446 1 6 (by first | assumption | decide | omega) (by first | assumption | decide | omega)) 9 0 gX9_greets_X9_takes rfl 2 rfl (by decide +kernel) ⟨Nat.le_of_ble_eq_true rfl, Nat.le_of_ble_eq_true rfl⟩ ⟨Nat.zero_le _, Nat.zero_le _⟩ rfl rfl (Nat.le_of_ble_eq_true rfl) rfl dX9_greets_387 (fun σ_447 H448 locs448 hw447 (hP448 : va_P G.1 vwCl (mW G h a σ_447) H448) (hD448 : va_D A (mW G h a σ_447)) hS448 => ?_)
                                    clear hP446 hD446 hS446
                                    have w447_0 : σ_447 = mtakes σ446 1 (6 + 1) := hw447
                                    refine lv_aload_n hx hb dX9_greets_390 rfl (lv_at hl413 4 rfl) ?_
                                    refine kget F hK hP448 9 0 29 iX9 rfl rfl (by decide) (List.mem_of_getElem? (i := 1) rfl) rfl dX9_greets_391 ?_
                                    refine lv_bipush (v := 7) hx hb dX9_greets_394 (by decide) ?_
                                    refine lv_aload_n hx hb dX9_greets_396 rfl (lv_at hl413 4 rfl) ?_
                                    refine lv_iconst (v := 1) hx hb dX9_greets_397 (by decide) ?_
                                    refine lv_iconst (v := 1) hx hb dX9_greets_398 (by decide) ?_
                                    refine kWVi F hK hP448 hD448 hS448 hA hl413.1 (c_X9_proof l G h a σ_447 1 1 (by first | assumption | decide | omega)) 9 0 gX9_greets_X9_proof rfl 2 rfl (by decide +kernel) ⟨Nat.le_of_ble_eq_true rfl, Nat.le_of_ble_eq_true rfl⟩ ⟨Nat.zero_le _, Nat.zero_le _⟩ rfl rfl (Nat.le_of_ble_eq_true rfl) rfl dX9_greets_399 (fun r449 u449 H450 locs450 hw449 (hP450 : va_P G.1 vwCl (mW G h a σ_447) H450) (hD450 : va_D A (mW G h a σ_447)) hS450 => ?_)
                                    clear hP448 hD448 hS448
                                    have w449_0 : r449 = mproof σ_447 1 1 := hw449
                                    refine kMst F hK hP450 hD450 hS450 29 20 7 rfl rfl (by decide) (Nat.le_of_ble_eq_true rfl) rfl dX9_greets_402 (fun H451 locs451 σ451 eσ451 hP451 hD451 hS451 => ?_)
                                    clear hP450 hD450 hS450
                                    refine lv_aload_n hx hb dX9_greets_403 rfl (lv_at hl413 4 rfl) ?_
                                    refine lv_iconst (v := 0) hx hb dX9_greets_404 (by decide) ?_
                                    refine kWVv F hK hP451 hD451 hS451 hA hl413.1 (c_X9_sends l G h a σ451 0 Mn (by first | assumption | decide | omega) (by subst eσ451; subst w449_0; subst w447_0; subst eσ446; subst eσ444; subst eσ442; subst w439_0; subst eσ438; subst w436_0; subst eσ435; subst eσ434; subst w432_0; subst eσ431; subst eσ429; subst eσ428; subst eσ427; subst w425_0; subst w423_0; subst w421_0; subst w419_0; subst eσ418; subst eσ417; subst w415_0; subst w357_0; subst w301_0; subst w189_0; first | exact hM | (simp only [msees, mtakes, mclr]; (repeat' split) <;> exact hM)) hM8) 9 0 gX9_greets_X9_sends rfl 1 rfl (by decide +kernel) ⟨Nat.le_of_ble_eq_true rfl, Nat.le_of_ble_eq_true rfl⟩ ⟨Nat.zero_le _, Nat.zero_le _⟩ rfl rfl (Nat.le_of_ble_eq_true rfl) rfl dX9_greets_405 (fun σ_452 H453 locs453 hw452 (hP453 : va_P G.1 vwCl (mW G h a σ_452) H453) (hD453 : va_D A (mW G h a σ_452)) hS453 => ?_)
                                    clear hP451 hD451 hS451
                                    have w452_0 : σ_452 = msend σ451 0 Mn := hw452
                                    refine lv_aload_n hx hb dX9_greets_408 rfl (lv_at hl413 4 rfl) ?_
                                    refine kget F hK hP453 9 0 3 iX9 rfl rfl (by decide) (List.mem_of_getElem? (i := 13) rfl) rfl dX9_greets_409 ?_
                                    refine lv_iconst (v := 1) hx hb dX9_greets_412 (by decide) ?_
                                    refine lv_iconst (v := 3) hx hb dX9_greets_413 (by decide) ?_
                                    refine kMst F hK hP453 hD453 hS453 3 4 1 rfl rfl (by decide) (Nat.le_of_ble_eq_true rfl) rfl dX9_greets_414 (fun H454 locs454 σ454 eσ454 hP454 hD454 hS454 => ?_)
                                    clear hP453 hD453 hS453
                                    have q455 : σ454 = mgreets σ v g i S Mn E K := by
                                      subst eσ454
                                      subst w452_0
                                      subst eσ451
                                      subst w449_0
                                      subst w447_0
                                      subst eσ446
                                      subst eσ444
                                      subst eσ442
                                      subst w439_0
                                      subst eσ438
                                      subst w436_0
                                      subst eσ435
                                      subst eσ434
                                      subst w432_0
                                      subst eσ431
                                      subst eσ429
                                      subst eσ428
                                      subst eσ427
                                      subst w425_0
                                      subst w423_0
                                      subst w421_0
                                      subst w419_0
                                      subst eσ418
                                      subst eσ417
                                      subst w415_0
                                      subst w357_0
                                      subst w301_0
                                      subst w189_0
                                      first | (simp only [mgreets, mgrY, mearl, mgrT, mgrC, mgrB, mgrA, mgrE, kd10, eq_true c1, hv, hjc, hjm, c125, c126, c186, c188, eq_true c191, c192, c193, eq_true c247, c303, eq_true c359, c414, c430, eq_true c441, c443, c445, eq_self, ↓reduceIte, and_self, and_true, true_and]; done) | (simp only [mgreets, mgrY, mearl, mgrT, mgrC, mgrB, mgrA, mgrE, kd10, eq_true c1, hv, hjc, hjm, c125, c126, c186, c188, eq_true c191, c192, c193, eq_true c247, c303, eq_true c359, c414, c430, eq_true c441, c443, c445, eq_self, ↓reduceIte, and_self, and_true, true_and]; (try and_intros) <;> rfl)
                                    exact kRv F hr hlocks hS454 dX9_greets_415 σ454 q455 hP454 hD454
                              · refine lv_iconst (v := 1) hx hb dX9_greets_344 (by decide) ?_
                                refine lv_goto (tgt := 349) hx hb dX9_greets_345 (by decide) ?_
                                refine kMst F hK hP440 hD440 hS440 29 20 4 rfl rfl (by decide) (Nat.le_of_ble_eq_true rfl) rfl dX9_greets_349 (fun H456 locs456 σ456 eσ456 hP456 hD456 hS456 => ?_)
                                clear hP440 hD440 hS440
                                refine lv_aload_n hx hb dX9_greets_350 rfl (lv_at hl413 4 rfl) ?_
                                refine kget F hK hP456 9 0 29 iX9 rfl rfl (by decide) (List.mem_of_getElem? (i := 1) rfl) rfl dX9_greets_351 ?_
                                refine lv_iconst (v := 5) hx hb dX9_greets_354 (by decide) ?_
                                refine lv_iload hx hb dX9_greets_355 (lv_at hl413 2 rfl) ?_
                                refine lv_if_eq (tgt := 364) hx hb dX9_greets_357 (by decide) (fun c457 => ?_) (fun c457 => ?_)
                                · exact absurd c457 (by decide)
                                · refine lv_iconst (v := 1) hx hb dX9_greets_360 (by decide) ?_
                                  refine lv_goto (tgt := 365) hx hb dX9_greets_361 (by decide) ?_
                                  refine kMst F hK hP456 hD456 hS456 29 20 5 rfl rfl (by decide) (Nat.le_of_ble_eq_true rfl) rfl dX9_greets_365 (fun H458 locs458 σ458 eσ458 hP458 hD458 hS458 => ?_)
                                  clear hP456 hD456 hS456
                                  refine lv_aload_n hx hb dX9_greets_366 rfl (lv_at hl413 4 rfl) ?_
                                  refine kget F hK hP458 9 0 29 iX9 rfl rfl (by decide) (List.mem_of_getElem? (i := 1) rfl) rfl dX9_greets_367 ?_
                                  refine lv_bipush (v := 6) hx hb dX9_greets_370 (by decide) ?_
                                  refine lv_iload hx hb dX9_greets_372 (lv_at hl413 0 rfl) ?_
                                  refine lv_if_eq (tgt := 381) hx hb dX9_greets_374 (by decide) (fun c459 => ?_) (fun c459 => ?_)
                                  · exact absurd c459 (by decide)
                                  · refine lv_iconst (v := 1) hx hb dX9_greets_377 (by decide) ?_
                                    refine lv_goto (tgt := 382) hx hb dX9_greets_378 (by decide) ?_
                                    refine kMst F hK hP458 hD458 hS458 29 20 6 rfl rfl (by decide) (Nat.le_of_ble_eq_true rfl) rfl dX9_greets_382 (fun H460 locs460 σ460 eσ460 hP460 hD460 hS460 => ?_)
                                    clear hP458 hD458 hS458
                                    refine lv_aload_n hx hb dX9_greets_383 rfl (lv_at hl413 4 rfl) ?_
                                    refine lv_iconst (v := 1) hx hb dX9_greets_384 (by decide) ?_
                                    refine lv_bipush (v := 6) hx hb dX9_greets_385 (by decide) ?_
                                    refine kWVv F hK hP460 hD460 hS460 hA hl413.1 (c_X9_takes l G h a σ460 1 6 (by first | assumption | decide | omega) (by first | assumption | decide | omega)) 9 0 gX9_greets_X9_takes rfl 2 rfl (by decide +kernel) ⟨Nat.le_of_ble_eq_true rfl, Nat.le_of_ble_eq_true rfl⟩ ⟨Nat.zero_le _, Nat.zero_le _⟩ rfl rfl (Nat.le_of_ble_eq_true rfl) rfl dX9_greets_387 (fun σ_461 H462 locs462 hw461 (hP462 : va_P G.1 vwCl (mW G h a σ_461) H462) (hD462 : va_D A (mW G h a σ_461)) hS462 => ?_)
                                    clear hP460 hD460 hS460
                                    have w461_0 : σ_461 = mtakes σ460 1 (6 + 1) := hw461
                                    refine lv_aload_n hx hb dX9_greets_390 rfl (lv_at hl413 4 rfl) ?_
                                    refine kget F hK hP462 9 0 29 iX9 rfl rfl (by decide) (List.mem_of_getElem? (i := 1) rfl) rfl dX9_greets_391 ?_
                                    refine lv_bipush (v := 7) hx hb dX9_greets_394 (by decide) ?_
                                    refine lv_aload_n hx hb dX9_greets_396 rfl (lv_at hl413 4 rfl) ?_
                                    refine lv_iconst (v := 1) hx hb dX9_greets_397 (by decide) ?_
                                    refine lv_iconst (v := 1) hx hb dX9_greets_398 (by decide) ?_
                                    refine kWVi F hK hP462 hD462 hS462 hA hl413.1 (c_X9_proof l G h a σ_461 1 1 (by first | assumption | decide | omega)) 9 0 gX9_greets_X9_proof rfl 2 rfl (by decide +kernel) ⟨Nat.le_of_ble_eq_true rfl, Nat.le_of_ble_eq_true rfl⟩ ⟨Nat.zero_le _, Nat.zero_le _⟩ rfl rfl (Nat.le_of_ble_eq_true rfl) rfl dX9_greets_399 (fun r463 u463 H464 locs464 hw463 (hP464 : va_P G.1 vwCl (mW G h a σ_461) H464) (hD464 : va_D A (mW G h a σ_461)) hS464 => ?_)
                                    clear hP462 hD462 hS462
                                    have w463_0 : r463 = mproof σ_461 1 1 := hw463
                                    refine kMst F hK hP464 hD464 hS464 29 20 7 rfl rfl (by decide) (Nat.le_of_ble_eq_true rfl) rfl dX9_greets_402 (fun H465 locs465 σ465 eσ465 hP465 hD465 hS465 => ?_)
                                    clear hP464 hD464 hS464
                                    refine lv_aload_n hx hb dX9_greets_403 rfl (lv_at hl413 4 rfl) ?_
                                    refine lv_iconst (v := 0) hx hb dX9_greets_404 (by decide) ?_
                                    refine kWVv F hK hP465 hD465 hS465 hA hl413.1 (c_X9_sends l G h a σ465 0 Mn (by first | assumption | decide | omega) (by subst eσ465; subst w463_0; subst w461_0; subst eσ460; subst eσ458; subst eσ456; subst w439_0; subst eσ438; subst w436_0; subst eσ435; subst eσ434; subst w432_0; subst eσ431; subst eσ429; subst eσ428; subst eσ427; subst w425_0; subst w423_0; subst w421_0; subst w419_0; subst eσ418; subst eσ417; subst w415_0; subst w357_0; subst w301_0; subst w189_0; first | exact hM | (simp only [msees, mtakes, mclr]; (repeat' split) <;> exact hM)) hM8) 9 0 gX9_greets_X9_sends rfl 1 rfl (by decide +kernel) ⟨Nat.le_of_ble_eq_true rfl, Nat.le_of_ble_eq_true rfl⟩ ⟨Nat.zero_le _, Nat.zero_le _⟩ rfl rfl (Nat.le_of_ble_eq_true rfl) rfl dX9_greets_405 (fun σ_466 H467 locs467 hw466 (hP467 : va_P G.1 vwCl (mW G h a σ_466) H467) (hD467 : va_D A (mW G h a σ_466)) hS467 => ?_)
                                    clear hP465 hD465 hS465
                                    have w466_0 : σ_466 = msend σ465 0 Mn := hw466
                                    refine lv_aload_n hx hb dX9_greets_408 rfl (lv_at hl413 4 rfl) ?_
                                    refine kget F hK hP467 9 0 3 iX9 rfl rfl (by decide) (List.mem_of_getElem? (i := 13) rfl) rfl dX9_greets_409 ?_
                                    refine lv_iconst (v := 1) hx hb dX9_greets_412 (by decide) ?_
                                    refine lv_iconst (v := 3) hx hb dX9_greets_413 (by decide) ?_
                                    refine kMst F hK hP467 hD467 hS467 3 4 1 rfl rfl (by decide) (Nat.le_of_ble_eq_true rfl) rfl dX9_greets_414 (fun H468 locs468 σ468 eσ468 hP468 hD468 hS468 => ?_)
                                    clear hP467 hD467 hS467
                                    have q469 : σ468 = mgreets σ v g i S Mn E K := by
                                      subst eσ468
                                      subst w466_0
                                      subst eσ465
                                      subst w463_0
                                      subst w461_0
                                      subst eσ460
                                      subst eσ458
                                      subst eσ456
                                      subst w439_0
                                      subst eσ438
                                      subst w436_0
                                      subst eσ435
                                      subst eσ434
                                      subst w432_0
                                      subst eσ431
                                      subst eσ429
                                      subst eσ428
                                      subst eσ427
                                      subst w425_0
                                      subst w423_0
                                      subst w421_0
                                      subst w419_0
                                      subst eσ418
                                      subst eσ417
                                      subst w415_0
                                      subst w357_0
                                      subst w301_0
                                      subst w189_0
                                      first | (simp only [mgreets, mgrY, mearl, mgrT, mgrC, mgrB, mgrA, mgrE, kd10, eq_true c1, hv, hjc, hjm, c125, c126, c186, c188, eq_true c191, c192, c193, eq_true c247, c303, eq_true c359, c414, c430, c441, c457, c459, eq_self, ↓reduceIte, and_self, and_true, true_and]; done) | (simp only [mgreets, mgrY, mearl, mgrT, mgrC, mgrB, mgrA, mgrE, kd10, eq_true c1, hv, hjc, hjm, c125, c126, c186, c188, eq_true c191, c192, c193, eq_true c247, c303, eq_true c359, c414, c430, c441, c457, c459, eq_self, ↓reduceIte, and_self, and_true, true_and]; (try and_intros) <;> rfl)
                                    exact kRv F hr hlocks hS468 dX9_greets_415 σ468 q469 hP468 hD468
              · refine lv_aload_n hx hb dX9_greets_113 rfl (lv_at hl187 3 rfl) ?_
                refine lv_iconst (v := 1) hx hb dX9_greets_114 (by decide) ?_
                refine lv_bipush (v := 6) hx hb dX9_greets_115 (by decide) ?_
                refine kWVv F hK hP190 hD190 hS190 hA hl187.1 (c_X9_fails l G h a σ 1 6 (by first | assumption | decide | omega)) 9 0 gX9_greets_X9_fails rfl 2 rfl (by decide +kernel) ⟨Nat.le_of_ble_eq_true rfl, Nat.le_of_ble_eq_true rfl⟩ ⟨Nat.zero_le _, Nat.zero_le _⟩ rfl rfl (Nat.le_of_ble_eq_true rfl) rfl dX9_greets_117 (fun σ_470 H471 locs471 hw470 (hP471 : va_P G.1 vwCl (mW G h a σ_470) H471) (hD471 : va_D A (mW G h a σ_470)) hS471 => ?_)
                clear hP190 hD190 hS190
                have w470_0 : σ_470 = mfail σ 1 6 := hw470
                have q472 : σ_470 = mgreets σ v g i S Mn E K := by
                  subst w470_0
                  subst w189_0
                  first | (simp only [mgreets, mgrY, mearl, mgrT, mgrC, mgrB, mgrA, mgrE, kd10, eq_true c1, hv, hjc, hjm, c125, c126, c186, c188, c191, eq_self, ↓reduceIte, and_self, and_true, true_and]; done) | (simp only [mgreets, mgrY, mearl, mgrT, mgrC, mgrB, mgrA, mgrE, kd10, eq_true c1, hv, hjc, hjm, c125, c126, c186, c188, c191, eq_self, ↓reduceIte, and_self, and_true, true_and]; (try and_intros) <;> rfl)
                exact kRv F hr hlocks hS471 dX9_greets_120 σ_470 q472 hP471 hD471
set_option maxHeartbeats 1000000 in
set_option maxRecDepth 100000 in
theorem c_X9_comesHello (l : Launch) (G : kG) (h : Nat) (a : Nat → Nat) (σ : kS) (S : Nat) (Mn : Nat) (E : Nat) (K : Nat) (hKe : σ 20 0 = nI K) (hK3 : K ≤ 3) (hE : σ 23 0 = nI E) (hE4 : E ≤ 4) (hs : σ 2 1 = nI S) (hS : S ≤ 2147483646) (hM : σ 26 0 = nI Mn) (hM8 : Mn ≤ 8) (hv7 : ∃ n, n < 8 ∧ σ 0 1 = nI n) : kM G l yX9_comesHello wsX9_comesHello ({ frames := 4, cells := 0, slots := 0, locals := 96 }) [.ref h] (mW G h a σ) (kQv G (fun (uu : kS) => uu = mchel σ S Mn E K) (fun (uu : kS) => mW G h a uu)) := by
  refine kStart (cc := cX9_comesHello) (maxL := 5) (ret := none) (by decide) rfl (Nat.le_of_ble_eq_true rfl) (fun pg ev st mi bl mt cd A ls0 F hr hlocks hin hK hP0 hD0 hA hS0 hl0 => ?_)
  obtain ⟨hx, hb, hml, hown, hts⟩ := id F
  have hl0 : lv_has ls0 5 [(0, .ref h)] := hl0
  have iX9 : ∀ w ∈ u_ws RX9 TX9 43, w ∈ wsX9_comesHello := fun w h => List.mem_cons_of_mem _ (List.mem_append_right _ h)
  refine lv_aload_n hx hb dX9_comesHello_0 rfl (lv_at hl0 0 rfl) ?_
  refine kget F hK hP0 9 0 29 iX9 rfl rfl (by decide) (List.mem_of_getElem? (i := 1) rfl) rfl dX9_comesHello_1 ?_
  refine lv_iconst (v := 1) hx hb dX9_comesHello_4 (by decide) ?_
  refine kild F hK hP0 20 1 rfl rfl (by decide) (Nat.le_of_ble_eq_true rfl) dX9_comesHello_5 ?_
  refine lv_aload_n hx hb dX9_comesHello_6 rfl (lv_at hl0 0 rfl) ?_
  refine kget F hK hP0 9 0 0 iX9 rfl rfl (by decide) (List.mem_of_getElem? (i := 2) rfl) rfl dX9_comesHello_7 ?_
  refine lv_iconst (v := 1) hx hb dX9_comesHello_10 (by decide) ?_
  refine kild F hK hP0 1 1 rfl rfl (by decide) (Nat.le_of_ble_eq_true rfl) dX9_comesHello_11 ?_
  refine lv_iand hx hb dX9_comesHello_12 ?_
  refine lv_istore_n (lv' := [(1, .int ((σ 29 1) &&& (σ 0 1))), (0, .ref h)]) hx hb dX9_comesHello_13 rfl hl0 (by decide) rfl (fun ls1 hl1 => ?_)
  clear hl0
  refine lv_aload_n hx hb dX9_comesHello_14 rfl (lv_at hl1 1 rfl) ?_
  refine kget F hK hP0 9 0 29 iX9 rfl rfl (by decide) (List.mem_of_getElem? (i := 1) rfl) rfl dX9_comesHello_15 ?_
  refine lv_iconst (v := 2) hx hb dX9_comesHello_18 (by decide) ?_
  refine kild F hK hP0 20 2 rfl rfl (by decide) (Nat.le_of_ble_eq_true rfl) dX9_comesHello_19 ?_
  refine lv_aload_n hx hb dX9_comesHello_20 rfl (lv_at hl1 1 rfl) ?_
  refine kget F hK hP0 9 0 1 iX9 rfl rfl (by decide) (List.mem_of_getElem? (i := 3) rfl) rfl dX9_comesHello_21 ?_
  refine lv_iconst (v := 1) hx hb dX9_comesHello_24 (by decide) ?_
  refine kild F hK hP0 2 1 rfl rfl (by decide) (Nat.le_of_ble_eq_true rfl) dX9_comesHello_25 ?_
  refine lv_iand hx hb dX9_comesHello_26 ?_
  refine kPSi F hK hP0 hD0 hS0 hA hl1.1 (c_X9_greatest l G ((σ 29 2) &&& (σ 1 1))) (fun _ => rfl) gX9_comesHello_X9_greatest rfl 1 rfl (by decide +kernel) ⟨Nat.le_of_ble_eq_true rfl, Nat.le_of_ble_eq_true rfl⟩ ⟨Nat.zero_le _, Nat.zero_le _⟩ (Nat.le_of_ble_eq_true rfl) rfl dX9_comesHello_27 (fun r2 u2 H3 locs3 hw2 (hP3 : va_P G.1 vwCl (mW G h a σ) H3) (hD3 : va_D A (mW G h a σ)) hS3 => ?_)
  clear hP0 hD0 hS0
  have w2_0 : r2 = mgreat ((σ 29 2) &&& (σ 1 1)) := hw2
  refine lv_istore_n (lv' := [(2, .int r2), (1, .int ((σ 29 1) &&& (σ 0 1))), (0, .ref h)]) hx hb dX9_comesHello_30 rfl hl1 (by decide) rfl (fun ls4 hl4 => ?_)
  clear hl1
  refine lv_aload_n hx hb dX9_comesHello_31 rfl (lv_at hl4 2 rfl) ?_
  refine kget F hK hP3 9 0 3 iX9 rfl rfl (by decide) (List.mem_of_getElem? (i := 4) rfl) rfl dX9_comesHello_32 ?_
  refine lv_iconst (v := 1) hx hb dX9_comesHello_35 (by decide) ?_
  refine kild F hK hP3 4 1 rfl rfl (by decide) (Nat.le_of_ble_eq_true rfl) dX9_comesHello_36 ?_
  refine lv_iconst (v := 2) hx hb dX9_comesHello_37 (by decide) ?_
  refine lv_icmp_ne (tgt := 45) hx hb dX9_comesHello_38 (by decide) (fun c5 => ?_) (fun c5 => ?_)
  · refine lv_iconst (v := 0) hx hb dX9_comesHello_45 (by decide) ?_
    refine lv_istore_n (lv' := [(3, .int 0), (2, .int r2), (1, .int ((σ 29 1) &&& (σ 0 1))), (0, .ref h)]) hx hb dX9_comesHello_46 rfl hl4 (by decide) rfl (fun ls6 hl6 => ?_)
    clear hl4
    refine lv_iload_n hx hb dX9_comesHello_47 rfl (lv_at hl6 2 rfl) ?_
    refine lv_if_ne (tgt := 55) hx hb dX9_comesHello_48 (by decide) (fun c7 => ?_) (fun c7 => ?_)
    · refine lv_iload_n hx hb dX9_comesHello_55 rfl (lv_at hl6 1 rfl) ?_
      refine lv_iconst (v := (-1)) hx hb dX9_comesHello_56 (by decide) ?_
      refine lv_icmp_ne (tgt := 64) hx hb dX9_comesHello_57 (by decide) (fun c8 => ?_) (fun c8 => ?_)
      · refine lv_iload_n hx hb dX9_comesHello_64 rfl (lv_at hl6 0 rfl) ?_
        refine lv_if_eq (tgt := 82) hx hb dX9_comesHello_65 (by decide) (fun c9 => ?_) (fun c9 => ?_)
        · refine lv_iconst (v := 0) hx hb dX9_comesHello_82 (by decide) ?_
          refine lv_istore (lv' := [(4, .int 0), (3, .int 0), (2, .int r2), (1, .int ((σ 29 1) &&& (σ 0 1))), (0, .ref h)]) hx hb dX9_comesHello_83 hl6 (by decide) rfl (fun ls10 hl10 => ?_)
          clear hl6
          refine lv_iload hx hb dX9_comesHello_85 (lv_at hl10 0 rfl) ?_
          refine lv_if_le (tgt := 100) hx hb dX9_comesHello_87 (by decide) (fun c11 => ?_) (fun c11 => ?_)
          · refine lv_aload_n hx hb dX9_comesHello_100 rfl (lv_at hl10 4 rfl) ?_
            refine kget F hK hP3 9 0 29 iX9 rfl rfl (by decide) (List.mem_of_getElem? (i := 1) rfl) rfl dX9_comesHello_101 ?_
            refine lv_iconst (v := 3) hx hb dX9_comesHello_104 (by decide) ?_
            refine kild F hK hP3 20 3 rfl rfl (by decide) (Nat.le_of_ble_eq_true rfl) dX9_comesHello_105 ?_
            refine lv_iload_n hx hb dX9_comesHello_106 rfl (lv_at hl10 2 rfl) ?_
            refine lv_icmp_eq (tgt := 151) hx hb dX9_comesHello_107 (by decide) (fun c12 => ?_) (fun c12 => ?_)
            · refine lv_aload_n hx hb dX9_comesHello_151 rfl (lv_at hl10 4 rfl) ?_
              refine kget F hK hP3 9 0 29 iX9 rfl rfl (by decide) (List.mem_of_getElem? (i := 1) rfl) rfl dX9_comesHello_152 ?_
              refine lv_iconst (v := 4) hx hb dX9_comesHello_155 (by decide) ?_
              refine kild F hK hP3 20 4 rfl rfl (by decide) (Nat.le_of_ble_eq_true rfl) dX9_comesHello_156 ?_
              refine lv_i2l (v := (σ 29 4).toInt64) hx hb dX9_comesHello_157 rfl ?_
              refine lv_lconst (v := 1) hx hb dX9_comesHello_158 (by decide) ?_
              refine lv_iload_n hx hb dX9_comesHello_159 rfl (lv_at hl10 2 rfl) ?_
              refine kPSi F hK hP3 hD3 hS3 hA hl10.1 (c_X9_prime l G r2) (fun _ => rfl) gX9_comesHello_X9_prime rfl 1 rfl (by decide +kernel) ⟨Nat.le_of_ble_eq_true rfl, Nat.le_of_ble_eq_true rfl⟩ ⟨Nat.zero_le _, Nat.zero_le _⟩ (Nat.le_of_ble_eq_true rfl) rfl dX9_comesHello_160 (fun r13 u13 H14 locs14 hw13 (hP14 : va_P G.1 vwCl (mW G h a σ) H14) (hD14 : va_D A (mW G h a σ)) hS14 => ?_)
              clear hP3 hD3 hS3
              have w13_0 : r13 = kprime r2 := hw13
              refine lv_iconst (v := 1) hx hb dX9_comesHello_163 (by decide) ?_
              refine lv_isub hx hb dX9_comesHello_164 ?_
              refine lv_i2l (v := (r13 - 1).toInt64) hx hb dX9_comesHello_165 rfl ?_
              refine kPSi F hK hP14 hD14 hS14 hA hl10.1 (c_X9_in l G ((σ 29 4).toInt64) 1 ((r13 - 1).toInt64)) (fun _ => rfl) gX9_comesHello_X9_in rfl 3 rfl (by decide +kernel) ⟨Nat.le_of_ble_eq_true rfl, Nat.le_of_ble_eq_true rfl⟩ ⟨Nat.zero_le _, Nat.zero_le _⟩ (Nat.le_of_ble_eq_true rfl) rfl dX9_comesHello_166 (fun r15 u15 H16 locs16 hw15 (hP16 : va_P G.1 vwCl (mW G h a σ) H16) (hD16 : va_D A (mW G h a σ)) hS16 => ?_)
              clear hP14 hD14 hS14
              have w15_0 : r15 = kinL ((σ 29 4).toInt64) 1 ((r13 - 1).toInt64) := hw15
              refine lv_if_ne (tgt := 181) hx hb dX9_comesHello_169 (by decide) (fun c17 => ?_) (fun c17 => ?_)
              · refine lv_aload_n hx hb dX9_comesHello_181 rfl (lv_at hl10 4 rfl) ?_
                refine lv_iload_n hx hb dX9_comesHello_182 rfl (lv_at hl10 3 rfl) ?_
                refine kPSi F hK hP16 hD16 hS16 hA hl10.1 (c_X9_greatest l G ((σ 29 1) &&& (σ 0 1))) (fun _ => rfl) gX9_comesHello_X9_greatest rfl 1 rfl (by decide +kernel) ⟨Nat.le_of_ble_eq_true rfl, Nat.le_of_ble_eq_true rfl⟩ ⟨Nat.zero_le _, Nat.zero_le _⟩ (Nat.le_of_ble_eq_true rfl) rfl dX9_comesHello_183 (fun r18 u18 H19 locs19 hw18 (hP19 : va_P G.1 vwCl (mW G h a σ) H19) (hD19 : va_D A (mW G h a σ)) hS19 => ?_)
                clear hP16 hD16 hS16
                have w18_0 : r18 = mgreat ((σ 29 1) &&& (σ 0 1)) := hw18
                refine lv_iconst (v := 1) hx hb dX9_comesHello_186 (by decide) ?_
                refine lv_iadd hx hb dX9_comesHello_187 ?_
                refine lv_iload_n hx hb dX9_comesHello_188 rfl (lv_at hl10 2 rfl) ?_
                refine lv_iload_n hx hb dX9_comesHello_189 rfl (lv_at hl10 1 rfl) ?_
                refine kWVv F hK hP19 hD19 hS19 hA hl10.1 (c_X9_greets l G h a σ (r18 + 1) r2 0 S Mn E K hKe hK3 hE hE4 hs hS hM hM8 (by subst w18_0; subst w15_0; subst w13_0; subst w2_0; exact mgreat_v hv7 c7)) 9 0 gX9_comesHello_X9_greets rfl 3 rfl (by decide +kernel) ⟨Nat.le_of_ble_eq_true rfl, Nat.le_of_ble_eq_true rfl⟩ ⟨Nat.zero_le _, Nat.zero_le _⟩ rfl rfl (Nat.le_of_ble_eq_true rfl) rfl dX9_comesHello_190 (fun σ_20 H21 locs21 hw20 (hP21 : va_P G.1 vwCl (mW G h a σ_20) H21) (hD21 : va_D A (mW G h a σ_20)) hS21 => ?_)
                clear hP19 hD19 hS19
                have w20_0 : σ_20 = mgreets σ (r18 + 1) r2 0 S Mn E K := hw20
                have q22 : σ_20 = mchel σ S Mn E K := by
                  subst w20_0
                  subst w18_0
                  subst w15_0
                  subst w13_0
                  subst w2_0
                  first | (simp only [mchel, mhlG, mhlR, c5, c7, c8, eq_true c9, eq_true c11, eq_true c12, c17, eq_self, ↓reduceIte, and_self, and_true, true_and]; done) | (simp only [mchel, mhlG, mhlR, c5, c7, c8, eq_true c9, eq_true c11, eq_true c12, c17, eq_self, ↓reduceIte, and_self, and_true, true_and]; (try and_intros) <;> rfl)
                exact kRv F hr hlocks hS21 dX9_comesHello_193 σ_20 q22 hP21 hD21
              · refine lv_aload_n hx hb dX9_comesHello_172 rfl (lv_at hl10 4 rfl) ?_
                refine lv_iconst (v := 1) hx hb dX9_comesHello_173 (by decide) ?_
                refine lv_iconst (v := 5) hx hb dX9_comesHello_174 (by decide) ?_
                refine kWVv F hK hP16 hD16 hS16 hA hl10.1 (c_X9_fails l G h a σ 1 5 (by first | assumption | decide | omega)) 9 0 gX9_comesHello_X9_fails rfl 2 rfl (by decide +kernel) ⟨Nat.le_of_ble_eq_true rfl, Nat.le_of_ble_eq_true rfl⟩ ⟨Nat.zero_le _, Nat.zero_le _⟩ rfl rfl (Nat.le_of_ble_eq_true rfl) rfl dX9_comesHello_175 (fun σ_23 H24 locs24 hw23 (hP24 : va_P G.1 vwCl (mW G h a σ_23) H24) (hD24 : va_D A (mW G h a σ_23)) hS24 => ?_)
                clear hP16 hD16 hS16
                have w23_0 : σ_23 = mfail σ 1 5 := hw23
                refine lv_goto (tgt := 193) hx hb dX9_comesHello_178 (by decide) ?_
                have q25 : σ_23 = mchel σ S Mn E K := by
                  subst w23_0
                  subst w15_0
                  subst w13_0
                  subst w2_0
                  first | (simp only [mchel, mhlG, mhlR, c5, c7, c8, eq_true c9, eq_true c11, eq_true c12, eq_true c17, eq_self, ↓reduceIte, and_self, and_true, true_and]; done) | (simp only [mchel, mhlG, mhlR, c5, c7, c8, eq_true c9, eq_true c11, eq_true c12, eq_true c17, eq_self, ↓reduceIte, and_self, and_true, true_and]; (try and_intros) <;> rfl)
                exact kRv F hr hlocks hS24 dX9_comesHello_193 σ_23 q25 hP24 hD24
            · refine lv_aload_n hx hb dX9_comesHello_110 rfl (lv_at hl10 4 rfl) ?_
              refine lv_iconst (v := 1) hx hb dX9_comesHello_111 (by decide) ?_
              refine lv_bipush (v := 8) hx hb dX9_comesHello_112 (by decide) ?_
              refine kWVv F hK hP3 hD3 hS3 hA hl10.1 (c_X9_takes l G h a σ 1 8 (by first | assumption | decide | omega) (by first | assumption | decide | omega)) 9 0 gX9_comesHello_X9_takes rfl 2 rfl (by decide +kernel) ⟨Nat.le_of_ble_eq_true rfl, Nat.le_of_ble_eq_true rfl⟩ ⟨Nat.zero_le _, Nat.zero_le _⟩ rfl rfl (Nat.le_of_ble_eq_true rfl) rfl dX9_comesHello_114 (fun σ_26 H27 locs27 hw26 (hP27 : va_P G.1 vwCl (mW G h a σ_26) H27) (hD27 : va_D A (mW G h a σ_26)) hS27 => ?_)
              clear hP3 hD3 hS3
              have w26_0 : σ_26 = mtakes σ 1 (8 + 1) := hw26
              refine lv_aload_n hx hb dX9_comesHello_117 rfl (lv_at hl10 4 rfl) ?_
              refine lv_iconst (v := 2) hx hb dX9_comesHello_118 (by decide) ?_
              refine kWVv F hK hP27 hD27 hS27 hA hl10.1 (c_X9_clears l G h a σ_26 2) 9 0 gX9_comesHello_X9_clears rfl 1 rfl (by decide +kernel) ⟨Nat.le_of_ble_eq_true rfl, Nat.le_of_ble_eq_true rfl⟩ ⟨Nat.zero_le _, Nat.zero_le _⟩ rfl rfl (Nat.le_of_ble_eq_true rfl) rfl dX9_comesHello_119 (fun σ_28 H29 locs29 hw28 (hP29 : va_P G.1 vwCl (mW G h a σ_28) H29) (hD29 : va_D A (mW G h a σ_28)) hS29 => ?_)
              clear hP27 hD27 hS27
              have w28_0 : σ_28 = mclr σ_26 2 := hw28
              refine lv_aload_n hx hb dX9_comesHello_122 rfl (lv_at hl10 4 rfl) ?_
              refine kget F hK hP29 9 0 29 iX9 rfl rfl (by decide) (List.mem_of_getElem? (i := 1) rfl) rfl dX9_comesHello_123 ?_
              refine lv_iconst (v := 1) hx hb dX9_comesHello_126 (by decide) ?_
              refine lv_iload_n hx hb dX9_comesHello_127 rfl (lv_at hl10 2 rfl) ?_
              refine kMst F hK hP29 hD29 hS29 29 20 1 rfl rfl (by decide) (Nat.le_of_ble_eq_true rfl) rfl dX9_comesHello_128 (fun H30 locs30 σ30 eσ30 hP30 hD30 hS30 => ?_)
              clear hP29 hD29 hS29
              refine lv_aload_n hx hb dX9_comesHello_129 rfl (lv_at hl10 4 rfl) ?_
              refine lv_iconst (v := 0) hx hb dX9_comesHello_130 (by decide) ?_
              refine kWVv F hK hP30 hD30 hS30 hA hl10.1 (c_X9_sends l G h a σ30 0 Mn (by first | assumption | decide | omega) (by subst eσ30; subst w28_0; subst w26_0; subst w2_0; exact hM) hM8) 9 0 gX9_comesHello_X9_sends rfl 1 rfl (by decide +kernel) ⟨Nat.le_of_ble_eq_true rfl, Nat.le_of_ble_eq_true rfl⟩ ⟨Nat.zero_le _, Nat.zero_le _⟩ rfl rfl (Nat.le_of_ble_eq_true rfl) rfl dX9_comesHello_131 (fun σ_31 H32 locs32 hw31 (hP32 : va_P G.1 vwCl (mW G h a σ_31) H32) (hD32 : va_D A (mW G h a σ_31)) hS32 => ?_)
              clear hP30 hD30 hS30
              have w31_0 : σ_31 = msend σ30 0 Mn := hw31
              refine lv_aload_n hx hb dX9_comesHello_134 rfl (lv_at hl10 4 rfl) ?_
              refine lv_iconst (v := 1) hx hb dX9_comesHello_135 (by decide) ?_
              refine lv_bipush (v := 8) hx hb dX9_comesHello_136 (by decide) ?_
              refine kWVv F hK hP32 hD32 hS32 hA hl10.1 (c_X9_takes l G h a σ_31 1 8 (by first | assumption | decide | omega) (by first | assumption | decide | omega)) 9 0 gX9_comesHello_X9_takes rfl 2 rfl (by decide +kernel) ⟨Nat.le_of_ble_eq_true rfl, Nat.le_of_ble_eq_true rfl⟩ ⟨Nat.zero_le _, Nat.zero_le _⟩ rfl rfl (Nat.le_of_ble_eq_true rfl) rfl dX9_comesHello_138 (fun σ_33 H34 locs34 hw33 (hP34 : va_P G.1 vwCl (mW G h a σ_33) H34) (hD34 : va_D A (mW G h a σ_33)) hS34 => ?_)
              clear hP32 hD32 hS32
              have w33_0 : σ_33 = mtakes σ_31 1 (8 + 1) := hw33
              refine lv_aload_n hx hb dX9_comesHello_141 rfl (lv_at hl10 4 rfl) ?_
              refine kget F hK hP34 9 0 3 iX9 rfl rfl (by decide) (List.mem_of_getElem? (i := 4) rfl) rfl dX9_comesHello_142 ?_
              refine lv_iconst (v := 1) hx hb dX9_comesHello_145 (by decide) ?_
              refine lv_iconst (v := 2) hx hb dX9_comesHello_146 (by decide) ?_
              refine kMst F hK hP34 hD34 hS34 3 4 1 rfl rfl (by decide) (Nat.le_of_ble_eq_true rfl) rfl dX9_comesHello_147 (fun H35 locs35 σ35 eσ35 hP35 hD35 hS35 => ?_)
              clear hP34 hD34 hS34
              refine lv_goto (tgt := 193) hx hb dX9_comesHello_148 (by decide) ?_
              have q36 : σ35 = mchel σ S Mn E K := by
                subst eσ35
                subst w33_0
                subst w31_0
                subst eσ30
                subst w28_0
                subst w26_0
                subst w2_0
                first | (simp only [mchel, mhlG, mhlR, c5, c7, c8, eq_true c9, eq_true c11, c12, eq_self, ↓reduceIte, and_self, and_true, true_and]; done) | (simp only [mchel, mhlG, mhlR, c5, c7, c8, eq_true c9, eq_true c11, c12, eq_self, ↓reduceIte, and_self, and_true, true_and]; (try and_intros) <;> rfl)
              exact kRv F hr hlocks hS35 dX9_comesHello_193 σ35 q36 hP35 hD35
          · exact absurd (by decide) c11
        · exact absurd (by decide) c9
      · refine lv_iconst (v := 3) hx hb dX9_comesHello_60 (by decide) ?_
        refine lv_goto (tgt := 83) hx hb dX9_comesHello_61 (by decide) ?_
        refine lv_istore (lv' := [(4, .int 3), (3, .int 0), (2, .int r2), (1, .int ((σ 29 1) &&& (σ 0 1))), (0, .ref h)]) hx hb dX9_comesHello_83 hl6 (by decide) rfl (fun ls37 hl37 => ?_)
        clear hl6
        refine lv_iload hx hb dX9_comesHello_85 (lv_at hl37 0 rfl) ?_
        refine lv_if_le (tgt := 100) hx hb dX9_comesHello_87 (by decide) (fun c38 => ?_) (fun c38 => ?_)
        · exact absurd c38 (by decide)
        · refine lv_aload_n hx hb dX9_comesHello_90 rfl (lv_at hl37 4 rfl) ?_
          refine lv_iconst (v := 1) hx hb dX9_comesHello_91 (by decide) ?_
          refine lv_iload hx hb dX9_comesHello_92 (lv_at hl37 0 rfl) ?_
          refine kWVv F hK hP3 hD3 hS3 hA hl37.1 (c_X9_fails l G h a σ 1 3 (by first | assumption | decide | omega)) 9 0 gX9_comesHello_X9_fails rfl 2 rfl (by decide +kernel) ⟨Nat.le_of_ble_eq_true rfl, Nat.le_of_ble_eq_true rfl⟩ ⟨Nat.zero_le _, Nat.zero_le _⟩ rfl rfl (Nat.le_of_ble_eq_true rfl) rfl dX9_comesHello_94 (fun σ_39 H40 locs40 hw39 (hP40 : va_P G.1 vwCl (mW G h a σ_39) H40) (hD40 : va_D A (mW G h a σ_39)) hS40 => ?_)
          clear hP3 hD3 hS3
          have w39_0 : σ_39 = mfail σ 1 3 := hw39
          refine lv_goto (tgt := 193) hx hb dX9_comesHello_97 (by decide) ?_
          have q41 : σ_39 = mchel σ S Mn E K := by
            subst w39_0
            subst w2_0
            first | (simp only [mchel, mhlG, mhlR, c5, c7, eq_true c8, c38, eq_self, ↓reduceIte, and_self, and_true, true_and]; done) | (simp only [mchel, mhlG, mhlR, c5, c7, eq_true c8, c38, eq_self, ↓reduceIte, and_self, and_true, true_and]; (try and_intros) <;> rfl)
          exact kRv F hr hlocks hS40 dX9_comesHello_193 σ_39 q41 hP40 hD40
    · refine lv_iconst (v := 2) hx hb dX9_comesHello_51 (by decide) ?_
      refine lv_goto (tgt := 83) hx hb dX9_comesHello_52 (by decide) ?_
      refine lv_istore (lv' := [(4, .int 2), (3, .int 0), (2, .int r2), (1, .int ((σ 29 1) &&& (σ 0 1))), (0, .ref h)]) hx hb dX9_comesHello_83 hl6 (by decide) rfl (fun ls42 hl42 => ?_)
      clear hl6
      refine lv_iload hx hb dX9_comesHello_85 (lv_at hl42 0 rfl) ?_
      refine lv_if_le (tgt := 100) hx hb dX9_comesHello_87 (by decide) (fun c43 => ?_) (fun c43 => ?_)
      · exact absurd c43 (by decide)
      · refine lv_aload_n hx hb dX9_comesHello_90 rfl (lv_at hl42 4 rfl) ?_
        refine lv_iconst (v := 1) hx hb dX9_comesHello_91 (by decide) ?_
        refine lv_iload hx hb dX9_comesHello_92 (lv_at hl42 0 rfl) ?_
        refine kWVv F hK hP3 hD3 hS3 hA hl42.1 (c_X9_fails l G h a σ 1 2 (by first | assumption | decide | omega)) 9 0 gX9_comesHello_X9_fails rfl 2 rfl (by decide +kernel) ⟨Nat.le_of_ble_eq_true rfl, Nat.le_of_ble_eq_true rfl⟩ ⟨Nat.zero_le _, Nat.zero_le _⟩ rfl rfl (Nat.le_of_ble_eq_true rfl) rfl dX9_comesHello_94 (fun σ_44 H45 locs45 hw44 (hP45 : va_P G.1 vwCl (mW G h a σ_44) H45) (hD45 : va_D A (mW G h a σ_44)) hS45 => ?_)
        clear hP3 hD3 hS3
        have w44_0 : σ_44 = mfail σ 1 2 := hw44
        refine lv_goto (tgt := 193) hx hb dX9_comesHello_97 (by decide) ?_
        have q46 : σ_44 = mchel σ S Mn E K := by
          subst w44_0
          subst w2_0
          first | (simp only [mchel, mhlG, mhlR, c5, eq_true c7, c43, eq_self, ↓reduceIte, and_self, and_true, true_and]; done) | (simp only [mchel, mhlG, mhlR, c5, eq_true c7, c43, eq_self, ↓reduceIte, and_self, and_true, true_and]; (try and_intros) <;> rfl)
        exact kRv F hr hlocks hS45 dX9_comesHello_193 σ_44 q46 hP45 hD45
  · refine lv_iconst (v := 1) hx hb dX9_comesHello_41 (by decide) ?_
    refine lv_goto (tgt := 46) hx hb dX9_comesHello_42 (by decide) ?_
    refine lv_istore_n (lv' := [(3, .int 1), (2, .int r2), (1, .int ((σ 29 1) &&& (σ 0 1))), (0, .ref h)]) hx hb dX9_comesHello_46 rfl hl4 (by decide) rfl (fun ls47 hl47 => ?_)
    clear hl4
    refine lv_iload_n hx hb dX9_comesHello_47 rfl (lv_at hl47 2 rfl) ?_
    refine lv_if_ne (tgt := 55) hx hb dX9_comesHello_48 (by decide) (fun c48 => ?_) (fun c48 => ?_)
    · refine lv_iload_n hx hb dX9_comesHello_55 rfl (lv_at hl47 1 rfl) ?_
      refine lv_iconst (v := (-1)) hx hb dX9_comesHello_56 (by decide) ?_
      refine lv_icmp_ne (tgt := 64) hx hb dX9_comesHello_57 (by decide) (fun c49 => ?_) (fun c49 => ?_)
      · refine lv_iload_n hx hb dX9_comesHello_64 rfl (lv_at hl47 0 rfl) ?_
        refine lv_if_eq (tgt := 82) hx hb dX9_comesHello_65 (by decide) (fun c50 => ?_) (fun c50 => ?_)
        · exact absurd c50 (by decide)
        · refine lv_aload_n hx hb dX9_comesHello_68 rfl (lv_at hl47 3 rfl) ?_
          refine kget F hK hP3 9 0 29 iX9 rfl rfl (by decide) (List.mem_of_getElem? (i := 1) rfl) rfl dX9_comesHello_69 ?_
          refine lv_iconst (v := 3) hx hb dX9_comesHello_72 (by decide) ?_
          refine kild F hK hP3 20 3 rfl rfl (by decide) (Nat.le_of_ble_eq_true rfl) dX9_comesHello_73 ?_
          refine lv_iload_n hx hb dX9_comesHello_74 rfl (lv_at hl47 1 rfl) ?_
          refine lv_icmp_eq (tgt := 82) hx hb dX9_comesHello_75 (by decide) (fun c51 => ?_) (fun c51 => ?_)
          · refine lv_iconst (v := 0) hx hb dX9_comesHello_82 (by decide) ?_
            refine lv_istore (lv' := [(4, .int 0), (3, .int 1), (2, .int r2), (1, .int ((σ 29 1) &&& (σ 0 1))), (0, .ref h)]) hx hb dX9_comesHello_83 hl47 (by decide) rfl (fun ls52 hl52 => ?_)
            clear hl47
            refine lv_iload hx hb dX9_comesHello_85 (lv_at hl52 0 rfl) ?_
            refine lv_if_le (tgt := 100) hx hb dX9_comesHello_87 (by decide) (fun c53 => ?_) (fun c53 => ?_)
            · refine lv_aload_n hx hb dX9_comesHello_100 rfl (lv_at hl52 4 rfl) ?_
              refine kget F hK hP3 9 0 29 iX9 rfl rfl (by decide) (List.mem_of_getElem? (i := 1) rfl) rfl dX9_comesHello_101 ?_
              refine lv_iconst (v := 3) hx hb dX9_comesHello_104 (by decide) ?_
              refine kild F hK hP3 20 3 rfl rfl (by decide) (Nat.le_of_ble_eq_true rfl) dX9_comesHello_105 ?_
              refine lv_iload_n hx hb dX9_comesHello_106 rfl (lv_at hl52 2 rfl) ?_
              refine lv_icmp_eq (tgt := 151) hx hb dX9_comesHello_107 (by decide) (fun c54 => ?_) (fun c54 => ?_)
              · refine lv_aload_n hx hb dX9_comesHello_151 rfl (lv_at hl52 4 rfl) ?_
                refine kget F hK hP3 9 0 29 iX9 rfl rfl (by decide) (List.mem_of_getElem? (i := 1) rfl) rfl dX9_comesHello_152 ?_
                refine lv_iconst (v := 4) hx hb dX9_comesHello_155 (by decide) ?_
                refine kild F hK hP3 20 4 rfl rfl (by decide) (Nat.le_of_ble_eq_true rfl) dX9_comesHello_156 ?_
                refine lv_i2l (v := (σ 29 4).toInt64) hx hb dX9_comesHello_157 rfl ?_
                refine lv_lconst (v := 1) hx hb dX9_comesHello_158 (by decide) ?_
                refine lv_iload_n hx hb dX9_comesHello_159 rfl (lv_at hl52 2 rfl) ?_
                refine kPSi F hK hP3 hD3 hS3 hA hl52.1 (c_X9_prime l G r2) (fun _ => rfl) gX9_comesHello_X9_prime rfl 1 rfl (by decide +kernel) ⟨Nat.le_of_ble_eq_true rfl, Nat.le_of_ble_eq_true rfl⟩ ⟨Nat.zero_le _, Nat.zero_le _⟩ (Nat.le_of_ble_eq_true rfl) rfl dX9_comesHello_160 (fun r55 u55 H56 locs56 hw55 (hP56 : va_P G.1 vwCl (mW G h a σ) H56) (hD56 : va_D A (mW G h a σ)) hS56 => ?_)
                clear hP3 hD3 hS3
                have w55_0 : r55 = kprime r2 := hw55
                refine lv_iconst (v := 1) hx hb dX9_comesHello_163 (by decide) ?_
                refine lv_isub hx hb dX9_comesHello_164 ?_
                refine lv_i2l (v := (r55 - 1).toInt64) hx hb dX9_comesHello_165 rfl ?_
                refine kPSi F hK hP56 hD56 hS56 hA hl52.1 (c_X9_in l G ((σ 29 4).toInt64) 1 ((r55 - 1).toInt64)) (fun _ => rfl) gX9_comesHello_X9_in rfl 3 rfl (by decide +kernel) ⟨Nat.le_of_ble_eq_true rfl, Nat.le_of_ble_eq_true rfl⟩ ⟨Nat.zero_le _, Nat.zero_le _⟩ (Nat.le_of_ble_eq_true rfl) rfl dX9_comesHello_166 (fun r57 u57 H58 locs58 hw57 (hP58 : va_P G.1 vwCl (mW G h a σ) H58) (hD58 : va_D A (mW G h a σ)) hS58 => ?_)
                clear hP56 hD56 hS56
                have w57_0 : r57 = kinL ((σ 29 4).toInt64) 1 ((r55 - 1).toInt64) := hw57
                refine lv_if_ne (tgt := 181) hx hb dX9_comesHello_169 (by decide) (fun c59 => ?_) (fun c59 => ?_)
                · refine lv_aload_n hx hb dX9_comesHello_181 rfl (lv_at hl52 4 rfl) ?_
                  refine lv_iload_n hx hb dX9_comesHello_182 rfl (lv_at hl52 3 rfl) ?_
                  refine kPSi F hK hP58 hD58 hS58 hA hl52.1 (c_X9_greatest l G ((σ 29 1) &&& (σ 0 1))) (fun _ => rfl) gX9_comesHello_X9_greatest rfl 1 rfl (by decide +kernel) ⟨Nat.le_of_ble_eq_true rfl, Nat.le_of_ble_eq_true rfl⟩ ⟨Nat.zero_le _, Nat.zero_le _⟩ (Nat.le_of_ble_eq_true rfl) rfl dX9_comesHello_183 (fun r60 u60 H61 locs61 hw60 (hP61 : va_P G.1 vwCl (mW G h a σ) H61) (hD61 : va_D A (mW G h a σ)) hS61 => ?_)
                  clear hP58 hD58 hS58
                  have w60_0 : r60 = mgreat ((σ 29 1) &&& (σ 0 1)) := hw60
                  refine lv_iconst (v := 1) hx hb dX9_comesHello_186 (by decide) ?_
                  refine lv_iadd hx hb dX9_comesHello_187 ?_
                  refine lv_iload_n hx hb dX9_comesHello_188 rfl (lv_at hl52 2 rfl) ?_
                  refine lv_iload_n hx hb dX9_comesHello_189 rfl (lv_at hl52 1 rfl) ?_
                  refine kWVv F hK hP61 hD61 hS61 hA hl52.1 (c_X9_greets l G h a σ (r60 + 1) r2 1 S Mn E K hKe hK3 hE hE4 hs hS hM hM8 (by subst w60_0; subst w57_0; subst w55_0; subst w2_0; exact mgreat_v hv7 c48)) 9 0 gX9_comesHello_X9_greets rfl 3 rfl (by decide +kernel) ⟨Nat.le_of_ble_eq_true rfl, Nat.le_of_ble_eq_true rfl⟩ ⟨Nat.zero_le _, Nat.zero_le _⟩ rfl rfl (Nat.le_of_ble_eq_true rfl) rfl dX9_comesHello_190 (fun σ_62 H63 locs63 hw62 (hP63 : va_P G.1 vwCl (mW G h a σ_62) H63) (hD63 : va_D A (mW G h a σ_62)) hS63 => ?_)
                  clear hP61 hD61 hS61
                  have w62_0 : σ_62 = mgreets σ (r60 + 1) r2 1 S Mn E K := hw62
                  have q64 : σ_62 = mchel σ S Mn E K := by
                    subst w62_0
                    subst w60_0
                    subst w57_0
                    subst w55_0
                    subst w2_0
                    first | (simp only [mchel, mhlG, mhlR, eq_true c5, c48, c49, c50, eq_true c51, eq_true c53, eq_true c54, c59, eq_self, ↓reduceIte, and_self, and_true, true_and]; done) | (simp only [mchel, mhlG, mhlR, eq_true c5, c48, c49, c50, eq_true c51, eq_true c53, eq_true c54, c59, eq_self, ↓reduceIte, and_self, and_true, true_and]; (try and_intros) <;> rfl)
                  exact kRv F hr hlocks hS63 dX9_comesHello_193 σ_62 q64 hP63 hD63
                · refine lv_aload_n hx hb dX9_comesHello_172 rfl (lv_at hl52 4 rfl) ?_
                  refine lv_iconst (v := 1) hx hb dX9_comesHello_173 (by decide) ?_
                  refine lv_iconst (v := 5) hx hb dX9_comesHello_174 (by decide) ?_
                  refine kWVv F hK hP58 hD58 hS58 hA hl52.1 (c_X9_fails l G h a σ 1 5 (by first | assumption | decide | omega)) 9 0 gX9_comesHello_X9_fails rfl 2 rfl (by decide +kernel) ⟨Nat.le_of_ble_eq_true rfl, Nat.le_of_ble_eq_true rfl⟩ ⟨Nat.zero_le _, Nat.zero_le _⟩ rfl rfl (Nat.le_of_ble_eq_true rfl) rfl dX9_comesHello_175 (fun σ_65 H66 locs66 hw65 (hP66 : va_P G.1 vwCl (mW G h a σ_65) H66) (hD66 : va_D A (mW G h a σ_65)) hS66 => ?_)
                  clear hP58 hD58 hS58
                  have w65_0 : σ_65 = mfail σ 1 5 := hw65
                  refine lv_goto (tgt := 193) hx hb dX9_comesHello_178 (by decide) ?_
                  have q67 : σ_65 = mchel σ S Mn E K := by
                    subst w65_0
                    subst w57_0
                    subst w55_0
                    subst w2_0
                    first | (simp only [mchel, mhlG, mhlR, eq_true c5, c48, c49, c50, eq_true c51, eq_true c53, eq_true c54, eq_true c59, eq_self, ↓reduceIte, and_self, and_true, true_and]; done) | (simp only [mchel, mhlG, mhlR, eq_true c5, c48, c49, c50, eq_true c51, eq_true c53, eq_true c54, eq_true c59, eq_self, ↓reduceIte, and_self, and_true, true_and]; (try and_intros) <;> rfl)
                  exact kRv F hr hlocks hS66 dX9_comesHello_193 σ_65 q67 hP66 hD66
              · exact absurd c51 c54
            · exact absurd (by decide) c53
          · refine lv_iconst (v := 4) hx hb dX9_comesHello_78 (by decide) ?_
            refine lv_goto (tgt := 83) hx hb dX9_comesHello_79 (by decide) ?_
            refine lv_istore (lv' := [(4, .int 4), (3, .int 1), (2, .int r2), (1, .int ((σ 29 1) &&& (σ 0 1))), (0, .ref h)]) hx hb dX9_comesHello_83 hl47 (by decide) rfl (fun ls68 hl68 => ?_)
            clear hl47
            refine lv_iload hx hb dX9_comesHello_85 (lv_at hl68 0 rfl) ?_
            refine lv_if_le (tgt := 100) hx hb dX9_comesHello_87 (by decide) (fun c69 => ?_) (fun c69 => ?_)
            · exact absurd c69 (by decide)
            · refine lv_aload_n hx hb dX9_comesHello_90 rfl (lv_at hl68 4 rfl) ?_
              refine lv_iconst (v := 1) hx hb dX9_comesHello_91 (by decide) ?_
              refine lv_iload hx hb dX9_comesHello_92 (lv_at hl68 0 rfl) ?_
              refine kWVv F hK hP3 hD3 hS3 hA hl68.1 (c_X9_fails l G h a σ 1 4 (by first | assumption | decide | omega)) 9 0 gX9_comesHello_X9_fails rfl 2 rfl (by decide +kernel) ⟨Nat.le_of_ble_eq_true rfl, Nat.le_of_ble_eq_true rfl⟩ ⟨Nat.zero_le _, Nat.zero_le _⟩ rfl rfl (Nat.le_of_ble_eq_true rfl) rfl dX9_comesHello_94 (fun σ_70 H71 locs71 hw70 (hP71 : va_P G.1 vwCl (mW G h a σ_70) H71) (hD71 : va_D A (mW G h a σ_70)) hS71 => ?_)
              clear hP3 hD3 hS3
              have w70_0 : σ_70 = mfail σ 1 4 := hw70
              refine lv_goto (tgt := 193) hx hb dX9_comesHello_97 (by decide) ?_
              have q72 : σ_70 = mchel σ S Mn E K := by
                subst w70_0
                subst w2_0
                first | (simp only [mchel, mhlG, mhlR, eq_true c5, c48, c49, c50, c51, c69, eq_self, ↓reduceIte, and_self, and_true, true_and]; done) | (simp only [mchel, mhlG, mhlR, eq_true c5, c48, c49, c50, c51, c69, eq_self, ↓reduceIte, and_self, and_true, true_and]; (try and_intros) <;> rfl)
              exact kRv F hr hlocks hS71 dX9_comesHello_193 σ_70 q72 hP71 hD71
      · refine lv_iconst (v := 3) hx hb dX9_comesHello_60 (by decide) ?_
        refine lv_goto (tgt := 83) hx hb dX9_comesHello_61 (by decide) ?_
        refine lv_istore (lv' := [(4, .int 3), (3, .int 1), (2, .int r2), (1, .int ((σ 29 1) &&& (σ 0 1))), (0, .ref h)]) hx hb dX9_comesHello_83 hl47 (by decide) rfl (fun ls73 hl73 => ?_)
        clear hl47
        refine lv_iload hx hb dX9_comesHello_85 (lv_at hl73 0 rfl) ?_
        refine lv_if_le (tgt := 100) hx hb dX9_comesHello_87 (by decide) (fun c74 => ?_) (fun c74 => ?_)
        · exact absurd c74 (by decide)
        · refine lv_aload_n hx hb dX9_comesHello_90 rfl (lv_at hl73 4 rfl) ?_
          refine lv_iconst (v := 1) hx hb dX9_comesHello_91 (by decide) ?_
          refine lv_iload hx hb dX9_comesHello_92 (lv_at hl73 0 rfl) ?_
          refine kWVv F hK hP3 hD3 hS3 hA hl73.1 (c_X9_fails l G h a σ 1 3 (by first | assumption | decide | omega)) 9 0 gX9_comesHello_X9_fails rfl 2 rfl (by decide +kernel) ⟨Nat.le_of_ble_eq_true rfl, Nat.le_of_ble_eq_true rfl⟩ ⟨Nat.zero_le _, Nat.zero_le _⟩ rfl rfl (Nat.le_of_ble_eq_true rfl) rfl dX9_comesHello_94 (fun σ_75 H76 locs76 hw75 (hP76 : va_P G.1 vwCl (mW G h a σ_75) H76) (hD76 : va_D A (mW G h a σ_75)) hS76 => ?_)
          clear hP3 hD3 hS3
          have w75_0 : σ_75 = mfail σ 1 3 := hw75
          refine lv_goto (tgt := 193) hx hb dX9_comesHello_97 (by decide) ?_
          have q77 : σ_75 = mchel σ S Mn E K := by
            subst w75_0
            subst w2_0
            first | (simp only [mchel, mhlG, mhlR, eq_true c5, c48, eq_true c49, c74, eq_self, ↓reduceIte, and_self, and_true, true_and]; done) | (simp only [mchel, mhlG, mhlR, eq_true c5, c48, eq_true c49, c74, eq_self, ↓reduceIte, and_self, and_true, true_and]; (try and_intros) <;> rfl)
          exact kRv F hr hlocks hS76 dX9_comesHello_193 σ_75 q77 hP76 hD76
    · refine lv_iconst (v := 2) hx hb dX9_comesHello_51 (by decide) ?_
      refine lv_goto (tgt := 83) hx hb dX9_comesHello_52 (by decide) ?_
      refine lv_istore (lv' := [(4, .int 2), (3, .int 1), (2, .int r2), (1, .int ((σ 29 1) &&& (σ 0 1))), (0, .ref h)]) hx hb dX9_comesHello_83 hl47 (by decide) rfl (fun ls78 hl78 => ?_)
      clear hl47
      refine lv_iload hx hb dX9_comesHello_85 (lv_at hl78 0 rfl) ?_
      refine lv_if_le (tgt := 100) hx hb dX9_comesHello_87 (by decide) (fun c79 => ?_) (fun c79 => ?_)
      · exact absurd c79 (by decide)
      · refine lv_aload_n hx hb dX9_comesHello_90 rfl (lv_at hl78 4 rfl) ?_
        refine lv_iconst (v := 1) hx hb dX9_comesHello_91 (by decide) ?_
        refine lv_iload hx hb dX9_comesHello_92 (lv_at hl78 0 rfl) ?_
        refine kWVv F hK hP3 hD3 hS3 hA hl78.1 (c_X9_fails l G h a σ 1 2 (by first | assumption | decide | omega)) 9 0 gX9_comesHello_X9_fails rfl 2 rfl (by decide +kernel) ⟨Nat.le_of_ble_eq_true rfl, Nat.le_of_ble_eq_true rfl⟩ ⟨Nat.zero_le _, Nat.zero_le _⟩ rfl rfl (Nat.le_of_ble_eq_true rfl) rfl dX9_comesHello_94 (fun σ_80 H81 locs81 hw80 (hP81 : va_P G.1 vwCl (mW G h a σ_80) H81) (hD81 : va_D A (mW G h a σ_80)) hS81 => ?_)
        clear hP3 hD3 hS3
        have w80_0 : σ_80 = mfail σ 1 2 := hw80
        refine lv_goto (tgt := 193) hx hb dX9_comesHello_97 (by decide) ?_
        have q82 : σ_80 = mchel σ S Mn E K := by
          subst w80_0
          subst w2_0
          first | (simp only [mchel, mhlG, mhlR, eq_true c5, eq_true c48, c79, eq_self, ↓reduceIte, and_self, and_true, true_and]; done) | (simp only [mchel, mhlG, mhlR, eq_true c5, eq_true c48, c79, eq_self, ↓reduceIte, and_self, and_true, true_and]; (try and_intros) <;> rfl)
        exact kRv F hr hlocks hS81 dX9_comesHello_193 σ_80 q82 hP81 hD81
set_option maxHeartbeats 1000000 in
set_option maxRecDepth 100000 in
theorem c_X9_comes0 (l : Launch) (G : kG) (h : Nat) (a : Nat → Nat) (σ : kS) (S : Nat) (Mn : Nat) (hs : σ 2 0 = nI S) (hS : S ≤ 2147483646) (hM : σ 26 1 = nI Mn) (hM8 : Mn ≤ 8) : kM G l yX9_comes wsX9_comes ({ frames := 4, cells := 0, slots := 0, locals := 91 }) [.ref h, .int 0] (mW G h a σ) (kQv G (fun (uu : kS) => uu = mcomes0 σ S Mn) (fun (uu : kS) => mW G h a uu)) := by
  refine kStart (cc := cX9_comes) (maxL := 4) (ret := none) (by decide) rfl (Nat.le_of_ble_eq_true rfl) (fun pg ev st mi bl mt cd A ls0 F hr hlocks hin hK hP0 hD0 hA hS0 hl0 => ?_)
  obtain ⟨hx, hb, hml, hown, hts⟩ := id F
  have hl0 : lv_has ls0 4 [(0, .ref h), (1, .int 0)] := hl0
  have iX9 : ∀ w ∈ u_ws RX9 TX9 43, w ∈ wsX9_comes := fun w h => List.mem_cons_of_mem _ (List.mem_append_right _ h)
  refine lv_aload_n hx hb dX9_comes_0 rfl (lv_at hl0 0 rfl) ?_
  refine kget F hK hP0 9 0 29 iX9 rfl rfl (by decide) (List.mem_of_getElem? (i := 1) rfl) rfl dX9_comes_1 ?_
  refine lv_iconst (v := 0) hx hb dX9_comes_4 (by decide) ?_
  refine kild F hK hP0 20 0 rfl rfl (by decide) (Nat.le_of_ble_eq_true rfl) dX9_comes_5 ?_
  refine lv_istore_n (lv' := [(2, .int (σ 29 0)), (0, .ref h), (1, .int 0)]) hx hb dX9_comes_6 rfl hl0 (by decide) rfl (fun ls1 hl1 => ?_)
  clear hl0
  refine lv_aload_n hx hb dX9_comes_7 rfl (lv_at hl1 1 rfl) ?_
  refine kget F hK hP0 9 0 3 iX9 rfl rfl (by decide) (List.mem_of_getElem? (i := 2) rfl) rfl dX9_comes_8 ?_
  refine lv_iload_n hx hb dX9_comes_11 rfl (lv_at hl1 2 rfl) ?_
  refine kild F hK hP0 4 0 rfl rfl (by decide) (Nat.le_of_ble_eq_true rfl) dX9_comes_12 ?_
  refine lv_istore_n (lv' := [(3, .int (σ 3 0)), (2, .int (σ 29 0)), (0, .ref h), (1, .int 0)]) hx hb dX9_comes_13 rfl hl1 (by decide) rfl (fun ls2 hl2 => ?_)
  clear hl1
  refine lv_iload_n hx hb dX9_comes_14 rfl (lv_at hl2 0 rfl) ?_
  refine lv_iconst (v := 5) hx hb dX9_comes_15 (by decide) ?_
  refine lv_icmp_ne (tgt := 20) hx hb dX9_comes_16 (by decide) (fun c3 => ?_) (fun c3 => ?_)
  · refine lv_iload_n hx hb dX9_comes_20 rfl (lv_at hl2 0 rfl) ?_
    refine lv_iconst (v := 4) hx hb dX9_comes_21 (by decide) ?_
    refine lv_icmp_ne (tgt := 39) hx hb dX9_comes_22 (by decide) (fun c4 => ?_) (fun c4 => ?_)
    · refine lv_iload_n hx hb dX9_comes_39 rfl (lv_at hl2 0 rfl) ?_
      refine lv_iconst (v := 4) hx hb dX9_comes_40 (by decide) ?_
      refine lv_icmp_ne (tgt := 58) hx hb dX9_comes_41 (by decide) (fun c5 => ?_) (fun c5 => ?_)
      · refine lv_iload_n hx hb dX9_comes_58 rfl (lv_at hl2 3 rfl) ?_
        refine lv_if_ne (tgt := 79) hx hb dX9_comes_59 (by decide) (fun c6 => ?_) (fun c6 => ?_)
        · exact absurd (by decide) c6
        · refine lv_iload_n hx hb dX9_comes_62 rfl (lv_at hl2 0 rfl) ?_
          refine lv_iconst (v := 1) hx hb dX9_comes_63 (by decide) ?_
          refine lv_icmp_ne (tgt := 79) hx hb dX9_comes_64 (by decide) (fun c7 => ?_) (fun c7 => ?_)
          · refine lv_iload_n hx hb dX9_comes_79 rfl (lv_at hl2 3 rfl) ?_
            refine lv_if_ne (tgt := 100) hx hb dX9_comes_80 (by decide) (fun c8 => ?_) (fun c8 => ?_)
            · exact absurd (by decide) c8
            · refine lv_iload_n hx hb dX9_comes_83 rfl (lv_at hl2 0 rfl) ?_
              refine lv_iconst (v := 1) hx hb dX9_comes_84 (by decide) ?_
              refine lv_icmp_ne (tgt := 100) hx hb dX9_comes_85 (by decide) (fun c9 => ?_) (fun c9 => ?_)
              · refine lv_iload_n hx hb dX9_comes_100 rfl (lv_at hl2 3 rfl) ?_
                refine lv_if_ne (tgt := 121) hx hb dX9_comes_101 (by decide) (fun c10 => ?_) (fun c10 => ?_)
                · exact absurd (by decide) c10
                · refine lv_iload_n hx hb dX9_comes_104 rfl (lv_at hl2 0 rfl) ?_
                  refine lv_iconst (v := 4) hx hb dX9_comes_105 (by decide) ?_
                  refine lv_icmp_ne (tgt := 121) hx hb dX9_comes_106 (by decide) (fun c11 => ?_) (fun c11 => ?_)
                  · refine lv_iload_n hx hb dX9_comes_121 rfl (lv_at hl2 3 rfl) ?_
                    refine lv_iconst (v := 1) hx hb dX9_comes_122 (by decide) ?_
                    refine lv_icmp_ne (tgt := 147) hx hb dX9_comes_123 (by decide) (fun c12 => ?_) (fun c12 => ?_)
                    · refine lv_iload_n hx hb dX9_comes_147 rfl (lv_at hl2 3 rfl) ?_
                      refine lv_iconst (v := 1) hx hb dX9_comes_148 (by decide) ?_
                      refine lv_icmp_ne (tgt := 169) hx hb dX9_comes_149 (by decide) (fun c13 => ?_) (fun c13 => ?_)
                      · refine lv_aload_n hx hb dX9_comes_169 rfl (lv_at hl2 2 rfl) ?_
                        refine lv_iload_n hx hb dX9_comes_170 rfl (lv_at hl2 3 rfl) ?_
                        refine lv_iconst (v := 1) hx hb dX9_comes_171 (by decide) ?_
                        refine kWVv F hK hP0 hD0 hS0 hA hl2.1 (c_X9_fails l G h a σ 0 1 (by first | assumption | decide | omega)) 9 0 gX9_comes_X9_fails rfl 2 rfl (by decide +kernel) ⟨Nat.le_of_ble_eq_true rfl, Nat.le_of_ble_eq_true rfl⟩ ⟨Nat.zero_le _, Nat.zero_le _⟩ rfl rfl (Nat.le_of_ble_eq_true rfl) rfl dX9_comes_172 (fun σ_14 H15 locs15 hw14 (hP15 : va_P G.1 vwCl (mW G h a σ_14) H15) (hD15 : va_D A (mW G h a σ_14)) hS15 => ?_)
                        clear hP0 hD0 hS0
                        have w14_0 : σ_14 = mfail σ 0 1 := hw14
                        have q16 : σ_14 = mcomes0 σ S Mn := by
                          subst w14_0
                          first | (simp only [mcomes0, c3, c4, c5, eq_true c6, c7, eq_true c8, c9, eq_true c10, c11, c12, c13, eq_self, ↓reduceIte, and_self, and_true, true_and]; done) | (simp only [mcomes0, c3, c4, c5, eq_true c6, c7, eq_true c8, c9, eq_true c10, c11, c12, c13, eq_self, ↓reduceIte, and_self, and_true, true_and]; (try and_intros) <;> rfl)
                        exact kRv F hr hlocks hS15 dX9_comes_175 σ_14 q16 hP15 hD15
                      · exact absurd c13 (by decide)
                    · exact absurd c12 (by decide)
                  · exact absurd c11 c4
              · exact absurd c9 c7
          · refine lv_iload_n hx hb dX9_comes_67 rfl (lv_at hl2 1 rfl) ?_
            refine lv_iconst (v := 2) hx hb dX9_comes_68 (by decide) ?_
            refine lv_icmp_ne (tgt := 79) hx hb dX9_comes_69 (by decide) (fun c17 => ?_) (fun c17 => ?_)
            · refine lv_iload_n hx hb dX9_comes_79 rfl (lv_at hl2 3 rfl) ?_
              refine lv_if_ne (tgt := 100) hx hb dX9_comes_80 (by decide) (fun c18 => ?_) (fun c18 => ?_)
              · exact absurd (by decide) c18
              · refine lv_iload_n hx hb dX9_comes_83 rfl (lv_at hl2 0 rfl) ?_
                refine lv_iconst (v := 1) hx hb dX9_comes_84 (by decide) ?_
                refine lv_icmp_ne (tgt := 100) hx hb dX9_comes_85 (by decide) (fun c19 => ?_) (fun c19 => ?_)
                · exact absurd c7 c19
                · refine lv_iload_n hx hb dX9_comes_88 rfl (lv_at hl2 1 rfl) ?_
                  refine lv_iconst (v := 3) hx hb dX9_comes_89 (by decide) ?_
                  refine lv_icmp_ne (tgt := 100) hx hb dX9_comes_90 (by decide) (fun c20 => ?_) (fun c20 => ?_)
                  · refine lv_iload_n hx hb dX9_comes_100 rfl (lv_at hl2 3 rfl) ?_
                    refine lv_if_ne (tgt := 121) hx hb dX9_comes_101 (by decide) (fun c21 => ?_) (fun c21 => ?_)
                    · exact absurd (by decide) c21
                    · refine lv_iload_n hx hb dX9_comes_104 rfl (lv_at hl2 0 rfl) ?_
                      refine lv_iconst (v := 4) hx hb dX9_comes_105 (by decide) ?_
                      refine lv_icmp_ne (tgt := 121) hx hb dX9_comes_106 (by decide) (fun c22 => ?_) (fun c22 => ?_)
                      · refine lv_iload_n hx hb dX9_comes_121 rfl (lv_at hl2 3 rfl) ?_
                        refine lv_iconst (v := 1) hx hb dX9_comes_122 (by decide) ?_
                        refine lv_icmp_ne (tgt := 147) hx hb dX9_comes_123 (by decide) (fun c23 => ?_) (fun c23 => ?_)
                        · refine lv_iload_n hx hb dX9_comes_147 rfl (lv_at hl2 3 rfl) ?_
                          refine lv_iconst (v := 1) hx hb dX9_comes_148 (by decide) ?_
                          refine lv_icmp_ne (tgt := 169) hx hb dX9_comes_149 (by decide) (fun c24 => ?_) (fun c24 => ?_)
                          · refine lv_aload_n hx hb dX9_comes_169 rfl (lv_at hl2 2 rfl) ?_
                            refine lv_iload_n hx hb dX9_comes_170 rfl (lv_at hl2 3 rfl) ?_
                            refine lv_iconst (v := 1) hx hb dX9_comes_171 (by decide) ?_
                            refine kWVv F hK hP0 hD0 hS0 hA hl2.1 (c_X9_fails l G h a σ 0 1 (by first | assumption | decide | omega)) 9 0 gX9_comes_X9_fails rfl 2 rfl (by decide +kernel) ⟨Nat.le_of_ble_eq_true rfl, Nat.le_of_ble_eq_true rfl⟩ ⟨Nat.zero_le _, Nat.zero_le _⟩ rfl rfl (Nat.le_of_ble_eq_true rfl) rfl dX9_comes_172 (fun σ_25 H26 locs26 hw25 (hP26 : va_P G.1 vwCl (mW G h a σ_25) H26) (hD26 : va_D A (mW G h a σ_25)) hS26 => ?_)
                            clear hP0 hD0 hS0
                            have w25_0 : σ_25 = mfail σ 0 1 := hw25
                            have q27 : σ_25 = mcomes0 σ S Mn := by
                              subst w25_0
                              first | (simp only [mcomes0, c3, c4, c5, eq_true c6, eq_true c7, c17, eq_true c18, eq_true c19, c20, eq_true c21, c22, c23, c24, eq_self, ↓reduceIte, and_self, and_true, true_and]; done) | (simp only [mcomes0, c3, c4, c5, eq_true c6, eq_true c7, c17, eq_true c18, eq_true c19, c20, eq_true c21, c22, c23, c24, eq_self, ↓reduceIte, and_self, and_true, true_and]; (try and_intros) <;> rfl)
                            exact kRv F hr hlocks hS26 dX9_comes_175 σ_25 q27 hP26 hD26
                          · exact absurd c24 (by decide)
                        · exact absurd c23 (by decide)
                      · exact absurd c22 c4
                  · refine lv_aload_n hx hb dX9_comes_93 rfl (lv_at hl2 2 rfl) ?_
                    refine kWVv F hK hP0 hD0 hS0 hA hl2.1 (c_X9_comesGreeting l G h a σ S Mn hs hS hM hM8) 9 0 gX9_comes_X9_comesGreeting rfl 0 rfl (by decide +kernel) ⟨Nat.le_of_ble_eq_true rfl, Nat.le_of_ble_eq_true rfl⟩ ⟨Nat.zero_le _, Nat.zero_le _⟩ rfl rfl (Nat.le_of_ble_eq_true rfl) rfl dX9_comes_94 (fun σ_28 H29 locs29 hw28 (hP29 : va_P G.1 vwCl (mW G h a σ_28) H29) (hD29 : va_D A (mW G h a σ_28)) hS29 => ?_)
                    clear hP0 hD0 hS0
                    have w28_0 : σ_28 = mgreet σ S Mn := hw28
                    refine lv_goto (tgt := 175) hx hb dX9_comes_97 (by decide) ?_
                    have q30 : σ_28 = mcomes0 σ S Mn := by
                      subst w28_0
                      first | (simp only [mcomes0, c3, c4, c5, eq_true c6, eq_true c7, c17, eq_true c18, eq_true c19, eq_true c20, eq_self, ↓reduceIte, and_self, and_true, true_and]; done) | (simp only [mcomes0, c3, c4, c5, eq_true c6, eq_true c7, c17, eq_true c18, eq_true c19, eq_true c20, eq_self, ↓reduceIte, and_self, and_true, true_and]; (try and_intros) <;> rfl)
                    exact kRv F hr hlocks hS29 dX9_comes_175 σ_28 q30 hP29 hD29
            · refine lv_aload_n hx hb dX9_comes_72 rfl (lv_at hl2 2 rfl) ?_
              refine kWVv F hK hP0 hD0 hS0 hA hl2.1 (c_X9_comesRetry l G h a σ S Mn hs hS hM hM8) 9 0 gX9_comes_X9_comesRetry rfl 0 rfl (by decide +kernel) ⟨Nat.le_of_ble_eq_true rfl, Nat.le_of_ble_eq_true rfl⟩ ⟨Nat.zero_le _, Nat.zero_le _⟩ rfl rfl (Nat.le_of_ble_eq_true rfl) rfl dX9_comes_73 (fun σ_31 H32 locs32 hw31 (hP32 : va_P G.1 vwCl (mW G h a σ_31) H32) (hD32 : va_D A (mW G h a σ_31)) hS32 => ?_)
              clear hP0 hD0 hS0
              have w31_0 : σ_31 = mretry σ S Mn := hw31
              refine lv_goto (tgt := 175) hx hb dX9_comes_76 (by decide) ?_
              have q33 : σ_31 = mcomes0 σ S Mn := by
                subst w31_0
                first | (simp only [mcomes0, c3, c4, c5, eq_true c6, eq_true c7, eq_true c17, eq_self, ↓reduceIte, and_self, and_true, true_and]; done) | (simp only [mcomes0, c3, c4, c5, eq_true c6, eq_true c7, eq_true c17, eq_self, ↓reduceIte, and_self, and_true, true_and]; (try and_intros) <;> rfl)
              exact kRv F hr hlocks hS32 dX9_comes_175 σ_31 q33 hP32 hD32
      · exact absurd c5 c4
    · refine lv_iload_n hx hb dX9_comes_25 rfl (lv_at hl2 1 rfl) ?_
      refine lv_bipush (v := 6) hx hb dX9_comes_26 (by decide) ?_
      refine lv_icmp_ne (tgt := 39) hx hb dX9_comes_28 (by decide) (fun c34 => ?_) (fun c34 => ?_)
      · refine lv_iload_n hx hb dX9_comes_39 rfl (lv_at hl2 0 rfl) ?_
        refine lv_iconst (v := 4) hx hb dX9_comes_40 (by decide) ?_
        refine lv_icmp_ne (tgt := 58) hx hb dX9_comes_41 (by decide) (fun c35 => ?_) (fun c35 => ?_)
        · exact absurd c4 c35
        · refine lv_iload_n hx hb dX9_comes_44 rfl (lv_at hl2 1 rfl) ?_
          refine lv_bipush (v := 7) hx hb dX9_comes_45 (by decide) ?_
          refine lv_icmp_ne (tgt := 58) hx hb dX9_comes_47 (by decide) (fun c36 => ?_) (fun c36 => ?_)
          · refine lv_iload_n hx hb dX9_comes_58 rfl (lv_at hl2 3 rfl) ?_
            refine lv_if_ne (tgt := 79) hx hb dX9_comes_59 (by decide) (fun c37 => ?_) (fun c37 => ?_)
            · exact absurd (by decide) c37
            · refine lv_iload_n hx hb dX9_comes_62 rfl (lv_at hl2 0 rfl) ?_
              refine lv_iconst (v := 1) hx hb dX9_comes_63 (by decide) ?_
              refine lv_icmp_ne (tgt := 79) hx hb dX9_comes_64 (by decide) (fun c38 => ?_) (fun c38 => ?_)
              · refine lv_iload_n hx hb dX9_comes_79 rfl (lv_at hl2 3 rfl) ?_
                refine lv_if_ne (tgt := 100) hx hb dX9_comes_80 (by decide) (fun c39 => ?_) (fun c39 => ?_)
                · exact absurd (by decide) c39
                · refine lv_iload_n hx hb dX9_comes_83 rfl (lv_at hl2 0 rfl) ?_
                  refine lv_iconst (v := 1) hx hb dX9_comes_84 (by decide) ?_
                  refine lv_icmp_ne (tgt := 100) hx hb dX9_comes_85 (by decide) (fun c40 => ?_) (fun c40 => ?_)
                  · refine lv_iload_n hx hb dX9_comes_100 rfl (lv_at hl2 3 rfl) ?_
                    refine lv_if_ne (tgt := 121) hx hb dX9_comes_101 (by decide) (fun c41 => ?_) (fun c41 => ?_)
                    · exact absurd (by decide) c41
                    · refine lv_iload_n hx hb dX9_comes_104 rfl (lv_at hl2 0 rfl) ?_
                      refine lv_iconst (v := 4) hx hb dX9_comes_105 (by decide) ?_
                      refine lv_icmp_ne (tgt := 121) hx hb dX9_comes_106 (by decide) (fun c42 => ?_) (fun c42 => ?_)
                      · exact absurd c4 c42
                      · refine lv_iload_n hx hb dX9_comes_109 rfl (lv_at hl2 1 rfl) ?_
                        refine lv_iconst (v := 5) hx hb dX9_comes_110 (by decide) ?_
                        refine lv_icmp_ne (tgt := 121) hx hb dX9_comes_111 (by decide) (fun c43 => ?_) (fun c43 => ?_)
                        · refine lv_iload_n hx hb dX9_comes_121 rfl (lv_at hl2 3 rfl) ?_
                          refine lv_iconst (v := 1) hx hb dX9_comes_122 (by decide) ?_
                          refine lv_icmp_ne (tgt := 147) hx hb dX9_comes_123 (by decide) (fun c44 => ?_) (fun c44 => ?_)
                          · refine lv_iload_n hx hb dX9_comes_147 rfl (lv_at hl2 3 rfl) ?_
                            refine lv_iconst (v := 1) hx hb dX9_comes_148 (by decide) ?_
                            refine lv_icmp_ne (tgt := 169) hx hb dX9_comes_149 (by decide) (fun c45 => ?_) (fun c45 => ?_)
                            · refine lv_aload_n hx hb dX9_comes_169 rfl (lv_at hl2 2 rfl) ?_
                              refine lv_iload_n hx hb dX9_comes_170 rfl (lv_at hl2 3 rfl) ?_
                              refine lv_iconst (v := 1) hx hb dX9_comes_171 (by decide) ?_
                              refine kWVv F hK hP0 hD0 hS0 hA hl2.1 (c_X9_fails l G h a σ 0 1 (by first | assumption | decide | omega)) 9 0 gX9_comes_X9_fails rfl 2 rfl (by decide +kernel) ⟨Nat.le_of_ble_eq_true rfl, Nat.le_of_ble_eq_true rfl⟩ ⟨Nat.zero_le _, Nat.zero_le _⟩ rfl rfl (Nat.le_of_ble_eq_true rfl) rfl dX9_comes_172 (fun σ_46 H47 locs47 hw46 (hP47 : va_P G.1 vwCl (mW G h a σ_46) H47) (hD47 : va_D A (mW G h a σ_46)) hS47 => ?_)
                              clear hP0 hD0 hS0
                              have w46_0 : σ_46 = mfail σ 0 1 := hw46
                              have q48 : σ_46 = mcomes0 σ S Mn := by
                                subst w46_0
                                first | (simp only [mcomes0, c3, eq_true c4, c34, eq_true c35, c36, eq_true c37, c38, eq_true c39, c40, eq_true c41, eq_true c42, c43, c44, c45, eq_self, ↓reduceIte, and_self, and_true, true_and]; done) | (simp only [mcomes0, c3, eq_true c4, c34, eq_true c35, c36, eq_true c37, c38, eq_true c39, c40, eq_true c41, eq_true c42, c43, c44, c45, eq_self, ↓reduceIte, and_self, and_true, true_and]; (try and_intros) <;> rfl)
                              exact kRv F hr hlocks hS47 dX9_comes_175 σ_46 q48 hP47 hD47
                            · exact absurd c45 (by decide)
                          · exact absurd c44 (by decide)
                        · refine lv_aload_n hx hb dX9_comes_114 rfl (lv_at hl2 2 rfl) ?_
                          refine kWVv F hK hP0 hD0 hS0 hA hl2.1 (c_X9_comesTicket l G h a σ) 9 0 gX9_comes_X9_comesTicket rfl 0 rfl (by decide +kernel) ⟨Nat.le_of_ble_eq_true rfl, Nat.le_of_ble_eq_true rfl⟩ ⟨Nat.zero_le _, Nat.zero_le _⟩ rfl rfl (Nat.le_of_ble_eq_true rfl) rfl dX9_comes_115 (fun σ_49 H50 locs50 hw49 (hP50 : va_P G.1 vwCl (mW G h a σ_49) H50) (hD50 : va_D A (mW G h a σ_49)) hS50 => ?_)
                          clear hP0 hD0 hS0
                          have w49_0 : σ_49 = mticket σ := hw49
                          refine lv_goto (tgt := 175) hx hb dX9_comes_118 (by decide) ?_
                          have q51 : σ_49 = mcomes0 σ S Mn := by
                            subst w49_0
                            first | (simp only [mcomes0, c3, eq_true c4, c34, eq_true c35, c36, eq_true c37, c38, eq_true c39, c40, eq_true c41, eq_true c42, eq_true c43, eq_self, ↓reduceIte, and_self, and_true, true_and]; done) | (simp only [mcomes0, c3, eq_true c4, c34, eq_true c35, c36, eq_true c37, c38, eq_true c39, c40, eq_true c41, eq_true c42, eq_true c43, eq_self, ↓reduceIte, and_self, and_true, true_and]; (try and_intros) <;> rfl)
                          exact kRv F hr hlocks hS50 dX9_comes_175 σ_49 q51 hP50 hD50
                  · exact absurd (c4.symm.trans c40) (by decide)
              · exact absurd (c4.symm.trans c38) (by decide)
          · refine lv_aload_n hx hb dX9_comes_50 rfl (lv_at hl2 2 rfl) ?_
            refine lv_iload_n hx hb dX9_comes_51 rfl (lv_at hl2 3 rfl) ?_
            refine kWVv F hK hP0 hD0 hS0 hA hl2.1 (c_X9_comesUpdate l G h a σ 0 (by first | assumption | decide | omega)) 9 0 gX9_comes_X9_comesUpdate rfl 1 rfl (by decide +kernel) ⟨Nat.le_of_ble_eq_true rfl, Nat.le_of_ble_eq_true rfl⟩ ⟨Nat.zero_le _, Nat.zero_le _⟩ rfl rfl (Nat.le_of_ble_eq_true rfl) rfl dX9_comes_52 (fun σ_52 H53 locs53 hw52 (hP53 : va_P G.1 vwCl (mW G h a σ_52) H53) (hD53 : va_D A (mW G h a σ_52)) hS53 => ?_)
            clear hP0 hD0 hS0
            have w52_0 : σ_52 = mupd σ 0 := hw52
            refine lv_goto (tgt := 175) hx hb dX9_comes_55 (by decide) ?_
            have q54 : σ_52 = mcomes0 σ S Mn := by
              subst w52_0
              first | (simp only [mcomes0, c3, eq_true c4, c34, eq_true c35, eq_true c36, eq_self, ↓reduceIte, and_self, and_true, true_and]; done) | (simp only [mcomes0, c3, eq_true c4, c34, eq_true c35, eq_true c36, eq_self, ↓reduceIte, and_self, and_true, true_and]; (try and_intros) <;> rfl)
            exact kRv F hr hlocks hS53 dX9_comes_175 σ_52 q54 hP53 hD53
      · refine lv_aload_n hx hb dX9_comes_31 rfl (lv_at hl2 2 rfl) ?_
        refine lv_iload_n hx hb dX9_comes_32 rfl (lv_at hl2 3 rfl) ?_
        refine kWVv F hK hP0 hD0 hS0 hA hl2.1 (c_X9_comesLetter l G h a σ 0 (by first | assumption | decide | omega)) 9 0 gX9_comes_X9_comesLetter rfl 1 rfl (by decide +kernel) ⟨Nat.le_of_ble_eq_true rfl, Nat.le_of_ble_eq_true rfl⟩ ⟨Nat.zero_le _, Nat.zero_le _⟩ rfl rfl (Nat.le_of_ble_eq_true rfl) rfl dX9_comes_33 (fun σ_55 H56 locs56 hw55 (hP56 : va_P G.1 vwCl (mW G h a σ_55) H56) (hD56 : va_D A (mW G h a σ_55)) hS56 => ?_)
        clear hP0 hD0 hS0
        have w55_0 : σ_55 = mlett σ 0 := hw55
        refine lv_goto (tgt := 175) hx hb dX9_comes_36 (by decide) ?_
        have q57 : σ_55 = mcomes0 σ S Mn := by
          subst w55_0
          first | (simp only [mcomes0, c3, eq_true c4, eq_true c34, eq_self, ↓reduceIte, and_self, and_true, true_and]; done) | (simp only [mcomes0, c3, eq_true c4, eq_true c34, eq_self, ↓reduceIte, and_self, and_true, true_and]; (try and_intros) <;> rfl)
        exact kRv F hr hlocks hS56 dX9_comes_175 σ_55 q57 hP56 hD56
  · have q58 : σ = mcomes0 σ S Mn := by
      first | (simp only [mcomes0, eq_true c3, eq_self, ↓reduceIte, and_self, and_true, true_and]; done) | (simp only [mcomes0, eq_true c3, eq_self, ↓reduceIte, and_self, and_true, true_and]; (try and_intros) <;> rfl)
    exact kRv F hr hlocks hS0 dX9_comes_19 σ q58 hP0 hD0
set_option maxHeartbeats 1000000 in
set_option maxRecDepth 100000 in
theorem c_X9_comes1 (l : Launch) (G : kG) (h : Nat) (a : Nat → Nat) (σ : kS) (S : Nat) (Mn : Nat) (E : Nat) (K : Nat) (hKe : σ 20 0 = nI K) (hK3 : K ≤ 3) (hE : σ 23 0 = nI E) (hE4 : E ≤ 4) (hs : σ 2 1 = nI S) (hS : S ≤ 2147483646) (hM : σ 26 0 = nI Mn) (hM8 : Mn ≤ 8) (hv7 : ∃ n, n < 8 ∧ σ 0 1 = nI n) : kM G l yX9_comes wsX9_comes ({ frames := 5, cells := 0, slots := 0, locals := 120 }) [.ref h, .int 1] (mW G h a σ) (kQv G (fun (uu : kS) => uu = mcomes1 σ S Mn E K) (fun (uu : kS) => mW G h a uu)) := by
  refine kStart (cc := cX9_comes) (maxL := 4) (ret := none) (by decide) rfl (Nat.le_of_ble_eq_true rfl) (fun pg ev st mi bl mt cd A ls0 F hr hlocks hin hK hP0 hD0 hA hS0 hl0 => ?_)
  obtain ⟨hx, hb, hml, hown, hts⟩ := id F
  have hl0 : lv_has ls0 4 [(0, .ref h), (1, .int 1)] := hl0
  have iX9 : ∀ w ∈ u_ws RX9 TX9 43, w ∈ wsX9_comes := fun w h => List.mem_cons_of_mem _ (List.mem_append_right _ h)
  refine lv_aload_n hx hb dX9_comes_0 rfl (lv_at hl0 0 rfl) ?_
  refine kget F hK hP0 9 0 29 iX9 rfl rfl (by decide) (List.mem_of_getElem? (i := 1) rfl) rfl dX9_comes_1 ?_
  refine lv_iconst (v := 0) hx hb dX9_comes_4 (by decide) ?_
  refine kild F hK hP0 20 0 rfl rfl (by decide) (Nat.le_of_ble_eq_true rfl) dX9_comes_5 ?_
  refine lv_istore_n (lv' := [(2, .int (σ 29 0)), (0, .ref h), (1, .int 1)]) hx hb dX9_comes_6 rfl hl0 (by decide) rfl (fun ls1 hl1 => ?_)
  clear hl0
  refine lv_aload_n hx hb dX9_comes_7 rfl (lv_at hl1 1 rfl) ?_
  refine kget F hK hP0 9 0 3 iX9 rfl rfl (by decide) (List.mem_of_getElem? (i := 2) rfl) rfl dX9_comes_8 ?_
  refine lv_iload_n hx hb dX9_comes_11 rfl (lv_at hl1 2 rfl) ?_
  refine kild F hK hP0 4 1 rfl rfl (by decide) (Nat.le_of_ble_eq_true rfl) dX9_comes_12 ?_
  refine lv_istore_n (lv' := [(3, .int (σ 3 1)), (2, .int (σ 29 0)), (0, .ref h), (1, .int 1)]) hx hb dX9_comes_13 rfl hl1 (by decide) rfl (fun ls2 hl2 => ?_)
  clear hl1
  refine lv_iload_n hx hb dX9_comes_14 rfl (lv_at hl2 0 rfl) ?_
  refine lv_iconst (v := 5) hx hb dX9_comes_15 (by decide) ?_
  refine lv_icmp_ne (tgt := 20) hx hb dX9_comes_16 (by decide) (fun c3 => ?_) (fun c3 => ?_)
  · refine lv_iload_n hx hb dX9_comes_20 rfl (lv_at hl2 0 rfl) ?_
    refine lv_iconst (v := 4) hx hb dX9_comes_21 (by decide) ?_
    refine lv_icmp_ne (tgt := 39) hx hb dX9_comes_22 (by decide) (fun c4 => ?_) (fun c4 => ?_)
    · refine lv_iload_n hx hb dX9_comes_39 rfl (lv_at hl2 0 rfl) ?_
      refine lv_iconst (v := 4) hx hb dX9_comes_40 (by decide) ?_
      refine lv_icmp_ne (tgt := 58) hx hb dX9_comes_41 (by decide) (fun c5 => ?_) (fun c5 => ?_)
      · refine lv_iload_n hx hb dX9_comes_58 rfl (lv_at hl2 3 rfl) ?_
        refine lv_if_ne (tgt := 79) hx hb dX9_comes_59 (by decide) (fun c6 => ?_) (fun c6 => ?_)
        · refine lv_iload_n hx hb dX9_comes_79 rfl (lv_at hl2 3 rfl) ?_
          refine lv_if_ne (tgt := 100) hx hb dX9_comes_80 (by decide) (fun c7 => ?_) (fun c7 => ?_)
          · refine lv_iload_n hx hb dX9_comes_100 rfl (lv_at hl2 3 rfl) ?_
            refine lv_if_ne (tgt := 121) hx hb dX9_comes_101 (by decide) (fun c8 => ?_) (fun c8 => ?_)
            · refine lv_iload_n hx hb dX9_comes_121 rfl (lv_at hl2 3 rfl) ?_
              refine lv_iconst (v := 1) hx hb dX9_comes_122 (by decide) ?_
              refine lv_icmp_ne (tgt := 147) hx hb dX9_comes_123 (by decide) (fun c9 => ?_) (fun c9 => ?_)
              · exact absurd (by decide) c9
              · refine lv_iload_n hx hb dX9_comes_126 rfl (lv_at hl2 0 rfl) ?_
                refine lv_if_eq (tgt := 135) hx hb dX9_comes_127 (by decide) (fun c10 => ?_) (fun c10 => ?_)
                · refine lv_iload_n hx hb dX9_comes_135 rfl (lv_at hl2 1 rfl) ?_
                  refine lv_iconst (v := 1) hx hb dX9_comes_136 (by decide) ?_
                  refine lv_icmp_ne (tgt := 147) hx hb dX9_comes_137 (by decide) (fun c11 => ?_) (fun c11 => ?_)
                  · refine lv_iload_n hx hb dX9_comes_147 rfl (lv_at hl2 3 rfl) ?_
                    refine lv_iconst (v := 1) hx hb dX9_comes_148 (by decide) ?_
                    refine lv_icmp_ne (tgt := 169) hx hb dX9_comes_149 (by decide) (fun c12 => ?_) (fun c12 => ?_)
                    · exact absurd (by decide) c12
                    · refine lv_iload_n hx hb dX9_comes_152 rfl (lv_at hl2 0 rfl) ?_
                      refine lv_iconst (v := 3) hx hb dX9_comes_153 (by decide) ?_
                      refine lv_icmp_ne (tgt := 169) hx hb dX9_comes_154 (by decide) (fun c13 => ?_) (fun c13 => ?_)
                      · refine lv_aload_n hx hb dX9_comes_169 rfl (lv_at hl2 2 rfl) ?_
                        refine lv_iload_n hx hb dX9_comes_170 rfl (lv_at hl2 3 rfl) ?_
                        refine lv_iconst (v := 1) hx hb dX9_comes_171 (by decide) ?_
                        refine kWVv F hK hP0 hD0 hS0 hA hl2.1 (c_X9_fails l G h a σ 1 1 (by first | assumption | decide | omega)) 9 0 gX9_comes_X9_fails rfl 2 rfl (by decide +kernel) ⟨Nat.le_of_ble_eq_true rfl, Nat.le_of_ble_eq_true rfl⟩ ⟨Nat.zero_le _, Nat.zero_le _⟩ rfl rfl (Nat.le_of_ble_eq_true rfl) rfl dX9_comes_172 (fun σ_14 H15 locs15 hw14 (hP15 : va_P G.1 vwCl (mW G h a σ_14) H15) (hD15 : va_D A (mW G h a σ_14)) hS15 => ?_)
                        clear hP0 hD0 hS0
                        have w14_0 : σ_14 = mfail σ 1 1 := hw14
                        have q16 : σ_14 = mcomes1 σ S Mn E K := by
                          subst w14_0
                          first | (simp only [mcomes1, c3, c4, c5, c6, c7, c8, eq_true c9, eq_true c10, c11, eq_true c12, c13, eq_self, ↓reduceIte, and_self, and_true, true_and]; done) | (simp only [mcomes1, c3, c4, c5, c6, c7, c8, eq_true c9, eq_true c10, c11, eq_true c12, c13, eq_self, ↓reduceIte, and_self, and_true, true_and]; (try and_intros) <;> rfl)
                        exact kRv F hr hlocks hS15 dX9_comes_175 σ_14 q16 hP15 hD15
                      · exact absurd (c10.symm.trans c13) (by decide)
                  · refine lv_aload_n hx hb dX9_comes_140 rfl (lv_at hl2 2 rfl) ?_
                    refine kWVv F hK hP0 hD0 hS0 hA hl2.1 (c_X9_comesHello l G h a σ S Mn E K hKe hK3 hE hE4 hs hS hM hM8 hv7) 9 0 gX9_comes_X9_comesHello rfl 0 rfl (by decide +kernel) ⟨Nat.le_of_ble_eq_true rfl, Nat.le_of_ble_eq_true rfl⟩ ⟨Nat.zero_le _, Nat.zero_le _⟩ rfl rfl (Nat.le_of_ble_eq_true rfl) rfl dX9_comes_141 (fun σ_17 H18 locs18 hw17 (hP18 : va_P G.1 vwCl (mW G h a σ_17) H18) (hD18 : va_D A (mW G h a σ_17)) hS18 => ?_)
                    clear hP0 hD0 hS0
                    have w17_0 : σ_17 = mchel σ S Mn E K := hw17
                    refine lv_goto (tgt := 175) hx hb dX9_comes_144 (by decide) ?_
                    have q19 : σ_17 = mcomes1 σ S Mn E K := by
                      subst w17_0
                      first | (simp only [mcomes1, c3, c4, c5, c6, c7, c8, eq_true c9, eq_true c10, eq_true c11, eq_self, ↓reduceIte, and_self, and_true, true_and]; done) | (simp only [mcomes1, c3, c4, c5, c6, c7, c8, eq_true c9, eq_true c10, eq_true c11, eq_self, ↓reduceIte, and_self, and_true, true_and]; (try and_intros) <;> rfl)
                    exact kRv F hr hlocks hS18 dX9_comes_175 σ_17 q19 hP18 hD18
                · refine lv_iload_n hx hb dX9_comes_130 rfl (lv_at hl2 0 rfl) ?_
                  refine lv_iconst (v := 2) hx hb dX9_comes_131 (by decide) ?_
                  refine lv_icmp_ne (tgt := 147) hx hb dX9_comes_132 (by decide) (fun c20 => ?_) (fun c20 => ?_)
                  · refine lv_iload_n hx hb dX9_comes_147 rfl (lv_at hl2 3 rfl) ?_
                    refine lv_iconst (v := 1) hx hb dX9_comes_148 (by decide) ?_
                    refine lv_icmp_ne (tgt := 169) hx hb dX9_comes_149 (by decide) (fun c21 => ?_) (fun c21 => ?_)
                    · exact absurd (by decide) c21
                    · refine lv_iload_n hx hb dX9_comes_152 rfl (lv_at hl2 0 rfl) ?_
                      refine lv_iconst (v := 3) hx hb dX9_comes_153 (by decide) ?_
                      refine lv_icmp_ne (tgt := 169) hx hb dX9_comes_154 (by decide) (fun c22 => ?_) (fun c22 => ?_)
                      · refine lv_aload_n hx hb dX9_comes_169 rfl (lv_at hl2 2 rfl) ?_
                        refine lv_iload_n hx hb dX9_comes_170 rfl (lv_at hl2 3 rfl) ?_
                        refine lv_iconst (v := 1) hx hb dX9_comes_171 (by decide) ?_
                        refine kWVv F hK hP0 hD0 hS0 hA hl2.1 (c_X9_fails l G h a σ 1 1 (by first | assumption | decide | omega)) 9 0 gX9_comes_X9_fails rfl 2 rfl (by decide +kernel) ⟨Nat.le_of_ble_eq_true rfl, Nat.le_of_ble_eq_true rfl⟩ ⟨Nat.zero_le _, Nat.zero_le _⟩ rfl rfl (Nat.le_of_ble_eq_true rfl) rfl dX9_comes_172 (fun σ_23 H24 locs24 hw23 (hP24 : va_P G.1 vwCl (mW G h a σ_23) H24) (hD24 : va_D A (mW G h a σ_23)) hS24 => ?_)
                        clear hP0 hD0 hS0
                        have w23_0 : σ_23 = mfail σ 1 1 := hw23
                        have q25 : σ_23 = mcomes1 σ S Mn E K := by
                          subst w23_0
                          first | (simp only [mcomes1, c3, c4, c5, c6, c7, c8, eq_true c9, c10, c20, eq_true c21, c22, eq_self, ↓reduceIte, and_self, and_true, true_and]; done) | (simp only [mcomes1, c3, c4, c5, c6, c7, c8, eq_true c9, c10, c20, eq_true c21, c22, eq_self, ↓reduceIte, and_self, and_true, true_and]; (try and_intros) <;> rfl)
                        exact kRv F hr hlocks hS24 dX9_comes_175 σ_23 q25 hP24 hD24
                      · refine lv_iload_n hx hb dX9_comes_157 rfl (lv_at hl2 1 rfl) ?_
                        refine lv_iconst (v := 4) hx hb dX9_comes_158 (by decide) ?_
                        refine lv_icmp_ne (tgt := 169) hx hb dX9_comes_159 (by decide) (fun c26 => ?_) (fun c26 => ?_)
                        · refine lv_aload_n hx hb dX9_comes_169 rfl (lv_at hl2 2 rfl) ?_
                          refine lv_iload_n hx hb dX9_comes_170 rfl (lv_at hl2 3 rfl) ?_
                          refine lv_iconst (v := 1) hx hb dX9_comes_171 (by decide) ?_
                          refine kWVv F hK hP0 hD0 hS0 hA hl2.1 (c_X9_fails l G h a σ 1 1 (by first | assumption | decide | omega)) 9 0 gX9_comes_X9_fails rfl 2 rfl (by decide +kernel) ⟨Nat.le_of_ble_eq_true rfl, Nat.le_of_ble_eq_true rfl⟩ ⟨Nat.zero_le _, Nat.zero_le _⟩ rfl rfl (Nat.le_of_ble_eq_true rfl) rfl dX9_comes_172 (fun σ_27 H28 locs28 hw27 (hP28 : va_P G.1 vwCl (mW G h a σ_27) H28) (hD28 : va_D A (mW G h a σ_27)) hS28 => ?_)
                          clear hP0 hD0 hS0
                          have w27_0 : σ_27 = mfail σ 1 1 := hw27
                          have q29 : σ_27 = mcomes1 σ S Mn E K := by
                            subst w27_0
                            first | (simp only [mcomes1, c3, c4, c5, c6, c7, c8, eq_true c9, c10, c20, eq_true c21, eq_true c22, c26, eq_self, ↓reduceIte, and_self, and_true, true_and]; done) | (simp only [mcomes1, c3, c4, c5, c6, c7, c8, eq_true c9, c10, c20, eq_true c21, eq_true c22, c26, eq_self, ↓reduceIte, and_self, and_true, true_and]; (try and_intros) <;> rfl)
                          exact kRv F hr hlocks hS28 dX9_comes_175 σ_27 q29 hP28 hD28
                        · refine lv_aload_n hx hb dX9_comes_162 rfl (lv_at hl2 2 rfl) ?_
                          refine kWVv F hK hP0 hD0 hS0 hA hl2.1 (c_X9_comesFinish l G h a σ) 9 0 gX9_comes_X9_comesFinish rfl 0 rfl (by decide +kernel) ⟨Nat.le_of_ble_eq_true rfl, Nat.le_of_ble_eq_true rfl⟩ ⟨Nat.zero_le _, Nat.zero_le _⟩ rfl rfl (Nat.le_of_ble_eq_true rfl) rfl dX9_comes_163 (fun σ_30 H31 locs31 hw30 (hP31 : va_P G.1 vwCl (mW G h a σ_30) H31) (hD31 : va_D A (mW G h a σ_30)) hS31 => ?_)
                          clear hP0 hD0 hS0
                          have w30_0 : σ_30 = mfinR σ := hw30
                          refine lv_goto (tgt := 175) hx hb dX9_comes_166 (by decide) ?_
                          have q32 : σ_30 = mcomes1 σ S Mn E K := by
                            subst w30_0
                            first | (simp only [mcomes1, c3, c4, c5, c6, c7, c8, eq_true c9, c10, c20, eq_true c21, eq_true c22, eq_true c26, eq_self, ↓reduceIte, and_self, and_true, true_and]; done) | (simp only [mcomes1, c3, c4, c5, c6, c7, c8, eq_true c9, c10, c20, eq_true c21, eq_true c22, eq_true c26, eq_self, ↓reduceIte, and_self, and_true, true_and]; (try and_intros) <;> rfl)
                          exact kRv F hr hlocks hS31 dX9_comes_175 σ_30 q32 hP31 hD31
                  · refine lv_iload_n hx hb dX9_comes_135 rfl (lv_at hl2 1 rfl) ?_
                    refine lv_iconst (v := 1) hx hb dX9_comes_136 (by decide) ?_
                    refine lv_icmp_ne (tgt := 147) hx hb dX9_comes_137 (by decide) (fun c33 => ?_) (fun c33 => ?_)
                    · refine lv_iload_n hx hb dX9_comes_147 rfl (lv_at hl2 3 rfl) ?_
                      refine lv_iconst (v := 1) hx hb dX9_comes_148 (by decide) ?_
                      refine lv_icmp_ne (tgt := 169) hx hb dX9_comes_149 (by decide) (fun c34 => ?_) (fun c34 => ?_)
                      · exact absurd (by decide) c34
                      · refine lv_iload_n hx hb dX9_comes_152 rfl (lv_at hl2 0 rfl) ?_
                        refine lv_iconst (v := 3) hx hb dX9_comes_153 (by decide) ?_
                        refine lv_icmp_ne (tgt := 169) hx hb dX9_comes_154 (by decide) (fun c35 => ?_) (fun c35 => ?_)
                        · refine lv_aload_n hx hb dX9_comes_169 rfl (lv_at hl2 2 rfl) ?_
                          refine lv_iload_n hx hb dX9_comes_170 rfl (lv_at hl2 3 rfl) ?_
                          refine lv_iconst (v := 1) hx hb dX9_comes_171 (by decide) ?_
                          refine kWVv F hK hP0 hD0 hS0 hA hl2.1 (c_X9_fails l G h a σ 1 1 (by first | assumption | decide | omega)) 9 0 gX9_comes_X9_fails rfl 2 rfl (by decide +kernel) ⟨Nat.le_of_ble_eq_true rfl, Nat.le_of_ble_eq_true rfl⟩ ⟨Nat.zero_le _, Nat.zero_le _⟩ rfl rfl (Nat.le_of_ble_eq_true rfl) rfl dX9_comes_172 (fun σ_36 H37 locs37 hw36 (hP37 : va_P G.1 vwCl (mW G h a σ_36) H37) (hD37 : va_D A (mW G h a σ_36)) hS37 => ?_)
                          clear hP0 hD0 hS0
                          have w36_0 : σ_36 = mfail σ 1 1 := hw36
                          have q38 : σ_36 = mcomes1 σ S Mn E K := by
                            subst w36_0
                            first | (simp only [mcomes1, c3, c4, c5, c6, c7, c8, eq_true c9, c10, eq_true c20, c33, eq_true c34, c35, eq_self, ↓reduceIte, and_self, and_true, true_and]; done) | (simp only [mcomes1, c3, c4, c5, c6, c7, c8, eq_true c9, c10, eq_true c20, c33, eq_true c34, c35, eq_self, ↓reduceIte, and_self, and_true, true_and]; (try and_intros) <;> rfl)
                          exact kRv F hr hlocks hS37 dX9_comes_175 σ_36 q38 hP37 hD37
                        · exact absurd (c20.symm.trans c35) (by decide)
                    · refine lv_aload_n hx hb dX9_comes_140 rfl (lv_at hl2 2 rfl) ?_
                      refine kWVv F hK hP0 hD0 hS0 hA hl2.1 (c_X9_comesHello l G h a σ S Mn E K hKe hK3 hE hE4 hs hS hM hM8 hv7) 9 0 gX9_comes_X9_comesHello rfl 0 rfl (by decide +kernel) ⟨Nat.le_of_ble_eq_true rfl, Nat.le_of_ble_eq_true rfl⟩ ⟨Nat.zero_le _, Nat.zero_le _⟩ rfl rfl (Nat.le_of_ble_eq_true rfl) rfl dX9_comes_141 (fun σ_39 H40 locs40 hw39 (hP40 : va_P G.1 vwCl (mW G h a σ_39) H40) (hD40 : va_D A (mW G h a σ_39)) hS40 => ?_)
                      clear hP0 hD0 hS0
                      have w39_0 : σ_39 = mchel σ S Mn E K := hw39
                      refine lv_goto (tgt := 175) hx hb dX9_comes_144 (by decide) ?_
                      have q41 : σ_39 = mcomes1 σ S Mn E K := by
                        subst w39_0
                        first | (simp only [mcomes1, c3, c4, c5, c6, c7, c8, eq_true c9, c10, eq_true c20, eq_true c33, eq_self, ↓reduceIte, and_self, and_true, true_and]; done) | (simp only [mcomes1, c3, c4, c5, c6, c7, c8, eq_true c9, c10, eq_true c20, eq_true c33, eq_self, ↓reduceIte, and_self, and_true, true_and]; (try and_intros) <;> rfl)
                      exact kRv F hr hlocks hS40 dX9_comes_175 σ_39 q41 hP40 hD40
            · exact absurd c8 (by decide)
          · exact absurd c7 (by decide)
        · exact absurd c6 (by decide)
      · exact absurd c5 c4
    · refine lv_iload_n hx hb dX9_comes_25 rfl (lv_at hl2 1 rfl) ?_
      refine lv_bipush (v := 6) hx hb dX9_comes_26 (by decide) ?_
      refine lv_icmp_ne (tgt := 39) hx hb dX9_comes_28 (by decide) (fun c42 => ?_) (fun c42 => ?_)
      · refine lv_iload_n hx hb dX9_comes_39 rfl (lv_at hl2 0 rfl) ?_
        refine lv_iconst (v := 4) hx hb dX9_comes_40 (by decide) ?_
        refine lv_icmp_ne (tgt := 58) hx hb dX9_comes_41 (by decide) (fun c43 => ?_) (fun c43 => ?_)
        · exact absurd c4 c43
        · refine lv_iload_n hx hb dX9_comes_44 rfl (lv_at hl2 1 rfl) ?_
          refine lv_bipush (v := 7) hx hb dX9_comes_45 (by decide) ?_
          refine lv_icmp_ne (tgt := 58) hx hb dX9_comes_47 (by decide) (fun c44 => ?_) (fun c44 => ?_)
          · refine lv_iload_n hx hb dX9_comes_58 rfl (lv_at hl2 3 rfl) ?_
            refine lv_if_ne (tgt := 79) hx hb dX9_comes_59 (by decide) (fun c45 => ?_) (fun c45 => ?_)
            · refine lv_iload_n hx hb dX9_comes_79 rfl (lv_at hl2 3 rfl) ?_
              refine lv_if_ne (tgt := 100) hx hb dX9_comes_80 (by decide) (fun c46 => ?_) (fun c46 => ?_)
              · refine lv_iload_n hx hb dX9_comes_100 rfl (lv_at hl2 3 rfl) ?_
                refine lv_if_ne (tgt := 121) hx hb dX9_comes_101 (by decide) (fun c47 => ?_) (fun c47 => ?_)
                · refine lv_iload_n hx hb dX9_comes_121 rfl (lv_at hl2 3 rfl) ?_
                  refine lv_iconst (v := 1) hx hb dX9_comes_122 (by decide) ?_
                  refine lv_icmp_ne (tgt := 147) hx hb dX9_comes_123 (by decide) (fun c48 => ?_) (fun c48 => ?_)
                  · exact absurd (by decide) c48
                  · refine lv_iload_n hx hb dX9_comes_126 rfl (lv_at hl2 0 rfl) ?_
                    refine lv_if_eq (tgt := 135) hx hb dX9_comes_127 (by decide) (fun c49 => ?_) (fun c49 => ?_)
                    · exact absurd (c4.symm.trans c49) (by decide)
                    · refine lv_iload_n hx hb dX9_comes_130 rfl (lv_at hl2 0 rfl) ?_
                      refine lv_iconst (v := 2) hx hb dX9_comes_131 (by decide) ?_
                      refine lv_icmp_ne (tgt := 147) hx hb dX9_comes_132 (by decide) (fun c50 => ?_) (fun c50 => ?_)
                      · refine lv_iload_n hx hb dX9_comes_147 rfl (lv_at hl2 3 rfl) ?_
                        refine lv_iconst (v := 1) hx hb dX9_comes_148 (by decide) ?_
                        refine lv_icmp_ne (tgt := 169) hx hb dX9_comes_149 (by decide) (fun c51 => ?_) (fun c51 => ?_)
                        · exact absurd (by decide) c51
                        · refine lv_iload_n hx hb dX9_comes_152 rfl (lv_at hl2 0 rfl) ?_
                          refine lv_iconst (v := 3) hx hb dX9_comes_153 (by decide) ?_
                          refine lv_icmp_ne (tgt := 169) hx hb dX9_comes_154 (by decide) (fun c52 => ?_) (fun c52 => ?_)
                          · refine lv_aload_n hx hb dX9_comes_169 rfl (lv_at hl2 2 rfl) ?_
                            refine lv_iload_n hx hb dX9_comes_170 rfl (lv_at hl2 3 rfl) ?_
                            refine lv_iconst (v := 1) hx hb dX9_comes_171 (by decide) ?_
                            refine kWVv F hK hP0 hD0 hS0 hA hl2.1 (c_X9_fails l G h a σ 1 1 (by first | assumption | decide | omega)) 9 0 gX9_comes_X9_fails rfl 2 rfl (by decide +kernel) ⟨Nat.le_of_ble_eq_true rfl, Nat.le_of_ble_eq_true rfl⟩ ⟨Nat.zero_le _, Nat.zero_le _⟩ rfl rfl (Nat.le_of_ble_eq_true rfl) rfl dX9_comes_172 (fun σ_53 H54 locs54 hw53 (hP54 : va_P G.1 vwCl (mW G h a σ_53) H54) (hD54 : va_D A (mW G h a σ_53)) hS54 => ?_)
                            clear hP0 hD0 hS0
                            have w53_0 : σ_53 = mfail σ 1 1 := hw53
                            have q55 : σ_53 = mcomes1 σ S Mn E K := by
                              subst w53_0
                              first | (simp only [mcomes1, c3, eq_true c4, c42, eq_true c43, c44, c45, c46, c47, eq_true c48, c49, c50, eq_true c51, c52, eq_self, ↓reduceIte, and_self, and_true, true_and]; done) | (simp only [mcomes1, c3, eq_true c4, c42, eq_true c43, c44, c45, c46, c47, eq_true c48, c49, c50, eq_true c51, c52, eq_self, ↓reduceIte, and_self, and_true, true_and]; (try and_intros) <;> rfl)
                            exact kRv F hr hlocks hS54 dX9_comes_175 σ_53 q55 hP54 hD54
                          · exact absurd (c4.symm.trans c52) (by decide)
                      · exact absurd (c4.symm.trans c50) (by decide)
                · exact absurd c47 (by decide)
              · exact absurd c46 (by decide)
            · exact absurd c45 (by decide)
          · refine lv_aload_n hx hb dX9_comes_50 rfl (lv_at hl2 2 rfl) ?_
            refine lv_iload_n hx hb dX9_comes_51 rfl (lv_at hl2 3 rfl) ?_
            refine kWVv F hK hP0 hD0 hS0 hA hl2.1 (c_X9_comesUpdate l G h a σ 1 (by first | assumption | decide | omega)) 9 0 gX9_comes_X9_comesUpdate rfl 1 rfl (by decide +kernel) ⟨Nat.le_of_ble_eq_true rfl, Nat.le_of_ble_eq_true rfl⟩ ⟨Nat.zero_le _, Nat.zero_le _⟩ rfl rfl (Nat.le_of_ble_eq_true rfl) rfl dX9_comes_52 (fun σ_56 H57 locs57 hw56 (hP57 : va_P G.1 vwCl (mW G h a σ_56) H57) (hD57 : va_D A (mW G h a σ_56)) hS57 => ?_)
            clear hP0 hD0 hS0
            have w56_0 : σ_56 = mupd σ 1 := hw56
            refine lv_goto (tgt := 175) hx hb dX9_comes_55 (by decide) ?_
            have q58 : σ_56 = mcomes1 σ S Mn E K := by
              subst w56_0
              first | (simp only [mcomes1, c3, eq_true c4, c42, eq_true c43, eq_true c44, eq_self, ↓reduceIte, and_self, and_true, true_and]; done) | (simp only [mcomes1, c3, eq_true c4, c42, eq_true c43, eq_true c44, eq_self, ↓reduceIte, and_self, and_true, true_and]; (try and_intros) <;> rfl)
            exact kRv F hr hlocks hS57 dX9_comes_175 σ_56 q58 hP57 hD57
      · refine lv_aload_n hx hb dX9_comes_31 rfl (lv_at hl2 2 rfl) ?_
        refine lv_iload_n hx hb dX9_comes_32 rfl (lv_at hl2 3 rfl) ?_
        refine kWVv F hK hP0 hD0 hS0 hA hl2.1 (c_X9_comesLetter l G h a σ 1 (by first | assumption | decide | omega)) 9 0 gX9_comes_X9_comesLetter rfl 1 rfl (by decide +kernel) ⟨Nat.le_of_ble_eq_true rfl, Nat.le_of_ble_eq_true rfl⟩ ⟨Nat.zero_le _, Nat.zero_le _⟩ rfl rfl (Nat.le_of_ble_eq_true rfl) rfl dX9_comes_33 (fun σ_59 H60 locs60 hw59 (hP60 : va_P G.1 vwCl (mW G h a σ_59) H60) (hD60 : va_D A (mW G h a σ_59)) hS60 => ?_)
        clear hP0 hD0 hS0
        have w59_0 : σ_59 = mlett σ 1 := hw59
        refine lv_goto (tgt := 175) hx hb dX9_comes_36 (by decide) ?_
        have q61 : σ_59 = mcomes1 σ S Mn E K := by
          subst w59_0
          first | (simp only [mcomes1, c3, eq_true c4, eq_true c42, eq_self, ↓reduceIte, and_self, and_true, true_and]; done) | (simp only [mcomes1, c3, eq_true c4, eq_true c42, eq_self, ↓reduceIte, and_self, and_true, true_and]; (try and_intros) <;> rfl)
        exact kRv F hr hlocks hS60 dX9_comes_175 σ_59 q61 hP60 hD60
  · have q62 : σ = mcomes1 σ S Mn E K := by
      first | (simp only [mcomes1, eq_true c3, eq_self, ↓reduceIte, and_self, and_true, true_and]; done) | (simp only [mcomes1, eq_true c3, eq_self, ↓reduceIte, and_self, and_true, true_and]; (try and_intros) <;> rfl)
    exact kRv F hr hlocks hS0 dX9_comes_19 σ q62 hP0 hD0
