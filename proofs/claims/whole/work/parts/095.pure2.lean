/-! the reference's own functions: rows of numbers -/
abbrev kS : Type := Nat → Nat → Int32
def kinL (v lo hi : Int64) : Int32 := if lg_cmp v lo < 0 then 0 else if 0 < lg_cmp v hi then 0 else 1
def mhas (set k : Int32) : Int32 := if (set >>> (k &&& 31)) &&& 1 = 1 then 1 else 0
def mpw (b n : Int32) : Nat → Int32
  | 0 => 1
  | k + 1 => krem (mpw b n k * b) n
def mshare (g : Int32) (S : Nat) : Int32 := mpw (if g = 2 then 2 else 5) (kprime g) S
def mhasV (set v : Int32) : Int32 := if kinL v.toInt64 1 3 = 0 then 0 else if mhas set (v - 1) = 0 then 0 else 1
def mab (set v : Int32) : Int32 := if v = 1 then (if mhasV set 2 = 0 then (if mhasV set 3 = 0 then 0 else 1) else 1) else if v = 2 then (if mhasV set 3 = 0 then 0 else 1) else 0
def mgreat (set : Int32) : Int32 := if mhas set 3 = 0 then if mhas set 2 = 0 then if mhas set 1 = 0 then if mhas set 0 = 0 then -1 else 0 else 1 else 2 else 3
def mleast (set : Int32) : Int32 := if mhas set 0 = 0 then if mhas set 1 = 0 then if mhas set 2 = 0 then if mhas set 3 = 0 then 4 else 3 else 2 else 1 else 0
theorem va_upid {α : Type} (f : Nat → α) (r : Nat) : va_up f r (f r) = f := by
  funext z
  simp only [va_up]
  split
  · next h => rw [h]
  · rfl
theorem upd_id (f : kF) (r : Nat) : upd f r (f r) = f := by
  funext z
  simp only [upd]
  split
  · next h => rw [h]
  · rfl
theorem upd_upd (f : kF) (r : Nat) (x y : Int32) : upd (upd f r x) r y = upd f r y := by
  funext z
  simp only [upd]
  split <;> rfl
theorem va_upup {α : Type} (f : Nat → α) (r : Nat) (x y : α) : va_up (va_up f r x) r y = va_up f r y := by
  funext z
  simp only [va_up]
  split <;> rfl
theorem su_up (σ : kS) (r k : Nat) (X : kF) (v : Int32) : su (va_up σ r X) r k v = va_up σ r (upd X k v) := by
  unfold su
  rw [va_upup]
  congr 1
  simp [va_up]
def mclr (σ : kS) (v : Int32) : kS := va_up σ 29 (kbeg (σ 29) v)
def mtakes (σ : kS) (sd n : Nat) : kS := va_up σ 5 (upd (σ 5) sd (kmixN (σ 29) (σ 5 sd) n))
theorem mtk_back (σ : kS) (sd k : Nat) : su (va_up σ 5 (upd (σ 5) sd (kmixN (σ 29) (σ 5 sd) k))) 5 sd (kmix (va_up σ 5 (upd (σ 5) sd (kmixN (σ 29) (σ 5 sd) k)) 5 sd) (va_up σ 5 (upd (σ 5) sd (kmixN (σ 29) (σ 5 sd) k)) 29 k)) = va_up σ 5 (upd (σ 5) sd (kmixN (σ 29) (σ 5 sd) (k + 1))) := by
  rw [su_up, upd_upd]
  have h : va_up σ 5 (upd (σ 5) sd (kmixN (σ 29) (σ 5 sd) k)) 5 sd = kmixN (σ 29) (σ 5 sd) k := by simp [va_up, upd]
  rw [h]
  rfl
theorem mtk_0 (σ : kS) (sd : Nat) : σ = va_up σ 5 (upd (σ 5) sd (kmixN (σ 29) (σ 5 sd) 0)) := by
  rw [kmixN, upd_id, va_upid]
def mcpy (f g : kF) (b : Nat) : Nat → kF
  | 0 => f
  | k + 1 => upd (mcpy f g b k) (b + k) (g k)
def mshf (f : kF) (b : Nat) : Nat → kF
  | 0 => f
  | k + 1 => upd (mshf f b k) (b + k) (mshf f b k (b + k + 9))
def msend (σ : kS) (sd Mn : Nat) : kS := if Mn = 8 then su σ 30 0 (σ 30 0 + 1) else su (va_up σ 27 (mcpy (σ 27) (σ 29) (72 * sd + 9 * Mn) 9)) 26 sd (σ 26 sd + 1)
def mdrop (σ : kS) (sd : Nat) : kS := su (va_up σ 27 (mshf (σ 27) (72 * sd) 63)) 26 sd (σ 26 sd - 1)
def mfail (σ : kS) (sd : Nat) (why : Int32) : kS := su (su σ 3 sd 5) 4 sd why
def mjoin (σ : kS) (sd : Nat) : kS := su (su (su (su (su σ 3 sd 4) 10 (2 * sd) 0) 11 (2 * sd) 0) 10 (2 * sd + 1) 0) 11 (2 * sd + 1) 0
def mmain (σ : kS) (sd : Nat) : Int32 := kmix (σ 9 sd) (σ 5 sd)
def mlock (σ : kS) (sd w : Nat) : Int32 := kmix (kmix (mmain σ sd) (nI w)) (σ 10 (2 * sd + w))
def mproof (σ : kS) (sd : Nat) (n : Int32) : Int32 := kmix (kmix (σ 9 sd) (σ 5 sd)) n
theorem mix_w {a k : Nat} : (72 : Int32) * nI a + nI k = nI (72 * a + k) := by rw [show (72 : Int32) = nI 72 from rfl, pk_mul, nI_add]
theorem mix_9 {a k : Nat} : (72 : Int32) * nI a + nI k + 9 = nI (72 * a + k + 9) := by rw [mix_w, show (9 : Int32) = nI 9 from rfl, nI_add]
theorem mix_s {a m k : Nat} {x : Int32} (h : x = nI m) : (72 : Int32) * nI a + 9 * x + nI k = nI (72 * a + 9 * m + k) := by rw [h, show (72 : Int32) = nI 72 from rfl, show (9 : Int32) = nI 9 from rfl, pk_mul, pk_mul, nI_add, nI_add]
theorem mix_2 {a k : Nat} : (2 : Int32) * nI a + nI k = nI (2 * a + k) := by rw [show (2 : Int32) = nI 2 from rfl, pk_mul, nI_add]
theorem mix_20 {a : Nat} : (2 : Int32) * nI a + 0 = nI (2 * a) := by rw [show (2 : Int32) = nI 2 from rfl, pk_mul, show (0 : Int32) = nI 0 from rfl, nI_add]; rfl
theorem mix_21 {a : Nat} : (2 : Int32) * nI a + 1 = nI (2 * a + 1) := by rw [show (2 : Int32) = nI 2 from rfl, pk_mul, nI_1]
theorem kinL_z (v lo hi : Int64) : narrow .boolean (.int (kinL v lo hi)) = .int (kinL v lo hi) := by
  unfold kinL
  repeat' split
  all_goals rfl
theorem kd31 : ¬ (3 : Int32) = 1 := by decide
theorem kd32 : ¬ (3 : Int32) = 2 := by decide
