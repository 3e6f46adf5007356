/-! what comes to the client, whole; its step -/
section
variable {n : Nat} {nw c t p a b s N B : kF} {T : kFF} {r a2 b2 rp : kF} {M : kFF} {rq : kF} {M2 Y : kFF} {zf x xl : kF} {σ : kS}
theorem rel_again (h : Rel n nw c t p a b s N B T r a2 b2 rp M rq M2 Y zf x xl σ) : Rel n nw (upd c 5 1) t p a b s N B T r a2 b2 rp M rq M2 Y zf x xl (su σ 19 0 1) := by
  have hc := h.cli
  exact ⟨h.now, ⟨⟨hc.1.1, hc.1.2.1, hc.1.2.2.1, hc.1.2.2.2.1, hc.1.2.2.2.2.1, hc.1.2.2.2.2.2.1, hc.1.2.2.2.2.2.2.1, hc.1.2.2.2.2.2.2.2.1, hc.1.2.2.2.2.2.2.2.2.1, hc.1.2.2.2.2.2.2.2.2.2.1, hc.1.2.2.2.2.2.2.2.2.2.2.1, rfl⟩, hc.2.1, Or.inr rfl, hc.2.2.2⟩, h.p, h.srv, h.r, h.rc, h.rs, h.cop, h.txt, h.gone⟩
theorem rel_su6_0 (h : Rel n nw c t p a b s N B T r a2 b2 rp M rq M2 Y zf x xl σ) (hf : ¬ (p 3 = 4 ∨ p 3 = 3)) (v : Int32) : Rel n nw c t p a b s N B T r a2 b2 rp M rq M2 Y zf x xl (su σ 6 0 v) := by
  have hp := h.p
  exact ⟨h.now, h.cli, ⟨hp.1, hp.2.1, hp.2.2.1, hp.2.2.2.1, hp.2.2.2.2.1, fun q => absurd q hf, fun q => absurd (Or.inl q) hf⟩, h.srv, h.r, h.rc, h.rs, h.cop, h.txt, h.gone⟩
theorem rel_su7_0 (h : Rel n nw c t p a b s N B T r a2 b2 rp M rq M2 Y zf x xl σ) (hf : ¬ (p 3 = 4 ∨ p 3 = 3)) (v : Int32) : Rel n nw c t p a b s N B T r a2 b2 rp M rq M2 Y zf x xl (su σ 7 0 v) := by
  have hp := h.p
  exact ⟨h.now, h.cli, ⟨hp.1, hp.2.1, hp.2.2.1, hp.2.2.2.1, hp.2.2.2.2.1, fun q => absurd q hf, fun q => absurd (Or.inl q) hf⟩, h.srv, h.r, h.rc, h.rs, h.cop, h.txt, h.gone⟩
theorem rel_su8_0 (h : Rel n nw c t p a b s N B T r a2 b2 rp M rq M2 Y zf x xl σ) (hf : ¬ (p 3 = 4 ∨ p 3 = 3)) (v : Int32) : Rel n nw c t p a b s N B T r a2 b2 rp M rq M2 Y zf x xl (su σ 8 0 v) := by
  have hp := h.p
  exact ⟨h.now, h.cli, ⟨hp.1, hp.2.1, hp.2.2.1, hp.2.2.2.1, hp.2.2.2.2.1, fun q => absurd q hf, fun q => absurd (Or.inl q) hf⟩, h.srv, h.r, h.rc, h.rs, h.cop, h.txt, h.gone⟩
theorem rel_su9_0 (h : Rel n nw c t p a b s N B T r a2 b2 rp M rq M2 Y zf x xl σ) (hf : ¬ (p 3 = 4 ∨ p 3 = 3)) (v : Int32) : Rel n nw c t p a b s N B T r a2 b2 rp M rq M2 Y zf x xl (su σ 9 0 v) := by
  have hp := h.p
  exact ⟨h.now, h.cli, ⟨hp.1, hp.2.1, hp.2.2.1, hp.2.2.2.1, hp.2.2.2.2.1, fun q => absurd q hf, fun q => absurd (Or.inl q) hf⟩, h.srv, h.r, h.rc, h.rs, h.cop, h.txt, h.gone⟩
theorem rel_su6_1 (h : Rel n nw c t p a b s N B T r a2 b2 rp M rq M2 Y zf x xl σ) (hf : ¬ (r 3 = 4 ∨ r 3 = 3)) (v : Int32) : Rel n nw c t p a b s N B T r a2 b2 rp M rq M2 Y zf x xl (su σ 6 1 v) := by
  have hp := h.r
  exact ⟨h.now, h.cli, h.p, h.srv, ⟨hp.1, hp.2.1, hp.2.2.1, hp.2.2.2.1, hp.2.2.2.2.1, fun q => absurd q hf, fun q => absurd (Or.inl q) hf⟩, h.rc, h.rs, h.cop, h.txt, h.gone⟩
theorem rel_su7_1 (h : Rel n nw c t p a b s N B T r a2 b2 rp M rq M2 Y zf x xl σ) (hf : ¬ (r 3 = 4 ∨ r 3 = 3)) (v : Int32) : Rel n nw c t p a b s N B T r a2 b2 rp M rq M2 Y zf x xl (su σ 7 1 v) := by
  have hp := h.r
  exact ⟨h.now, h.cli, h.p, h.srv, ⟨hp.1, hp.2.1, hp.2.2.1, hp.2.2.2.1, hp.2.2.2.2.1, fun q => absurd q hf, fun q => absurd (Or.inl q) hf⟩, h.rc, h.rs, h.cop, h.txt, h.gone⟩
theorem rel_su8_1 (h : Rel n nw c t p a b s N B T r a2 b2 rp M rq M2 Y zf x xl σ) (hf : ¬ (r 3 = 4 ∨ r 3 = 3)) (v : Int32) : Rel n nw c t p a b s N B T r a2 b2 rp M rq M2 Y zf x xl (su σ 8 1 v) := by
  have hp := h.r
  exact ⟨h.now, h.cli, h.p, h.srv, ⟨hp.1, hp.2.1, hp.2.2.1, hp.2.2.2.1, hp.2.2.2.2.1, fun q => absurd q hf, fun q => absurd (Or.inl q) hf⟩, h.rc, h.rs, h.cop, h.txt, h.gone⟩
theorem rel_su9_1 (h : Rel n nw c t p a b s N B T r a2 b2 rp M rq M2 Y zf x xl σ) (hf : ¬ (r 3 = 4 ∨ r 3 = 3)) (v : Int32) : Rel n nw c t p a b s N B T r a2 b2 rp M rq M2 Y zf x xl (su σ 9 1 v) := by
  have hp := h.r
  exact ⟨h.now, h.cli, h.p, h.srv, ⟨hp.1, hp.2.1, hp.2.2.1, hp.2.2.2.1, hp.2.2.2.2.1, fun q => absurd q hf, fun q => absurd (Or.inl q) hf⟩, h.rc, h.rs, h.cop, h.txt, h.gone⟩
theorem rel_put0 (h : Rel n nw c t p a b s N B T r a2 b2 rp M rq M2 Y zf x xl σ) (hf : ¬ (p 3 = 4 ∨ p 3 = 3)) {k : Nat} (hk : 6 ≤ k) (hk2 : k ≤ 10) (v : Int32) : Rel n nw c t (upd p k v) a b s N B T r a2 b2 rp M rq M2 Y zf x xl σ := by
  have hp := h.p
  have e0 : upd p k v 0 = p 0 := pk_un (by omega)
  have e1 : upd p k v 1 = p 1 := pk_un (by omega)
  have e2 : upd p k v 2 = p 2 := pk_un (by omega)
  have e3 : upd p k v 3 = p 3 := pk_un (by omega)
  have e4 : upd p k v 4 = p 4 := pk_un (by omega)
  have e5 : upd p k v 5 = p 5 := pk_un (by omega)
  have e11 : upd p k v 11 = p 11 := pk_un (by omega)
  have e12 : upd p k v 12 = p 12 := pk_un (by omega)
  have hp2 : RPeer 0 (upd p k v) a b σ := by
    unfold RPeer
    rw [e0, e1, e2, e3, e4, e5, e11, e12]
    exact ⟨hp.1, hp.2.1, hp.2.2.1, hp.2.2.2.1, hp.2.2.2.2.1, fun q => absurd q hf, fun q => absurd (Or.inl q) hf⟩
  exact ⟨h.now, h.cli, hp2, h.srv, h.r, h.rc, h.rs, h.cop, h.txt, h.gone⟩
theorem rel_join0 (h : Rel n nw c t p a b s N B T r a2 b2 rp M rq M2 Y zf x xl σ) (h6 : σ 6 0 = p 6) (h7 : σ 7 0 = p 7) (h8 : σ 8 0 = p 8) (h81 : p 8 = 0 ∨ p 8 = 1) (h9 : σ 9 0 = p 9) : Rel n nw c t (kjoinP p) (kopen a) (kopen b) s N B T r a2 b2 rp M rq M2 Y zf x xl (mjoin σ 0) := by
  have hp := h.p
  have hp2 : RPeer 0 (kjoinP p) (kopen a) (kopen b) (mjoin σ 0) := ⟨⟨hp.1.1, hp.1.2.1, hp.1.2.2.1, rfl, hp.1.2.2.2.2⟩, hp.2.1, hp.2.2.1, hp.2.2.2.1, hp.2.2.2.2.1, fun _ => ⟨h6, h7, h8, h81, h9⟩, fun _ => ⟨rfl, rfl, rfl, rfl, rfl⟩⟩
  exact ⟨h.now, h.cli, hp2, h.srv, h.r, h.rc, h.rs, h.cop, h.txt, h.gone⟩
theorem rel_put1 (h : Rel n nw c t p a b s N B T r a2 b2 rp M rq M2 Y zf x xl σ) (hf : ¬ (r 3 = 4 ∨ r 3 = 3)) {k : Nat} (hk : 6 ≤ k) (hk2 : k ≤ 10) (v : Int32) : Rel n nw c t p a b s N B T (upd r k v) a2 b2 rp M rq M2 Y zf x xl σ := by
  have hp := h.r
  have e0 : upd r k v 0 = r 0 := pk_un (by omega)
  have e1 : upd r k v 1 = r 1 := pk_un (by omega)
  have e2 : upd r k v 2 = r 2 := pk_un (by omega)
  have e3 : upd r k v 3 = r 3 := pk_un (by omega)
  have e4 : upd r k v 4 = r 4 := pk_un (by omega)
  have e5 : upd r k v 5 = r 5 := pk_un (by omega)
  have e11 : upd r k v 11 = r 11 := pk_un (by omega)
  have e12 : upd r k v 12 = r 12 := pk_un (by omega)
  have hp2 : RPeer 1 (upd r k v) a2 b2 σ := by
    unfold RPeer
    rw [e0, e1, e2, e3, e4, e5, e11, e12]
    exact ⟨hp.1, hp.2.1, hp.2.2.1, hp.2.2.2.1, hp.2.2.2.2.1, fun q => absurd q hf, fun q => absurd (Or.inl q) hf⟩
  exact ⟨h.now, h.cli, h.p, h.srv, hp2, h.rc, h.rs, h.cop, h.txt, h.gone⟩
theorem rel_join1 (h : Rel n nw c t p a b s N B T r a2 b2 rp M rq M2 Y zf x xl σ) (h6 : σ 6 1 = r 6) (h7 : σ 7 1 = r 7) (h8 : σ 8 1 = r 8) (h81 : r 8 = 0 ∨ r 8 = 1) (h9 : σ 9 1 = r 9) : Rel n nw c t p a b s N B T (kjoinP r) (kopen a2) (kopen b2) rp M rq M2 Y zf x xl (mjoin σ 1) := by
  have hp := h.r
  have hp2 : RPeer 1 (kjoinP r) (kopen a2) (kopen b2) (mjoin σ 1) := ⟨⟨hp.1.1, hp.1.2.1, hp.1.2.2.1, rfl, hp.1.2.2.2.2⟩, hp.2.1, hp.2.2.1, hp.2.2.2.1, hp.2.2.2.2.1, fun _ => ⟨h6, h7, h8, h81, h9⟩, fun _ => ⟨rfl, rfl, rfl, rfl, rfl⟩⟩
  exact ⟨h.now, h.cli, h.p, h.srv, hp2, h.rc, h.rs, h.cop, h.txt, h.gone⟩
end
