/-! PRECONDITIONS OF LOOPS, loops that need not count, cells named by rows of references -/
/-- rq_fo, shut -/
def ra_fo {σ : Type} (q : Nat → σ → Prop) (f : Nat → σ → σ) (r j : Nat) (s : σ) : Prop := rq_fo q f r j s
theorem ra_fo_q {σ : Type} {q : Nat → σ → Prop} {f : Nat → σ → σ} {r j : Nat} {s : σ} (h : ra_fo q f (r + 1) j s) : q j s := by
  unfold ra_fo at h; rw [rq_fo_s] at h; exact h.1
theorem ra_fo_n {σ : Type} {q : Nat → σ → Prop} {f : Nat → σ → σ} {r j : Nat} {s z : σ} (h : ra_fo q f (r + 1) j s) (e : f j s = z) : ra_fo q f r (j + 1) z := by
  unfold ra_fo at h ⊢; rw [rq_fo_s, e] at h; exact h.2
theorem ra_fo_i {σ : Type} {q : Nat → σ → Prop} {f : Nat → σ → σ} {r j : Nat} {s : σ} (h : rq_fo q f r j s) : ra_fo q f r j s := h
/-- rq_ix, shut -/
def ra_ix {σ ρ : Type} (q : Nat → σ → Prop) (f : Nat → σ → σ ⊕ ρ) (r j : Nat) (s : σ) : Prop := rq_ix q f r j s
theorem ra_ix_q {σ ρ : Type} {q : Nat → σ → Prop} {f : Nat → σ → σ ⊕ ρ} {r j : Nat} {s : σ} (h : ra_ix q f (r + 1) j s) : q j s := by
  unfold ra_ix at h; rw [rq_ix_s] at h; exact h.1
theorem ra_ix_n {σ ρ : Type} {q : Nat → σ → Prop} {f : Nat → σ → σ ⊕ ρ} {r j : Nat} {s z : σ} (h : ra_ix q f (r + 1) j s) (e : f j s = .inl z) : ra_ix q f r (j + 1) z := by
  unfold ra_ix at h ⊢; rw [rq_ix_s, e] at h; exact h.2
theorem ra_ix_i {σ ρ : Type} {q : Nat → σ → Prop} {f : Nat → σ → σ ⊕ ρ} {r j : Nat} {s : σ} (h : rq_ix q f r j s) : ra_ix q f r j s := h
/-- rq_mx, shut -/
def ra_mx {σ ρ : Type} (q : Nat → σ → Prop) (f : Nat → σ → (σ ⊕ σ) ⊕ ρ) (r j : Nat) (s : σ) : Prop := rq_mx q f r j s
theorem ra_mx_q {σ ρ : Type} {q : Nat → σ → Prop} {f : Nat → σ → (σ ⊕ σ) ⊕ ρ} {r j : Nat} {s : σ} (h : ra_mx q f (r + 1) j s) : q j s := by
  unfold ra_mx at h; rw [rq_mx_s] at h; exact h.1
theorem ra_mx_n {σ ρ : Type} {q : Nat → σ → Prop} {f : Nat → σ → (σ ⊕ σ) ⊕ ρ} {r j : Nat} {s z : σ} (h : ra_mx q f (r + 1) j s) (e : f j s = .inl (.inl z)) : ra_mx q f r (j + 1) z := by
  unfold ra_mx at h ⊢; rw [rq_mx_s, e] at h; exact h.2
theorem ra_mx_i {σ ρ : Type} {q : Nat → σ → Prop} {f : Nat → σ → (σ ⊕ σ) ⊕ ρ} {r j : Nat} {s : σ} (h : rq_mx q f r j s) : ra_mx q f r j s := h
/-- rq_do, shut -/
def ra_do {σ : Type} (q : Nat → σ → Prop) (f : Nat → σ → σ) (r : Nat) (s : σ) : Prop := rq_do q f r s
theorem ra_do_q {σ : Type} {q : Nat → σ → Prop} {f : Nat → σ → σ} {r : Nat} {s : σ} (h : ra_do q f (r + 1) s) : q r s := by
  unfold ra_do at h; rw [rq_do_s] at h; exact h.1
theorem ra_do_n {σ : Type} {q : Nat → σ → Prop} {f : Nat → σ → σ} {r : Nat} {s z : σ} (h : ra_do q f (r + 1) s) (e : f r s = z) : ra_do q f r z := by
  unfold ra_do at h ⊢; rw [rq_do_s, e] at h; exact h.2
theorem ra_do_i {σ : Type} {q : Nat → σ → Prop} {f : Nat → σ → σ} {r : Nat} {s : σ} (h : rq_do q f r s) : ra_do q f r s := h
/-- rq_we, shut -/
def ra_we {σ : Type} (q : σ → Prop) (f : σ → σ ⊕ σ) (r : Nat) (s : σ) : Prop := rq_we q f r s
theorem ra_we_q {σ : Type} {q : σ → Prop} {f : σ → σ ⊕ σ} {r : Nat} {s : σ} (h : ra_we q f (r + 1) s) : q s := by
  unfold ra_we at h; rw [rq_we_s] at h; exact h.1
theorem ra_we_n {σ : Type} {q : σ → Prop} {f : σ → σ ⊕ σ} {r : Nat} {s z : σ} (h : ra_we q f (r + 1) s) (e : f s = .inl z) : ra_we q f r z := by
  unfold ra_we at h ⊢; rw [rq_we_s, e] at h; exact h.2
theorem ra_we_i {σ : Type} {q : σ → Prop} {f : σ → σ ⊕ σ} {r : Nat} {s : σ} (h : rq_we q f r s) : ra_we q f r s := h
theorem ra_we_0 {σ : Type} {q : σ → Prop} {f : σ → σ ⊕ σ} {s : σ} (h : ra_we q f 0 s) : False := h
attribute [irreducible] ra_fo ra_ix ra_mx ra_do ra_we
