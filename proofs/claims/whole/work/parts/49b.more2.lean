/-! PRECONDITIONS OF LOOPS, loops that need not count, cells named by rows of references -/
/-- one round of a loop's precondition -/
theorem rq_fo_q {σ : Type} {q : Nat → σ → Prop} {f : Nat → σ → σ} {r j : Nat} {s : σ} (h : rq_fo q f (r + 1) j s) : q j s := by
  rw [rq_fo_s] at h; exact h.1
theorem rq_fo_n {σ : Type} {q : Nat → σ → Prop} {f : Nat → σ → σ} {r j : Nat} {s z : σ} (h : rq_fo q f (r + 1) j s) (e : f j s = z) : rq_fo q f r (j + 1) z := by
  rw [rq_fo_s, e] at h; exact h.2
theorem rq_ix_q {σ ρ : Type} {q : Nat → σ → Prop} {f : Nat → σ → σ ⊕ ρ} {r j : Nat} {s : σ} (h : rq_ix q f (r + 1) j s) : q j s := by
  rw [rq_ix_s] at h; exact h.1
theorem rq_ix_n {σ ρ : Type} {q : Nat → σ → Prop} {f : Nat → σ → σ ⊕ ρ} {r j : Nat} {s z : σ} (h : rq_ix q f (r + 1) j s) (e : f j s = .inl z) : rq_ix q f r (j + 1) z := by
  rw [rq_ix_s, e] at h; exact h.2
theorem rq_mx_q {σ ρ : Type} {q : Nat → σ → Prop} {f : Nat → σ → (σ ⊕ σ) ⊕ ρ} {r j : Nat} {s : σ} (h : rq_mx q f (r + 1) j s) : q j s := by
  rw [rq_mx_s] at h; exact h.1
theorem rq_mx_n {σ ρ : Type} {q : Nat → σ → Prop} {f : Nat → σ → (σ ⊕ σ) ⊕ ρ} {r j : Nat} {s z : σ} (h : rq_mx q f (r + 1) j s) (e : f j s = .inl (.inl z)) : rq_mx q f r (j + 1) z := by
  rw [rq_mx_s, e] at h; exact h.2
theorem rq_do_q {σ : Type} {q : Nat → σ → Prop} {f : Nat → σ → σ} {r : Nat} {s : σ} (h : rq_do q f (r + 1) s) : q r s := by
  rw [rq_do_s] at h; exact h.1
theorem rq_do_n {σ : Type} {q : Nat → σ → Prop} {f : Nat → σ → σ} {r : Nat} {s z : σ} (h : rq_do q f (r + 1) s) (e : f r s = z) : rq_do q f r z := by
  rw [rq_do_s, e] at h; exact h.2
theorem rq_we_q {σ : Type} {q : σ → Prop} {f : σ → σ ⊕ σ} {r : Nat} {s : σ} (h : rq_we q f (r + 1) s) : q s := by
  rw [rq_we_s] at h; exact h.1
theorem rq_we_n {σ : Type} {q : σ → Prop} {f : σ → σ ⊕ σ} {r : Nat} {s z : σ} (h : rq_we q f (r + 1) s) (e : f s = .inl z) : rq_we q f r z := by
  rw [rq_we_s, e] at h; exact h.2
