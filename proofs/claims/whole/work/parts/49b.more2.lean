/-! PRECONDITIONS OF LOOPS, loops that need not count, cells named by rows of references -/
/-- rq_fo, shut -/
noncomputable def ra_fo {σ : Type} (q : Nat → σ → Prop) (f : Nat → σ → σ) (r j : Nat) (s : σ) : Prop := Classical.choose (Exists.intro (rq_fo q f r j s) rfl : ∃ P : Prop, P = rq_fo q f r j s)
theorem ra_fo_eq {σ : Type} {q : Nat → σ → Prop} {f : Nat → σ → σ} {r j : Nat} {s : σ} : ra_fo q f r j s = rq_fo q f r j s := Classical.choose_spec (Exists.intro (rq_fo q f r j s) rfl : ∃ P : Prop, P = rq_fo q f r j s)
theorem ra_fo_q {σ : Type} {q : Nat → σ → Prop} {f : Nat → σ → σ} {r j : Nat} {s : σ} (h : ra_fo q f (r + 1) j s) : q j s := by
  rw [ra_fo_eq, rq_fo_s] at h; exact h.1
theorem ra_fo_n {σ : Type} {q : Nat → σ → Prop} {f : Nat → σ → σ} {r j : Nat} {s z : σ} (h : ra_fo q f (r + 1) j s) (e : f j s = z) : ra_fo q f r (j + 1) z := by
  rw [ra_fo_eq, rq_fo_s, e] at h; rw [ra_fo_eq]; exact h.2
theorem ra_fo_i {σ : Type} {q : Nat → σ → Prop} {f : Nat → σ → σ} {r j : Nat} {s : σ} (h : rq_fo q f r j s) : ra_fo q f r j s := by rw [ra_fo_eq]; exact h
/-- rq_ix, shut -/
noncomputable def ra_ix {σ ρ : Type} (q : Nat → σ → Prop) (f : Nat → σ → σ ⊕ ρ) (r j : Nat) (s : σ) : Prop := Classical.choose (Exists.intro (rq_ix q f r j s) rfl : ∃ P : Prop, P = rq_ix q f r j s)
theorem ra_ix_eq {σ ρ : Type} {q : Nat → σ → Prop} {f : Nat → σ → σ ⊕ ρ} {r j : Nat} {s : σ} : ra_ix q f r j s = rq_ix q f r j s := Classical.choose_spec (Exists.intro (rq_ix q f r j s) rfl : ∃ P : Prop, P = rq_ix q f r j s)
theorem ra_ix_q {σ ρ : Type} {q : Nat → σ → Prop} {f : Nat → σ → σ ⊕ ρ} {r j : Nat} {s : σ} (h : ra_ix q f (r + 1) j s) : q j s := by
  rw [ra_ix_eq, rq_ix_s] at h; exact h.1
theorem ra_ix_n {σ ρ : Type} {q : Nat → σ → Prop} {f : Nat → σ → σ ⊕ ρ} {r j : Nat} {s z : σ} (h : ra_ix q f (r + 1) j s) (e : f j s = .inl z) : ra_ix q f r (j + 1) z := by
  rw [ra_ix_eq, rq_ix_s, e] at h; rw [ra_ix_eq]; exact h.2
theorem ra_ix_i {σ ρ : Type} {q : Nat → σ → Prop} {f : Nat → σ → σ ⊕ ρ} {r j : Nat} {s : σ} (h : rq_ix q f r j s) : ra_ix q f r j s := by rw [ra_ix_eq]; exact h
/-- rq_mx, shut -/
noncomputable def ra_mx {σ ρ : Type} (q : Nat → σ → Prop) (f : Nat → σ → (σ ⊕ σ) ⊕ ρ) (r j : Nat) (s : σ) : Prop := Classical.choose (Exists.intro (rq_mx q f r j s) rfl : ∃ P : Prop, P = rq_mx q f r j s)
theorem ra_mx_eq {σ ρ : Type} {q : Nat → σ → Prop} {f : Nat → σ → (σ ⊕ σ) ⊕ ρ} {r j : Nat} {s : σ} : ra_mx q f r j s = rq_mx q f r j s := Classical.choose_spec (Exists.intro (rq_mx q f r j s) rfl : ∃ P : Prop, P = rq_mx q f r j s)
theorem ra_mx_q {σ ρ : Type} {q : Nat → σ → Prop} {f : Nat → σ → (σ ⊕ σ) ⊕ ρ} {r j : Nat} {s : σ} (h : ra_mx q f (r + 1) j s) : q j s := by
  rw [ra_mx_eq, rq_mx_s] at h; exact h.1
theorem ra_mx_n {σ ρ : Type} {q : Nat → σ → Prop} {f : Nat → σ → (σ ⊕ σ) ⊕ ρ} {r j : Nat} {s z : σ} (h : ra_mx q f (r + 1) j s) (e : f j s = .inl (.inl z)) : ra_mx q f r (j + 1) z := by
  rw [ra_mx_eq, rq_mx_s, e] at h; rw [ra_mx_eq]; exact h.2
theorem ra_mx_i {σ ρ : Type} {q : Nat → σ → Prop} {f : Nat → σ → (σ ⊕ σ) ⊕ ρ} {r j : Nat} {s : σ} (h : rq_mx q f r j s) : ra_mx q f r j s := by rw [ra_mx_eq]; exact h
/-- rq_do, shut -/
noncomputable def ra_do {σ : Type} (q : Nat → σ → Prop) (f : Nat → σ → σ) (r : Nat) (s : σ) : Prop := Classical.choose (Exists.intro (rq_do q f r s) rfl : ∃ P : Prop, P = rq_do q f r s)
theorem ra_do_eq {σ : Type} {q : Nat → σ → Prop} {f : Nat → σ → σ} {r : Nat} {s : σ} : ra_do q f r s = rq_do q f r s := Classical.choose_spec (Exists.intro (rq_do q f r s) rfl : ∃ P : Prop, P = rq_do q f r s)
theorem ra_do_q {σ : Type} {q : Nat → σ → Prop} {f : Nat → σ → σ} {r : Nat} {s : σ} (h : ra_do q f (r + 1) s) : q r s := by
  rw [ra_do_eq, rq_do_s] at h; exact h.1
theorem ra_do_n {σ : Type} {q : Nat → σ → Prop} {f : Nat → σ → σ} {r : Nat} {s z : σ} (h : ra_do q f (r + 1) s) (e : f r s = z) : ra_do q f r z := by
  rw [ra_do_eq, rq_do_s, e] at h; rw [ra_do_eq]; exact h.2
theorem ra_do_i {σ : Type} {q : Nat → σ → Prop} {f : Nat → σ → σ} {r : Nat} {s : σ} (h : rq_do q f r s) : ra_do q f r s := by rw [ra_do_eq]; exact h
/-- rq_we, shut -/
noncomputable def ra_we {σ : Type} (q : σ → Prop) (f : σ → σ ⊕ σ) (r : Nat) (s : σ) : Prop := Classical.choose (Exists.intro (rq_we q f r s) rfl : ∃ P : Prop, P = rq_we q f r s)
theorem ra_we_eq {σ : Type} {q : σ → Prop} {f : σ → σ ⊕ σ} {r : Nat} {s : σ} : ra_we q f r s = rq_we q f r s := Classical.choose_spec (Exists.intro (rq_we q f r s) rfl : ∃ P : Prop, P = rq_we q f r s)
theorem ra_we_q {σ : Type} {q : σ → Prop} {f : σ → σ ⊕ σ} {r : Nat} {s : σ} (h : ra_we q f (r + 1) s) : q s := by
  rw [ra_we_eq, rq_we_s] at h; exact h.1
theorem ra_we_n {σ : Type} {q : σ → Prop} {f : σ → σ ⊕ σ} {r : Nat} {s z : σ} (h : ra_we q f (r + 1) s) (e : f s = .inl z) : ra_we q f r z := by
  rw [ra_we_eq, rq_we_s, e] at h; rw [ra_we_eq]; exact h.2
theorem ra_we_i {σ : Type} {q : σ → Prop} {f : σ → σ ⊕ σ} {r : Nat} {s : σ} (h : rq_we q f r s) : ra_we q f r s := by rw [ra_we_eq]; exact h
theorem ra_we_0 {σ : Type} {q : σ → Prop} {f : σ → σ ⊕ σ} {s : σ} (h : ra_we q f 0 s) : False := by rw [ra_we_eq] at h; exact h
