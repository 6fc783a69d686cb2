theorem rj_bl {a b : Nat} (h : Nat.ble (a + 1) b = true) : a < b := Nat.le_of_ble_eq_true h
/-! LOOPS THAT COUNT: r rounds from j on -/
def rj_fo {σ : Type} (f : Nat → σ → σ) : Nat → Nat → σ → σ
  | 0, _, s => s
  | r + 1, j, s => rj_fo f r (j + 1) (f j s)
def rj_ix {σ ρ : Type} (f : Nat → σ → σ ⊕ ρ) : Nat → Nat → σ → σ ⊕ ρ
  | 0, _, s => .inl s
  | r + 1, j, s => Sum.elim (fun z => rj_ix f r (j + 1) z) .inr (f j s)
def rj_br {σ : Type} (f : Nat → σ → σ ⊕ (Nat × σ)) : Nat → Nat → σ → Nat × σ
  | 0, j, s => (j, s)
  | r + 1, j, s => Sum.elim (fun z => rj_br f r (j + 1) z) id (f j s)
theorem rj_fo_s {σ : Type} {f : Nat → σ → σ} {r j : Nat} {s : σ} : rj_fo f (r + 1) j s = rj_fo f r (j + 1) (f j s) := rfl
theorem rj_ix_l {σ ρ : Type} {f : Nat → σ → σ ⊕ ρ} {r j : Nat} {s z : σ} (e : f j s = .inl z) : rj_ix f (r + 1) j s = rj_ix f r (j + 1) z := by
  simp [rj_ix, e]
theorem rj_ix_r {σ ρ : Type} {f : Nat → σ → σ ⊕ ρ} {r j : Nat} {s : σ} {z : ρ} (e : f j s = .inr z) : rj_ix f (r + 1) j s = .inr z := by
  simp [rj_ix, e]
theorem rj_br_0 {σ : Type} {f : Nat → σ → σ ⊕ (Nat × σ)} {j : Nat} {s : σ} : rj_br f 0 j s = (j, s) := rfl
theorem rj_br_l {σ : Type} {f : Nat → σ → σ ⊕ (Nat × σ)} {r j : Nat} {s z : σ} (e : f j s = .inl z) : rj_br f (r + 1) j s = rj_br f r (j + 1) z := by
  simp [rj_br, e]
theorem rj_br_r {σ : Type} {f : Nat → σ → σ ⊕ (Nat × σ)} {r j : Nat} {s : σ} {z : Nat × σ} (e : f j s = .inr z) : rj_br f (r + 1) j s = z := by
  simp [rj_br, e]
