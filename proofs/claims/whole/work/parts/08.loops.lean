theorem rj_bl {a b : Nat} (h : Nat.ble (a + 1) b = true) : a < b := Nat.le_of_ble_eq_true h
/-! LOOPS THAT COUNT: r rounds from j on -/
def rj_fo {σ : Type} (f : Nat → σ → σ) : Nat → Nat → σ → σ
  | 0, _, s => s
  | r + 1, j, s => rj_fo f r (j + 1) (f j s)
def rj_ix {σ ρ : Type} (f : Nat → σ → σ ⊕ ρ) : Nat → Nat → σ → σ ⊕ ρ
  | 0, _, s => .inl s
  | r + 1, j, s => Sum.elim (fun z => rj_ix f r (j + 1) z) .inr (f j s)
def rj_br {σ : Type} (f : Nat → σ → σ ⊕ (Nat × σ)) : Nat → Nat → σ → Nat × σ
  | 0, j, s => (j, s)
  | r + 1, j, s => Sum.elim (fun z => rj_br f r (j + 1) z) id (f j s)
def rj_mx {σ ρ : Type} (f : Nat → σ → (σ ⊕ σ) ⊕ ρ) : Nat → Nat → σ → σ ⊕ ρ
  | 0, _, s => .inl s
  | r + 1, j, s => Sum.elim (fun w => Sum.elim (fun z => rj_mx f r (j + 1) z) .inl w) .inr (f j s)
theorem rj_mx_l {σ ρ : Type} {f : Nat → σ → (σ ⊕ σ) ⊕ ρ} {r j : Nat} {s z : σ} (e : f j s = .inl (.inl z)) : rj_mx f (r + 1) j s = rj_mx f r (j + 1) z := by
  simp [rj_mx, e]
theorem rj_mx_b {σ ρ : Type} {f : Nat → σ → (σ ⊕ σ) ⊕ ρ} {r j : Nat} {s z : σ} (e : f j s = .inl (.inr z)) : rj_mx f (r + 1) j s = .inl z := by
  simp [rj_mx, e]
theorem rj_mx_r {σ ρ : Type} {f : Nat → σ → (σ ⊕ σ) ⊕ ρ} {r j : Nat} {s : σ} {z : ρ} (e : f j s = .inr z) : rj_mx f (r + 1) j s = .inr z := by
  simp [rj_mx, e]
def rj_do {σ : Type} (f : Nat → σ → σ) : Nat → σ → σ
  | 0, s => s
  | r + 1, s => rj_do f r (f r s)
theorem rj_do_s {σ : Type} {f : Nat → σ → σ} {r : Nat} {s : σ} : rj_do f (r + 1) s = rj_do f r (f r s) := rfl
/-- a test against a bound that is no number, counted -/
theorem rj_tN (B : Int32) : B.toInt.toNat < 2 ^ 31 := by
  have h1 := Int32.toInt_lt B
  omega
theorem rj_leN {B : Int32} {j : Nat} (hj : j < 2 ^ 31) : B ≤ nI j ↔ B.toInt.toNat ≤ j := by
  rw [Int32.le_iff_toInt_le, nI_toInt hj]
  omega
/-- outcomes -/
def rj_oi : Int32 ⊕ String → Option Value ⊕ String := Sum.elim (fun v => .inl (some (.int v))) .inr
def rj_ol : Int64 ⊕ String → Option Value ⊕ String := Sum.elim (fun v => .inl (some (.long v))) .inr
def rj_od : UInt64 ⊕ String → Option Value ⊕ String := Sum.elim (fun v => .inl (some (.double v))) .inr
def rj_bx {α : Type} : Option String → α ⊕ String → α ⊕ String
  | none, k => k
  | some E, _ => .inr E
def rj_bm : Option String → rj_M → rj_M → rj_M
  | none, k, _ => k
  | some _, _, z => z
theorem rj_fo_s {σ : Type} {f : Nat → σ → σ} {r j : Nat} {s : σ} : rj_fo f (r + 1) j s = rj_fo f r (j + 1) (f j s) := rfl
theorem rj_ix_l {σ ρ : Type} {f : Nat → σ → σ ⊕ ρ} {r j : Nat} {s z : σ} (e : f j s = .inl z) : rj_ix f (r + 1) j s = rj_ix f r (j + 1) z := by
  simp [rj_ix, e]
theorem rj_ix_r {σ ρ : Type} {f : Nat → σ → σ ⊕ ρ} {r j : Nat} {s : σ} {z : ρ} (e : f j s = .inr z) : rj_ix f (r + 1) j s = .inr z := by
  simp [rj_ix, e]
theorem rj_br_0 {σ : Type} {f : Nat → σ → σ ⊕ (Nat × σ)} {j : Nat} {s : σ} : rj_br f 0 j s = (j, s) := rfl
theorem rj_br_l {σ : Type} {f : Nat → σ → σ ⊕ (Nat × σ)} {r j : Nat} {s z : σ} (e : f j s = .inl z) : rj_br f (r + 1) j s = rj_br f r (j + 1) z := by
  simp [rj_br, e]
theorem rj_br_r {σ : Type} {f : Nat → σ → σ ⊕ (Nat × σ)} {r j : Nat} {s : σ} {z : Nat × σ} (e : f j s = .inr z) : rj_br f (r + 1) j s = z := by
  simp [rj_br, e]
