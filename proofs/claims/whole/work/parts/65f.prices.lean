/-! PRICES OF ACTS, as numbers. W: the wishes; r x k: x can be reached behind k; B: the begins -/
def zv_E (W : Nat → Nat) (r : Nat → Nat → Prop) (P : Nat → Nat) (k : Nat) : Prop := (W k = 0 ∧ P k = 0) ∨ (0 < W k ∧ ∃ D, P k = W k + D ∧ (∀ x, x < 16 → r x k → P x ≤ D) ∧ (D = 0 ∨ ∃ x, x < 16 ∧ r x k ∧ P x = D))
theorem zv_uni {W B : Nat → Nat} {r : Nat → Nat → Prop} {P Q : Nat → Nat} {M : Nat} (hB : ∀ k, k < 16 → B k ≤ M) (hr : ∀ x k, x < 16 → k < 16 → r x k → B k < B x) (hP : ∀ k, k < 16 → zv_E W r P k) (hQ : ∀ k, k < 16 → zv_E W r Q k) : ∀ (n k : Nat), k < 16 → M - B k < n → P k = Q k
  | 0, _, _, h => absurd h (Nat.not_lt_zero _)
  | n + 1, k, hk, hn => by
    have ih : ∀ x, x < 16 → r x k → P x = Q x := fun x hx hxk => zv_uni hB hr hP hQ n x hx (by
      have h1 := hr x k hx hk hxk
      have h2 := hB x hx
      omega)
    rcases hP k hk with ⟨p1, p2⟩ | ⟨p1, D, p2, p3, p4⟩ <;> rcases hQ k hk with ⟨q1, q2⟩ | ⟨q1, E, q2, q3, q4⟩
    · rw [p2, q2]
    · omega
    · omega
    · have h1 : D ≤ E := by
        rcases p4 with e | ⟨x, a1, a2, a3⟩
        · omega
        · have := q3 x a1 a2
          have := ih x a1 a2
          omega
      have h2 : E ≤ D := by
        rcases q4 with e | ⟨x, a1, a2, a3⟩
        · omega
        · have := p3 x a1 a2
          have := ih x a1 a2
          omega
      omega
/-- how many of the first n are so -/
def zc_n (p : Nat → Bool) : Nat → Nat
  | 0 => 0
  | n + 1 => zc_n p n + (if p n = true then 1 else 0)
theorem zc_le {p : Nat → Bool} : ∀ n, zc_n p n ≤ n
  | 0 => Nat.le_refl _
  | n + 1 => by
    have h := zc_le (p := p) n
    unfold zc_n
    split <;> omega
theorem zc_mono {p q : Nat → Bool} : ∀ n, (∀ i, i < n → p i = true → q i = true) → zc_n p n ≤ zc_n q n
  | 0, _ => Nat.le_refl _
  | n + 1, h => by
    have h1 := zc_mono n (fun i hi => h i (by omega))
    have h2 := h n (Nat.lt_succ_self n)
    unfold zc_n
    by_cases c : p n = true
    · rw [if_pos c, if_pos (h2 c)]
      omega
    · rw [if_neg c]
      split <;> omega
theorem zc_lt {p q : Nat → Bool} {a : Nat} : ∀ n, a < n → (∀ i, i < n → p i = true → q i = true) → p a = false → q a = true → zc_n p n < zc_n q n
  | 0, h, _, _, _ => absurd h (Nat.not_lt_zero _)
  | n + 1, ha, h, hp, hq => by
    unfold zc_n
    by_cases e : a = n
    · subst e
      have h1 := zc_mono (p := p) (q := q) a (fun i hi => h i (by omega))
      rw [hp, hq]
      simp
      omega
    · have h1 := zc_lt n (by omega) (fun i hi => h i (by omega)) hp hq
      have h2 := h n (Nat.lt_succ_self n)
      by_cases c : p n = true
      · rw [if_pos c, if_pos (h2 c)]
        omega
      · rw [if_neg c]
        split <;> omega
theorem zc_all {p : Nat → Bool} : ∀ n, zc_n p n = 0 → ∀ i, i < n → p i = false
  | 0, _, _, h => absurd h (Nat.not_lt_zero _)
  | n + 1, h, i, hi => by
    unfold zc_n at h
    by_cases e : i = n
    · subst e
      rcases hp : p i with _ | _
      · rfl
      · rw [hp] at h
        simp at h
    · exact zc_all n (by omega) i (by omega)
theorem zc_none {p : Nat → Bool} : ∀ n, (∀ i, i < n → p i = false) → zc_n p n = 0
  | 0, _ => rfl
  | n + 1, h => by
    unfold zc_n
    rw [zc_none n (fun i hi => h i (by omega)), h n (Nat.lt_succ_self n)]
    rfl
/-- the class's order: one more act is priced, the latest of those that are left -/
theorem zv_add {W B : Nat → Nat} {r : Nat → Nat → Prop} {P : Nat → Nat} {dn : Nat → Prop} {a D : Nat} (hr : ∀ x k, x < 16 → k < 16 → r x k → B k < B x) (ha : a < 16) (hE : ∀ k, k < 16 → dn k → zv_E W r P k) (hlate : ∀ k, k < 16 → dn k → B a ≤ B k) (hD1 : ∀ x, x < 16 → r x a → P x ≤ D) (hD2 : D = 0 ∨ ∃ x, x < 16 ∧ r x a ∧ P x = D) : ∀ k, k < 16 → dn k ∨ k = a → zv_E W r (fun i => if i = a then (if W a = 0 then 0 else W a + D) else P i) k := by
  intro k hk h
  by_cases e : k = a
  · subst e
    by_cases hw : W k = 0
    · exact .inl ⟨hw, by simp [hw]⟩
    · refine .inr ⟨by omega, D, by simp [hw], fun x hx hxk => ?_, ?_⟩
      · have hne : x ≠ k := fun z => by
          subst z
          exact absurd (hr x x hx hx hxk) (Nat.lt_irrefl _)
        simp only [if_neg hne]
        exact hD1 x hx hxk
      · rcases hD2 with z | ⟨x, h1, h2, h3⟩
        · exact .inl z
        · refine .inr ⟨x, h1, h2, ?_⟩
          have hne : x ≠ k := fun z => by
            subst z
            exact absurd (hr x x h1 h1 h2) (Nat.lt_irrefl _)
          simp only [if_neg hne]
          exact h3
  · have hdk : dn k := by
      rcases h with h | h
      · exact h
      · exact absurd h e
    have hne : ∀ x, x < 16 → r x k → x ≠ a := fun x hx hxk z => by
      subst z
      have h1 := hr x k hx hk hxk
      have h2 := hlate k hk hdk
      omega
    rcases hE k hk hdk with ⟨h1, h2⟩ | ⟨h1, D', h2, h3, h4⟩
    · exact .inl ⟨h1, by simp only [if_neg e]; exact h2⟩
    · refine .inr ⟨h1, D', by simp only [if_neg e]; exact h2, fun x hx hxk => ?_, ?_⟩
      · simp only [if_neg (hne x hx hxk)]
        exact h3 x hx hxk
      · rcases h4 with z | ⟨x, a1, a2, a3⟩
        · exact .inl z
        · exact .inr ⟨x, a1, a2, by simp only [if_neg (hne x a1 a2)]; exact a3⟩
/-- the reference's rounds: what holds of the prices after t rounds, Q being the right ones of the day -/
def zv_T (B Q : Nat → Nat) (t : Nat) (P : Nat → Nat) : Prop := ∀ k, k < 16 → zc_n (fun y => decide (B k < B y)) 16 < t → P k = Q k
theorem zv_cnt {B : Nat → Nat} {k : Nat} (hk : k < 16) : zc_n (fun y => decide (B k < B y)) 16 < 16 := by
  have h := zc_lt (p := fun y => decide (B k < B y)) (q := fun _ => true) (a := k) 16 hk (fun _ _ _ => rfl) (by simp) rfl
  have h2 := zc_le (p := fun _ => true) 16
  omega
theorem zv_cnt_lt {B : Nat → Nat} {x k : Nat} (hx : x < 16) (h : B k < B x) : zc_n (fun y => decide (B x < B y)) 16 < zc_n (fun y => decide (B k < B y)) 16 := zc_lt (a := x) 16 hx (fun i _ hi => by
    have h1 := of_decide_eq_true hi
    exact decide_eq_true (by omega)) (by simp) (decide_eq_true h)
