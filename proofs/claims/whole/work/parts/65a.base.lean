/-! MATHEMATICS. Loops by relations and invariants; numbers and cells read out of the pictures -/
section zmLoops
variable {σ τ ρ : Type}
theorem zf_rel {f : Nat → σ → σ} {g : Nat → τ → τ} (R : Nat → σ → τ → Prop) : ∀ (r j : Nat) (s : σ) (t : τ), R j s t → (∀ i a b, j ≤ i → i < j + r → R i a b → R (i + 1) (f i a) (g i b)) → R (j + r) (rj_fo f r j s) (rj_fo g r j t)
  | 0, _, _, _, h, _ => h
  | r + 1, j, s, t, h, H => by
    have h1 := zf_rel R r (j + 1) (f j s) (g j t) (H j s t (Nat.le_refl _) (by omega) h) (fun i a b h1 h2 h3 => H i a b (by omega) (by omega) h3)
    rw [show j + (r + 1) = j + 1 + r by omega]
    exact h1
theorem zf_inv {f : Nat → σ → σ} (I : Nat → σ → Prop) : ∀ (r j : Nat) (s : σ), I j s → (∀ i a, j ≤ i → i < j + r → I i a → I (i + 1) (f i a)) → I (j + r) (rj_fo f r j s)
  | 0, _, _, h, _ => h
  | r + 1, j, s, h, H => by
    have h1 := zf_inv I r (j + 1) (f j s) (H j s (Nat.le_refl _) (by omega) h) (fun i a h1 h2 h3 => H i a (by omega) (by omega) h3)
    rw [show j + (r + 1) = j + 1 + r by omega]
    exact h1
theorem zf_congr {f g : Nat → σ → σ} : ∀ (r j : Nat) (s : σ), (∀ i a, j ≤ i → i < j + r → f i a = g i a) → rj_fo f r j s = rj_fo g r j s
  | 0, _, _, _ => rfl
  | r + 1, j, s, H => by
    rw [rj_fo_s, rj_fo_s, H j s (Nat.le_refl _) (by omega)]
    exact zf_congr r (j + 1) _ (fun i a h1 h2 => H i a (by omega) (by omega))
theorem zf_last {f : Nat → σ → σ} : ∀ (r j : Nat) (s : σ), rj_fo f (r + 1) j s = f (j + r) (rj_fo f r j s)
  | 0, _, _ => rfl
  | r + 1, j, s => by
    rw [rj_fo_s, zf_last r (j + 1) (f j s), rj_fo_s, show j + 1 + r = j + (r + 1) by omega]
theorem zf_q {q : Nat → σ → Prop} {f : Nat → σ → σ} (I : Nat → σ → Prop) : ∀ (r j : Nat) (s : σ), I j s → (∀ i a, j ≤ i → i < j + r → I i a → q i a ∧ I (i + 1) (f i a)) → rq_fo q f r j s
  | 0, _, _, _, _ => trivial
  | r + 1, j, s, h, H => ⟨(H j s (Nat.le_refl _) (by omega) h).1, zf_q I r (j + 1) (f j s) (H j s (Nat.le_refl _) (by omega) h).2 (fun i a h1 h2 h3 => H i a (by omega) (by omega) h3)⟩
/-- a search among the numbers from j on: the first that is right, or none -/
theorem zx_find {f : Nat → Unit → Unit ⊕ ρ} (p : Nat → Prop) (g : Nat → ρ) : ∀ (r j : Nat), (∀ i, j ≤ i → i < j + r → (p i ∧ f i () = .inr (g i)) ∨ (¬ p i ∧ f i () = .inl ())) → (∃ i, j ≤ i ∧ i < j + r ∧ p i ∧ (∀ x, j ≤ x → x < i → ¬ p x) ∧ rj_ix f r j () = .inr (g i)) ∨ ((∀ x, j ≤ x → x < j + r → ¬ p x) ∧ rj_ix f r j () = .inl ())
  | 0, _, _ => .inr ⟨fun x h1 h2 => absurd h2 (by omega), rfl⟩
  | r + 1, j, H => by
    rcases H j (Nat.le_refl _) (by omega) with ⟨h1, h2⟩ | ⟨h1, h2⟩
    · exact .inl ⟨j, Nat.le_refl _, by omega, h1, fun x h3 h4 => absurd h4 (by omega), rj_ix_r h2⟩
    · rcases zx_find p g r (j + 1) (fun i h3 h4 => H i (by omega) (by omega)) with ⟨i, a1, a2, a3, a4, a5⟩ | ⟨a1, a2⟩
      · refine .inl ⟨i, by omega, by omega, a3, fun x h3 h4 => ?_, (rj_ix_l h2).trans a5⟩
        by_cases e : x = j
        · subst e
          exact h1
        · exact a4 x (by omega) h4
      · refine .inr ⟨fun x h3 h4 => ?_, (rj_ix_l h2).trans a2⟩
        by_cases e : x = j
        · subst e
          exact h1
        · exact a1 x (by omega) (by omega)
theorem zx_inv {f : Nat → σ → σ ⊕ ρ} (I : Nat → σ → Prop) (Q : ρ → Prop) : ∀ (r j : Nat) (s : σ), I j s → (∀ i a, j ≤ i → i < j + r → I i a → (∀ z, f i a = .inl z → I (i + 1) z) ∧ (∀ w, f i a = .inr w → Q w)) → (∃ z, rj_ix f r j s = .inl z ∧ I (j + r) z) ∨ (∃ w, rj_ix f r j s = .inr w ∧ Q w)
  | 0, _, s, h, _ => .inl ⟨s, rfl, h⟩
  | r + 1, j, s, h, H => by
    have h0 := H j s (Nat.le_refl _) (by omega) h
    rcases hf : f j s with z | w
    · rw [rj_ix_l hf, show j + (r + 1) = j + 1 + r by omega]
      exact zx_inv I Q r (j + 1) z (h0.1 z hf) (fun i a h1 h2 h3 => H i a (by omega) (by omega) h3)
    · rw [rj_ix_r hf]
      exact .inr ⟨w, rfl, h0.2 w hf⟩
theorem zx_q {q : Nat → σ → Prop} {f : Nat → σ → σ ⊕ ρ} (I : Nat → σ → Prop) : ∀ (r j : Nat) (s : σ), I j s → (∀ i a, j ≤ i → i < j + r → I i a → q i a ∧ ∀ z, f i a = .inl z → I (i + 1) z) → rq_ix q f r j s
  | 0, _, _, _, _ => trivial
  | r + 1, j, s, h, H => by
    have h0 := H j s (Nat.le_refl _) (by omega) h
    refine ⟨h0.1, ?_⟩
    rcases hf : f j s with z | w
    · exact zx_q I r (j + 1) z (h0.2 z hf) (fun i a h1 h2 h3 => H i a (by omega) (by omega) h3)
    · trivial
/-- a loop that may be left: it is left with what stands at the place where it is left -/
theorem zb_inv {f : Nat → σ → σ ⊕ (Nat × σ)} (I : Nat → σ → Prop) (Q : σ → Prop) : ∀ (r j : Nat) (s : σ), I j s → (∀ i a, j ≤ i → i < j + r → I i a → (∀ z, f i a = .inl z → I (i + 1) z) ∧ (∀ w, f i a = .inr w → Q w.2)) → (∀ a, I (j + r) a → Q a) → Q (rj_br f r j s).2
  | 0, _, s, h, _, K => K s h
  | r + 1, j, s, h, H, K => by
    have h0 := H j s (Nat.le_refl _) (by omega) h
    rcases hf : f j s with z | w
    · rw [rj_br_l hf]
      exact zb_inv I Q r (j + 1) z (h0.1 z hf) (fun i a h1 h2 h3 => H i a (by omega) (by omega) h3) (fun a ha => K a (by rw [show j + (r + 1) = j + 1 + r by omega]; exact ha))
    · rw [rj_br_r hf]
      exact h0.2 w hf
theorem zb_congr {f g : Nat → σ → σ ⊕ (Nat × σ)} : ∀ (r j : Nat) (s : σ), (∀ i a, j ≤ i → i < j + r → f i a = g i a) → rj_br f r j s = rj_br g r j s
  | 0, _, _, _ => rfl
  | r + 1, j, s, H => by
    have e := H j s (Nat.le_refl _) (by omega)
    rcases hf : f j s with z | w
    · rw [rj_br_l hf, rj_br_l (e.symm.trans hf)]
      exact zb_congr r (j + 1) z (fun i a h1 h2 => H i a (by omega) (by omega))
    · rw [rj_br_r hf, rj_br_r (e.symm.trans hf)]
theorem zd_inv {f : Nat → σ → σ} (I : Nat → σ → Prop) : ∀ (r : Nat) (s : σ), I r s → (∀ i a, i < r → I (i + 1) a → I i (f i a)) → I 0 (rj_do f r s)
  | 0, _, h, _ => h
  | r + 1, s, h, H => zd_inv I r (f r s) (H r s (by omega) h) (fun i a h1 h2 => H i a (by omega) h2)
theorem zd_rel {f : Nat → σ → σ} {g : Nat → τ → τ} (R : Nat → σ → τ → Prop) : ∀ (r : Nat) (s : σ) (t : τ), R r s t → (∀ i a b, i < r → R (i + 1) a b → R i (f i a) (g i b)) → R 0 (rj_do f r s) (rj_do g r t)
  | 0, _, _, h, _ => h
  | r + 1, s, t, h, H => zd_rel R r (f r s) (g r t) (H r s t (by omega) h) (fun i a b h1 h2 => H i a b (by omega) h2)
/-- a loop with a measure that falls -/
theorem zw_inv {f : σ → σ ⊕ σ} (I Q : σ → Prop) (m : σ → Nat) : ∀ (n : Nat) (s : σ), I s → m s < n → (∀ a, I a → (∀ z, f a = .inl z → I z ∧ m z < m a) ∧ (∀ z, f a = .inr z → Q z)) → Q (rj_we f n s)
  | 0, _, _, h, _ => absurd h (by omega)
  | n + 1, s, h, hm, H => by
    have h0 := H s h
    rcases hf : f s with z | z
    · rw [rj_we_l hf]
      have h1 := h0.1 z hf
      exact zw_inv I Q m n z h1.1 (by omega) H
    · rw [rj_we_r hf]
      exact h0.2 z hf
theorem zw_q {q : σ → Prop} {f : σ → σ ⊕ σ} (I : σ → Prop) (m : σ → Nat) : ∀ (n : Nat) (s : σ), I s → m s < n → (∀ a, I a → q a ∧ ∀ z, f a = .inl z → I z ∧ m z < m a) → rq_we q f n s
  | 0, _, _, h, _ => absurd h (by omega)
  | n + 1, s, h, hm, H => by
    have h0 := H s h
    refine ⟨h0.1, ?_⟩
    rcases hf : f s with z | z
    · have h1 := h0.2 z hf
      exact zw_q I m n z h1.1 (by omega) H
    · trivial
theorem ze_l {a : σ ⊕ ρ} {z : σ} (e : a = .inl z) (f : σ → τ) (g : ρ → τ) : Sum.elim f g a = f z := by rw [e]; rfl
theorem ze_r {a : σ ⊕ ρ} {z : ρ} (e : a = .inr z) (f : σ → τ) (g : ρ → τ) : Sum.elim f g a = g z := by rw [e]; rfl
end zmLoops
section zmCells
variable {μ : rj_M} {k k' i i' : Nat}
theorem zm_pi_ne {v : Int32} (h : k' ≠ k) : (rj_pi μ k i v).1 k' = μ.1 k' := va_up_ne _ _ h
theorem zm_pi_at {v : Int32} : (rj_pi μ k i v).1 k = upd (μ.1 k) i v := va_up_self _ _ _
theorem zm_pi_eq {v : Int32} : (rj_pi μ k i v).1 k i = v := by
  rw [zm_pi_at]
  exact if_pos rfl
theorem zm_pi_ne2 {v : Int32} (h : i' ≠ i) : (rj_pi μ k i v).1 k i' = μ.1 k i' := by
  rw [zm_pi_at]
  exact if_neg h
theorem zm_pi {v : Int32} : (rj_pi μ k i v).1 k' i' = if k' = k ∧ i' = i then v else μ.1 k' i' := by
  by_cases h : k' = k
  · subst h
    by_cases h2 : i' = i
    · subst h2
      rw [zm_pi_eq, if_pos ⟨rfl, rfl⟩]
    · rw [zm_pi_ne2 h2, if_neg (fun z => h2 z.2)]
  · rw [zm_pi_ne h, if_neg (fun z => h z.1)]
theorem zm_pi_2 {v : Int32} : (rj_pi μ k i v).2 = μ.2 := rfl
theorem zm_pl_1 {v : Int64} : (rj_pl μ k i v).1 = μ.1 := rfl
theorem zm_pl_ne {v : Int64} (h : k' ≠ k) : (rj_pl μ k i v).2.1 k' = μ.2.1 k' := va_up_ne _ _ h
theorem zm_pl_at {v : Int64} : (rj_pl μ k i v).2.1 k = vp_updL (μ.2.1 k) i v := va_up_self _ _ _
theorem zm_pl {v : Int64} : (rj_pl μ k i v).2.1 k' i' = if k' = k ∧ i' = i then v else μ.2.1 k' i' := by
  by_cases h : k' = k
  · subst h
    rw [zm_pl_at]
    by_cases h2 : i' = i
    · subst h2
      rw [if_pos ⟨rfl, rfl⟩]
      exact if_pos rfl
    · rw [if_neg (fun z => h2 z.2)]
      exact if_neg h2
  · rw [zm_pl_ne h, if_neg (fun z => h z.1)]
theorem zm_pl_2 {v : Int64} : (rj_pl μ k i v).2.2 = μ.2.2 := rfl
theorem zm_ri_ne {f : Nat → Int32} (h : k' ≠ k) : (rj_ri μ k f).1 k' = μ.1 k' := va_up_ne _ _ h
theorem zm_ri_at {f : Nat → Int32} : (rj_ri μ k f).1 k = f := va_up_self _ _ _
theorem zm_rl_ne {f : Nat → Int64} (h : k' ≠ k) : (rj_rl μ k f).2.1 k' = μ.2.1 k' := va_up_ne _ _ h
theorem zm_rl_at {f : Nat → Int64} : (rj_rl μ k f).2.1 k = f := va_up_self _ _ _
theorem zm_pq_1 {v : Nat} : (rj_pq μ k i v).1 = μ.1 := rfl
theorem zm_pq_21 {v : Nat} : (rj_pq μ k i v).2.1 = μ.2.1 := rfl
theorem zm_pq_ne {v : Nat} (h : k' ≠ k) : (rj_pq μ k i v).2.2.2 k' = μ.2.2.2 k' := va_up_ne _ _ h
theorem zm_pq_at {v : Nat} : (rj_pq μ k i v).2.2.2 k = va_up (μ.2.2.2 k) i v := va_up_self _ _ _
/-- replace(..) at a place of the row -/
theorem zm_rep {n : Nat} {a : Int32} {v : Int32} {j : Nat} (ha : a = nI j) (hj : j < n) (hn : n < 2 ^ 31) : mX11_replace μ k n a v = rj_pi μ k j v ∧ fX11_replace μ k n a v = μ.1 k j := by
  subst ha
  have h1 : ¬ nI j < 0 := nI_pos (by omega)
  have h2 : nI j < nI n := nI_lt hj hn
  have h3 : (nI j).toNatClampNeg = j := nI_clamp (by omega)
  unfold mX11_replace fX11_replace
  rw [if_neg h1, if_pos h2, if_neg h1, if_pos h2, h3]
  exact ⟨rfl, rfl⟩
theorem zm_fill {n : Nat} {v : Int32} (hn : n < 2 ^ 31) : (∀ k', k' ≠ k → (mX11_fillRow μ k n v).1 k' = μ.1 k') ∧ (∀ i, (mX11_fillRow μ k n v).1 k i = if i < n then v else μ.1 k i) ∧ (mX11_fillRow μ k n v).2 = μ.2 := by
  have h := zf_inv (f := bX11_fillRow_2 μ k n v) (fun j s => (∀ k', k' ≠ k → s.1 k' = μ.1 k') ∧ (∀ i, s.1 k i = if i < j then v else μ.1 k i) ∧ s.2 = μ.2) n 0 μ ⟨fun _ _ => rfl, fun i => (if_neg (by omega)).symm, rfl⟩ (fun j s h1 h2 h3 => by
    have hj : (nI j).toNatClampNeg = j := nI_clamp (by omega)
    unfold bX11_fillRow_2
    rw [hj]
    refine ⟨fun k' hk => (zm_pi_ne hk).trans (h3.1 k' hk), fun i => ?_, h3.2.2⟩
    by_cases e : i = j
    · subst e
      rw [zm_pi_eq, if_pos (by omega)]
    · rw [zm_pi_ne2 e, h3.2.1 i]
      by_cases e2 : i < j
      · rw [if_pos e2, if_pos (by omega)]
      · rw [if_neg e2, if_neg (by omega)])
  rw [Nat.zero_add] at h
  exact h
theorem zm_cpy {α : Type} {f g : Nat → α} {n : Nat} : va_cpy f g 0 0 n = fun i => if i < n then f i else g i := by
  funext i
  unfold va_cpy
  by_cases h : i < n
  · rw [if_pos ⟨Nat.zero_le _, by omega⟩, if_pos h, Nat.zero_add, Nat.sub_zero]
  · rw [if_neg (fun z => h (by omega)), if_neg h]
end zmCells
/-- needPlace, needRange, in -/
theorem zn_place {μ : rj_M} {a c : Int32} {n : Nat} (hc : c = nI n) (hn : n < 2 ^ 31) : (fX11_needPlace μ a c = none ∧ ∃ j, j < n ∧ a = nI j) ∨ (fX11_needPlace μ a c = some "java/lang/IndexOutOfBoundsException" ∧ (a < 0 ∨ nI n ≤ a)) := by
  subst hc
  unfold fX11_needPlace
  rcases pk_ix a hn with h | h | ⟨j, h1, rfl⟩
  · rw [if_pos h]
    exact .inr ⟨rfl, .inl h⟩
  · by_cases h0 : a < 0
    · rw [if_pos h0]
      exact .inr ⟨rfl, .inl h0⟩
    · rw [if_neg h0, if_neg (Int32.not_lt.mpr h)]
      exact .inr ⟨rfl, .inr h⟩
  · rw [if_neg (nI_pos (by omega)), if_pos (nI_lt h1 hn)]
    exact .inl ⟨rfl, j, h1, rfl⟩
theorem zn_in {μ : rj_M} {a c : Int32} {n : Nat} (hc : c = nI n) (hn : n + 1 < 2 ^ 31) : (fX12_in μ a 0 c = 1 ∧ ∃ j, j < n + 1 ∧ a = nI j) ∨ (fX12_in μ a 0 c = 0 ∧ (a < 0 ∨ nI (n + 1) ≤ a)) := by
  subst hc
  unfold fX12_in
  rcases pk_ix a hn with h | h | ⟨j, h1, rfl⟩
  · rw [if_pos h]
    exact .inr ⟨rfl, .inl h⟩
  · by_cases h0 : a < 0
    · rw [if_pos h0]
      exact .inr ⟨rfl, .inl h0⟩
    · have h2 : nI n < a := Int32.lt_of_lt_of_le (nI_lt (Nat.lt_succ_self n) hn) h
      rw [if_neg h0, if_pos h2]
      exact .inr ⟨rfl, .inr h⟩
  · rw [if_neg (nI_pos (by omega)), if_neg (nI_nlt (by omega) (by omega))]
    exact .inl ⟨rfl, j, h1, rfl⟩
theorem zn_range {μ : rj_M} {a l c : Int32} : (fX11_needRange μ a l c = none ∧ fX12_in μ a l c = 1) ∨ (fX11_needRange μ a l c = some "java/lang/IllegalArgumentException" ∧ fX12_in μ a l c = 0) := by
  unfold fX11_needRange fX12_in
  by_cases h1 : a < l
  · rw [if_pos h1, if_pos h1]
    exact .inr ⟨rfl, rfl⟩
  · rw [if_neg h1, if_neg h1]
    by_cases h2 : c < a
    · rw [if_neg (Int32.not_le.mpr h2), if_pos h2]
      exact .inr ⟨rfl, rfl⟩
    · rw [if_pos (Int32.not_lt.mp h2), if_neg h2]
      exact .inl ⟨rfl, rfl⟩
