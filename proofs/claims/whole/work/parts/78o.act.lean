/-! act, both sides -/
def zp_add (S : Nat → Nat) (k st t l p m : Nat) : Nat → Nat := zg_up (zg_up (zg_up (zg_up (zg_up (zg_up S (23 + 6 * k) 1) (24 + 6 * k) st) (25 + 6 * k) t) (26 + 6 * k) l) (27 + 6 * k) p) (28 + 6 * k) m
section zsa
variable {c r : rj_M} {S : Nat → Nat} {B : Nat → Int} {k st t l p m n : Nat} {a0 a1 a2 a3 a4 : Int32}
theorem zp_add_at : zp_add S k st t l p m (23 + 6 * k) = 1 ∧ zp_add S k st t l p m (24 + 6 * k) = st ∧ zp_add S k st t l p m (25 + 6 * k) = t ∧ zp_add S k st t l p m (26 + 6 * k) = l ∧ zp_add S k st t l p m (27 + 6 * k) = p ∧ zp_add S k st t l p m (28 + 6 * k) = m := by
  unfold zp_add
  refine ⟨?_, ?_, ?_, ?_, ?_, ?_⟩
  · rw [zg_up_ne (by omega), zg_up_ne (by omega), zg_up_ne (by omega), zg_up_ne (by omega), zg_up_ne (by omega), zg_up_eq]
  · rw [zg_up_ne (by omega), zg_up_ne (by omega), zg_up_ne (by omega), zg_up_ne (by omega), zg_up_eq]
  · rw [zg_up_ne (by omega), zg_up_ne (by omega), zg_up_ne (by omega), zg_up_eq]
  · rw [zg_up_ne (by omega), zg_up_ne (by omega), zg_up_eq]
  · rw [zg_up_ne (by omega), zg_up_eq]
  · rw [zg_up_eq]
theorem zp_add_ne {y : Nat} (h : y < 23 + 6 * k ∨ 28 + 6 * k < y) : zp_add S k st t l p m y = S y := by
  unfold zp_add
  rw [zg_up_ne (by omega), zg_up_ne (by omega), zg_up_ne (by omega), zg_up_ne (by omega), zg_up_ne (by omega), zg_up_ne (by omega)]
theorem zp_add_ok (ok : zo_prog S) (hk : k < 16) (h1 : st < 4) (h2 : t < 5760) (h3 : 10 ≤ l ∧ l ≤ 240) (h4 : p ≤ 60) (h5 : p ≤ t) (h6 : t + l ≤ 5760) (h7 : 1 ≤ m ∧ m < 4096) : zo_prog (zp_add S k st t l p m) := by
  obtain ⟨o1, o2⟩ := ok
  obtain ⟨v1, v2, v3, v4, v5, v6⟩ := zp_add_at (S := S) (k := k) (st := st) (t := t) (l := l) (p := p) (m := m)
  refine ⟨fun a ha => ?_, fun v a hv ha => ?_⟩
  · by_cases e : a = k
    · subst e
      rw [v1, v2, v3, v4, v5, v6]
      exact ⟨Nat.le_refl _, h1, h2, h3.2, h4, h5, h6, h7.2, fun _ => ⟨h3.1, h7.1⟩⟩
    · rw [zp_add_ne (y := 23 + 6 * a) (by omega), zp_add_ne (y := 24 + 6 * a) (by omega), zp_add_ne (y := 25 + 6 * a) (by omega), zp_add_ne (y := 26 + 6 * a) (by omega), zp_add_ne (y := 27 + 6 * a) (by omega), zp_add_ne (y := 28 + 6 * a) (by omega)]
      exact o1 a ha
  · rw [zp_add_ne (y := 119 + 16 * v + a) (by omega)]
    refine ⟨(o2 v a hv ha).1, fun z => ?_⟩
    by_cases e : a = k
    · subst e
      exact absurd v1 z
    · rw [zp_add_ne (y := 23 + 6 * a) (by omega)] at z
      exact (o2 v a hv ha).2 z
theorem zc_add (h : zr_prog c 1 S) (hk : k < 16) : zr_prog (mX7_add c (nI k) (nI st) (nI t) (nI l) (nI p) (nI m)) 1 (zp_add S k st t l p m) ∧ (∀ j, j < 9 ∨ 13 < j → (mX7_add c (nI k) (nI st) (nI t) (nI l) (nI p) (nI m)).1 j = c.1 j) ∧ (mX7_add c (nI k) (nI st) (nI t) (nI l) (nI p) (nI m)).2 = c.2 := by
  have e : mX7_add c (nI k) (nI st) (nI t) (nI l) (nI p) (nI m) = rj_pi (rj_pi (rj_pi (rj_pi (rj_pi c 9 k (nI st)) 10 k (nI t)) 11 k (nI l)) 12 k (nI p)) 13 k (nI m) := by
    unfold mX7_add
    rw [(zm_rep (μ := c) (k := 9) (n := 16) (v := nI st) (j := k) rfl hk (by decide)).1, (zm_rep (k := 10) (n := 16) (v := nI t) (j := k) rfl hk (by decide)).1, (zm_rep (k := 11) (n := 16) (v := nI l) (j := k) rfl hk (by decide)).1, (zm_rep (k := 12) (n := 16) (v := nI p) (j := k) rfl hk (by decide)).1, (zm_rep (k := 13) (n := 16) (v := nI m) (j := k) rfl hk (by decide)).1]
  obtain ⟨v1, v2, v3, v4, v5, v6⟩ := zp_add_at (S := S) (k := k) (st := st) (t := t) (l := l) (p := p) (m := m)
  rw [e]
  refine ⟨⟨fun a ha => ?_, fun x hx => ?_⟩, fun j hj => by rw [zm_pi_ne (by omega), zm_pi_ne (by omega), zm_pi_ne (by omega), zm_pi_ne (by omega), zm_pi_ne (by omega)], rfl⟩
  · have ho := h.1 a ha
    by_cases e2 : a = k
    · subst e2
      rw [v1, v2, v3, v4, v5, v6, if_pos rfl]
      refine ⟨?_, ?_, ?_, ?_, ?_⟩
      · rw [zm_pi_ne (by decide), zm_pi_ne (by decide), zm_pi_ne (by decide), zm_pi_ne (by decide)]
        exact zm_pi_eq
      · rw [zm_pi_ne (by decide), zm_pi_ne (by decide), zm_pi_ne (by decide)]
        exact zm_pi_eq
      · rw [zm_pi_ne (by decide), zm_pi_ne (by decide)]
        exact zm_pi_eq
      · rw [zm_pi_ne (by decide)]
        exact zm_pi_eq
      · exact zm_pi_eq
    · rw [zp_add_ne (y := 23 + 6 * a) (by omega), zp_add_ne (y := 24 + 6 * a) (by omega), zp_add_ne (y := 25 + 6 * a) (by omega), zp_add_ne (y := 26 + 6 * a) (by omega), zp_add_ne (y := 27 + 6 * a) (by omega), zp_add_ne (y := 28 + 6 * a) (by omega)]
      refine ⟨?_, ?_, ?_, ?_, ?_⟩
      · rw [zm_pi_ne (by decide), zm_pi_ne (by decide), zm_pi_ne (by decide), zm_pi_ne (by decide), zm_pi_ne2 e2]
        exact ho.1
      · rw [zm_pi_ne (by decide), zm_pi_ne (by decide), zm_pi_ne (by decide), zm_pi_ne2 e2, zm_pi_ne (by decide)]
        exact ho.2.1
      · rw [zm_pi_ne (by decide), zm_pi_ne (by decide), zm_pi_ne2 e2, zm_pi_ne (by decide), zm_pi_ne (by decide)]
        exact ho.2.2.1
      · rw [zm_pi_ne (by decide), zm_pi_ne2 e2, zm_pi_ne (by decide), zm_pi_ne (by decide), zm_pi_ne (by decide)]
        exact ho.2.2.2.1
      · rw [zm_pi_ne2 e2, zm_pi_ne (by decide), zm_pi_ne (by decide), zm_pi_ne (by decide), zm_pi_ne (by decide)]
        exact ho.2.2.2.2
  · rw [zp_add_ne (y := 119 + x) (by omega), zm_pi_ne (by decide), zm_pi_ne (by decide), zm_pi_ne (by decide), zm_pi_ne (by decide), zm_pi_ne (by decide)]
    exact h.2 x hx
theorem zn_lt0 {a b : Nat} (ha : a < 10000) (hb : b < 10000) : nI a - nI b < 0 ↔ a < b := by
  rw [Int32.lt_iff_toInt_lt, pk_sub_toInt (by omega) (by omega)]
  show ((a : Int) - b < 0) ↔ _
  omega
end zsa
