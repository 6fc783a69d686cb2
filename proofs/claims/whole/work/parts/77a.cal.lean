/-! DATES, both sides -/
abbrev zk_leap (y : Nat) : Prop := y % 4 = 0 ∧ (y % 100 ≠ 0 ∨ y % 400 = 0)
def zk_dim (y m : Nat) : Nat := if m = 2 then (if zk_leap y then 29 else 28) else if m = 4 ∨ m = 6 ∨ m = 9 ∨ m = 11 then 30 else 31
theorem zk_dim_le {y m : Nat} : 28 ≤ zk_dim y m ∧ zk_dim y m ≤ 31 := by
  unfold zk_dim
  split
  · split <;> omega
  · split <;> omega
theorem zn_is0 {n : Nat} (h : n < 2 ^ 31) : nI n = 0 ↔ n = 0 := nI_eq (b := 0) h (by decide)
theorem zc_isLeap {mu : rj_M} {y : Nat} (hy : y < 10000) : (fX1_isLeap mu (nI y) = 0 ↔ ¬ zk_leap y) ∧ (fX12_isLeap mu (nI y) = 0 ↔ ¬ zk_leap y) := by
  have r4 : nI y - nI y / 4 * 4 = nI (y % 4) := pk_rem (d := 4) (by omega) (by decide) (by decide)
  have r100 : nI y - nI y / 100 * 100 = nI (y % 100) := pk_rem (d := 100) (by omega) (by decide) (by decide)
  have r400 : nI y - nI y / 400 * 400 = nI (y % 400) := pk_rem (d := 400) (by omega) (by decide) (by decide)
  unfold fX1_isLeap fX12_isLeap
  rw [r4, r100, r400]
  have e4 := zn_is0 (n := y % 4) (by omega)
  have e100 := zn_is0 (n := y % 100) (by omega)
  have e400 := zn_is0 (n := y % 400) (by omega)
  by_cases c4 : y % 4 = 0
  · rw [if_pos (e4.mpr c4), if_pos (e4.mpr c4)]
    by_cases c1 : y % 100 = 0
    · rw [if_pos (e100.mpr c1)]
      by_cases c2 : y % 400 = 0
      · rw [if_pos (e400.mpr c2)]
        exact ⟨⟨fun z => absurd z (by decide), fun z => absurd ⟨c4, Or.inr c2⟩ z⟩, ⟨fun z => absurd z (by decide), fun z => absurd ⟨c4, Or.inr c2⟩ z⟩⟩
      · rw [if_neg (fun z => c2 (e400.mp z))]
        exact ⟨⟨fun _ z => z.2.elim (fun w => w c1) c2, fun _ => rfl⟩, ⟨fun _ z => z.2.elim (fun w => w c1) c2, fun _ => rfl⟩⟩
    · rw [if_neg (fun z => c1 (e100.mp z))]
      exact ⟨⟨fun z => absurd z (by decide), fun z => absurd ⟨c4, Or.inl c1⟩ z⟩, ⟨fun z => absurd z (by decide), fun z => absurd ⟨c4, Or.inl c1⟩ z⟩⟩
  · rw [if_neg (fun z => c4 (e4.mp z)), if_neg (fun z => c4 (e4.mp z)), if_neg (fun z => c4 (by have := e400.mp z; omega))]
    exact ⟨⟨fun _ z => c4 z.1, fun _ => rfl⟩, ⟨fun _ z => c4 z.1, fun _ => rfl⟩⟩
theorem zc_dim {mu : rj_M} {y m : Nat} (hy : y < 10000) (hm : m < 100) : fX1_daysIn mu (nI y) (nI m) = nI (zk_dim y m) ∧ fX12_daysOf mu (nI y) (nI m) = nI (zk_dim y m) := by
  obtain ⟨l1, l2⟩ := zc_isLeap (mu := mu) hy
  unfold fX1_daysIn fX12_daysOf zk_dim
  by_cases c2 : m = 2
  · subst c2
    rw [if_pos rfl, if_pos (show nI 2 = 2 from rfl), if_pos (show nI 2 = 2 from rfl)]
    by_cases cl : zk_leap y
    · rw [if_neg (fun z => l1.mp z cl), if_neg (fun z => l2.mp z cl), if_pos cl]
      exact ⟨rfl, rfl⟩
    · rw [if_pos (l1.mpr cl), if_pos (l2.mpr cl), if_neg cl]
      exact ⟨rfl, rfl⟩
  · rw [if_neg (zn_ne (L := 2) (n := 2) rfl c2 (by omega) (by decide)), if_neg (zn_ne (L := 2) (n := 2) rfl c2 (by omega) (by decide)), if_neg c2]
    by_cases c4 : m = 4
    · subst c4
      exact ⟨rfl, rfl⟩
    rw [if_neg (zn_ne (L := 4) (n := 4) rfl c4 (by omega) (by decide))]
    by_cases c6 : m = 6
    · subst c6
      exact ⟨rfl, rfl⟩
    rw [if_neg (zn_ne (L := 6) (n := 6) rfl c6 (by omega) (by decide))]
    by_cases c9 : m = 9
    · subst c9
      exact ⟨rfl, rfl⟩
    rw [if_neg (zn_ne (L := 9) (n := 9) rfl c9 (by omega) (by decide))]
    by_cases c11 : m = 11
    · subst c11
      exact ⟨rfl, rfl⟩
    rw [if_neg (zn_ne (L := 11) (n := 11) rfl c11 (by omega) (by decide)), if_neg (by omega)]
    exact ⟨rfl, rfl⟩
def zk_mon (y m b : Nat) : Nat := rj_fo (fun j s => s + zk_dim y j) (m - 1) 1 b
theorem zk_mon_b {y b : Nat} : ∀ n, rj_fo (fun j s => s + zk_dim y j) n 1 b = b + rj_fo (fun j s => s + zk_dim y j) n 1 0
  | 0 => (Nat.add_zero b).symm
  | n + 1 => by
    rw [zf_last n 1, zf_last n 1, zk_mon_b n, Nat.add_assoc]
theorem zk_mon_s {y m b : Nat} (h : 1 ≤ m) : zk_mon y (m + 1) b = zk_mon y m b + zk_dim y m := by
  unfold zk_mon
  rw [show m + 1 - 1 = (m - 1) + 1 by omega, zf_last, show 1 + (m - 1) = m by omega]
theorem zk_mon_12 {y b : Nat} : zk_mon y 12 b = b + 334 + (if zk_leap y then 1 else 0) := by
  unfold zk_mon
  rw [zk_mon_b, Nat.add_assoc]
  congr 1
  by_cases c : zk_leap y
  · rw [if_pos c]
    have : zk_dim y 2 = 29 := by unfold zk_dim; rw [if_pos rfl, if_pos c]
    show 0 + zk_dim y 1 + zk_dim y 2 + zk_dim y 3 + zk_dim y 4 + zk_dim y 5 + zk_dim y 6 + zk_dim y 7 + zk_dim y 8 + zk_dim y 9 + zk_dim y 10 + zk_dim y 11 = 334 + 1
    rw [this]
    rfl
  · rw [if_neg c]
    have : zk_dim y 2 = 28 := by unfold zk_dim; rw [if_pos rfl, if_neg c]
    show 0 + zk_dim y 1 + zk_dim y 2 + zk_dim y 3 + zk_dim y 4 + zk_dim y 5 + zk_dim y 6 + zk_dim y 7 + zk_dim y 8 + zk_dim y 9 + zk_dim y 10 + zk_dim y 11 = 334 + 0
    rw [this]
    rfl
theorem zk_mon_le {y b : Nat} : ∀ n, rj_fo (fun j s => s + zk_dim y j) n 1 b ≤ b + 31 * n
  | 0 => Nat.le_refl _
  | n + 1 => by
    rw [zf_last n 1]
    have := zk_mon_le (y := y) (b := b) n
    have := (zk_dim_le (y := y) (m := 1 + n)).2
    omega
def zk_base (y : Nat) : Nat := 365 * (y - 1) + (y - 1) / 4 - (y - 1) / 100 + (y - 1) / 400
theorem zk_base_s {y : Nat} (h : 1 ≤ y) : zk_base (y + 1) = zk_base y + 365 + (if zk_leap y then 1 else 0) := by
  unfold zk_base
  split <;> omega
def zk_abs (t : Nat × Nat × Nat) : Nat := zk_mon t.1 t.2.1 (zk_base t.1) + t.2.2 - 1
def zk_next (t : Nat × Nat × Nat) : Nat × Nat × Nat := if zk_dim t.1 t.2.1 < t.2.2 + 1 then (if 12 < t.2.1 + 1 then (t.1 + 1, 1, 1) else (t.1, t.2.1 + 1, 1)) else (t.1, t.2.1, t.2.2 + 1)
def zk_after : Nat → Nat × Nat × Nat → Nat × Nat × Nat
  | 0, t => t
  | k + 1, t => zk_after k (zk_next t)
def zk_isDate (t : Nat × Nat × Nat) : Prop := 1 ≤ t.1 ∧ 1 ≤ t.2.1 ∧ t.2.1 ≤ 12 ∧ 1 ≤ t.2.2 ∧ t.2.2 ≤ zk_dim t.1 t.2.1
theorem zk_next_ok {t : Nat × Nat × Nat} (h : zk_isDate t) : zk_isDate (zk_next t) ∧ (zk_next t).1 ≤ t.1 + 1 ∧ zk_abs (zk_next t) = zk_abs t + 1 := by
  obtain ⟨y, m, d⟩ := t
  obtain ⟨h1, h2, h3, h4, h5⟩ := h
  simp only at h1 h2 h3 h4 h5
  unfold zk_next
  simp only
  by_cases c : zk_dim y m < d + 1
  · rw [if_pos c]
    by_cases c2 : 12 < m + 1
    · rw [if_pos c2]
      have hm : m = 12 := by omega
      subst hm
      have e31 : zk_dim y 12 = 31 := by unfold zk_dim; rfl
      refine ⟨⟨by simp only; omega, by simp only; omega, by simp only; omega, Nat.le_refl _, by have := (zk_dim_le (y := y + 1) (m := 1)).1; simp only; omega⟩, Nat.le_refl _, ?_⟩
      unfold zk_abs
      simp only
      rw [zk_mon_12, show zk_mon (y + 1) 1 (zk_base (y + 1)) = zk_base (y + 1) from rfl, zk_base_s h1]
      split <;> omega
    · rw [if_neg c2]
      refine ⟨⟨h1, by simp only; omega, by simp only; omega, Nat.le_refl _, by have := (zk_dim_le (y := y) (m := m + 1)).1; simp only; omega⟩, by simp only; omega, ?_⟩
      unfold zk_abs
      simp only
      rw [zk_mon_s h2]
      omega
  · rw [if_neg c]
    refine ⟨⟨h1, h2, h3, by simp only; omega, by simp only; omega⟩, by simp only; omega, ?_⟩
    unfold zk_abs
    simp only
    omega
theorem zk_after_ok : ∀ k {t : Nat × Nat × Nat}, zk_isDate t → zk_isDate (zk_after k t) ∧ (zk_after k t).1 ≤ t.1 + k ∧ zk_abs (zk_after k t) = zk_abs t + k
  | 0, t, h => ⟨h, Nat.le_refl _, rfl⟩
  | k + 1, t, h => by
    obtain ⟨h1, h2, h3⟩ := zk_next_ok h
    obtain ⟨g1, g2, g3⟩ := zk_after_ok k h1
    refine ⟨g1, ?_, ?_⟩
    · show (zk_after k (zk_next t)).1 ≤ _
      omega
    · show zk_abs (zk_after k (zk_next t)) = _
      omega
theorem zk_after_eq : ∀ k {y m d : Nat}, k ≤ 4 → m ≤ 12 → d ≤ zk_dim y m → zk_after k (y, m, d) = if d + k ≤ zk_dim y m then (y, m, d + k) else if m = 12 then (y + 1, 1, d + k - zk_dim y m) else (y, m + 1, d + k - zk_dim y m)
  | 0, y, m, d, _, _, h => by
    rw [if_pos (show d + 0 ≤ _ from h)]
    rfl
  | k + 1, y, m, d, hk, hm, h => by
    show zk_after k (zk_next (y, m, d)) = _
    unfold zk_next
    simp only
    by_cases c : zk_dim y m < d + 1
    · rw [if_pos c, if_neg (by omega : ¬ d + (k + 1) ≤ zk_dim y m)]
      have hd : d + (k + 1) - zk_dim y m = 1 + k := by omega
      rw [hd]
      by_cases c2 : m = 12
      · rw [if_pos (by omega), if_pos c2]
        have := (zk_dim_le (y := y + 1) (m := 1)).1
        rw [zk_after_eq k (by omega) (by omega) (by omega), if_pos (by omega)]
      · rw [if_neg (by omega), if_neg c2]
        have := (zk_dim_le (y := y) (m := m + 1)).1
        rw [zk_after_eq k (by omega) (by omega) (by omega), if_pos (by omega)]
    · rw [if_neg c, zk_after_eq k (by omega) hm (by omega), show d + 1 + k = d + (k + 1) by omega]
section zqCal
variable {r c : rj_M} {S : Nat → Nat} {B : Nat → Int}
theorem zo_isDate (ok : zo_cal S) : zk_isDate (S 0, S 1, S 2) := by
  obtain ⟨h1, h2, h3, h4, h5, h6, h7, h8, h9⟩ := ok
  refine ⟨h1, h3, h4, h5, ?_⟩
  show S 2 ≤ zk_dim (S 0) (S 1)
  unfold zk_dim
  by_cases c2 : S 1 = 2
  · rw [if_pos c2]
    by_cases cl : zk_leap (S 0)
    · rw [if_pos cl]
      exact h7 c2
    · rw [if_neg cl]
      exact h9 c2 cl
  · rw [if_neg c2]
    by_cases c4 : S 1 = 4 ∨ S 1 = 6 ∨ S 1 = 9 ∨ S 1 = 11
    · rw [if_pos c4]
      exact h8 c4
    · rw [if_neg c4]
      exact h6
/-- the number of the days up to the year y -/
theorem zn_base {y : Nat} (h1 : 1 ≤ y) (hy : y < 10000) : 365 * (nI y - 1) + (nI y - 1) / 4 - (nI y - 1) / 100 + (nI y - 1) / 400 = nI (zk_base y) := by
  have e1 : nI y - 1 = nI (y - 1) := pk_sub (b := 1) h1
  have e4 : nI (y - 1) / 4 = nI ((y - 1) / 4) := pk_div (d := 4) (by omega) (by decide) (by decide)
  have e100 : nI (y - 1) / 100 = nI ((y - 1) / 100) := pk_div (d := 100) (by omega) (by decide) (by decide)
  have e400 : nI (y - 1) / 400 = nI ((y - 1) / 400) := pk_div (d := 400) (by omega) (by decide) (by decide)
  have e365 : 365 * nI (y - 1) = nI (365 * (y - 1)) := pk_mul 365 (y - 1)
  rw [e1, e4, e100, e400, e365, nI_add, pk_sub (by omega), nI_add]
  rfl
theorem zq_weekday {mu : rj_M} {t : Nat × Nat × Nat} (h : zk_isDate t) (hy : t.1 < 10000) : fX12_weekday mu (nI t.1) (nI t.2.1) (nI t.2.2) = nI (zk_abs t % 7 + 1) := by
  obtain ⟨y, m, d⟩ := t
  obtain ⟨h1, h2, h3, h4, h5⟩ := h
  simp only at h1 h2 h3 h4 h5 hy ⊢
  have hd := (zk_dim_le (y := y) (m := m)).2
  have hb : zk_base y < 4000000 := by unfold zk_base; omega
  have hl := zk_mon_le (y := y) (b := zk_base y + d - 1) (m - 1)
  have es : rj_fo (bX12_weekday_33 mu (nI y) (nI m) (nI d)) ((nI m).toInt.toNat - 1) 1 (365 * (nI y - 1) + (nI y - 1) / 4 - (nI y - 1) / 100 + (nI y - 1) / 400 + nI d - 1) = nI (zk_abs (y, m, d)) := by
    rw [zn_base h1 hy, nI_add, show (1 : Int32) = nI 1 from rfl, pk_sub (by omega), nI_toInt (by omega)]
    have : zk_abs (y, m, d) = rj_fo (fun j s => s + zk_dim y j) (m - 1) 1 (zk_base y + d - 1) := by
      unfold zk_abs zk_mon
      simp only
      rw [zk_mon_b, zk_mon_b (b := zk_base y + d - 1)]
      omega
    rw [this]
    exact zf_rel (fun _ x z => x = nI z) (m - 1) 1 _ _ rfl (fun j x z j1 j2 hx => by
      subst hx
      unfold bX12_weekday_33
      rw [(zc_dim hy (by omega)).2, nI_add])
  have ha : zk_abs (y, m, d) < 2 ^ 31 := by
    unfold zk_abs zk_mon
    simp only
    rw [zk_mon_b] at hl ⊢
    omega
  unfold fX12_weekday
  rw [es]
  have : nI (zk_abs (y, m, d)) - nI (zk_abs (y, m, d)) / 7 * 7 = nI (zk_abs (y, m, d) % 7) := pk_rem (d := 7) ha (by decide) (by decide)
  rw [this, nI_succ]
theorem zc_weekday (hc : zr_cal c 1 S) (ok : zo_cal S) {i : Nat} (hi : i ≤ 4) : fX1_weekdayOf c (nI i) = nI ((zk_abs (S 0, S 1, S 2) + i) % 7 + 1) := by
  obtain ⟨c0, c1, c2⟩ := hc
  obtain ⟨h1, h2, h3, h4, h5⟩ := zo_isDate ok
  simp only at h1 h2 h3 h4 h5
  have hy : S 0 < 10000 := by have := ok.2.1; omega
  have hd := (zk_dim_le (y := S 0) (m := S 1)).2
  have hb : zk_base (S 0) < 4000000 := by unfold zk_base; omega
  have hl := zk_mon_le (y := S 0) (b := zk_base (S 0)) (S 1 - 1)
  unfold fX1_weekdayOf
  have es : rj_fo (bX1_weekdayOf_31 c (nI i)) ((c.1 2 1).toInt.toNat - 1) 1 (365 * (c.1 2 0 - 1) + (c.1 2 0 - 1) / 4 - (c.1 2 0 - 1) / 100 + (c.1 2 0 - 1) / 400) = nI (zk_mon (S 0) (S 1) (zk_base (S 0))) := by
    rw [show c.1 2 0 = nI (S 0) from c0, show c.1 2 1 = nI (S 1) from c1, zn_base h1 hy, nI_toInt (by omega)]
    unfold zk_mon
    exact zf_rel (fun _ x z => x = nI z) (S 1 - 1) 1 _ _ rfl (fun j x z j1 j2 hx => by
      subst hx
      unfold bX1_weekdayOf_31
      rw [show c.1 2 0 = nI (S 0) from c0, (zc_dim hy (by omega)).1, nI_add])
  have hz : zk_mon (S 0) (S 1) (zk_base (S 0)) < 4100000 := by unfold zk_mon; omega
  rw [es, show c.1 2 2 = nI (S 2) from c2, nI_add, show (1 : Int32) = nI 1 from rfl, pk_sub (by omega), nI_add]
  have e : zk_mon (S 0) (S 1) (zk_base (S 0)) + S 2 - 1 = zk_abs (S 0, S 1, S 2) := rfl
  have : nI (zk_abs (S 0, S 1, S 2) + i) - nI (zk_abs (S 0, S 1, S 2) + i) / 7 * 7 = nI ((zk_abs (S 0, S 1, S 2) + i) % 7) := pk_rem (d := 7) (by omega) (by decide) (by decide)
  rw [e, this, nI_add]
end zqCal
