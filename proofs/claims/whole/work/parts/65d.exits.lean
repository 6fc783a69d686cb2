/-! WAYS OUT, as numbers -/
/-- the least place where T is nothing -/
theorem zr_least {T : Nat → Nat} : ∀ (B : Nat), T B = 0 → ∃ m, m ≤ B ∧ T m = 0 ∧ ∀ x, x < m → T x ≠ 0
  | 0, h => ⟨0, Nat.le_refl _, h, fun x hx => absurd hx (Nat.not_lt_zero _)⟩
  | B + 1, h => by
    by_cases c : ∃ x, x ≤ B ∧ T x = 0
    · obtain ⟨x, h1, h2⟩ := c
      obtain ⟨m, a1, a2, a3⟩ := zr_least x h2
      exact ⟨m, by omega, a2, a3⟩
    · exact ⟨B + 1, Nat.le_refl _, h, fun x hx z => c ⟨x, by omega, z⟩⟩
termination_by B => B
decreasing_by omega
def zr_min (rc : Nat → Nat) (set c : Nat) : Nat := rj_fo (fun j s => if set.testBit j = true then (if rc j < s then rc j else s) else s) 4 0 c
def zr_room (g : Nat → Nat) (rc : Nat → Nat → Nat) (set m : Nat) : Nat := rj_fo (fun k s => s + g k * (m - zr_min (rc k) set 8192)) 3 0 0
def zr_people (cr : Nat → Nat) (set : Nat) : Nat := rj_fo (fun j s => if set.testBit j = true then s + cr j else s) 4 0 0
def zr_b (g : Nat → Nat) (rc : Nat → Nat → Nat) (cr : Nat → Nat) (m : Nat) (j : Nat) (_ : Unit) : Unit ⊕ Nat := if zr_people cr j ≤ zr_room g rc j m then .inl () else .inr j
def zr_many (g : Nat → Nat) (rc : Nat → Nat → Nat) (cr : Nat → Nat) (m : Nat) : Nat := Sum.elim (fun _ => 0) (fun w => w) (rj_ix (zr_b g rc cr m) 15 1 ())
theorem zr_min_eq {rc : Nat → Nat} {set c : Nat} : zr_min rc set c = (if set.testBit 3 = true then min (rc 3) (if set.testBit 2 = true then min (rc 2) (if set.testBit 1 = true then min (rc 1) (if set.testBit 0 = true then min (rc 0) c else c) else if set.testBit 0 = true then min (rc 0) c else c) else if set.testBit 1 = true then min (rc 1) (if set.testBit 0 = true then min (rc 0) c else c) else if set.testBit 0 = true then min (rc 0) c else c) else if set.testBit 2 = true then min (rc 2) (if set.testBit 1 = true then min (rc 1) (if set.testBit 0 = true then min (rc 0) c else c) else if set.testBit 0 = true then min (rc 0) c else c) else if set.testBit 1 = true then min (rc 1) (if set.testBit 0 = true then min (rc 0) c else c) else if set.testBit 0 = true then min (rc 0) c else c) := by
  have e : ∀ (a s : Nat), (if a < s then a else s) = min a s := fun a s => by
    by_cases h : a < s
    · rw [if_pos h]
      omega
    · rw [if_neg h]
      omega
  unfold zr_min
  simp only [rj_fo, e, Nat.reduceAdd]
/-- what is lost by the way does not ask where the reckoning began -/
theorem zr_min_sub {rc : Nat → Nat} {set m : Nat} (h0 : set.testBit 0 = true ∨ set.testBit 1 = true ∨ set.testBit 2 = true ∨ set.testBit 3 = true) (hr : ∀ j, j < 4 → rc j ≤ 30) : m - zr_min rc set m = m - zr_min rc set 8192 := by
  have a0 := hr 0 (by decide)
  have a1 := hr 1 (by decide)
  have a2 := hr 2 (by decide)
  have a3 := hr 3 (by decide)
  rw [zr_min_eq, zr_min_eq]
  rcases h3 : set.testBit 3 with _ | _ <;> rcases h2 : set.testBit 2 with _ | _ <;> rcases h1 : set.testBit 1 with _ | _ <;> rcases h4 : set.testBit 0 with _ | _ <;> simp only [h1, h2, h3, h4, Bool.false_eq_true, if_false, if_true, or_false, or_true, false_or, true_or, reduceIte] at h0 ⊢ <;> omega
theorem zr_min_le {rc : Nat → Nat} {set m : Nat} : zr_min rc set m ≤ m := by
  rw [zr_min_eq]
  repeat' split
  all_goals omega
theorem zr_min_30 {rc : Nat → Nat} {set m : Nat} (h0 : set.testBit 0 = true ∨ set.testBit 1 = true ∨ set.testBit 2 = true ∨ set.testBit 3 = true) (hr : ∀ j, j < 4 → rc j ≤ 30) : zr_min rc set m ≤ 30 := by
  have a0 := hr 0 (by decide)
  have a1 := hr 1 (by decide)
  have a2 := hr 2 (by decide)
  have a3 := hr 3 (by decide)
  rw [zr_min_eq]
  rcases h3 : set.testBit 3 with _ | _ <;> rcases h2 : set.testBit 2 with _ | _ <;> rcases h1 : set.testBit 1 with _ | _ <;> rcases h4 : set.testBit 0 with _ | _ <;> simp only [h1, h2, h3, h4, Bool.false_eq_true, if_false, if_true, or_false, or_true, false_or, true_or, reduceIte] at h0 ⊢ <;> omega
theorem zr_set {set : Nat} (h1 : 1 ≤ set) (h2 : set < 16) : set.testBit 0 = true ∨ set.testBit 1 = true ∨ set.testBit 2 = true ∨ set.testBit 3 = true := by
  have h : ∀ s, s < 16 → 1 ≤ s → s.testBit 0 = true ∨ s.testBit 1 = true ∨ s.testBit 2 = true ∨ s.testBit 3 = true := by decide
  exact h set h2 h1
theorem zr_room_eq {g : Nat → Nat} {rc : Nat → Nat → Nat} {set m : Nat} : zr_room g rc set m = g 0 * (m - zr_min (rc 0) set 8192) + g 1 * (m - zr_min (rc 1) set 8192) + g 2 * (m - zr_min (rc 2) set 8192) := by
  unfold zr_room
  simp only [rj_fo, Nat.reduceAdd]
  omega
theorem zr_room_mono {g : Nat → Nat} {rc : Nat → Nat → Nat} {set a b : Nat} (h : a ≤ b) : zr_room g rc set a ≤ zr_room g rc set b := by
  rw [zr_room_eq, zr_room_eq]
  have h0 := Nat.mul_le_mul_left (g 0) (show a - zr_min (rc 0) set 8192 ≤ b - zr_min (rc 0) set 8192 by omega)
  have h1 := Nat.mul_le_mul_left (g 1) (show a - zr_min (rc 1) set 8192 ≤ b - zr_min (rc 1) set 8192 by omega)
  have h2 := Nat.mul_le_mul_left (g 2) (show a - zr_min (rc 2) set 8192 ≤ b - zr_min (rc 2) set 8192 by omega)
  omega
theorem zr_many_0 {g : Nat → Nat} {rc : Nat → Nat → Nat} {cr : Nat → Nat} {m : Nat} : zr_many g rc cr m = 0 ↔ ∀ set, 1 ≤ set → set < 16 → zr_people cr set ≤ zr_room g rc set m := by
  have h := zx_find (f := zr_b g rc cr m) (fun j => ¬ zr_people cr j ≤ zr_room g rc j m) (fun j => j) 15 1 (fun i _ _ => by
    unfold zr_b
    by_cases c : zr_people cr i ≤ zr_room g rc i m
    · exact .inr ⟨fun z => z c, if_pos c⟩
    · exact .inl ⟨c, if_neg c⟩)
  unfold zr_many
  rcases h with ⟨i, h1, h2, h3, h4, h5⟩ | ⟨h1, h2⟩
  · rw [h5]
    exact ⟨fun z => absurd z (by show i ≠ 0; omega), fun z => absurd (z i h1 (by omega)) h3⟩
  · rw [h2]
    exact ⟨fun _ set a1 a2 => Decidable.of_not_not (h1 set a1 (by omega)), fun _ => rfl⟩
theorem zr_many_lt {g : Nat → Nat} {rc : Nat → Nat → Nat} {cr : Nat → Nat} {m : Nat} : zr_many g rc cr m < 16 := by
  have h := zx_find (f := zr_b g rc cr m) (fun j => ¬ zr_people cr j ≤ zr_room g rc j m) (fun j => j) 15 1 (fun i _ _ => by
    unfold zr_b
    by_cases c : zr_people cr i ≤ zr_room g rc i m
    · exact .inr ⟨fun z => z c, if_pos c⟩
    · exact .inl ⟨c, if_neg c⟩)
  unfold zr_many
  rcases h with ⟨i, h1, h2, h3, h4, h5⟩ | ⟨h1, h2⟩
  · rw [h5]
    show i < 16
    omega
  · rw [h2]
    show 0 < 16
    omega
theorem zr_many_mono {g : Nat → Nat} {rc : Nat → Nat → Nat} {cr : Nat → Nat} {a b : Nat} (h : a ≤ b) (h0 : zr_many g rc cr a = 0) : zr_many g rc cr b = 0 := zr_many_0.mpr (fun set h1 h2 => Nat.le_trans (zr_many_0.mp h0 set h1 h2) (zr_room_mono h))
theorem zr_people_le {cr : Nat → Nat} {set : Nat} : zr_people cr set ≤ cr 0 + cr 1 + cr 2 + cr 3 := by
  unfold zr_people
  simp only [rj_fo, Nat.reduceAdd]
  repeat' split
  all_goals omega
theorem zr_bound {g : Nat → Nat} {rc : Nat → Nat → Nat} {cr : Nat → Nat} (hr : ∀ k j, k < 3 → j < 4 → rc k j ≤ 30) (hc : ∀ j, j < 4 → cr j ≤ 2000) (hg : cr 0 + cr 1 + cr 2 + cr 3 = 0 ∨ 0 < g 0 + g 1 + g 2) : zr_many g rc cr 8030 = 0 := by
  refine zr_many_0.mpr (fun set h1 h2 => Nat.le_trans zr_people_le ?_)
  rcases hg with hg | hg
  · rw [hg]
    exact Nat.zero_le _
  · have hs := zr_set h1 h2
    have b0 : zr_min (rc 0) set 8192 ≤ 30 := zr_min_30 hs (fun j hj => hr 0 j (by decide) hj)
    have b1 : zr_min (rc 1) set 8192 ≤ 30 := zr_min_30 hs (fun j hj => hr 1 j (by decide) hj)
    have b2 : zr_min (rc 2) set 8192 ≤ 30 := zr_min_30 hs (fun j hj => hr 2 j (by decide) hj)
    have c0 := hc 0 (by decide)
    have c1 := hc 1 (by decide)
    have c2 := hc 2 (by decide)
    have c3 := hc 3 (by decide)
    rw [zr_room_eq]
    have d : ∀ x z : Nat, 0 < x → z ≤ 30 → 8000 ≤ x * (8030 - z) := fun x z hx hz => by
      have h3 := Nat.mul_le_mul (show 1 ≤ x from hx) (show 8000 ≤ 8030 - z by omega)
      omega
    rcases Nat.eq_zero_or_pos (g 0) with e0 | e0
    · rcases Nat.eq_zero_or_pos (g 1) with e1 | e1
      · have h3 := d (g 2) _ (by omega) b2
        omega
      · have h3 := d (g 1) _ e1 b1
        omega
    · have h3 := d (g 0) _ e0 b0
      omega
theorem zr_room_le {g : Nat → Nat} {rc : Nat → Nat → Nat} {set m : Nat} (hg : ∀ k, k < 3 → g k ≤ 50) : zr_room g rc set m ≤ 150 * m := by
  have g0 := Nat.mul_le_mul (hg 0 (by decide)) (show m - zr_min (rc 0) set 8192 ≤ m by omega)
  have g1 := Nat.mul_le_mul (hg 1 (by decide)) (show m - zr_min (rc 1) set 8192 ≤ m by omega)
  have g2 := Nat.mul_le_mul (hg 2 (by decide)) (show m - zr_min (rc 2) set 8192 ≤ m by omega)
  rw [zr_room_eq]
  omega
