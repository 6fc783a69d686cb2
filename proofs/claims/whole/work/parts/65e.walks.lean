/-! WAYS BETWEEN STAGES: round by round (the class), over two stages at most (the reference) -/
def zk_ph (D : Nat → Nat → Nat) (k : Nat) : Nat → Nat → Nat := fun i j => min (D i j) (D i k + D k j)
def zk_fw (w : Nat → Nat → Nat) : Nat → Nat → Nat := zk_ph (zk_ph (zk_ph (zk_ph w 0) 1) 2) 3
theorem zk_ph_le {D : Nat → Nat → Nat} {k i j : Nat} : zk_ph D k i j ≤ D i j := Nat.min_le_left _ _
theorem zk_step {D : Nat → Nat → Nat} {k : Nat} (h0 : D k k = 0) (H : ∀ m, m < k → ∀ i j, D i j ≤ D i m + D m j) : ∀ m, m < k + 1 → ∀ i j, zk_ph D k i j ≤ zk_ph D k i m + zk_ph D k m j := by
  intro m hm i j
  unfold zk_ph
  by_cases e : m = k
  · subst e
    omega
  · have hm : m < k := by omega
    have a1 := H m hm i j
    have a2 := H m hm i k
    have a3 := H m hm k j
    have a4 := H m hm k k
    omega
theorem zk_tri {w : Nat → Nat → Nat} (hd : ∀ a, a < 4 → w a a = 0) : ∀ m, m < 4 → ∀ i j, zk_fw w i j ≤ zk_fw w i m + zk_fw w m j := by
  have z : ∀ (D : Nat → Nat → Nat) (k : Nat), (∀ a, a < 4 → D a a = 0) → ∀ a, a < 4 → zk_ph D k a a = 0 := fun D k h a ha => by
    have h1 := zk_ph_le (D := D) (k := k) (i := a) (j := a)
    rw [h a ha] at h1
    omega
  have d1 := z w 0 hd
  have d2 := z _ 1 d1
  have d3 := z _ 2 d2
  have t0 := zk_step (D := w) (k := 0) (hd 0 (by decide)) (fun m hm => absurd hm (Nat.not_lt_zero _))
  have t1 := zk_step (d1 1 (by decide)) t0
  have t2 := zk_step (d2 2 (by decide)) t1
  exact zk_step (d3 3 (by decide)) t2
theorem zk_fw_le {w : Nat → Nat → Nat} {i j : Nat} : zk_fw w i j ≤ w i j := Nat.le_trans zk_ph_le (Nat.le_trans zk_ph_le (Nat.le_trans zk_ph_le zk_ph_le))
/-- over at most two others: five ways -/
def zk5 (a b c d e f : Nat) : Nat := min a (min (b + d) (min (c + e) (min (b + f + e) (c + f + d))))
theorem zk5_le {a b c d e f : Nat} : zk5 a b c d e f ≤ a ∧ zk5 a b c d e f ≤ b + d ∧ zk5 a b c d e f ≤ c + e ∧ zk5 a b c d e f ≤ b + f + e ∧ zk5 a b c d e f ≤ c + f + d := by
  unfold zk5
  omega
theorem zk5_is {a b c d e f : Nat} : zk5 a b c d e f = a ∨ zk5 a b c d e f = b + d ∨ zk5 a b c d e f = c + e ∨ zk5 a b c d e f = b + f + e ∨ zk5 a b c d e f = c + f + d := by
  unfold zk5
  omega
/-- from i to j by the others k, l: no longer than from i to k and from k to j -/
theorem zk5_tri {ij ik il jk jl kl : Nat} : zk5 ij ik il jk jl kl ≤ zk5 ik ij il jk kl jl + zk5 jk ij jl ik kl il := by
  obtain ⟨h1, h2, h3, h4, h5⟩ := zk5_le (a := ij) (b := ik) (c := il) (d := jk) (e := jl) (f := kl)
  rcases zk5_is (a := ik) (b := ij) (c := il) (d := jk) (e := kl) (f := jl) with p | p | p | p | p <;> rcases zk5_is (a := jk) (b := ij) (c := jl) (d := ik) (e := kl) (f := il) with q | q | q | q | q <;> rw [p, q] <;> omega
theorem zk5_sw {a b c d e f : Nat} : zk5 a b c d e f = zk5 a c b e d f := by
  unfold zk5
  omega
theorem zk5_rv {a b c d e f : Nat} : zk5 a b c d e f = zk5 a d e b c f := by
  unfold zk5
  omega
/-- a round keeps what is at least the best -/
theorem zk_low {D r : Nat → Nat → Nat} {k : Nat} (hk : k < 4) (ht : ∀ i j m, i < 4 → j < 4 → m < 4 → r i j ≤ r i m + r m j) (h : ∀ i j, i < 4 → j < 4 → r i j ≤ D i j) : ∀ i j, i < 4 → j < 4 → r i j ≤ zk_ph D k i j := by
  intro i j hi hj
  have h1 := h i j hi hj
  have h2 := h i k hi hk
  have h3 := h k j hk hj
  have h4 := ht i j k hi hj hk
  unfold zk_ph
  omega
theorem zk_4 {i : Nat} (h : i < 4) : i = 0 ∨ i = 1 ∨ i = 2 ∨ i = 3 := by omega
/-- the best ways among four stages -/
def zk_r (w : Nat → Nat → Nat) (i j : Nat) : Nat :=
  if i = j then 0 else
  if (i = 0 ∧ j = 1) ∨ (i = 1 ∧ j = 0) then zk5 (w 0 1) (w 0 2) (w 0 3) (w 1 2) (w 1 3) (w 2 3) else
  if (i = 0 ∧ j = 2) ∨ (i = 2 ∧ j = 0) then zk5 (w 0 2) (w 0 1) (w 0 3) (w 1 2) (w 2 3) (w 1 3) else
  if (i = 0 ∧ j = 3) ∨ (i = 3 ∧ j = 0) then zk5 (w 0 3) (w 0 1) (w 0 2) (w 1 3) (w 2 3) (w 1 2) else
  if (i = 1 ∧ j = 2) ∨ (i = 2 ∧ j = 1) then zk5 (w 1 2) (w 0 1) (w 1 3) (w 0 2) (w 2 3) (w 0 3) else
  if (i = 1 ∧ j = 3) ∨ (i = 3 ∧ j = 1) then zk5 (w 1 3) (w 0 1) (w 1 2) (w 0 3) (w 2 3) (w 0 2) else
  zk5 (w 2 3) (w 0 2) (w 1 2) (w 0 3) (w 1 3) (w 0 1)
theorem zk_vals (w : Nat → Nat → Nat) : zk_r w 0 0 = 0 ∧ zk_r w 1 1 = 0 ∧ zk_r w 2 2 = 0 ∧ zk_r w 3 3 = 0 ∧ zk_r w 0 1 = zk5 (w 0 1) (w 0 2) (w 0 3) (w 1 2) (w 1 3) (w 2 3) ∧ zk_r w 1 0 = zk5 (w 0 1) (w 0 2) (w 0 3) (w 1 2) (w 1 3) (w 2 3) ∧ zk_r w 0 2 = zk5 (w 0 2) (w 0 1) (w 0 3) (w 1 2) (w 2 3) (w 1 3) ∧ zk_r w 2 0 = zk5 (w 0 2) (w 0 1) (w 0 3) (w 1 2) (w 2 3) (w 1 3) ∧ zk_r w 0 3 = zk5 (w 0 3) (w 0 1) (w 0 2) (w 1 3) (w 2 3) (w 1 2) ∧ zk_r w 3 0 = zk5 (w 0 3) (w 0 1) (w 0 2) (w 1 3) (w 2 3) (w 1 2) ∧ zk_r w 1 2 = zk5 (w 1 2) (w 0 1) (w 1 3) (w 0 2) (w 2 3) (w 0 3) ∧ zk_r w 2 1 = zk5 (w 1 2) (w 0 1) (w 1 3) (w 0 2) (w 2 3) (w 0 3) ∧ zk_r w 1 3 = zk5 (w 1 3) (w 0 1) (w 1 2) (w 0 3) (w 2 3) (w 0 2) ∧ zk_r w 3 1 = zk5 (w 1 3) (w 0 1) (w 1 2) (w 0 3) (w 2 3) (w 0 2) ∧ zk_r w 2 3 = zk5 (w 2 3) (w 0 2) (w 1 2) (w 0 3) (w 1 3) (w 0 1) ∧ zk_r w 3 2 = zk5 (w 2 3) (w 0 2) (w 1 2) (w 0 3) (w 1 3) (w 0 1) := by
  refine ⟨?_, ?_, ?_, ?_, ?_, ?_, ?_, ?_, ?_, ?_, ?_, ?_, ?_, ?_, ?_, ?_⟩ <;> simp [zk_r]
theorem zk_r_tri {w : Nat → Nat → Nat} : ∀ i j m, i < 4 → j < 4 → m < 4 → zk_r w i j ≤ zk_r w i m + zk_r w m j := by
  intro i j m hi hj hm
  obtain ⟨v00, v11, v22, v33, v01, v10, v02, v20, v03, v30, v12, v21, v13, v31, v23, v32⟩ := zk_vals w
  rcases zk_4 hi with rfl | rfl | rfl | rfl <;> rcases zk_4 hj with rfl | rfl | rfl | rfl <;> rcases zk_4 hm with rfl | rfl | rfl | rfl
  · rw [v00]; exact Nat.zero_le _
  · rw [v00]; exact Nat.zero_le _
  · rw [v00]; exact Nat.zero_le _
  · rw [v00]; exact Nat.zero_le _
  · rw [v00, Nat.zero_add]; exact Nat.le_refl _
  · rw [v11, Nat.add_zero]; exact Nat.le_refl _
  · have h := zk5_tri (ij := (w 0 1)) (ik := (w 0 2)) (il := (w 0 3)) (jk := (w 1 2)) (jl := (w 1 3)) (kl := (w 2 3))
    rw [v01, v02, v21]; exact h
  · have h := zk5_tri (ij := (w 0 1)) (ik := (w 0 3)) (il := (w 0 2)) (jk := (w 1 3)) (jl := (w 1 2)) (kl := (w 2 3))
    rw [zk5_sw (a := (w 0 1)) (b := (w 0 3)) (c := (w 0 2)) (d := (w 1 3)) (e := (w 1 2)) (f := (w 2 3))] at h
    rw [v01, v03, v31]; exact h
  · rw [v00, Nat.zero_add]; exact Nat.le_refl _
  · have h := zk5_tri (ij := (w 0 2)) (ik := (w 0 1)) (il := (w 0 3)) (jk := (w 1 2)) (jl := (w 2 3)) (kl := (w 1 3))
    rw [zk5_rv (a := (w 1 2)) (b := (w 0 2)) (c := (w 2 3)) (d := (w 0 1)) (e := (w 1 3)) (f := (w 0 3))] at h
    rw [v02, v01, v12]; exact h
  · rw [v22, Nat.add_zero]; exact Nat.le_refl _
  · have h := zk5_tri (ij := (w 0 2)) (ik := (w 0 3)) (il := (w 0 1)) (jk := (w 2 3)) (jl := (w 1 2)) (kl := (w 1 3))
    rw [zk5_sw (a := (w 0 2)) (b := (w 0 3)) (c := (w 0 1)) (d := (w 2 3)) (e := (w 1 2)) (f := (w 1 3)), zk5_sw (a := (w 0 3)) (b := (w 0 2)) (c := (w 0 1)) (d := (w 2 3)) (e := (w 1 3)) (f := (w 1 2))] at h
    rw [v02, v03, v32]; exact h
  · rw [v00, Nat.zero_add]; exact Nat.le_refl _
  · have h := zk5_tri (ij := (w 0 3)) (ik := (w 0 1)) (il := (w 0 2)) (jk := (w 1 3)) (jl := (w 2 3)) (kl := (w 1 2))
    rw [zk5_sw (a := (w 0 1)) (b := (w 0 3)) (c := (w 0 2)) (d := (w 1 3)) (e := (w 1 2)) (f := (w 2 3)), zk5_rv (a := (w 1 3)) (b := (w 0 3)) (c := (w 2 3)) (d := (w 0 1)) (e := (w 1 2)) (f := (w 0 2))] at h
    rw [v03, v01, v13]; exact h
  · have h := zk5_tri (ij := (w 0 3)) (ik := (w 0 2)) (il := (w 0 1)) (jk := (w 2 3)) (jl := (w 1 3)) (kl := (w 1 2))
    rw [zk5_sw (a := (w 0 3)) (b := (w 0 2)) (c := (w 0 1)) (d := (w 2 3)) (e := (w 1 3)) (f := (w 1 2)), zk5_sw (a := (w 0 2)) (b := (w 0 3)) (c := (w 0 1)) (d := (w 2 3)) (e := (w 1 2)) (f := (w 1 3)), zk5_rv (a := (w 2 3)) (b := (w 0 3)) (c := (w 1 3)) (d := (w 0 2)) (e := (w 1 2)) (f := (w 0 1))] at h
    rw [v03, v02, v23]; exact h
  · rw [v33, Nat.add_zero]; exact Nat.le_refl _
  · rw [v00, Nat.add_zero]; exact Nat.le_refl _
  · rw [v11, Nat.zero_add]; exact Nat.le_refl _
  · have h := zk5_tri (ij := (w 0 1)) (ik := (w 1 2)) (il := (w 1 3)) (jk := (w 0 2)) (jl := (w 0 3)) (kl := (w 2 3))
    rw [zk5_rv (a := (w 0 1)) (b := (w 1 2)) (c := (w 1 3)) (d := (w 0 2)) (e := (w 0 3)) (f := (w 2 3))] at h
    rw [v10, v12, v20]; exact h
  · have h := zk5_tri (ij := (w 0 1)) (ik := (w 1 3)) (il := (w 1 2)) (jk := (w 0 3)) (jl := (w 0 2)) (kl := (w 2 3))
    rw [zk5_rv (a := (w 0 1)) (b := (w 1 3)) (c := (w 1 2)) (d := (w 0 3)) (e := (w 0 2)) (f := (w 2 3)), zk5_sw (a := (w 0 1)) (b := (w 0 3)) (c := (w 0 2)) (d := (w 1 3)) (e := (w 1 2)) (f := (w 2 3))] at h
    rw [v10, v13, v30]; exact h
  · rw [v11]; exact Nat.zero_le _
  · rw [v11]; exact Nat.zero_le _
  · rw [v11]; exact Nat.zero_le _
  · rw [v11]; exact Nat.zero_le _
  · have h := zk5_tri (ij := (w 1 2)) (ik := (w 0 1)) (il := (w 1 3)) (jk := (w 0 2)) (jl := (w 2 3)) (kl := (w 0 3))
    rw [zk5_rv (a := (w 0 1)) (b := (w 1 2)) (c := (w 1 3)) (d := (w 0 2)) (e := (w 0 3)) (f := (w 2 3)), zk5_rv (a := (w 0 2)) (b := (w 1 2)) (c := (w 2 3)) (d := (w 0 1)) (e := (w 0 3)) (f := (w 1 3))] at h
    rw [v12, v10, v02]; exact h
  · rw [v11, Nat.zero_add]; exact Nat.le_refl _
  · rw [v22, Nat.add_zero]; exact Nat.le_refl _
  · have h := zk5_tri (ij := (w 1 2)) (ik := (w 1 3)) (il := (w 0 1)) (jk := (w 2 3)) (jl := (w 0 2)) (kl := (w 0 3))
    rw [zk5_sw (a := (w 1 2)) (b := (w 1 3)) (c := (w 0 1)) (d := (w 2 3)) (e := (w 0 2)) (f := (w 0 3)), zk5_sw (a := (w 1 3)) (b := (w 1 2)) (c := (w 0 1)) (d := (w 2 3)) (e := (w 0 3)) (f := (w 0 2)), zk5_sw (a := (w 2 3)) (b := (w 1 2)) (c := (w 0 2)) (d := (w 1 3)) (e := (w 0 3)) (f := (w 0 1))] at h
    rw [v12, v13, v32]; exact h
  · have h := zk5_tri (ij := (w 1 3)) (ik := (w 0 1)) (il := (w 1 2)) (jk := (w 0 3)) (jl := (w 2 3)) (kl := (w 0 2))
    rw [zk5_rv (a := (w 0 1)) (b := (w 1 3)) (c := (w 1 2)) (d := (w 0 3)) (e := (w 0 2)) (f := (w 2 3)), zk5_sw (a := (w 0 1)) (b := (w 0 3)) (c := (w 0 2)) (d := (w 1 3)) (e := (w 1 2)) (f := (w 2 3)), zk5_rv (a := (w 0 3)) (b := (w 1 3)) (c := (w 2 3)) (d := (w 0 1)) (e := (w 0 2)) (f := (w 1 2))] at h
    rw [v13, v10, v03]; exact h
  · rw [v11, Nat.zero_add]; exact Nat.le_refl _
  · have h := zk5_tri (ij := (w 1 3)) (ik := (w 1 2)) (il := (w 0 1)) (jk := (w 2 3)) (jl := (w 0 3)) (kl := (w 0 2))
    rw [zk5_sw (a := (w 1 3)) (b := (w 1 2)) (c := (w 0 1)) (d := (w 2 3)) (e := (w 0 3)) (f := (w 0 2)), zk5_sw (a := (w 1 2)) (b := (w 1 3)) (c := (w 0 1)) (d := (w 2 3)) (e := (w 0 2)) (f := (w 0 3)), zk5_rv (a := (w 2 3)) (b := (w 1 3)) (c := (w 0 3)) (d := (w 1 2)) (e := (w 0 2)) (f := (w 0 1)), zk5_sw (a := (w 2 3)) (b := (w 1 2)) (c := (w 0 2)) (d := (w 1 3)) (e := (w 0 3)) (f := (w 0 1))] at h
    rw [v13, v12, v23]; exact h
  · rw [v33, Nat.add_zero]; exact Nat.le_refl _
  · rw [v00, Nat.add_zero]; exact Nat.le_refl _
  · have h := zk5_tri (ij := (w 0 2)) (ik := (w 1 2)) (il := (w 2 3)) (jk := (w 0 1)) (jl := (w 0 3)) (kl := (w 1 3))
    rw [zk5_rv (a := (w 0 2)) (b := (w 1 2)) (c := (w 2 3)) (d := (w 0 1)) (e := (w 0 3)) (f := (w 1 3)), zk5_rv (a := (w 1 2)) (b := (w 0 2)) (c := (w 2 3)) (d := (w 0 1)) (e := (w 1 3)) (f := (w 0 3))] at h
    rw [v20, v21, v10]; exact h
  · rw [v22, Nat.zero_add]; exact Nat.le_refl _
  · have h := zk5_tri (ij := (w 0 2)) (ik := (w 2 3)) (il := (w 1 2)) (jk := (w 0 3)) (jl := (w 0 1)) (kl := (w 1 3))
    rw [zk5_rv (a := (w 0 2)) (b := (w 2 3)) (c := (w 1 2)) (d := (w 0 3)) (e := (w 0 1)) (f := (w 1 3)), zk5_sw (a := (w 0 2)) (b := (w 0 3)) (c := (w 0 1)) (d := (w 2 3)) (e := (w 1 2)) (f := (w 1 3)), zk5_sw (a := (w 0 3)) (b := (w 0 2)) (c := (w 0 1)) (d := (w 2 3)) (e := (w 1 3)) (f := (w 1 2))] at h
    rw [v20, v23, v30]; exact h
  · have h := zk5_tri (ij := (w 1 2)) (ik := (w 0 2)) (il := (w 2 3)) (jk := (w 0 1)) (jl := (w 1 3)) (kl := (w 0 3))
    rw [zk5_rv (a := (w 1 2)) (b := (w 0 2)) (c := (w 2 3)) (d := (w 0 1)) (e := (w 1 3)) (f := (w 0 3)), zk5_rv (a := (w 0 2)) (b := (w 1 2)) (c := (w 2 3)) (d := (w 0 1)) (e := (w 0 3)) (f := (w 1 3)), zk5_rv (a := (w 0 1)) (b := (w 1 2)) (c := (w 1 3)) (d := (w 0 2)) (e := (w 0 3)) (f := (w 2 3))] at h
    rw [v21, v20, v01]; exact h
  · rw [v11, Nat.add_zero]; exact Nat.le_refl _
  · rw [v22, Nat.zero_add]; exact Nat.le_refl _
  · have h := zk5_tri (ij := (w 1 2)) (ik := (w 2 3)) (il := (w 0 2)) (jk := (w 1 3)) (jl := (w 0 1)) (kl := (w 0 3))
    rw [zk5_rv (a := (w 1 2)) (b := (w 2 3)) (c := (w 0 2)) (d := (w 1 3)) (e := (w 0 1)) (f := (w 0 3)), zk5_sw (a := (w 1 2)) (b := (w 1 3)) (c := (w 0 1)) (d := (w 2 3)) (e := (w 0 2)) (f := (w 0 3)), zk5_sw (a := (w 2 3)) (b := (w 1 2)) (c := (w 0 2)) (d := (w 1 3)) (e := (w 0 3)) (f := (w 0 1)), zk5_sw (a := (w 1 3)) (b := (w 1 2)) (c := (w 0 1)) (d := (w 2 3)) (e := (w 0 3)) (f := (w 0 2))] at h
    rw [v21, v23, v31]; exact h
  · rw [v22]; exact Nat.zero_le _
  · rw [v22]; exact Nat.zero_le _
  · rw [v22]; exact Nat.zero_le _
  · rw [v22]; exact Nat.zero_le _
  · have h := zk5_tri (ij := (w 2 3)) (ik := (w 0 2)) (il := (w 1 2)) (jk := (w 0 3)) (jl := (w 1 3)) (kl := (w 0 1))
    rw [zk5_rv (a := (w 0 2)) (b := (w 2 3)) (c := (w 1 2)) (d := (w 0 3)) (e := (w 0 1)) (f := (w 1 3)), zk5_sw (a := (w 0 2)) (b := (w 0 3)) (c := (w 0 1)) (d := (w 2 3)) (e := (w 1 2)) (f := (w 1 3)), zk5_rv (a := (w 0 3)) (b := (w 2 3)) (c := (w 1 3)) (d := (w 0 2)) (e := (w 0 1)) (f := (w 1 2)), zk5_sw (a := (w 0 3)) (b := (w 0 2)) (c := (w 0 1)) (d := (w 2 3)) (e := (w 1 3)) (f := (w 1 2))] at h
    rw [v23, v20, v03]; exact h
  · have h := zk5_tri (ij := (w 2 3)) (ik := (w 1 2)) (il := (w 0 2)) (jk := (w 1 3)) (jl := (w 0 3)) (kl := (w 0 1))
    rw [zk5_sw (a := (w 2 3)) (b := (w 1 2)) (c := (w 0 2)) (d := (w 1 3)) (e := (w 0 3)) (f := (w 0 1)), zk5_rv (a := (w 1 2)) (b := (w 2 3)) (c := (w 0 2)) (d := (w 1 3)) (e := (w 0 1)) (f := (w 0 3)), zk5_sw (a := (w 1 2)) (b := (w 1 3)) (c := (w 0 1)) (d := (w 2 3)) (e := (w 0 2)) (f := (w 0 3)), zk5_rv (a := (w 1 3)) (b := (w 2 3)) (c := (w 0 3)) (d := (w 1 2)) (e := (w 0 1)) (f := (w 0 2)), zk5_sw (a := (w 1 3)) (b := (w 1 2)) (c := (w 0 1)) (d := (w 2 3)) (e := (w 0 3)) (f := (w 0 2))] at h
    rw [v23, v21, v13]; exact h
  · rw [v22, Nat.zero_add]; exact Nat.le_refl _
  · rw [v33, Nat.add_zero]; exact Nat.le_refl _
  · rw [v00, Nat.add_zero]; exact Nat.le_refl _
  · have h := zk5_tri (ij := (w 0 3)) (ik := (w 1 3)) (il := (w 2 3)) (jk := (w 0 1)) (jl := (w 0 2)) (kl := (w 1 2))
    rw [zk5_rv (a := (w 0 3)) (b := (w 1 3)) (c := (w 2 3)) (d := (w 0 1)) (e := (w 0 2)) (f := (w 1 2)), zk5_rv (a := (w 1 3)) (b := (w 0 3)) (c := (w 2 3)) (d := (w 0 1)) (e := (w 1 2)) (f := (w 0 2)), zk5_sw (a := (w 0 1)) (b := (w 0 3)) (c := (w 0 2)) (d := (w 1 3)) (e := (w 1 2)) (f := (w 2 3))] at h
    rw [v30, v31, v10]; exact h
  · have h := zk5_tri (ij := (w 0 3)) (ik := (w 2 3)) (il := (w 1 3)) (jk := (w 0 2)) (jl := (w 0 1)) (kl := (w 1 2))
    rw [zk5_rv (a := (w 0 3)) (b := (w 2 3)) (c := (w 1 3)) (d := (w 0 2)) (e := (w 0 1)) (f := (w 1 2)), zk5_sw (a := (w 0 3)) (b := (w 0 2)) (c := (w 0 1)) (d := (w 2 3)) (e := (w 1 3)) (f := (w 1 2)), zk5_rv (a := (w 2 3)) (b := (w 0 3)) (c := (w 1 3)) (d := (w 0 2)) (e := (w 1 2)) (f := (w 0 1)), zk5_sw (a := (w 0 2)) (b := (w 0 3)) (c := (w 0 1)) (d := (w 2 3)) (e := (w 1 2)) (f := (w 1 3))] at h
    rw [v30, v32, v20]; exact h
  · rw [v33, Nat.zero_add]; exact Nat.le_refl _
  · have h := zk5_tri (ij := (w 1 3)) (ik := (w 0 3)) (il := (w 2 3)) (jk := (w 0 1)) (jl := (w 1 2)) (kl := (w 0 2))
    rw [zk5_rv (a := (w 1 3)) (b := (w 0 3)) (c := (w 2 3)) (d := (w 0 1)) (e := (w 1 2)) (f := (w 0 2)), zk5_rv (a := (w 0 3)) (b := (w 1 3)) (c := (w 2 3)) (d := (w 0 1)) (e := (w 0 2)) (f := (w 1 2)), zk5_rv (a := (w 0 1)) (b := (w 1 3)) (c := (w 1 2)) (d := (w 0 3)) (e := (w 0 2)) (f := (w 2 3)), zk5_sw (a := (w 0 1)) (b := (w 0 3)) (c := (w 0 2)) (d := (w 1 3)) (e := (w 1 2)) (f := (w 2 3))] at h
    rw [v31, v30, v01]; exact h
  · rw [v11, Nat.add_zero]; exact Nat.le_refl _
  · have h := zk5_tri (ij := (w 1 3)) (ik := (w 2 3)) (il := (w 0 3)) (jk := (w 1 2)) (jl := (w 0 1)) (kl := (w 0 2))
    rw [zk5_rv (a := (w 1 3)) (b := (w 2 3)) (c := (w 0 3)) (d := (w 1 2)) (e := (w 0 1)) (f := (w 0 2)), zk5_sw (a := (w 1 3)) (b := (w 1 2)) (c := (w 0 1)) (d := (w 2 3)) (e := (w 0 3)) (f := (w 0 2)), zk5_rv (a := (w 2 3)) (b := (w 1 3)) (c := (w 0 3)) (d := (w 1 2)) (e := (w 0 2)) (f := (w 0 1)), zk5_sw (a := (w 2 3)) (b := (w 1 2)) (c := (w 0 2)) (d := (w 1 3)) (e := (w 0 3)) (f := (w 0 1)), zk5_sw (a := (w 1 2)) (b := (w 1 3)) (c := (w 0 1)) (d := (w 2 3)) (e := (w 0 2)) (f := (w 0 3))] at h
    rw [v31, v32, v21]; exact h
  · rw [v33, Nat.zero_add]; exact Nat.le_refl _
  · have h := zk5_tri (ij := (w 2 3)) (ik := (w 0 3)) (il := (w 1 3)) (jk := (w 0 2)) (jl := (w 1 2)) (kl := (w 0 1))
    rw [zk5_rv (a := (w 2 3)) (b := (w 0 3)) (c := (w 1 3)) (d := (w 0 2)) (e := (w 1 2)) (f := (w 0 1)), zk5_rv (a := (w 0 3)) (b := (w 2 3)) (c := (w 1 3)) (d := (w 0 2)) (e := (w 0 1)) (f := (w 1 2)), zk5_sw (a := (w 0 3)) (b := (w 0 2)) (c := (w 0 1)) (d := (w 2 3)) (e := (w 1 3)) (f := (w 1 2)), zk5_rv (a := (w 0 2)) (b := (w 2 3)) (c := (w 1 2)) (d := (w 0 3)) (e := (w 0 1)) (f := (w 1 3)), zk5_sw (a := (w 0 2)) (b := (w 0 3)) (c := (w 0 1)) (d := (w 2 3)) (e := (w 1 2)) (f := (w 1 3))] at h
    rw [v32, v30, v02]; exact h
  · have h := zk5_tri (ij := (w 2 3)) (ik := (w 1 3)) (il := (w 0 3)) (jk := (w 1 2)) (jl := (w 0 2)) (kl := (w 0 1))
    rw [zk5_rv (a := (w 2 3)) (b := (w 1 3)) (c := (w 0 3)) (d := (w 1 2)) (e := (w 0 2)) (f := (w 0 1)), zk5_sw (a := (w 2 3)) (b := (w 1 2)) (c := (w 0 2)) (d := (w 1 3)) (e := (w 0 3)) (f := (w 0 1)), zk5_rv (a := (w 1 3)) (b := (w 2 3)) (c := (w 0 3)) (d := (w 1 2)) (e := (w 0 1)) (f := (w 0 2)), zk5_sw (a := (w 1 3)) (b := (w 1 2)) (c := (w 0 1)) (d := (w 2 3)) (e := (w 0 3)) (f := (w 0 2)), zk5_rv (a := (w 1 2)) (b := (w 2 3)) (c := (w 0 2)) (d := (w 1 3)) (e := (w 0 1)) (f := (w 0 3)), zk5_sw (a := (w 1 2)) (b := (w 1 3)) (c := (w 0 1)) (d := (w 2 3)) (e := (w 0 2)) (f := (w 0 3))] at h
    rw [v32, v31, v12]; exact h
  · rw [v22, Nat.add_zero]; exact Nat.le_refl _
  · rw [v33, Nat.zero_add]; exact Nat.le_refl _
  · rw [v33]; exact Nat.zero_le _
  · rw [v33]; exact Nat.zero_le _
  · rw [v33]; exact Nat.zero_le _
  · rw [v33]; exact Nat.zero_le _
theorem zk_r_le {w : Nat → Nat → Nat} (hs : ∀ a b, a < 4 → b < 4 → w a b = w b a) : ∀ i j, i < 4 → j < 4 → zk_r w i j ≤ w i j := by
  intro i j hi hj
  obtain ⟨v00, v11, v22, v33, v01, v10, v02, v20, v03, v30, v12, v21, v13, v31, v23, v32⟩ := zk_vals w
  rcases zk_4 hi with rfl | rfl | rfl | rfl <;> rcases zk_4 hj with rfl | rfl | rfl | rfl
  · rw [v00]; exact Nat.zero_le _
  · rw [v01]; exact zk5_le.1
  · rw [v02]; exact zk5_le.1
  · rw [v03]; exact zk5_le.1
  · rw [v10, hs 1 0 hi hj]; exact zk5_le.1
  · rw [v11]; exact Nat.zero_le _
  · rw [v12]; exact zk5_le.1
  · rw [v13]; exact zk5_le.1
  · rw [v20, hs 2 0 hi hj]; exact zk5_le.1
  · rw [v21, hs 2 1 hi hj]; exact zk5_le.1
  · rw [v22]; exact Nat.zero_le _
  · rw [v23]; exact zk5_le.1
  · rw [v30, hs 3 0 hi hj]; exact zk5_le.1
  · rw [v31, hs 3 1 hi hj]; exact zk5_le.1
  · rw [v32, hs 3 2 hi hj]; exact zk5_le.1
  · rw [v33]; exact Nat.zero_le _
/-- what is no longer than any way over two stages is no longer than the best -/
theorem zk_r_glb {w : Nat → Nat → Nat} (hd : ∀ a, a < 4 → w a a = 0) (hs : ∀ a b, a < 4 → b < 4 → w a b = w b a) {i j X : Nat} (hi : i < 4) (hj : j < 4) (hX : ∀ a b, a < 4 → b < 4 → X ≤ w i a + w a b + w b j) : X ≤ zk_r w i j := by
  obtain ⟨v00, v11, v22, v33, v01, v10, v02, v20, v03, v30, v12, v21, v13, v31, v23, v32⟩ := zk_vals w
  have d0 := hd 0 (by decide)
  have d1 := hd 1 (by decide)
  have d2 := hd 2 (by decide)
  have d3 := hd 3 (by decide)
  have s1 := hs 1 0 (by decide) (by decide)
  have s2 := hs 2 0 (by decide) (by decide)
  have s3 := hs 3 0 (by decide) (by decide)
  have s4 := hs 2 1 (by decide) (by decide)
  have s5 := hs 3 1 (by decide) (by decide)
  have s6 := hs 3 2 (by decide) (by decide)
  have g : ∀ a b, a < 4 → b < 4 → X ≤ w i a + w a b + w b j := hX
  have x00 := g 0 0 (by decide) (by decide)
  have x01 := g 0 1 (by decide) (by decide)
  have x02 := g 0 2 (by decide) (by decide)
  have x03 := g 0 3 (by decide) (by decide)
  have x10 := g 1 0 (by decide) (by decide)
  have x11 := g 1 1 (by decide) (by decide)
  have x12 := g 1 2 (by decide) (by decide)
  have x13 := g 1 3 (by decide) (by decide)
  have x20 := g 2 0 (by decide) (by decide)
  have x21 := g 2 1 (by decide) (by decide)
  have x22 := g 2 2 (by decide) (by decide)
  have x23 := g 2 3 (by decide) (by decide)
  have x30 := g 3 0 (by decide) (by decide)
  have x31 := g 3 1 (by decide) (by decide)
  have x32 := g 3 2 (by decide) (by decide)
  have x33 := g 3 3 (by decide) (by decide)
  clear g hX hd hs
  rcases zk_4 hi with rfl | rfl | rfl | rfl <;> rcases zk_4 hj with rfl | rfl | rfl | rfl <;> simp only [d0, d1, d2, d3, s1, s2, s3, s4, s5, s6, v00, v11, v22, v33, v01, v10, v02, v20, v03, v30, v12, v21, v13, v31, v23, v32] at * <;> first | omega | (unfold zk5; omega)
/-- BOTH WAYS OF RECKONING: the least of all ways over two stages is what the rounds leave -/
theorem zk_eq {w : Nat → Nat → Nat} (hd : ∀ a, a < 4 → w a a = 0) (hs : ∀ a b, a < 4 → b < 4 → w a b = w b a) {i j R : Nat} (hi : i < 4) (hj : j < 4) (h1 : ∀ a b, a < 4 → b < 4 → R ≤ w i a + w a b + w b j) (h2 : ∀ X, (∀ a b, a < 4 → b < 4 → X ≤ w i a + w a b + w b j) → X ≤ R) : zk_fw w i j = R := by
  apply Nat.le_antisymm
  · refine h2 _ (fun a b ha hb => ?_)
    have t1 := zk_tri hd a ha i j
    have t2 := zk_tri hd b hb a j
    have l1 := zk_fw_le (w := w) (i := i) (j := a)
    have l2 := zk_fw_le (w := w) (i := a) (j := b)
    have l3 := zk_fw_le (w := w) (i := b) (j := j)
    omega
  · refine Nat.le_trans (zk_r_glb hd hs hi hj h1) ?_
    have t := zk_r_tri (w := w)
    exact zk_low (by decide) t (zk_low (by decide) t (zk_low (by decide) t (zk_low (by decide) t (zk_r_le hs)))) i j hi hj
