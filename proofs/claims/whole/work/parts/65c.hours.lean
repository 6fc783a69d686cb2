/-! HOURS THAT NEED MOST: no two of them within L hours; the reference tries, the class reckons from the last hour on -/
/-- the best among r hours from h on, the next free hour being nx: its sum, its bits -/
def zh_best (d : Nat → Nat) (L : Nat) : Nat → Nat → Nat → Nat × Nat
  | 0, _, _ => (0, 0)
  | r + 1, h, nx => if 0 < d h ∧ nx ≤ h then (if (zh_best d L r (h + 1) nx).1 ≤ d h + (zh_best d L r (h + 1) (h + L)).1 then (d h + (zh_best d L r (h + 1) (h + L)).1, 2 ^ h + (zh_best d L r (h + 1) (h + L)).2) else zh_best d L r (h + 1) nx) else zh_best d L r (h + 1) nx
theorem zh_best_s {d : Nat → Nat} {L r h nx : Nat} : zh_best d L (r + 1) h nx = if 0 < d h ∧ nx ≤ h then (if (zh_best d L r (h + 1) nx).1 ≤ d h + (zh_best d L r (h + 1) (h + L)).1 then (d h + (zh_best d L r (h + 1) (h + L)).1, 2 ^ h + (zh_best d L r (h + 1) (h + L)).2) else zh_best d L r (h + 1) nx) else zh_best d L r (h + 1) nx := rfl
/-- what lies behind does not ask how long one is free -/
theorem zh_free {d : Nat → Nat} {L : Nat} : ∀ (r h a b : Nat), a ≤ h → b ≤ h → zh_best d L r h a = zh_best d L r h b
  | 0, _, _, _, _, _ => rfl
  | r + 1, h, a, b, ha, hb => by
    rw [zh_best_s, zh_best_s, zh_free r (h + 1) a b (by omega) (by omega)]
    by_cases c : 0 < d h
    · rw [if_pos (show 0 < d h ∧ a ≤ h from ⟨c, ha⟩), if_pos (show 0 < d h ∧ b ≤ h from ⟨c, hb⟩)]
    · rw [if_neg (show ¬ (0 < d h ∧ a ≤ h) from fun z => c z.1), if_neg (show ¬ (0 < d h ∧ b ≤ h) from fun z => c z.1)]
/-- hours that may not be taken are passed over -/
theorem zh_skip {d : Nat → Nat} {L : Nat} : ∀ (q r h nx : Nat), h + q ≤ nx → zh_best d L (q + r) h nx = zh_best d L r (h + q) nx
  | 0, r, h, nx, _ => by rw [Nat.zero_add, Nat.add_zero]
  | q + 1, r, h, nx, hq => by
    rw [show q + 1 + r = (q + r) + 1 by omega, zh_best_s, if_neg (fun z => by omega), zh_skip q r (h + 1) nx (by omega), show h + 1 + q = h + (q + 1) by omega]
theorem zh_out {d : Nat → Nat} {L : Nat} : ∀ (r h nx : Nat), h + r ≤ nx → zh_best d L r h nx = (0, 0)
  | 0, _, _, _ => rfl
  | r + 1, h, nx, hq => by
    rw [zh_best_s, if_neg (fun z => by omega), zh_out r (h + 1) nx (by omega)]
/-- the most from an hour on -/
def zh_most (d : Nat → Nat) (L N h : Nat) : Nat := (zh_best d L (N - h) h 0).1
theorem zh_most_out {d : Nat → Nat} {L N h : Nat} (hh : N ≤ h) : zh_most d L N h = 0 := by
  unfold zh_most
  rw [show N - h = 0 by omega]
  rfl
theorem zh_with {d : Nat → Nat} {L N h r : Nat} (hr : h + 1 + r = N) : (zh_best d L r (h + 1) (h + L)).1 = zh_most d L N (h + L) ∨ L = 0 := by
  by_cases h0 : L = 0
  · exact .inr h0
  · refine .inl ?_
    unfold zh_most
    by_cases c : h + L ≤ N
    · rw [show r = (L - 1) + (N - (h + L)) by omega, zh_skip (L - 1) (N - (h + L)) (h + 1) (h + L) (by omega), show h + 1 + (L - 1) = h + L by omega, zh_free (N - (h + L)) (h + L) (h + L) 0 (Nat.le_refl _) (Nat.zero_le _)]
    · rw [show N - (h + L) = 0 by omega, zh_out r (h + 1) (h + L) (by omega)]
      rfl
theorem zh_most_mono {d : Nat → Nat} {L N : Nat} (hL : 0 < L) : ∀ (q h : Nat), h + q = N → ∀ k, h ≤ k → zh_most d L N k ≤ zh_most d L N h
  | 0, h, hq, k, hk => by
    rw [zh_most_out (show N ≤ k by omega)]
    exact Nat.zero_le _
  | q + 1, h, hq, k, hk => by
    by_cases e : k = h
    · rw [e]
      exact Nat.le_refl _
    · refine Nat.le_trans (zh_most_mono hL q (h + 1) (by omega) k (by omega)) ?_
      unfold zh_most
      rw [show N - h = (N - (h + 1)) + 1 by omega, zh_best_s, zh_free (N - (h + 1)) (h + 1) 0 0 (by omega) (by omega)]
      by_cases c : 0 < d h ∧ 0 ≤ h
      · rw [if_pos c]
        by_cases c2 : (zh_best d L (N - (h + 1)) (h + 1) 0).1 ≤ d h + (zh_best d L (N - (h + 1)) (h + 1) (h + L)).1
        · rw [if_pos c2]
          exact c2
        · rw [if_neg c2]
          exact Nat.le_refl _
      · rw [if_neg c]
        exact Nat.le_refl _
/-- the class's equation for the most -/
theorem zh_most_s {d : Nat → Nat} {L N h : Nat} (hL : 0 < L) (hh : h < N) : zh_most d L N h = if zh_most d L N (h + 1) < d h + zh_most d L N (h + L) then d h + zh_most d L N (h + L) else zh_most d L N (h + 1) := by
  have hw : (zh_best d L (N - (h + 1)) (h + 1) (h + L)).1 = zh_most d L N (h + L) := by
    rcases zh_with (d := d) (L := L) (N := N) (h := h) (r := N - (h + 1)) (by omega) with z | z
    · exact z
    · omega
  have e : zh_most d L N h = (zh_best d L ((N - (h + 1)) + 1) h 0).1 := by
    unfold zh_most
    rw [show N - h = (N - (h + 1)) + 1 by omega]
  have e1 : (zh_best d L (N - (h + 1)) (h + 1) 0).1 = zh_most d L N (h + 1) := rfl
  rw [e, zh_best_s]
  by_cases c : 0 < d h ∧ 0 ≤ h
  · rw [if_pos c, hw, e1]
    by_cases c2 : zh_most d L N (h + 1) ≤ d h + zh_most d L N (h + L)
    · rw [if_pos c2]
      show d h + zh_most d L N (h + L) = _
      by_cases c3 : zh_most d L N (h + 1) < d h + zh_most d L N (h + L)
      · rw [if_pos c3]
      · rw [if_neg c3]
        omega
    · rw [if_neg c2, if_neg (by omega), e1]
  · rw [if_neg c, e1, if_neg]
    have h1 := zh_most_mono (d := d) (N := N) hL (N - (h + 1)) (h + 1) (by omega) (h + L) (by omega)
    omega
/-- the class's walk from hour to hour -/
def zh_walk (d : Nat → Nat) (L N : Nat) : Nat → Nat → Nat → Nat
  | 0, _, _ => 0
  | r + 1, h, nx => if nx ≤ h ∧ 0 < d h ∧ zh_most d L N (h + 1) ≤ d h + zh_most d L N (h + L) then 2 ^ h + zh_walk d L N r (h + 1) (h + L) else zh_walk d L N r (h + 1) nx
theorem zh_walk_best {d : Nat → Nat} {L N : Nat} (hL : 0 < L) : ∀ (r h nx : Nat), h + r = N → zh_walk d L N r h nx = (zh_best d L r h nx).2
  | 0, _, _, _ => rfl
  | r + 1, h, nx, hr => by
    have hw : (zh_best d L r (h + 1) (h + L)).1 = zh_most d L N (h + L) := by
      rcases zh_with (d := d) (L := L) (N := N) (h := h) (r := r) (by omega) with z | z
      · exact z
      · omega
    rw [zh_best_s, zh_walk, zh_walk_best hL r (h + 1) (h + L) (by omega), zh_walk_best hL r (h + 1) nx (by omega), hw]
    by_cases c : 0 < d h ∧ nx ≤ h
    · have e1 : (zh_best d L r (h + 1) nx).1 = zh_most d L N (h + 1) := by
        unfold zh_most
        rw [show N - (h + 1) = r by omega, zh_free r (h + 1) nx 0 (by omega) (by omega)]
      rw [if_pos c, e1]
      by_cases c2 : zh_most d L N (h + 1) ≤ d h + zh_most d L N (h + L)
      · rw [if_pos c2, if_pos ⟨c.2, c.1, c2⟩]
      · rw [if_neg c2, if_neg (fun z => c2 z.2.2)]
    · rw [if_neg c, if_neg (fun z => c ⟨z.2.1, z.1⟩)]
theorem zh_best_le {d : Nat → Nat} {L M : Nat} (hd : ∀ h, d h ≤ M) : ∀ (r h nx : Nat), (zh_best d L r h nx).1 ≤ r * M ∧ (zh_best d L r h nx).2 + 2 ^ h ≤ 2 ^ (h + r)
  | 0, h, _ => ⟨Nat.zero_le _, Nat.le_of_eq (by show 0 + 2 ^ h = 2 ^ (h + 0); rw [Nat.zero_add, Nat.add_zero])⟩
  | r + 1, h, nx => by
    have h1 := zh_best_le (L := L) hd r (h + 1) nx
    have h2 := zh_best_le (L := L) hd r (h + 1) (h + L)
    have h3 := hd h
    have h4 : 2 ^ (h + 1) = 2 * 2 ^ h := by rw [Nat.pow_succ]; omega
    have h5 : h + 1 + r = h + (r + 1) := by omega
    rw [h5] at h1 h2
    rw [Nat.succ_mul, zh_best_s]
    by_cases c : 0 < d h ∧ nx ≤ h
    · rw [if_pos c]
      by_cases e : (zh_best d L r (h + 1) nx).1 ≤ d h + (zh_best d L r (h + 1) (h + L)).1
      · rw [if_pos e]
        refine ⟨?_, ?_⟩
        · show d h + _ ≤ _
          omega
        · show 2 ^ h + _ + 2 ^ h ≤ _
          omega
      · rw [if_neg e]
        omega
    · rw [if_neg c]
      omega
