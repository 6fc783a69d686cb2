/-! LINEUPS AS NUMBERS: the first best set of acts, tried (the reference) and reckoned by what is left (the class) -/
theorem zb_tb {s a i : Nat} (h : s < 2 ^ a) : (s + 2 ^ a).testBit i = if i = a then true else s.testBit i := by
  rw [Nat.add_comm]
  by_cases e : i = a
  · subst e
    rw [if_pos rfl, Nat.testBit_two_pow_add_eq, Nat.testBit_lt_two_pow h]
    rfl
  · rw [if_neg e]
    by_cases l : i < a
    · exact Nat.testBit_two_pow_add_gt l s
    · have h1 : s < 2 ^ i := Nat.lt_of_lt_of_le h (Nat.pow_le_pow_right (by decide) (by omega))
      have h2 : 2 ^ (a + 1) ≤ 2 ^ i := Nat.pow_le_pow_right (by decide) (by omega)
      rw [Nat.testBit_lt_two_pow h1, Nat.testBit_lt_two_pow]
      rw [Nat.pow_succ] at h2
      omega
theorem zb_or {s a : Nat} (h : s < 2 ^ a) : s ||| 2 ^ a = s + 2 ^ a := by
  apply Nat.eq_of_testBit_eq
  intro i
  rw [zb_tb h, Nat.testBit_or, Nat.testBit_two_pow]
  by_cases e : i = a
  · subst e
    simp
  · rw [if_neg e, decide_eq_false (fun z => e z.symm), Bool.or_false]
/-- act k may join the set, of acts before it -/
def zl_can (el : Nat → Bool) (cl : Nat → Nat → Bool) (k set : Nat) : Prop := el k = true ∧ ∀ i, i < k → set.testBit i = true → cl i k = false
theorem zl_dec (el : Nat → Bool) (cl : Nat → Nat → Bool) (k set : Nat) : ∃ b : Bool, b = true ↔ zl_can el cl k set := ⟨el k && (List.range k).all (fun i => !(set.testBit i) || !(cl i k)), by
  unfold zl_can
  rw [Bool.and_eq_true, List.all_eq_true]
  refine and_congr_right (fun _ => ⟨fun h i h1 h2 => ?_, fun h i h1 => ?_⟩)
  · have h3 := h i (List.mem_range.mpr h1)
    rw [h2] at h3
    simpa using h3
  · rcases ht : set.testBit i with _ | _
    · rfl
    · rw [h i (List.mem_range.mp h1) ht]
      rfl⟩
noncomputable def zl_canb (el : Nat → Bool) (cl : Nat → Nat → Bool) (k set : Nat) : Bool := Classical.choose (zl_dec el cl k set)
theorem zl_canb_iff {el : Nat → Bool} {cl : Nat → Nat → Bool} {k set : Nat} : zl_canb el cl k set = true ↔ zl_can el cl k set := Classical.choose_spec (zl_dec el cl k set)
/-- the best among r acts from k on, behind a set: its value, its bits -/
noncomputable def zl_best (el : Nat → Bool) (cl : Nat → Nat → Bool) (p : Nat → Nat) : Nat → Nat → Nat → Nat × Nat
  | 0, _, _ => (0, 0)
  | r + 1, k, set => if zl_canb el cl k set = true then (if (zl_best el cl p r (k + 1) set).1 ≤ p k + (zl_best el cl p r (k + 1) (set + 2 ^ k)).1 then (p k + (zl_best el cl p r (k + 1) (set + 2 ^ k)).1, 2 ^ k + (zl_best el cl p r (k + 1) (set + 2 ^ k)).2) else zl_best el cl p r (k + 1) set) else zl_best el cl p r (k + 1) set
theorem zl_best_s {el : Nat → Bool} {cl : Nat → Nat → Bool} {p : Nat → Nat} {r k set : Nat} : zl_best el cl p (r + 1) k set = if zl_canb el cl k set = true then (if (zl_best el cl p r (k + 1) set).1 ≤ p k + (zl_best el cl p r (k + 1) (set + 2 ^ k)).1 then (p k + (zl_best el cl p r (k + 1) (set + 2 ^ k)).1, 2 ^ k + (zl_best el cl p r (k + 1) (set + 2 ^ k)).2) else zl_best el cl p r (k + 1) set) else zl_best el cl p r (k + 1) set := rfl
/-- what is best depends only on who may still come -/
theorem zl_best_congr {el : Nat → Bool} {cl : Nat → Nat → Bool} {p : Nat → Nat} : ∀ (r k s1 s2 : Nat), s1 < 2 ^ k → s2 < 2 ^ k → (∀ x, k ≤ x → x < k + r → el x = true → ((∀ i, i < k → s1.testBit i = true → cl i x = false) ↔ (∀ i, i < k → s2.testBit i = true → cl i x = false))) → zl_best el cl p r k s1 = zl_best el cl p r k s2
  | 0, _, _, _, _, _, _ => rfl
  | r + 1, k, s1, s2, h1, h2, H => by
    have g1 : s1 < 2 ^ (k + 1) := Nat.lt_of_lt_of_le h1 (Nat.pow_le_pow_right (by decide) (Nat.le_succ k))
    have g2 : s2 < 2 ^ (k + 1) := Nat.lt_of_lt_of_le h2 (Nat.pow_le_pow_right (by decide) (Nat.le_succ k))
    have q1 : s1 + 2 ^ k < 2 ^ (k + 1) := by rw [Nat.pow_succ]; omega
    have q2 : s2 + 2 ^ k < 2 ^ (k + 1) := by rw [Nat.pow_succ]; omega
    have e1 : ∀ s, s < 2 ^ k → ∀ x, k < x → ((∀ i, i < k + 1 → s.testBit i = true → cl i x = false) ↔ (∀ i, i < k → s.testBit i = true → cl i x = false)) := fun s hs x hx => ⟨fun h i hi ht => h i (by omega) ht, fun h i hi ht => by
      by_cases e : i = k
      · subst e
        rw [Nat.testBit_lt_two_pow hs] at ht
        cases ht
      · exact h i (by omega) ht⟩
    have e2 : ∀ s, s < 2 ^ k → ∀ x, k < x → ((∀ i, i < k + 1 → (s + 2 ^ k).testBit i = true → cl i x = false) ↔ (cl k x = false ∧ ∀ i, i < k → s.testBit i = true → cl i x = false)) := fun s hs x hx => ⟨fun h => ⟨h k (Nat.lt_succ_self k) (by rw [zb_tb hs, if_pos rfl]), fun i hi ht => h i (by omega) (by rw [zb_tb hs, if_neg (by omega)]; exact ht)⟩, fun h i hi ht => by
      by_cases e : i = k
      · subst e
        exact h.1
      · rw [zb_tb hs, if_neg e] at ht
        exact h.2 i (by omega) ht⟩
    have c1 := zl_best_congr (p := p) r (k + 1) s1 s2 g1 g2 (fun x hx hl he => by rw [e1 s1 h1 x (by omega), e1 s2 h2 x (by omega)]; exact H x (by omega) (by omega) he)
    have c2 := zl_best_congr (p := p) r (k + 1) (s1 + 2 ^ k) (s2 + 2 ^ k) q1 q2 (fun x hx hl he => by rw [e2 s1 h1 x (by omega), e2 s2 h2 x (by omega)]; exact and_congr_right (fun _ => H x (by omega) (by omega) he))
    have c3 : zl_canb el cl k s1 = zl_canb el cl k s2 := by
      have h3 : zl_canb el cl k s1 = true ↔ zl_canb el cl k s2 = true := by
        rw [zl_canb_iff, zl_canb_iff]
        unfold zl_can
        exact and_congr_right (fun he => H k (Nat.le_refl _) (by omega) he)
      rcases a1 : zl_canb el cl k s1 with _ | _ <;> rcases a2 : zl_canb el cl k s2 with _ | _ <;> simp [a1, a2] at h3 ⊢
    rw [zl_best_s, zl_best_s, c1, c2, c3]
/-- the class's way: l is who is left, the chosen among them -/
noncomputable def zl_left (foe : Nat → Nat) (p : Nat → Nat) : Nat → Nat → Nat → Nat × Nat
  | 0, _, _ => (0, 0)
  | r + 1, k, l => if l.testBit k = true then (if l &&& foe k = 0 then (p k + (zl_left foe p r (k + 1) (l &&& (foe k ^^^ 4294967295))).1, 2 ^ k + (zl_left foe p r (k + 1) (l &&& (foe k ^^^ 4294967295))).2) else (if p k + (zl_left foe p r (k + 1) (l &&& (foe k ^^^ 4294967295))).1 < (zl_left foe p r (k + 1) (l &&& (2 ^ k ^^^ 4294967295))).1 then zl_left foe p r (k + 1) (l &&& (2 ^ k ^^^ 4294967295)) else (p k + (zl_left foe p r (k + 1) (l &&& (foe k ^^^ 4294967295))).1, 2 ^ k + (zl_left foe p r (k + 1) (l &&& (foe k ^^^ 4294967295))).2))) else zl_left foe p r (k + 1) l
theorem zl_left_s {foe : Nat → Nat} {p : Nat → Nat} {r k l : Nat} : zl_left foe p (r + 1) k l = if l.testBit k = true then (if l &&& foe k = 0 then (p k + (zl_left foe p r (k + 1) (l &&& (foe k ^^^ 4294967295))).1, 2 ^ k + (zl_left foe p r (k + 1) (l &&& (foe k ^^^ 4294967295))).2) else (if p k + (zl_left foe p r (k + 1) (l &&& (foe k ^^^ 4294967295))).1 < (zl_left foe p r (k + 1) (l &&& (2 ^ k ^^^ 4294967295))).1 then zl_left foe p r (k + 1) (l &&& (2 ^ k ^^^ 4294967295)) else (p k + (zl_left foe p r (k + 1) (l &&& (foe k ^^^ 4294967295))).1, 2 ^ k + (zl_left foe p r (k + 1) (l &&& (foe k ^^^ 4294967295))).2))) else zl_left foe p r (k + 1) l := rfl
theorem zb_ones {i : Nat} : (4294967295 : Nat).testBit i = decide (i < 32) := by
  have h := Nat.testBit_two_pow_sub_one 32 i
  exact h
theorem zb_sub {a b i : Nat} (hi : i < 32) : (a &&& (b ^^^ 4294967295)).testBit i = (a.testBit i && !(b.testBit i)) := by
  rw [Nat.testBit_and, Nat.testBit_xor, zb_ones, decide_eq_true hi, Bool.xor_true]
theorem zl_left_best {el : Nat → Bool} {cl : Nat → Nat → Bool} {p foe : Nat → Nat} {N : Nat} (hN : N ≤ 32) (hfoe : ∀ k i, k < N → i < N → el k = true → el i = true → (foe k).testBit i = (cl k i && decide (i ≠ k))) (hsym : ∀ i k, i < N → k < N → cl i k = cl k i) : ∀ (r k l set : Nat), k + r = N → set < 2 ^ k → (∀ i, i < k → l.testBit i = set.testBit i) → (∀ i, i < k → set.testBit i = true → el i = true) → (∀ x, k ≤ x → x < N → (l.testBit x = true ↔ zl_can el cl x set)) → zl_left foe p r k l = zl_best el cl p r k set
  | 0, _, _, _, _, _, _, _, _ => rfl
  | r + 1, k, l, set, hk, hs, hlo, hse, hhi => by
    have hkN : k < N := by omega
    have hs1 : set < 2 ^ (k + 1) := Nat.lt_of_lt_of_le hs (Nat.pow_le_pow_right (by decide) (Nat.le_succ k))
    have hb : (l.testBit k = true ↔ zl_canb el cl k set = true) := (hhi k (Nat.le_refl _) hkN).trans zl_canb_iff.symm
    -- who may come is the same behind a set without k
    have hcx : ∀ x, k < x → (zl_can el cl x set ↔ (el x = true ∧ ∀ i, i < k → set.testBit i = true → cl i x = false)) := fun x hx => and_congr_right (fun _ => ⟨fun h i hi ht => h i (by omega) ht, fun h i hi ht => by
      by_cases hik : i < k
      · exact h i hik ht
      · rw [Nat.testBit_lt_two_pow (Nat.lt_of_lt_of_le hs (Nat.pow_le_pow_right (by decide) (by omega)))] at ht
        cases ht⟩)
    have hcy : ∀ x, k < x → (zl_can el cl x (set + 2 ^ k) ↔ (cl k x = false ∧ zl_can el cl x set)) := fun x hx => by
      rw [hcx x hx]
      unfold zl_can
      constructor
      · rintro ⟨h1, h2⟩
        refine ⟨h2 k hx (by rw [zb_tb hs, if_pos rfl]), h1, fun i hi ht => h2 i (by omega) (by rw [zb_tb hs, if_neg (by omega)]; exact ht)⟩
      · rintro ⟨h0, h1, h2⟩
        refine ⟨h1, fun i hi ht => ?_⟩
        by_cases e : i = k
        · subst e
          exact h0
        · rw [zb_tb hs, if_neg e] at ht
          by_cases hik : i < k
          · exact h2 i hik ht
          · rw [Nat.testBit_lt_two_pow (Nat.lt_of_lt_of_le hs (Nat.pow_le_pow_right (by decide) (by omega)))] at ht
            cases ht
    by_cases ht : l.testBit k = true
    · have hcan := (hhi k (Nat.le_refl _) hkN).mp ht
      have hq : set + 2 ^ k < 2 ^ (k + 1) := by rw [Nat.pow_succ]; omega
      -- with k
      have w1 := zl_left_best (p := p) hN hfoe hsym r (k + 1) (l &&& (foe k ^^^ 4294967295)) (set + 2 ^ k) (by omega) hq (fun i hi => by
        rw [zb_sub (by omega), zb_tb hs]
        by_cases e : i = k
        · subst e
          rw [if_pos rfl, ht, hfoe i i hkN hkN hcan.1 hcan.1]
          simp
        · rw [if_neg e, hlo i (by omega)]
          rcases hst : set.testBit i with _ | _
          · rfl
          · rw [hfoe k i hkN (by omega) hcan.1 (hse i (by omega) hst), hsym k i hkN (by omega), hcan.2 i (by omega) hst]
            rfl) (fun i hi h2 => by
        rw [zb_tb hs] at h2
        by_cases e : i = k
        · subst e
          exact hcan.1
        · rw [if_neg e] at h2
          exact hse i (by omega) h2) (fun x hx hxN => by
        rw [zb_sub (by omega), hcy x (by omega)]
        rcases hlx : l.testBit x with _ | _
        · have h0 : ¬ zl_can el cl x set := fun z => by
            rw [← hhi x (by omega) hxN, hlx] at z
            cases z
          simp [h0]
        · have h0 : zl_can el cl x set := (hhi x (by omega) hxN).mp hlx
          rw [hfoe k x hkN hxN hcan.1 h0.1, decide_eq_true (show x ≠ k by omega)]
          rcases cl k x <;> simp [h0])
      by_cases hf : l &&& foe k = 0
      · rw [zl_left_s, if_pos ht, if_pos hf, w1, zl_best_s, if_pos (hb.mp ht)]
        -- no foe is left: without k nobody gains
        have e : zl_best el cl p r (k + 1) set = zl_best el cl p r (k + 1) (set + 2 ^ k) := zl_best_congr r (k + 1) set (set + 2 ^ k) hs1 hq (fun x hx hxr he => by
          have hxN : x < N := by omega
          have a1 := hcx x (by omega)
          have a2 := hcy x (by omega)
          constructor
          · intro h i hi h2
            by_cases e : i = k
            · subst e
              have h3 : zl_can el cl x set := a1.mpr ⟨he, fun z hz => h z (by omega)⟩
              have h4 := (hhi x (by omega) hxN).mpr h3
              have h5 : (l &&& foe i).testBit x = false := by rw [hf, Nat.zero_testBit]
              rw [Nat.testBit_and, h4, Bool.true_and, hfoe i x hkN hxN hcan.1 he, decide_eq_true (show x ≠ i by omega), Bool.and_true] at h5
              exact h5
            · rw [zb_tb hs, if_neg e] at h2
              exact h i hi h2
          · intro h i hi h2
            have hik : i < k := by
              refine Nat.lt_of_not_le (fun z => ?_)
              rw [Nat.testBit_lt_two_pow (Nat.lt_of_lt_of_le hs (Nat.pow_le_pow_right (by decide) z))] at h2
              cases h2
            exact h i hi (by rw [zb_tb hs, if_neg (by omega)]; exact h2))
        rw [e, if_pos (by omega)]
      · -- without k
        have w2 := zl_left_best (p := p) hN hfoe hsym r (k + 1) (l &&& (2 ^ k ^^^ 4294967295)) set (by omega) hs1 (fun i hi => by
          rw [zb_sub (by omega), Nat.testBit_two_pow]
          by_cases e : i = k
          · subst e
            rw [Nat.testBit_lt_two_pow hs]
            simp
          · rw [decide_eq_false (fun z => e z.symm), hlo i (by omega)]
            simp) (fun i hi h2 => by
          by_cases e : i = k
          · subst e
            exact hcan.1
          · exact hse i (by omega) h2) (fun x hx hxN => by
          rw [zb_sub (by omega), Nat.testBit_two_pow, decide_eq_false (show ¬ k = x by omega), Bool.not_false, Bool.and_true]
          exact hhi x (by omega) hxN)
        rw [zl_left_s, if_pos ht, if_neg hf, w1, w2, zl_best_s, if_pos (hb.mp ht)]
        by_cases hv : p k + (zl_best el cl p r (k + 1) (set + 2 ^ k)).1 < (zl_best el cl p r (k + 1) set).1
        · rw [if_pos hv, if_neg (by omega)]
        · rw [if_neg hv, if_pos (by omega)]
    · have w := zl_left_best (p := p) hN hfoe hsym r (k + 1) l set (by omega) hs1 (fun i hi => by
        by_cases e : i = k
        · subst e
          rw [Nat.testBit_lt_two_pow hs]
          simpa using ht
        · exact hlo i (by omega)) (fun i hi h2 => by
        by_cases e : i = k
        · subst e
          rw [Nat.testBit_lt_two_pow hs] at h2
          cases h2
        · exact hse i (by omega) h2) (fun x hx hxN => hhi x (by omega) hxN)
      rw [zl_left_s, if_neg ht, w, zl_best_s, if_neg (fun z => ht (hb.mpr z))]
/-- bounds -/
theorem zl_best_le {el : Nat → Bool} {cl : Nat → Nat → Bool} {p : Nat → Nat} {M : Nat} (hp : ∀ k, p k ≤ M) : ∀ (r k set : Nat), (zl_best el cl p r k set).1 ≤ r * M ∧ (zl_best el cl p r k set).2 + 2 ^ k ≤ 2 ^ (k + r)
  | 0, k, _ => ⟨Nat.zero_le _, Nat.le_of_eq (by show 0 + 2 ^ k = 2 ^ (k + 0); rw [Nat.zero_add, Nat.add_zero])⟩
  | r + 1, k, set => by
    have h1 := zl_best_le (el := el) (cl := cl) hp r (k + 1) set
    have h2 := zl_best_le (el := el) (cl := cl) hp r (k + 1) (set + 2 ^ k)
    have h3 := hp k
    have h4 : 2 ^ (k + 1) = 2 * 2 ^ k := by rw [Nat.pow_succ]; omega
    have h5 : k + 1 + r = k + (r + 1) := by omega
    rw [h5] at h1 h2
    rw [Nat.succ_mul, zl_best_s]
    by_cases c : zl_canb el cl k set = true
    · rw [if_pos c]
      by_cases d : (zl_best el cl p r (k + 1) set).1 ≤ p k + (zl_best el cl p r (k + 1) (set + 2 ^ k)).1
      · rw [if_pos d]
        refine ⟨?_, ?_⟩
        · show p k + _ ≤ _
          omega
        · show 2 ^ k + _ + 2 ^ k ≤ _
          omega
      · rw [if_neg d]
        omega
    · rw [if_neg c]
      omega
