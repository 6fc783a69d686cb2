/-! LINEUPS on both sides -/
noncomputable def zz (P : Prop) : Bool := @decide P (Classical.propDecidable P)
theorem zz_t {P : Prop} : zz P = true ↔ P := @decide_eq_true_iff P (Classical.propDecidable P)
theorem zz_f {P : Prop} : zz P = false ↔ ¬ P := @decide_eq_false_iff_not P (Classical.propDecidable P)
/-- the bits that are so, of the first n -/
def zb_of (p : Nat → Bool) (n : Nat) : Nat := rj_fo (fun i s => if p i = true then s + 2 ^ i else s) n 0 0
theorem zb_of_at {p : Nat → Bool} {n : Nat} : zb_of p n < 2 ^ n ∧ ∀ i, (zb_of p n).testBit i = (decide (i < n) && p i) := by
  have h := zf_inv (f := fun i s => if p i = true then s + 2 ^ i else s) (fun j s => s < 2 ^ j ∧ ∀ i, s.testBit i = (decide (i < j) && p i)) n 0 0 ⟨by decide, fun i => by rw [Nat.zero_testBit, decide_eq_false (Nat.not_lt_zero i)]; rfl⟩ (fun j s _ _ h => by
    have hp : 2 ^ (j + 1) = 2 * 2 ^ j := by rw [Nat.pow_succ]; omega
    by_cases c : p j = true
    · show (if p j = true then s + 2 ^ j else s) < _ ∧ ∀ i, (if p j = true then s + 2 ^ j else s).testBit i = _
      rw [if_pos c]
      refine ⟨by omega, fun i => ?_⟩
      rw [zb_tb h.1]
      by_cases e : i = j
      · subst e
        rw [if_pos rfl, decide_eq_true (Nat.lt_succ_self i), c]
        rfl
      · rw [if_neg e, h.2 i]
        congr 1
        by_cases l : i < j
        · rw [decide_eq_true l, decide_eq_true (by omega)]
        · rw [decide_eq_false l, decide_eq_false (by omega)]
    · show (if p j = true then s + 2 ^ j else s) < _ ∧ ∀ i, (if p j = true then s + 2 ^ j else s).testBit i = _
      rw [if_neg c]
      refine ⟨by omega, fun i => ?_⟩
      rw [h.2 i]
      by_cases e : i = j
      · subst e
        have c2 : p i = false := by simpa using c
        rw [c2, Bool.and_false, Bool.and_false]
      · congr 1
        by_cases l : i < j
        · rw [decide_eq_true l, decide_eq_true (by omega)]
        · rw [decide_eq_false l, decide_eq_false (by omega)])
  rw [Nat.zero_add] at h
  exact h
theorem zn_or {a b : Nat} (ha : a < 2 ^ 31) (hb : b < 2 ^ 31) : nI a ||| nI b = nI (a ||| b) := by
  apply Int32.toBitVec_inj.mp
  apply BitVec.eq_of_toNat_eq
  rw [Int32.toBitVec_or, BitVec.toNat_or, pk_tn (by omega), pk_tn (by omega), pk_tn (Nat.lt_of_lt_of_le (Nat.or_lt_two_pow ha hb) (by decide))]
theorem zn_shl : ∀ j, j < 31 → (1 : Int32) <<< (nI j &&& 31) = nI (2 ^ j) := by decide +kernel
theorem zn_sm : ∀ j, j < 31 → ((nI j &&& 31).toBitVec.smod 32).toNat = j := by decide +kernel
theorem zn_set {s j : Nat} (hs : s < 2 ^ j) (hj : j < 30) : nI s ||| (1 <<< (nI j &&& 31)) = nI (s + 2 ^ j) := by
  have h1 : 2 ^ j < 2 ^ 31 := Nat.pow_lt_pow_right (by decide) (by omega)
  rw [zn_shl j (by omega), zn_or (by omega) h1, zb_or hs]
theorem zn_bit {s j : Nat} (hs : s < 2 ^ 31) (hj : j < 31) : (nI s >>> (nI j &&& 31)) &&& 1 = if s.testBit j = true then 1 else 0 := by
  rw [pk_shrN hs _ j (zn_sm j hj), pk_andN (Nat.lt_of_le_of_lt (Nat.div_le_self _ _) (by omega)) 1 (by decide)]
  rw [Nat.testBit_eq_decide_div_mod_eq]
  have h2 := Nat.mod_lt (s / 2 ^ j) (show 0 < 2 by decide)
  by_cases c : s / 2 ^ j % 2 = 1
  · rw [decide_eq_true c, if_pos rfl]
    show nI (s / 2 ^ j % 2) = 1
    rw [c]
    rfl
  · rw [decide_eq_false c, if_neg (by decide)]
    show nI (s / 2 ^ j % 2) = 0
    rw [show s / 2 ^ j % 2 = 0 by omega]
    rfl
theorem zn_bit0 {s j : Nat} (hs : s < 2 ^ 31) (hj : j < 31) : (nI s >>> (nI j &&& 31)) &&& 1 = 0 ↔ s.testBit j = false := by
  rw [zn_bit hs hj]
  rcases s.testBit j <;> decide
theorem zn_bit1 {s j : Nat} (hs : s < 2 ^ 31) (hj : j < 31) : (nI s >>> (nI j &&& 31)) &&& 1 = 1 ↔ s.testBit j = true := by
  rw [zn_bit hs hj]
  rcases s.testBit j <;> decide
theorem zn_less {a b : Nat} (ha : a < 2 ^ 32) (hb : b < 2 ^ 32) : nI a &&& (nI b ^^^ (-1)) = nI (a &&& (b ^^^ 4294967295)) := by
  have h1 : (b ^^^ 4294967295) < 2 ^ 32 := Nat.xor_lt_two_pow hb (by decide)
  apply Int32.toBitVec_inj.mp
  apply BitVec.eq_of_toNat_eq
  rw [Int32.toBitVec_and, BitVec.toNat_and, Int32.toBitVec_xor, BitVec.toNat_xor, pk_tn ha, pk_tn hb, pk_tn (Nat.lt_of_le_of_lt Nat.and_le_left ha)]
  rfl
theorem zl_left_le {foe p : Nat → Nat} {M : Nat} (hp : ∀ k, p k ≤ M) : ∀ (r k l : Nat), (zl_left foe p r k l).1 ≤ r * M ∧ (zl_left foe p r k l).2 + 2 ^ k ≤ 2 ^ (k + r)
  | 0, k, _ => ⟨Nat.zero_le _, Nat.le_of_eq (by show 0 + 2 ^ k = 2 ^ (k + 0); rw [Nat.zero_add, Nat.add_zero])⟩
  | r + 1, k, l => by
    have h1 := zl_left_le (foe := foe) hp r (k + 1) (l &&& (foe k ^^^ 4294967295))
    have h2 := zl_left_le (foe := foe) hp r (k + 1) (l &&& (2 ^ k ^^^ 4294967295))
    have h0 := zl_left_le (foe := foe) hp r (k + 1) l
    have h3 := hp k
    have h4 : 2 ^ (k + 1) = 2 * 2 ^ k := by rw [Nat.pow_succ]; omega
    have h5 : k + 1 + r = k + (r + 1) := by omega
    rw [h5] at h0 h1 h2
    rw [Nat.succ_mul, zl_left_s]
    repeat' split
    all_goals first | omega | (refine ⟨?_, ?_⟩ <;> (dsimp only; omega))
/-- the class's search -/
theorem zl_c {c : rj_M} {foe p : Nat → Nat} (hf : ∀ a, a < 16 → c.1 15 a = nI (foe a) ∧ foe a < 2 ^ 16) (hp : ∀ a, a < 16 → c.1 16 a = nI (p a)) (hpb : ∀ a, p a ≤ 108) : ∀ (r n k l : Nat), k + r = 16 → r < n → l < 2 ^ 16 → fX7_bestAmong n c (nI l) (nI k) = nI ((zl_left foe p r k l).1 * 65536 + (zl_left foe p r k l).2) ∧ qX7_bestAmong n c (nI l) (nI k)
  | _, 0, _, _, _, h, _ => absurd h (Nat.not_lt_zero _)
  | 0, n + 1, k, l, hk, _, _ => by
    have e : k = 16 := by omega
    subst e
    rw [fX7_bestAmong_s, qX7_bestAmong_s, if_neg (show ¬ nI 16 < 0 by decide), if_pos (show (16 : Int32) ≤ nI 16 by decide), if_neg (show ¬ nI 16 < 0 by decide), if_pos (show (16 : Int32) ≤ nI 16 by decide)]
    refine ⟨?_, trivial⟩
    show (0 : Int32) = nI (0 * 65536 + 0)
    rw [Nat.zero_mul]
    rfl
  | r + 1, n + 1, k, l, hk, hn, hl => by
    have hk16 : k < 16 := by omega
    obtain ⟨hf1, hf2⟩ := hf k hk16
    have hl1 : l < 2 ^ 31 := by omega
    have hq : 2 ^ k < 2 ^ 16 := Nat.pow_lt_pow_right (by decide) hk16
    have z1 : (l &&& (foe k ^^^ 4294967295)) < 2 ^ 16 := Nat.lt_of_le_of_lt Nat.and_le_left hl
    have z2 : (l &&& (2 ^ k ^^^ 4294967295)) < 2 ^ 16 := Nat.lt_of_le_of_lt Nat.and_le_left hl
    have i0 := zl_c hf hp hpb r n (k + 1) l (by omega) (by omega) hl
    have i1 := zl_c hf hp hpb r n (k + 1) _ (by omega) (by omega) z1
    have i2 := zl_c hf hp hpb r n (k + 1) _ (by omega) (by omega) z2
    have b1 := zl_left_le (foe := foe) hpb r (k + 1) (l &&& (foe k ^^^ 4294967295))
    have b2 := zl_left_le (foe := foe) hpb r (k + 1) (l &&& (2 ^ k ^^^ 4294967295))
    rw [show k + 1 + r = 16 by omega] at b1 b2
    have hr : r * 108 ≤ 15 * 108 := Nat.mul_le_mul_right _ (by omega)
    have h4 : 2 ^ (k + 1) = 2 * 2 ^ k := by rw [Nat.pow_succ]; omega
    have hpk := hpb k
    have hp0 : 0 < 2 ^ k := Nat.two_pow_pos k
    rw [fX7_bestAmong_s, qX7_bestAmong_s, if_neg (nI_pos (by omega)), if_neg (show ¬ (16 : Int32) ≤ nI k from nI_ge (a := k) (b := 16) hk16 (by decide)), if_pos (show nI k < (16 : Int32) from nI_lt (a := k) (b := 16) hk16 (by decide)), if_neg (nI_pos (by omega)), if_neg (show ¬ (16 : Int32) ≤ nI k from nI_ge (a := k) (b := 16) hk16 (by decide)), if_pos (show nI k < (16 : Int32) from nI_lt (a := k) (b := 16) hk16 (by decide)), nI_clamp (by omega), hf1, hp k hk16, nI_1, zn_shl k (by omega), zn_less (by omega) (by omega), zn_less (by omega) (by omega), i0.1, i1.1, i2.1, pk_shlN (n := p k) _ 16 (by decide) (by omega), nI_add, nI_add]
    have hown : p k * 2 ^ 16 + 2 ^ k + ((zl_left foe p r (k + 1) (l &&& (foe k ^^^ 4294967295))).1 * 65536 + (zl_left foe p r (k + 1) (l &&& (foe k ^^^ 4294967295))).2) = (p k + (zl_left foe p r (k + 1) (l &&& (foe k ^^^ 4294967295))).1) * 65536 + (2 ^ k + (zl_left foe p r (k + 1) (l &&& (foe k ^^^ 4294967295))).2) := by
      rw [Nat.add_mul]
      omega
    rw [hown, zl_left_s]
    by_cases ht : l.testBit k = true
    · have hb : ¬ (nI l >>> (nI k &&& 31)) &&& 1 = 0 := fun z => by
        rw [(zn_bit0 hl1 (by omega)).mp z] at ht
        cases ht
      rw [if_neg hb, if_neg hb, if_pos ht]
      by_cases hz : l &&& foe k = 0
      · have hz2 := (zn_and0 (a := l) (b := foe k) (by omega) (by omega)).mpr hz
        rw [if_pos hz2, if_pos hz2, if_pos hz]
        exact ⟨rfl, i1.2, trivial⟩
      · have hz2 : ¬ nI l &&& nI (foe k) = 0 := fun z => hz ((zn_and0 (by omega) (by omega)).mp z)
        rw [if_neg hz2, if_neg hz2, if_neg hz]
        generalize hA : zl_left foe p r (k + 1) (l &&& (foe k ^^^ 4294967295)) = A at *
        generalize hB : zl_left foe p r (k + 1) (l &&& (2 ^ k ^^^ 4294967295)) = C at *
        have s1 : nI ((p k + A.1) * 65536 + (2 ^ k + A.2)) >>> ((16 : Int32) &&& 31) = nI (p k + A.1) := by
          rw [pk_shrN (by omega) _ 16 (by decide)]
          congr 1
          omega
        have s2 : nI (C.1 * 65536 + C.2) >>> ((16 : Int32) &&& 31) = nI C.1 := by
          rw [pk_shrN (by omega) _ 16 (by decide)]
          congr 1
          omega
        rw [s1, s2]
        by_cases hv : p k + A.1 < C.1
        · rw [if_pos (nI_lt hv (by omega)), if_pos hv]
          exact ⟨rfl, i1.2, i2.2, trivial⟩
        · rw [if_neg (nI_nlt (Nat.le_of_not_lt hv) (by omega)), if_neg hv]
          exact ⟨rfl, i1.2, i2.2, trivial⟩
    · have hb : (nI l >>> (nI k &&& 31)) &&& 1 = 0 := (zn_bit0 hl1 (by omega)).mpr (by simpa using ht)
      rw [if_pos hb, if_pos hb, if_neg ht]
      exact ⟨rfl, i0.2, trivial⟩
