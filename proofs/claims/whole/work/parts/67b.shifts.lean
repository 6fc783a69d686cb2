/-! SHIFTS on both sides -/
def zh_part (b : Nat → Nat) (L h k : Nat) : Nat := rj_fo (fun k s => s + if h < k + L then b k else 0) k 0 0
theorem zh_part_s {b : Nat → Nat} {L h k : Nat} : zh_part b L h (k + 1) = zh_part b L h k + if h < k + L then b k else 0 := by
  unfold zh_part
  rw [zf_last k 0 0, Nat.zero_add]
theorem zh_part_0 {b : Nat → Nat} {L h : Nat} : ∀ k, k + L ≤ h + 1 → zh_part b L h k = 0
  | 0, _ => rfl
  | k + 1, hk => by
    rw [zh_part_s, zh_part_0 k (by omega), if_neg (by omega)]
theorem zh_part_le {b : Nat → Nat} {L h M : Nat} (hb : ∀ k, b k ≤ M) : ∀ k, zh_part b L h k ≤ k * M
  | 0 => Nat.zero_le _
  | k + 1 => by
    have h1 := zh_part_le (L := L) (h := h) hb k
    have h2 := hb k
    rw [zh_part_s, Nat.succ_mul]
    split <;> omega
/-- the helpers that begin in each hour -/
def zh_sb (d : Nat → Nat) (L h : Nat) (b : Nat → Nat) : Nat → Nat := if zh_part b L h (h + 1) < d h then (fun k => if k = min h (24 - L) then b k + (d h - zh_part b L h (h + 1)) else b k) else b
def zh_st (d : Nat → Nat) (L : Nat) : Nat → Nat := rj_fo (zh_sb d L) 24 0 (fun _ => 0)
theorem zh_sb_le {d b : Nat → Nat} {L h M : Nat} (hd : ∀ h, d h ≤ 9) (hb : ∀ k, b k ≤ M) : ∀ k, zh_sb d L h b k ≤ M + 9 := by
  intro k
  have h1 := hd h
  have h2 := hb k
  unfold zh_sb
  by_cases c : zh_part b L h (h + 1) < d h
  · rw [if_pos c]
    split <;> omega
  · rw [if_neg c]
    omega
def zh_sum (b : Nat → Nat) : Nat := rj_fo (fun k s => s + b k) 24 0 0
/-- the class's helpers at an hour -/
theorem zc_helpersAt {s : rj_M} {S b : Nat → Nat} {M : Nat} (hL : s.1 26 1 = nI (S 411)) (ok : zo_shft S) (hb : ∀ k, k < 24 → s.1 28 k = nI (b k)) (hM : ∀ k, b k ≤ M) (hM2 : M ≤ 1000) {h : Nat} (hh : h < 24) : fX10_helpersAt s (nI h) = nI (zh_part b (S 411) h (h + 1)) ∧ qX10_helpersAt s (nI h) := by
  obtain ⟨hL2, hL10, hd⟩ := ok
  have hf : (if 0 < ((nI h - (s.1 26 1)) + 1) then ((nI h - (s.1 26 1)) + 1) else 0) = nI (h + 1 - S 411) := by
    rw [hL]
    by_cases c : S 411 ≤ h
    · rw [pk_sub c, nI_1, if_pos (show (0 : Int32) < nI (h - S 411 + 1) from nI_lt (a := 0) (b := h - S 411 + 1) (by omega) (by omega))]
      congr 1
      omega
    · have hn : ¬ (0 : Int32) < (nI h - nI (S 411)) + 1 := by
        have e : (nI h - nI (S 411)) + 1 = nI (h + 1) - nI (S 411) := by
          rw [nI_succ]
          simp only [Int32.sub_eq_add_neg]
          ac_rfl
        rw [e, Int32.not_lt]
        exact (zn_sub0 (by omega) (by omega)).mpr (by omega)
      rw [if_neg hn, show h + 1 - S 411 = 0 by omega]
      rfl
  have hI : ∀ a : Int32 × Int32, (∃ k, h + 1 - S 411 ≤ k ∧ k ≤ h + 1 ∧ a.2 = nI k ∧ a.1 = nI (zh_part b (S 411) h k)) → (qX10_helpersAt_18 s (nI h) a ∧ (∀ z, bX10_helpersAt_18 s (nI h) a = .inl z → (∃ k, h + 1 - S 411 ≤ k ∧ k ≤ h + 1 ∧ z.2 = nI k ∧ z.1 = nI (zh_part b (S 411) h k)) ∧ (24 - z.2.toNatClampNeg) < (24 - a.2.toNatClampNeg)) ∧ (∀ z, bX10_helpersAt_18 s (nI h) a = .inr z → z.1 = nI (zh_part b (S 411) h (h + 1)))) := fun a ⟨k, k1, k2, k3, k4⟩ => by
    have hp := zh_part_le (L := S 411) (h := h) hM k
    have hk : k * M ≤ 24 * 1000 := Nat.mul_le_mul (by omega) hM2
    unfold bX10_helpersAt_18 qX10_helpersAt_18
    rw [k3, k4]
    by_cases c : h < k
    · rw [if_pos (nI_lt c (by omega)), if_pos (nI_lt c (by omega))]
      refine ⟨trivial, fun z hz => (by cases hz), fun z hz => ?_⟩
      cases hz
      rw [show k = h + 1 by omega]
    · rw [if_neg (nI_nlt (Nat.le_of_not_lt c) (by omega)), if_neg (nI_nlt (Nat.le_of_not_lt c) (by omega)), if_neg (show ¬ (24 : Int32) ≤ nI k from nI_ge (a := k) (b := 24) (by omega) (by decide)), if_neg (show ¬ (24 : Int32) ≤ nI k from nI_ge (a := k) (b := 24) (by omega) (by decide)), nI_clamp (n := k) (by omega), hb k (by omega), nI_add, nI_1]
      refine ⟨⟨vp_in_nI (by omega) (by decide), trivial⟩, fun z hz => ?_, fun z hz => by cases hz⟩
      cases hz
      refine ⟨⟨k + 1, by omega, by omega, rfl, ?_⟩, ?_⟩
      · rw [zh_part_s, if_pos (by omega)]
      · show 24 - (nI (k + 1)).toNatClampNeg < 24 - k
        rw [nI_clamp (by omega)]
        omega
  have h0 : ∃ k, h + 1 - S 411 ≤ k ∧ k ≤ h + 1 ∧ ((0 : Int32), nI (h + 1 - S 411)).2 = nI k ∧ ((0 : Int32), nI (h + 1 - S 411)).1 = nI (zh_part b (S 411) h k) := ⟨h + 1 - S 411, Nat.le_refl _, by omega, rfl, by
    by_cases c : S 411 ≤ h + 1
    · rw [zh_part_0 _ (by omega)]
      rfl
    · rw [show h + 1 - S 411 = 0 by omega]
      rfl⟩
  unfold fX10_helpersAt qX10_helpersAt
  rw [hf]
  refine ⟨zw_inv (fun a : Int32 × Int32 => ∃ k, h + 1 - S 411 ≤ k ∧ k ≤ h + 1 ∧ a.2 = nI k ∧ a.1 = nI (zh_part b (S 411) h k)) (fun z => z.1 = nI (zh_part b (S 411) h (h + 1))) (fun a => 24 - a.2.toNatClampNeg) 25 _ h0 (by omega) (fun a ha => ⟨fun z hz => (hI a ha).2.1 z hz, (hI a ha).2.2⟩), ?_, trivial⟩
  exact zw_q (fun a : Int32 × Int32 => ∃ k, h + 1 - S 411 ≤ k ∧ k ≤ h + 1 ∧ a.2 = nI k ∧ a.1 = nI (zh_part b (S 411) h k)) (fun a => 24 - a.2.toNatClampNeg) 25 _ h0 (by omega) (fun a ha => ⟨(hI a ha).1, fun z hz => (hI a ha).2.1 z hz⟩)
theorem zh_min {h L : Nat} (hh : h < 24) (hL : L ≤ 10) : (if (24 - nI L) < nI h then (24 - nI L) else nI h) = nI (min h (24 - L)) := by
  rw [show (24 : Int32) - nI L = nI (24 - L) from pk_sub (a := 24) (b := L) (by omega)]
  by_cases c : 24 - L < h
  · rw [if_pos (nI_lt c (by omega))]
    congr 1
    omega
  · rw [if_neg (nI_nlt (Nat.le_of_not_lt c) (by omega))]
    congr 1
    omega
theorem zc_starts {c : rj_M} {S : Nat → Nat} (h : zr_shft c 1 S) (ok : zo_shft S) : (∀ k, k ≠ 28 → (mX10_planStarts c).1 k = c.1 k) ∧ (mX10_planStarts c).2 = c.2 ∧ (∀ k, k < 24 → (mX10_planStarts c).1 28 k = nI (zh_st (zs_d S) (S 411) k)) ∧ (∀ k, zh_st (zs_d S) (S 411) k ≤ 216) ∧ qX10_planStarts c := by
  obtain ⟨f1, f2, f3⟩ := zm_fill (μ := c) (k := 28) (n := 24) (v := 0) (by decide)
  have hd9 := zs_d_le ok
  have hL10 := ok.2.1
  have step : ∀ j (s : rj_M) (b : Nat → Nat), j < 24 → ((∀ k, k ≠ 28 → s.1 k = c.1 k) ∧ s.2 = c.2 ∧ (∀ k, k < 24 → s.1 28 k = nI (b k)) ∧ ∀ k, b k ≤ 9 * j) → qX10_planStarts_10 c j s ∧ ((∀ k, k ≠ 28 → (bX10_planStarts_10 c j s).1 k = c.1 k) ∧ (bX10_planStarts_10 c j s).2 = c.2 ∧ (∀ k, k < 24 → (bX10_planStarts_10 c j s).1 28 k = nI (zh_sb (zs_d S) (S 411) j b k)) ∧ ∀ k, zh_sb (zs_d S) (S 411) j b k ≤ 9 * (j + 1)) := fun j s b hj ⟨g1, g2, g3, g4⟩ => by
    have hL : s.1 26 1 = nI (S 411) := by rw [g1 26 (by decide)]; exact h.1
    have hn : s.1 27 j = nI (zs_d S j) := by
      rw [g1 27 (by decide)]
      unfold zs_d
      rw [if_pos hj]
      exact h.2 j hj
    obtain ⟨a1, a2⟩ := zc_helpersAt hL ok g3 g4 (by omega) hj
    have hp := zh_part_le (L := S 411) (h := j) g4 (j + 1)
    have hk : (j + 1) * (9 * j) ≤ 24 * 216 := Nat.mul_le_mul (by omega) (by omega)
    have hdj := hd9 j
    have hle : ∀ k, zh_sb (zs_d S) (S 411) j b k ≤ 9 * (j + 1) := fun k => by
      have := zh_sb_le (L := S 411) (h := j) hd9 g4 k
      omega
    unfold bX10_planStarts_10 qX10_planStarts_10
    rw [nI_clamp (n := j) (by omega), hn, a1, hL, zh_min hj hL10]
    have hm : min j (24 - S 411) < 24 := by omega
    by_cases e : zh_part b (S 411) j (j + 1) < zs_d S j
    · have e1 : ¬ nI (zs_d S j) - nI (zh_part b (S 411) j (j + 1)) ≤ 0 := fun z => by
        have := (zn_sub0 (by omega) (by omega)).mp z
        omega
      have e2 : ¬ nI (min j (24 - S 411)) < 0 := nI_pos (by omega)
      have e3 : vp_in (nI (min j (24 - S 411))) 24 := vp_in_nI hm (by decide)
      rw [if_neg e1, if_neg e1, if_neg e2, if_neg e2, nI_clamp (n := min j (24 - S 411)) (by omega), g3 _ hm, pk_sub (Nat.le_of_lt e), nI_add]
      refine ⟨⟨a2, e3, e3, trivial⟩, fun k hk => (zm_pi_ne hk).trans (g1 k hk), g2, fun k hk => ?_, hle⟩
      unfold zh_sb
      rw [if_pos e]
      by_cases x : k = min j (24 - S 411)
      · subst x
        rw [zm_pi_eq]
        rw [if_pos rfl]
      · rw [zm_pi_ne2 x]
        rw [if_neg x]
        exact g3 k hk
    · have e1 : nI (zs_d S j) - nI (zh_part b (S 411) j (j + 1)) ≤ 0 := (zn_sub0 (by omega) (by omega)).mpr (by omega)
      rw [if_pos e1, if_pos e1]
      refine ⟨⟨a2, trivial⟩, g1, g2, fun k hk => ?_, hle⟩
      unfold zh_sb
      rw [if_neg e]
      exact g3 k hk
  have h0 : (∀ k, k ≠ 28 → (mX11_fillRow c 28 24 0).1 k = c.1 k) ∧ (mX11_fillRow c 28 24 0).2 = c.2 ∧ (∀ k, k < 24 → (mX11_fillRow c 28 24 0).1 28 k = nI ((fun _ => 0 : Nat → Nat) k)) ∧ ∀ k, (fun _ => 0 : Nat → Nat) k ≤ 9 * 0 := ⟨f1, f3, fun k hk => by rw [f2 k, if_pos hk]; rfl, fun k => Nat.le_refl _⟩
  have hz := zf_rel (f := bX10_planStarts_10 c) (g := zh_sb (zs_d S) (S 411)) (fun j s b => (∀ k, k ≠ 28 → s.1 k = c.1 k) ∧ s.2 = c.2 ∧ (∀ k, k < 24 → s.1 28 k = nI (b k)) ∧ ∀ k, b k ≤ 9 * j) 24 0 (mX11_fillRow c 28 24 0) (fun _ => 0) h0 (fun j s b _ hj hs => (step j s b (by omega) hs).2)
  obtain ⟨z1, z2, z3, z4⟩ := hz
  unfold mX10_planStarts qX10_planStarts zh_st
  refine ⟨z1, z2, z3, fun k => Nat.le_trans (z4 k) (show 9 * (0 + 24) ≤ 216 by decide), ?_, trivial⟩
  exact zf_q (fun j s => ∃ b : Nat → Nat, (∀ k, k ≠ 28 → s.1 k = c.1 k) ∧ s.2 = c.2 ∧ (∀ k, k < 24 → s.1 28 k = nI (b k)) ∧ ∀ k, b k ≤ 9 * j) 24 0 _ ⟨_, h0⟩ (fun j s _ hj ⟨b, hs⟩ => ⟨(step j s b (by omega) hs).1, _, (step j s b (by omega) hs).2⟩)
theorem zc_sumStarts {c : rj_M} {b : Nat → Nat} (hb : ∀ k, k < 24 → c.1 28 k = nI (b k)) : fX10_sumOfStarts c = nI (zh_sum b) := by
  unfold fX10_sumOfStarts fX11_sumOf zh_sum
  exact zf_rel (fun _ x y => x = nI y) 24 0 (0 : Int32) (0 : Nat) rfl (fun i x y _ h2 hx => by
    unfold bX11_sumOf_4
    rw [nI_clamp (n := i) (by omega), hb i (by omega), hx, nI_add])
/-- the needs of a set of hours -/
def zh_need (d : Nat → Nat) (set : Nat) : Nat := rj_fo (fun k s => if set.testBit k = true then s + d k else s) 24 0 0
theorem zc_needOf {c : rj_M} {S : Nat → Nat} (h : zr_shft c 1 S) {set : Nat} (hs : set < 2 ^ 31) : fX10_needOf c (nI set) = nI (zh_need (zs_d S) set) := by
  unfold fX10_needOf zh_need
  exact zf_rel (fun _ x y => x = nI y) 24 0 (0 : Int32) (0 : Nat) rfl (fun i x y _ h2 hx => by
    have hn : c.1 27 i = nI (zs_d S i) := by
      unfold zs_d
      rw [if_pos (by omega)]
      exact h.2 i (by omega)
    unfold bX10_needOf_4
    rw [nI_clamp (n := i) (by omega), hn]
    rcases ht : set.testBit i with _ | _
    · rw [if_pos ((zn_bit0 hs (by omega)).mpr ht), if_neg (by decide)]
      exact hx
    · rw [if_neg (fun z => by rw [(zn_bit0 hs (by omega)).mp z] at ht; cases ht), if_pos rfl, hx, nI_add])
/-- the reference's shifts -/
theorem zq_shifts {r : rj_M} {S : Nat → Nat} {B : Nat → Int} (h : zr_row (r.1 396) S B) (ok : zo_shft S) : (∀ k, k ≠ 408 → (mX12_findsShifts r).1 k = r.1 k) ∧ (mX12_findsShifts r).2 = r.2 ∧ (∀ k, k < 24 → (mX12_findsShifts r).1 408 k = nI (zh_st (zs_d S) (S 411) k)) ∧ qX12_findsShifts r := by
  have hd9 := zs_d_le ok
  have hL10 := ok.2.1
  have hf := zf_inv (f := bX12_findsShifts_2 r) (fun j s => (∀ k, k ≠ 408 → s.1 k = r.1 k) ∧ s.2 = r.2 ∧ ∀ k, k < j → s.1 408 k = 0) 24 0 r ⟨fun _ _ => rfl, rfl, fun k hk => absurd hk (Nat.not_lt_zero _)⟩ (fun j s _ hj ⟨g1, g2, g3⟩ => by
    unfold bX12_findsShifts_2
    rw [nI_clamp (n := j) (by omega)]
    refine ⟨fun k hk => (zm_pi_ne hk).trans (g1 k hk), g2, fun k hk => ?_⟩
    by_cases e : k = j
    · subst e
      rw [zm_pi_eq]
    · rw [zm_pi_ne2 e]
      exact g3 k (by omega))
  rw [Nat.zero_add] at hf
  have step : ∀ j (s : rj_M) (b : Nat → Nat), j < 24 → ((∀ k, k ≠ 408 → s.1 k = r.1 k) ∧ s.2 = r.2 ∧ (∀ k, k < 24 → s.1 408 k = nI (b k)) ∧ ∀ k, b k ≤ 9 * j) → qX12_findsShifts_23 r j s ∧ ((∀ k, k ≠ 408 → (bX12_findsShifts_23 r j s).1 k = r.1 k) ∧ (bX12_findsShifts_23 r j s).2 = r.2 ∧ (∀ k, k < 24 → (bX12_findsShifts_23 r j s).1 408 k = nI (zh_sb (zs_d S) (S 411) j b k)) ∧ ∀ k, zh_sb (zs_d S) (S 411) j b k ≤ 9 * (j + 1)) := fun j s b hj ⟨g1, g2, g3, g4⟩ => by
    have hrow : zr_row (s.1 396) S B := by rw [g1 396 (by decide)]; exact h
    have hL : s.1 396 (411 : Int32).toNatClampNeg = nI (S 411) := hrow.1 411 (by decide)
    have hn : s.1 396 (387 + nI j).toNatClampNeg = nI (zs_d S j) := by
      rw [show (387 : Int32) + nI j = nI (387 + j) from nI_add 387 j, nI_clamp (by omega), hrow.1 _ (by omega)]
      unfold zs_d
      rw [if_pos hj]
    have hp := zh_part_le (L := S 411) (h := j) g4 (j + 1)
    have hk : (j + 1) * (9 * j) ≤ 24 * 216 := Nat.mul_le_mul (by omega) (by omega)
    have hdj := hd9 j
    have hI : ∀ a : Int32 × Int32, (∃ k, k ≤ j + 1 ∧ a.2 = nI k ∧ a.1 = nI (zh_part b (S 411) j k)) → (qX12_findsShifts_33 r j s a ∧ (∀ z, bX12_findsShifts_33 r j s a = .inl z → (∃ k, k ≤ j + 1 ∧ z.2 = nI k ∧ z.1 = nI (zh_part b (S 411) j k)) ∧ (24 - z.2.toNatClampNeg) < (24 - a.2.toNatClampNeg)) ∧ (∀ z, bX12_findsShifts_33 r j s a = .inr z → z.1 = nI (zh_part b (S 411) j (j + 1)))) := fun a ⟨k, k2, k3, k4⟩ => by
      unfold bX12_findsShifts_33 qX12_findsShifts_33
      rw [k3, k4, hL, nI_add]
      by_cases c : j < k
      · have c1 := nI_lt c (show k < 2 ^ 31 by omega)
        rw [if_pos c1]
        refine ⟨⟨fun _ => trivial, fun z => absurd c1 z⟩, fun z hz => (by cases hz), fun z hz => ?_⟩
        cases hz
        rw [show k = j + 1 by omega]
      · have c1 := nI_nlt (Nat.le_of_not_lt c) (show j < 2 ^ 31 by omega)
        rw [if_neg c1, nI_1]
        by_cases d : k + S 411 ≤ j
        · have d1 := nI_le d (show j < 2 ^ 31 by omega)
          rw [if_pos d1]
          refine ⟨⟨fun z => absurd z c1, fun _ => ⟨fun _ => trivial, fun z => absurd d1 z⟩⟩, fun z hz => ?_, fun z hz => by cases hz⟩
          cases hz
          refine ⟨⟨k + 1, by omega, rfl, ?_⟩, ?_⟩
          · rw [zh_part_s, if_neg (by omega)]
            exact nI_add _ 0
          · show 24 - (nI (k + 1)).toNatClampNeg < 24 - (nI k).toNatClampNeg
            rw [nI_clamp (by omega), nI_clamp (by omega)]
            omega
        · have d1 := nI_ge (Nat.lt_of_not_le d) (show k + S 411 < 2 ^ 31 by omega)
          rw [if_neg d1, nI_clamp (n := k) (by omega), g3 k (by omega), nI_add]
          refine ⟨⟨fun z => absurd z c1, fun _ => ⟨fun z => absurd z d1, fun _ => ⟨vp_in_nI (by omega) (by decide), trivial⟩⟩⟩, fun z hz => ?_, fun z hz => by cases hz⟩
          cases hz
          refine ⟨⟨k + 1, by omega, rfl, ?_⟩, ?_⟩
          · rw [zh_part_s, if_pos (by omega)]
          · show 24 - (nI (k + 1)).toNatClampNeg < 24 - k
            rw [nI_clamp (by omega)]
            omega
    have hi0 : ∃ k, k ≤ j + 1 ∧ ((0 : Int32), (0 : Int32)).2 = nI k ∧ ((0 : Int32), (0 : Int32)).1 = nI (zh_part b (S 411) j k) := ⟨0, by omega, rfl, rfl⟩
    have a1 : (rj_we (bX12_findsShifts_33 r j s) 25 (0, 0)).1 = nI (zh_part b (S 411) j (j + 1)) := zw_inv (fun a : Int32 × Int32 => ∃ k, k ≤ j + 1 ∧ a.2 = nI k ∧ a.1 = nI (zh_part b (S 411) j k)) (fun z => z.1 = nI (zh_part b (S 411) j (j + 1))) (fun a => 24 - a.2.toNatClampNeg) 25 _ hi0 (by omega) (fun a ha => ⟨(hI a ha).2.1, (hI a ha).2.2⟩)
    have a2 : rq_we (qX12_findsShifts_33 r j s) (bX12_findsShifts_33 r j s) 25 (0, 0) := zw_q (fun a : Int32 × Int32 => ∃ k, k ≤ j + 1 ∧ a.2 = nI k ∧ a.1 = nI (zh_part b (S 411) j k)) (fun a => 24 - a.2.toNatClampNeg) 25 _ hi0 (by omega) (fun a ha => ⟨(hI a ha).1, (hI a ha).2.1⟩)
    have hle : ∀ k, zh_sb (zs_d S) (S 411) j b k ≤ 9 * (j + 1) := fun k => by
      have := zh_sb_le (L := S 411) (h := j) hd9 g4 k
      omega
    unfold bX12_findsShifts_23 qX12_findsShifts_23
    rw [hn, a1, hL, zh_min hj hL10]
    have hm : min j (24 - S 411) < 24 := by omega
    by_cases e : zh_part b (S 411) j (j + 1) < zs_d S j
    · have e1 : ¬ nI (zs_d S j) ≤ nI (zh_part b (S 411) j (j + 1)) := nI_ge e (by omega)
      have e3 : vp_in (nI (min j (24 - S 411))) 24 := vp_in_nI hm (by decide)
      rw [if_neg e1, nI_clamp (n := min j (24 - S 411)) (by omega), g3 _ hm, pk_sub (Nat.le_of_lt e), nI_add]
      refine ⟨⟨fun _ => ra_we_i a2, fun z => absurd z e1, fun _ => ⟨e3, e3, trivial⟩⟩, fun k hk => (zm_pi_ne hk).trans (g1 k hk), g2, fun k hk => ?_, hle⟩
      unfold zh_sb
      rw [if_pos e]
      by_cases x : k = min j (24 - S 411)
      · subst x
        rw [zm_pi_eq]
        rw [if_pos rfl]
      · rw [zm_pi_ne2 x]
        rw [if_neg x]
        exact g3 k hk
    · have e1 : nI (zs_d S j) ≤ nI (zh_part b (S 411) j (j + 1)) := nI_le (by omega) (by omega)
      rw [if_pos e1]
      refine ⟨⟨fun _ => ra_we_i a2, fun _ => trivial, fun z => absurd e1 z⟩, g1, g2, fun k hk => ?_, hle⟩
      unfold zh_sb
      rw [if_neg e]
      exact g3 k hk
  have h0 : (∀ k, k ≠ 408 → (rj_fo (bX12_findsShifts_2 r) 24 0 r).1 k = r.1 k) ∧ (rj_fo (bX12_findsShifts_2 r) 24 0 r).2 = r.2 ∧ (∀ k, k < 24 → (rj_fo (bX12_findsShifts_2 r) 24 0 r).1 408 k = nI ((fun _ => 0 : Nat → Nat) k)) ∧ ∀ k, (fun _ => 0 : Nat → Nat) k ≤ 9 * 0 := ⟨hf.1, hf.2.1, fun k hk => hf.2.2 k hk, fun k => Nat.le_refl _⟩
  have hz := zf_rel (f := bX12_findsShifts_23 r) (g := zh_sb (zs_d S) (S 411)) (fun j s b => (∀ k, k ≠ 408 → s.1 k = r.1 k) ∧ s.2 = r.2 ∧ (∀ k, k < 24 → s.1 408 k = nI (b k)) ∧ ∀ k, b k ≤ 9 * j) 24 0 _ (fun _ => 0) h0 (fun j s b _ hj hs => (step j s b (by omega) hs).2)
  obtain ⟨z1, z2, z3, -⟩ := hz
  unfold mX12_findsShifts qX12_findsShifts zh_st
  refine ⟨z1, z2, z3, fun _ => ra_fo_i ?_, trivial⟩
  exact zf_q (fun j s => ∃ b : Nat → Nat, (∀ k, k ≠ 408 → s.1 k = r.1 k) ∧ s.2 = r.2 ∧ (∀ k, k < 24 → s.1 408 k = nI (b k)) ∧ ∀ k, b k ≤ 9 * j) 24 0 _ ⟨_, h0⟩ (fun j s _ hj ⟨b, hs⟩ => ⟨(step j s b (by omega) hs).1, _, (step j s b (by omega) hs).2⟩)
theorem zq_helpersNow {r : rj_M} {S : Nat → Nat} {B : Nat → Int} (h : zr_row (r.1 396) S B) (ok : zo_shft S) : fX12_helpersNow r = nI (zh_sum (zh_st (zs_d S) (S 411))) := by
  obtain ⟨-, -, h3, -⟩ := zq_shifts h ok
  unfold fX12_helpersNow zh_sum
  exact zf_rel (fun _ x y => x = nI y) 24 0 (0 : Int32) (0 : Nat) rfl (fun i x y _ h2 hx => by
    unfold bX12_helpersNow_8
    rw [nI_clamp (n := i) (by omega), h3 i (by omega), hx, nI_add])
theorem zq_needOf {μ r : rj_M} {S : Nat → Nat} {B : Nat → Int} (h : zr_row (r.1 396) S B) {set : Nat} (hs : set < 2 ^ 31) {f : Nat → Int32 → Int32} (hf : ∀ j s, f j s = if (nI set >>> (nI j &&& 31)) &&& 1 = 1 then s + r.1 396 (387 + nI j).toNatClampNeg else s + 0) : rj_fo f 24 0 0 = nI (zh_need (zs_d S) set) := by
  unfold zh_need
  exact zf_rel (fun _ x y => x = nI y) 24 0 (0 : Int32) (0 : Nat) rfl (fun i x y _ h2 hx => by
    have hn : r.1 396 (387 + nI i).toNatClampNeg = nI (zs_d S i) := by
      rw [show (387 : Int32) + nI i = nI (387 + i) from nI_add 387 i, nI_clamp (by omega), h.1 _ (by omega)]
      unfold zs_d
      rw [if_pos (by omega)]
    rw [hf, hn]
    rcases ht : set.testBit i with _ | _
    · rw [if_neg (fun z => by rw [(zn_bit1 hs (by omega)).mp z] at ht; cases ht), if_neg (by decide), hx]
      exact nI_add _ 0
    · rw [if_pos ((zn_bit1 hs (by omega)).mpr ht), if_pos rfl, hx, nI_add])
