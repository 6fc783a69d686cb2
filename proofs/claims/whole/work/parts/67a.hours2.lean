/-! HELPERS on both sides -/
def zs_d (S : Nat → Nat) (h : Nat) : Nat := if h < 24 then S (387 + h) else 0
theorem zs_d_le {S : Nat → Nat} (ok : zo_shft S) (h : Nat) : zs_d S h ≤ 9 := by
  unfold zs_d
  by_cases c : h < 24
  · rw [if_pos c]
    exact ok.2.2 h c
  · rw [if_neg c]
    exact Nat.zero_le _
theorem zr_shft_of {c t : rj_M} {b : Nat} {S : Nat → Nat} (h : zr_shft c b S) (e1 : t.1 (b + 25) = c.1 (b + 25)) (e2 : t.1 (b + 26) = c.1 (b + 26)) : zr_shft t b S := by
  unfold zr_shft
  rw [e1, e2]
  exact h
theorem zn_sub0 {a b : Nat} (ha : a < 2 ^ 30) (hb : b < 2 ^ 30) : nI a - nI b ≤ 0 ↔ a ≤ b := by
  rw [Int32.le_iff_toInt_le, pk_sub_toInt ha hb]
  show (a : Int) - b ≤ 0 ↔ a ≤ b
  omega
theorem zs_with {s : rj_M} {S : Nat → Nat} (h : zr_shft s 1 S) (ok : zo_shft S) {a x : Nat} (ha : a < 24) (hx : s.1 29 (a + S 411) = nI x) : fX10_mostWith s (nI a) = nI (zs_d S a + x) := by
  have h1 : s.1 26 1 = nI (S 411) := h.1
  have h2 : s.1 27 a = nI (S (387 + a)) := h.2 a ha
  have hL := ok.2.1
  unfold fX10_mostWith
  rw [h1, nI_add, if_neg (nI_pos (by omega)), if_neg (show ¬ (24 : Int32) ≤ nI a from nI_ge (a := a) (b := 24) ha (by decide)), if_neg (nI_pos (by omega)), if_pos (show nI (a + S 411) < (34 : Int32) from nI_lt (a := a + S 411) (b := 34) (by omega) (by decide)), nI_clamp (by omega), nI_clamp (by omega), h2, hx, nI_add]
  unfold zs_d
  rw [if_pos ha]
/-- the class's proof -/
theorem zc_proof {c : rj_M} {S : Nat → Nat} (h : zr_shft c 1 S) (ok : zo_shft S) : fX10_neediestHours c = nI (zh_best (zs_d S) (S 411) 24 0 0).2 ∧ (∀ k, k ≠ 29 → (mX10_neediestHours c).1 k = c.1 k) ∧ (mX10_neediestHours c).2 = c.2 := by
  obtain ⟨hL2, hL10, hd⟩ := ok
  have hL0 : 0 < S 411 := by omega
  obtain ⟨f1, f2, f3⟩ := zm_fill (μ := c) (k := 29) (n := 34) (v := 0) (by decide)
  have hm := zd_inv (f := bX10_neediestHours_11 c) (fun j s => (∀ k, k ≠ 29 → s.1 k = c.1 k) ∧ s.2 = c.2 ∧ ∀ x, j ≤ x → x < 34 → s.1 29 x = nI (zh_most (zs_d S) (S 411) 24 x)) 24 (mX11_fillRow c 29 34 0) ⟨f1, f3, fun x hx hx2 => by rw [f2 x, if_pos hx2, zh_most_out hx]; rfl⟩ (fun j s hj hs => by
    obtain ⟨g1, g2, g3⟩ := hs
    have hsh : zr_shft s 1 S := zr_shft_of h (g1 26 (by decide)) (g1 27 (by decide))
    unfold bX10_neediestHours_11
    rw [zs_with hsh ⟨hL2, hL10, hd⟩ hj (g3 (j + S 411) (by omega) (by omega)), nI_1, nI_clamp (n := j) (by omega), nI_clamp (n := j + 1) (by omega), g3 (j + 1) (by omega) (by omega)]
    have hb1 := (zh_best_le (L := S 411) (zs_d_le ⟨hL2, hL10, hd⟩) (24 - (j + 1)) (j + 1) 0).1
    have hb2 := (zh_best_le (L := S 411) (zs_d_le ⟨hL2, hL10, hd⟩) (24 - (j + S 411)) (j + S 411) 0).1
    have hm1 : (24 - (j + 1)) * 9 ≤ 24 * 9 := Nat.mul_le_mul_right _ (by omega)
    have hm2 : (24 - (j + S 411)) * 9 ≤ 24 * 9 := Nat.mul_le_mul_right _ (by omega)
    have hb3 := zs_d_le ⟨hL2, hL10, hd⟩ j
    have c1 : zh_most (zs_d S) (S 411) 24 (j + 1) ≤ 216 := by unfold zh_most; omega
    have c2 : zh_most (zs_d S) (S 411) 24 (j + S 411) ≤ 216 := by unfold zh_most; omega
    have hv : (if nI (zh_most (zs_d S) (S 411) 24 (j + 1)) < nI (zs_d S j + zh_most (zs_d S) (S 411) 24 (j + S 411)) then nI (zs_d S j + zh_most (zs_d S) (S 411) 24 (j + S 411)) else nI (zh_most (zs_d S) (S 411) 24 (j + 1))) = nI (zh_most (zs_d S) (S 411) 24 j) := by
      rw [zh_most_s (N := 24) hL0 hj]
      by_cases e : zh_most (zs_d S) (S 411) 24 (j + 1) < zs_d S j + zh_most (zs_d S) (S 411) 24 (j + S 411)
      · rw [if_pos e, if_pos (nI_lt e (by omega))]
      · rw [if_neg e, if_neg (nI_nlt (Nat.le_of_not_lt e) (by omega))]
    rw [hv]
    refine ⟨fun k hk => (zm_pi_ne hk).trans (g1 k hk), g2, fun x hx hx2 => ?_⟩
    by_cases e : x = j
    · subst e
      rw [zm_pi_eq]
    · rw [zm_pi_ne2 e]
      exact g3 x (by omega) hx2)
  obtain ⟨g1, g2, g3⟩ := hm
  have hsh : zr_shft (mX10_neediestHours c) 1 S := zr_shft_of h (g1 26 (by decide)) (g1 27 (by decide))
  refine ⟨?_, g1, g2⟩
  rw [← zh_walk_best (N := 24) hL0 24 0 0 rfl]
  unfold fX10_neediestHours
  have hz := zf_inv (f := bX10_neediestHours_49 c) (fun j s => ∃ a b, s.1 = nI a ∧ s.2 = nI b ∧ a < 2 ^ j ∧ b ≤ 34 ∧ a + zh_walk (zs_d S) (S 411) 24 (24 - j) j b = zh_walk (zs_d S) (S 411) 24 24 0 0) 24 0 ((0 : Int32), (0 : Int32)) ⟨0, 0, rfl, rfl, by decide, by decide, Nat.zero_add _⟩ (fun j s _ hj hs => by
    obtain ⟨a, b, e1, e2, ha, hb, hw⟩ := hs
    have hj24 : j < 24 := by omega
    have hd1 : (mX10_neediestHours c).1 27 j = nI (zs_d S j) := by
      unfold zs_d
      rw [if_pos hj24]
      exact hsh.2 j hj24
    have hd9 := zs_d_le ⟨hL2, hL10, hd⟩ j
    have hb1 := (zh_best_le (L := S 411) (zs_d_le ⟨hL2, hL10, hd⟩) (24 - (j + 1)) (j + 1) 0).1
    have hb2 := (zh_best_le (L := S 411) (zs_d_le ⟨hL2, hL10, hd⟩) (24 - (j + S 411)) (j + S 411) 0).1
    have hm1 : (24 - (j + 1)) * 9 ≤ 24 * 9 := Nat.mul_le_mul_right _ (by omega)
    have hm2 : (24 - (j + S 411)) * 9 ≤ 24 * 9 := Nat.mul_le_mul_right _ (by omega)
    have c1 : zh_most (zs_d S) (S 411) 24 (j + 1) ≤ 216 := by unfold zh_most; omega
    have c2 : zh_most (zs_d S) (S 411) 24 (j + S 411) ≤ 216 := by unfold zh_most; omega
    have hw1 := zs_with hsh ⟨hL2, hL10, hd⟩ hj24 (g3 (j + S 411) (by omega) (by omega))
    have hw2 := g3 (j + 1) (by omega) (by omega)
    have hw3 : (mX10_neediestHours c).1 26 1 = nI (S 411) := hsh.1
    have hpow : 2 ^ (j + 1) = 2 * 2 ^ j := by rw [Nat.pow_succ]; omega
    unfold mX10_neediestHours at hd1 hw1 hw3
    unfold bX10_neediestHours_49
    rw [nI_clamp (n := j) (by omega), nI_1, nI_clamp (n := j + 1) (by omega), hd1, hw1, hw2, hw3, e1, e2]
    rw [show 24 - j = (24 - (j + 1)) + 1 by omega, zh_walk] at hw
    have hskip : ¬ (b ≤ j ∧ 0 < zs_d S j ∧ zh_most (zs_d S) (S 411) 24 (j + 1) ≤ zs_d S j + zh_most (zs_d S) (S 411) 24 (j + S 411)) → ∃ a' b', nI a = nI a' ∧ nI b = nI b' ∧ a' < 2 ^ (j + 1) ∧ b' ≤ 34 ∧ a' + zh_walk (zs_d S) (S 411) 24 (24 - (j + 1)) (j + 1) b' = zh_walk (zs_d S) (S 411) 24 24 0 0 := fun z => by
      rw [if_neg z] at hw
      exact ⟨a, b, rfl, rfl, by omega, hb, hw⟩
    by_cases x1 : j < b
    · rw [if_pos (nI_lt x1 (by omega))]
      exact hskip (fun z => by omega)
    · rw [if_neg (nI_nlt (Nat.le_of_not_lt x1) (by omega))]
      by_cases x2 : zs_d S j = 0
      · rw [x2, if_pos (show nI 0 ≤ 0 by decide)]
        exact hskip (fun z => by omega)
      · rw [if_neg (nI_nle (by omega) (by omega))]
        by_cases x3 : zs_d S j + zh_most (zs_d S) (S 411) 24 (j + S 411) < zh_most (zs_d S) (S 411) 24 (j + 1)
        · rw [if_pos (nI_lt x3 (by omega))]
          exact hskip (fun z => by omega)
        · rw [if_neg (nI_nlt (Nat.le_of_not_lt x3) (by omega)), zn_set ha (by omega), nI_add]
          rw [if_pos ⟨by omega, by omega, by omega⟩] at hw
          exact ⟨a + 2 ^ j, j + S 411, rfl, rfl, by omega, by omega, by omega⟩)
  obtain ⟨a, b, e1, -, -, -, hw⟩ := hz
  rw [e1]
  rw [show (24 : Nat) - (0 + 24) = 0 from rfl] at hw
  exact congrArg nI hw
/-- the reference's proof -/
theorem zh_q {S : Nat → Nat} {B : Nat → Int} (ok : zo_shft S) : ∀ (r n h nx set v : Nat) (last : Int32) (μ : rj_M), h + r = 24 → r < n → ((last = -1 ∧ nx = 0) ∨ ∃ l, l < h ∧ last = nI l ∧ nx = l + S 411) → set < 2 ^ h → v + r * 9 ≤ 300 → zr_row (μ.1 396) S B → mX12_triesProofs n μ (nI h) last (nI set) (nI v) = (if μ.1 395 5 < nI (v + (zh_best (zs_d S) (S 411) r h nx).1) then rj_pi (rj_pi μ 395 5 (nI (v + (zh_best (zs_d S) (S 411) r h nx).1))) 395 4 (nI (set + (zh_best (zs_d S) (S 411) r h nx).2)) else μ) ∧ qX12_triesProofs n μ (nI h) last (nI set) (nI v)
  | _, 0, _, _, _, _, _, _, _, h, _, _, _, _ => absurd h (Nat.not_lt_zero _)
  | 0, n + 1, h, nx, set, v, last, μ, hk, _, _, _, _, _ => by
    have e : h = 24 := by omega
    subst e
    rw [mX12_triesProofs_s, qX12_triesProofs_s]
    refine ⟨?_, fun _ => trivial, fun z => absurd rfl z⟩
    exact if_pos rfl
  | r + 1, n + 1, h, nx, set, v, last, μ, hk, hn, hlast, hset, hv, hrow => by
    have hk24 : h < 24 := by omega
    have hset31 : set < 2 ^ 31 := Nat.lt_of_lt_of_le hset (Nat.pow_le_pow_right (by decide) (by omega))
    have hne : ¬ nI h = 24 := zn_ne (n := 24) rfl (by omega) (by omega) (by decide)
    have hb := zh_best_le (L := S 411) (zs_d_le ok) r (h + 1) nx
    have hb2 := zh_best_le (L := S 411) (zs_d_le ok) r (h + 1) (h + S 411)
    have hdb := zs_d_le ok h
    have hs1 : set < 2 ^ (h + 1) := Nat.lt_of_lt_of_le hset (Nat.pow_le_pow_right (by decide) (Nat.le_succ h))
    have hs2 : set + 2 ^ h < 2 ^ (h + 1) := by rw [Nat.pow_succ]; omega
    have hmul : (r + 1) * 9 = r * 9 + 9 := Nat.succ_mul r 9
    have hneed : ∀ m : rj_M, m.1 396 = μ.1 396 → m.1 396 (387 + nI h).toNatClampNeg = nI (zs_d S h) := fun m hm => by
      rw [hm, show (387 : Int32) + nI h = nI (387 + h) from nI_add 387 h, nI_clamp (by omega), hrow.1 _ (by omega)]
      unfold zs_d
      rw [if_pos hk24]
    have hLr : μ.1 396 (411 : Int32).toNatClampNeg = nI (S 411) := hrow.1 411 (by decide)
    have hlast1 : ((last = -1 ∧ nx = 0) ∨ ∃ l, l < h + 1 ∧ last = nI l ∧ nx = l + S 411) := by
      rcases hlast with e | ⟨l, e1, e2, e3⟩
      · exact .inl e
      · exact .inr ⟨l, by omega, e2, e3⟩
    have i1 := zh_q ok r n (h + 1) nx set v last μ (by omega) (by omega) hlast1 hs1 (by omega) hrow
    have hd0 : nI (zs_d S h) ≤ 0 ↔ ¬ 0 < zs_d S h := by
      constructor
      · intro z y
        exact nI_nle y (by omega) z
      · intro z
        rw [show zs_d S h = 0 by omega]
        decide
    have hskip : ¬ (0 < zs_d S h ∧ nx ≤ h) → mX12_triesProofs n μ (nI (h + 1)) last (nI set) (nI v) = (if μ.1 395 5 < nI (v + (zh_best (zs_d S) (S 411) (r + 1) h nx).1) then rj_pi (rj_pi μ 395 5 (nI (v + (zh_best (zs_d S) (S 411) (r + 1) h nx).1))) 395 4 (nI (set + (zh_best (zs_d S) (S 411) (r + 1) h nx).2)) else μ) := fun z => by
      rw [zh_best_s, if_neg z]
      exact i1.1
    have i2 := zh_q ok r n (h + 1) (h + S 411) (set + 2 ^ h) (v + zs_d S h) (nI h) μ (by omega) (by omega) (.inr ⟨h, by omega, rfl, rfl⟩) hs2 (by omega) hrow
    have hboth : 0 < zs_d S h ∧ nx ≤ h → (mX12_triesProofs n (mX12_triesProofs n μ (nI (h + 1)) (nI h) (nI (set + 2 ^ h)) (nI (v + zs_d S h))) (nI (h + 1)) last (nI set) (nI v) = (if μ.1 395 5 < nI (v + (zh_best (zs_d S) (S 411) (r + 1) h nx).1) then rj_pi (rj_pi μ 395 5 (nI (v + (zh_best (zs_d S) (S 411) (r + 1) h nx).1))) 395 4 (nI (set + (zh_best (zs_d S) (S 411) (r + 1) h nx).2)) else μ)) ∧ qX12_triesProofs n (mX12_triesProofs n μ (nI (h + 1)) (nI h) (nI (set + 2 ^ h)) (nI (v + zs_d S h))) (nI (h + 1)) last (nI set) (nI v) := fun z => by
      rw [zh_best_s, if_pos z]
      generalize hw : zh_best (zs_d S) (S 411) r (h + 1) (h + S 411) = w at *
      generalize hwo : zh_best (zs_d S) (S 411) r (h + 1) nx = wo at *
      by_cases a1 : μ.1 395 5 < nI (v + zs_d S h + w.1)
      · rw [if_pos a1] at i2
        rw [i2.1]
        have i3 := zh_q ok r n (h + 1) nx set v last (rj_pi (rj_pi μ 395 5 (nI (v + zs_d S h + w.1))) 395 4 (nI (set + 2 ^ h + w.2))) (by omega) (by omega) hlast1 hs1 (by omega) (zq_row_pi (zq_row_pi hrow (by decide)) (by decide))
        rw [zm_pi_ne2 (by decide), zm_pi_eq, hwo] at i3
        refine ⟨?_, i3.2⟩
        rw [i3.1]
        by_cases a2 : wo.1 ≤ zs_d S h + w.1
        · rw [if_pos a2, if_neg (nI_nlt (by omega) (by omega))]
          rw [if_pos (show μ.1 395 5 < nI (v + (zs_d S h + w.1)) by rw [← Nat.add_assoc]; exact a1)]
          rw [← Nat.add_assoc, ← Nat.add_assoc]
        · rw [if_neg a2, if_pos (nI_lt (by omega) (by omega)), zm_over (by decide), if_pos (zn_lt_mono a1 (by omega) (by omega))]
      · rw [if_neg a1] at i2
        rw [i2.1]
        refine ⟨?_, i1.2⟩
        rw [i1.1]
        by_cases a2 : wo.1 ≤ zs_d S h + w.1
        · rw [if_pos a2, if_neg (fun y => a1 (zn_lt_mono y (by omega) (by omega)))]
          rw [if_neg (show ¬ μ.1 395 5 < nI (v + (zs_d S h + w.1)) by rw [← Nat.add_assoc]; exact a1)]
        · rw [if_neg a2]
    rw [mX12_triesProofs_s, qX12_triesProofs_s, if_neg hne, nI_1, hneed μ rfl, hLr, nI_add, zn_set hset (by omega)]
    by_cases x1 : 0 < zs_d S h
    · have x1' : ¬ nI (zs_d S h) ≤ 0 := fun y => hd0.mp y x1
      rw [if_neg x1']
      rcases hlast with ⟨e1, e2⟩ | ⟨l, e1, e2, e3⟩
      · have hb3 := hboth ⟨x1, by omega⟩
        rw [if_pos e1]
        exact ⟨hb3.1, fun y => absurd y hne, fun _ => ⟨fun y => absurd y x1', fun _ => ⟨fun _ => ⟨i2.2, hb3.2, trivial⟩, fun y => absurd e1 y⟩⟩⟩
      · have e2' : ¬ last = -1 := fun y => by
          have h9 := nI_pos (n := l) (by omega)
          rw [← e2, y] at h9
          exact h9 (by decide)
        rw [if_neg e2', e2, pk_sub (show l ≤ h by omega)]
        rw [e2] at i1 hboth hskip
        by_cases x2 : nx ≤ h
        · have x3 : ¬ nI (h - l) < nI (S 411) := nI_nlt (by omega) (by omega)
          have hb3 := hboth ⟨x1, x2⟩
          rw [if_neg x3]
          rw [e2] at e2'
          exact ⟨hb3.1, fun y => absurd y hne, fun _ => ⟨fun y => absurd y x1', fun _ => ⟨fun y => absurd y e2', fun _ => ⟨fun y => absurd y x3, fun _ => ⟨i2.2, hb3.2, trivial⟩⟩⟩⟩⟩
        · have x3 : nI (h - l) < nI (S 411) := nI_lt (by omega) (by have := ok.2.1; omega)
          rw [if_pos x3]
          rw [e2] at e2'
          exact ⟨hskip (fun y => x2 y.2), fun y => absurd y hne, fun _ => ⟨fun y => absurd y x1', fun _ => ⟨fun y => absurd y e2', fun _ => ⟨fun _ => ⟨i1.2, trivial⟩, fun y => absurd x3 y⟩⟩⟩⟩
    · rw [if_pos (hd0.mpr x1)]
      exact ⟨hskip (fun y => x1 y.1), fun y => absurd y hne, fun _ => ⟨fun _ => ⟨i1.2, trivial⟩, fun y => absurd (hd0.mpr x1) y⟩⟩
theorem zq_proof {r : rj_M} {S : Nat → Nat} {B : Nat → Int} (h : zr_row (r.1 396) S B) (ok : zo_shft S) : fX12_proofNow r = nI (zh_best (zs_d S) (S 411) 24 0 0).2 ∧ (∀ k, k ≠ 395 → (mX12_proofNow r).1 k = r.1 k) ∧ (∀ i, i ≠ 4 → i ≠ 5 → (mX12_proofNow r).1 395 i = r.1 395 i) ∧ (mX12_proofNow r).2 = r.2 ∧ qX12_proofNow r := by
  have hb := zh_best_le (L := S 411) (zs_d_le ok) 24 0 0
  have hq := zh_q ok 24 25 0 0 0 0 (-1) (rj_pi r 395 5 (-1)) rfl (by decide) (.inl ⟨rfl, rfl⟩) (by decide) (by decide) (zq_row_pi h (by decide))
  rw [zm_pi_eq, Nat.zero_add, Nat.zero_add, if_pos (Int32.lt_of_lt_of_le (show (-1 : Int32) < nI 0 by decide) (nI_le (Nat.zero_le _) (by omega))), show nI 0 = (0 : Int32) from rfl] at hq
  have e : mX12_proofNow r = rj_pi (rj_pi (rj_pi r 395 5 (-1)) 395 5 (nI (zh_best (zs_d S) (S 411) 24 0 0).1)) 395 4 (nI (zh_best (zs_d S) (S 411) 24 0 0).2) := by
    unfold mX12_proofNow
    rw [rz25_eq]
    exact hq.1
  refine ⟨?_, fun k hk => ?_, fun i h4 h5 => ?_, ?_, ?_⟩
  · show (mX12_proofNow r).1 395 4 = _
    rw [e, zm_pi_eq]
  · rw [e, zm_pi_ne hk, zm_pi_ne hk, zm_pi_ne hk]
  · rw [e, zm_pi_ne2 h4, zm_pi_ne2 h5, zm_pi_ne2 h5]
  · rw [e]
    rfl
  · unfold qX12_proofNow
    rw [rz25_eq]
    exact ⟨hq.2, trivial⟩
