/-! RAIN: the reference's plan; what a plan does -/
section zqRain5
variable {S : Nat → Nat} {B : Nat → Int} {f t : Nat}
/-- the plan's making, cut out of rain -/
noncomputable def zR (μ : rj_M) (a0 a1 : Int32) : rj_M := mX12_triesPlans rz17 (rj_pi (rj_fo (bX12_rain_99 μ a0 a1) 16 0 (mX12_lacksT μ)) 395 15 ((rj_fo (bX12_rain_43 μ a0 a1) 16 0 0) + 1)) 0 0
theorem zq_met {r : rj_M} (h : zr_row (r.1 396) S B) (ok : zo_prog S) (og : zo_grnd S) (hf : f < 5760) (ht : t ≤ 5760) : rj_fo (bX12_rain_43 r (nI f) (nI t)) 16 0 0 = nI (zg_cnt (zg_met S f t)) ∧ ra_fo (qX12_rain_43 r (nI f) (nI t)) (bX12_rain_43 r (nI f) (nI t)) 16 0 0 := by
  have hrow : zr_row ((mX12_lacksT r).1 396) S B := zq_row_pi h (by decide)
  refine ⟨?_, ra_fo_i (zf_q (fun _ _ => True) 16 0 (0 : Int32) trivial (fun j x _ hj _ => ⟨⟨(zq_isMet hrow ok og hf ht (show j < 16 by omega)).2, trivial⟩, trivial⟩))⟩
  unfold zg_cnt
  exact zf_rel (fun _ x y => x = nI y) 16 0 (0 : Int32) (0 : Nat) rfl (fun j x y _ hj hx => by
    subst hx
    unfold bX12_rain_43
    rw [(zq_isMet hrow ok og hf ht (show j < 16 by omega)).1]
    by_cases c : zg_met S f t j = true
    · rw [if_pos c, if_neg (by decide), if_pos c, nI_1]
    · rw [if_neg c, if_pos rfl, if_neg c]
      exact (nI_add y 0))
theorem zq_plan1 {r : rj_M} (h : zr_row (r.1 396) S B) (ok : zo_prog S) (og : zo_grnd S) (hf : f < 5760) (ht : t ≤ 5760) : ra_fo (qX12_rain_99 r (nI f) (nI t)) (bX12_rain_99 r (nI f) (nI t)) 16 0 (mX12_lacksT r) ∧ (∀ k, k ≠ 436 → (rj_fo (bX12_rain_99 r (nI f) (nI t)) 16 0 (mX12_lacksT r)).1 k = (mX12_lacksT r).1 k) ∧ (rj_fo (bX12_rain_99 r (nI f) (nI t)) 16 0 (mX12_lacksT r)).2 = r.2 ∧ ∀ k, k < 16 → (rj_fo (bX12_rain_99 r (nI f) (nI t)) 16 0 (mX12_lacksT r)).1 436 k = nI (zg_A0 (zg_met S f t) k) - 1 := by
  have hrow : zr_row ((mX12_lacksT r).1 396) S B := zq_row_pi h (by decide)
  have hstep : ∀ j x, 0 ≤ j → j < 0 + 16 → ((∀ k, k ≠ 436 → x.1 k = (mX12_lacksT r).1 k) ∧ x.2 = r.2 ∧ ∀ k, k < j → x.1 436 k = nI (zg_A0 (zg_met S f t) k) - 1) → qX12_rain_99 r (nI f) (nI t) j x ∧ ((∀ k, k ≠ 436 → (bX12_rain_99 r (nI f) (nI t) j x).1 k = (mX12_lacksT r).1 k) ∧ (bX12_rain_99 r (nI f) (nI t) j x).2 = r.2 ∧ ∀ k, k < j + 1 → (bX12_rain_99 r (nI f) (nI t) j x).1 436 k = nI (zg_A0 (zg_met S f t) k) - 1) := fun j x _ hj ⟨x1, x2, x3⟩ => by
    have hrx : zr_row (x.1 396) S B := by rw [x1 396 (by decide)]; exact hrow
    obtain ⟨m1, m2⟩ := zq_isMet hrx ok og hf ht (show j < 16 by omega)
    have fin : ∀ v, v = nI (zg_A0 (zg_met S f t) j) - 1 → ((∀ k, k ≠ 436 → (rj_pi x 436 j v).1 k = (mX12_lacksT r).1 k) ∧ (rj_pi x 436 j v).2 = r.2 ∧ ∀ k, k < j + 1 → (rj_pi x 436 j v).1 436 k = nI (zg_A0 (zg_met S f t) k) - 1) := fun v hv => ⟨fun k hk => (zm_pi_ne hk).trans (x1 k hk), by rw [zm_pi_2]; exact x2, fun k hk => by
      by_cases e : k = j
      · rw [e, zm_pi_eq]
        exact hv
      · rw [zm_pi_ne2 e]
        exact x3 k (by omega)⟩
    unfold qX12_rain_99 bX12_rain_99
    rw [m1, nI_clamp (n := j) (by omega)]
    refine ⟨⟨m2, trivial⟩, ?_⟩
    by_cases c : zg_met S f t j = true
    · rw [if_pos c, if_neg (by decide)]
      refine fin 4 ?_
      unfold zg_A0
      rw [if_pos c]
      rfl
    · rw [if_neg c, if_pos rfl]
      refine fin (-1) ?_
      unfold zg_A0
      rw [if_neg c]
      rfl
  have h0 : (∀ k, k ≠ 436 → (mX12_lacksT r).1 k = (mX12_lacksT r).1 k) ∧ (mX12_lacksT r).2 = r.2 ∧ ∀ k, k < 0 → (mX12_lacksT r).1 436 k = nI (zg_A0 (zg_met S f t) k) - 1 := ⟨fun _ _ => rfl, rfl, fun k hk => absurd hk (Nat.not_lt_zero _)⟩
  have hz := zf_inv (f := bX12_rain_99 r (nI f) (nI t)) (fun j x => (∀ k, k ≠ 436 → x.1 k = (mX12_lacksT r).1 k) ∧ x.2 = r.2 ∧ ∀ k, k < j → x.1 436 k = nI (zg_A0 (zg_met S f t) k) - 1) 16 0 (mX12_lacksT r) h0 (fun j x a1 a2 hx => (hstep j x a1 a2 hx).2)
  rw [Nat.zero_add] at hz
  exact ⟨ra_fo_i (zf_q (fun j x => (∀ k, k ≠ 436 → x.1 k = (mX12_lacksT r).1 k) ∧ x.2 = r.2 ∧ ∀ k, k < j → x.1 436 k = nI (zg_A0 (zg_met S f t) k) - 1) 16 0 (mX12_lacksT r) h0 hstep), hz⟩
theorem zq_plan2 {r : rj_M} (h : zr_row (r.1 396) S B) (ok : zo_prog S) (og : zo_grnd S) (hf : f < 5760) (ht : t ≤ 5760) (h6 : zg_cnt (zg_met S f t) ≤ 6) (b0 : Nat → Nat) : (zR r (nI f) (nI t)).1 395 15 = nI (zg_fin S f t b0).1 ∧ (∀ k, k < 16 → (zR r (nI f) (nI t)).1 437 k = nI ((zg_fin S f t b0).2 k) - 1) ∧ (∀ k, k ≠ 395 → k ≠ 436 → k ≠ 437 → (zR r (nI f) (nI t)).1 k = r.1 k) ∧ (zR r (nI f) (nI t)).1 395 0 = 0 ∧ (∀ i, i ≠ 15 → i ≠ 0 → (zR r (nI f) (nI t)).1 395 i = r.1 395 i) ∧ (zR r (nI f) (nI t)).2 = r.2 ∧ qX12_triesPlans rz17 (rj_pi (rj_fo (bX12_rain_99 r (nI f) (nI t)) 16 0 (mX12_lacksT r)) 395 15 ((rj_fo (bX12_rain_43 r (nI f) (nI t)) 16 0 0) + 1)) 0 0 := by
  obtain ⟨-, p1, p2, p3⟩ := zq_plan1 h ok og hf ht
  unfold zR
  rw [(zq_met h ok og hf ht).1, nI_1]
  generalize rj_fo (bX12_rain_99 r (nI f) (nI t)) 16 0 (mX12_lacksT r) = m at p1 p2 p3 ⊢
  have hrow : zr_row ((rj_pi m 395 15 (nI (zg_cnt (zg_met S f t) + 1))).1 396) S B := by
    rw [zm_pi_ne (by decide), p1 396 (by decide)]
    exact zq_row_pi h (by decide)
  have hb : zq_bst (rj_pi m 395 15 (nI (zg_cnt (zg_met S f t) + 1))) (zg_cnt (zg_met S f t) + 1) (zg_cnt (zg_met S f t) + 1, b0) := ⟨zm_pi_eq, fun z => absurd z (Nat.lt_irrefl _)⟩
  have hgo := zq_plans hrow ok og (mt := zg_met S f t) (M0 := zg_cnt (zg_met S f t) + 1) 16 rz17 0 (zg_A0 (zg_met S f t)) 0 (zg_cnt (zg_met S f t) + 1, b0) (rj_pi m 395 15 (nI (zg_cnt (zg_met S f t) + 1))) rfl (by rw [rz17_eq]; decide) (Nat.le_refl _) (show zg_cnt (zg_met S f t) + 1 ≤ 100 by omega) (Nat.le_refl _) zg_A0_ok (fun k hk => by rw [zm_pi_ne (by decide)]; exact p3 k hk) hb ⟨fun _ _ _ _ => rfl, fun _ _ => rfl, rfl⟩
  have hlt := zg_fin_lt (S := S) (f := f) (t := t) (b0 := b0)
  have hfin : zg S (zg_met S f t) 16 0 (zg_A0 (zg_met S f t)) 0 (zg_cnt (zg_met S f t) + 1, b0) = zg_fin S f t b0 := rfl
  rw [hfin, show nI 0 = (0 : Int32) from rfl] at hgo
  obtain ⟨⟨g1, g2⟩, -, ⟨g4, g5, g6⟩, g7⟩ := hgo
  have e0 : (mX12_lacksT r).1 395 0 = 0 := zm_pi_eq
  have ek : ∀ k, k ≠ 395 → (mX12_lacksT r).1 k = r.1 k := fun k hk => zm_pi_ne hk
  have ei : ∀ i, i ≠ 0 → (mX12_lacksT r).1 395 i = r.1 395 i := fun i hi => zm_pi_ne2 hi
  refine ⟨g1, g2 (Nat.lt_succ_of_le hlt), fun k k1 k2 k3 => ?_, ?_, fun i i1 i2 => ?_, ?_, g7⟩
  · rw [g4 k k1 k2 k3, zm_pi_ne k1, p1 k k2, ek k k1]
  · rw [g5 0 (by decide), zm_pi_ne2 (by decide), p1 395 (by decide), e0]
  · rw [g5 i i1, zm_pi_ne2 i1, p1 395 (by decide), ei i i2]
  · rw [g6, zm_pi_2, p2]
/-! what a plan does: acts go, or get a stage -/
def zp_rm (S : Nat → Nat) (a : Nat) : Nat → Nat := fun k => if k = 23 + 6 * a then 0 else if 119 ≤ k ∧ k < 311 ∧ (k - 119) % 16 = a then 0 else S k
def zp_st (S : Nat → Nat) (a s : Nat) : Nat → Nat := fun k => if k = 24 + 6 * a then s else S k
theorem zp_rm_at {a : Nat} : zp_rm S a (23 + 6 * a) = 0 := if_pos rfl
theorem zp_rm_w {a v : Nat} (ha : a < 16) (hv : v < 12) : zp_rm S a (119 + 16 * v + a) = 0 := by
  unfold zp_rm
  rw [if_neg (by omega), if_pos ⟨by omega, by omega, by omega⟩]
theorem zp_rm_ne {a k : Nat} (h1 : k ≠ 23 + 6 * a) (h2 : ¬ (119 ≤ k ∧ k < 311 ∧ (k - 119) % 16 = a)) : zp_rm S a k = S k := by
  unfold zp_rm
  rw [if_neg h1, if_neg h2]
theorem zp_st_at {a s : Nat} : zp_st S a s (24 + 6 * a) = s := if_pos rfl
theorem zp_st_ne {a s k : Nat} (h : k ≠ 24 + 6 * a) : zp_st S a s k = S k := if_neg h
theorem zp_rm_ok {a : Nat} (ok : zo_prog S) (ha : a < 16) : zo_prog (zp_rm S a) := by
  refine ⟨fun b hb => ?_, fun v b hv hb => ?_⟩
  · have h := ok.1 b hb
    have e : ∀ w, 0 < w → w < 6 → zp_rm S a (23 + 6 * b + w) = S (23 + 6 * b + w) := fun w h1 h2 => zp_rm_ne (by omega) (by omega)
    have e1 := e 1 (by decide) (by decide)
    have e2 := e 2 (by decide) (by decide)
    have e3 := e 3 (by decide) (by decide)
    have e4 := e 4 (by decide) (by decide)
    have e5 := e 5 (by decide) (by decide)
    rw [show 23 + 6 * b + 1 = 24 + 6 * b by omega] at e1
    rw [show 23 + 6 * b + 2 = 25 + 6 * b by omega] at e2
    rw [show 23 + 6 * b + 3 = 26 + 6 * b by omega] at e3
    rw [show 23 + 6 * b + 4 = 27 + 6 * b by omega] at e4
    rw [show 23 + 6 * b + 5 = 28 + 6 * b by omega] at e5
    rw [e1, e2, e3, e4, e5]
    by_cases c : b = a
    · subst c
      rw [zp_rm_at]
      exact ⟨by omega, h.2.1, h.2.2.1, h.2.2.2.1, h.2.2.2.2.1, h.2.2.2.2.2.1, h.2.2.2.2.2.2.1, h.2.2.2.2.2.2.2.1, fun z => absurd z (by decide)⟩
    · rw [zp_rm_ne (by omega) (by omega)]
      exact h
  · have h := ok.2 v b hv hb
    by_cases c : b = a
    · subst c
      rw [zp_rm_w hb hv]
      exact ⟨by omega, fun _ => rfl⟩
    · rw [zp_rm_ne (k := 119 + 16 * v + b) (by omega) (by omega), zp_rm_ne (k := 23 + 6 * b) (by omega) (by omega)]
      exact h
theorem zp_st_ok {a s : Nat} (ok : zo_prog S) (ha : a < 16) (hs : s < 4) : zo_prog (zp_st S a s) := by
  refine ⟨fun b hb => ?_, fun v b hv hb => ?_⟩
  · have h := ok.1 b hb
    rw [zp_st_ne (k := 23 + 6 * b) (by omega), zp_st_ne (k := 25 + 6 * b) (by omega), zp_st_ne (k := 26 + 6 * b) (by omega), zp_st_ne (k := 27 + 6 * b) (by omega), zp_st_ne (k := 28 + 6 * b) (by omega)]
    by_cases c : b = a
    · subst c
      rw [zp_st_at]
      exact ⟨h.1, hs, h.2.2⟩
    · rw [zp_st_ne (by omega)]
      exact h
  · rw [zp_st_ne (k := 119 + 16 * v + b) (by omega), zp_st_ne (k := 23 + 6 * b) (by omega)]
    exact ok.2 v b hv hb
theorem zc_remove {c : rj_M} {a : Nat} (h : zr_prog c 1 S) (ha : a < 16) : zr_prog (mX7_remove c (nI a)) 1 (zp_rm S a) ∧ (∀ k, k ≠ 13 → k ≠ 14 → (mX7_remove c (nI a)).1 k = c.1 k) ∧ (mX7_remove c (nI a)).2 = c.2 := by
  have hz := zf_inv (f := bX7_remove_12 c (nI a)) (fun j x => (∀ k, k ≠ 14 → x.1 k = (rj_pi c 13 a 0).1 k) ∧ x.2 = c.2 ∧ ∀ p, p < 192 → x.1 14 p = if p % 16 = a ∧ p / 16 < j then 0 else c.1 14 p) 12 0 (rj_pi c 13 a 0) ⟨fun _ _ => rfl, rfl, fun p hp => by rw [if_neg (by omega), zm_pi_ne (by decide)]⟩ (fun j x _ hj ⟨x1, x2, x3⟩ => by
    have e : ((nI j * 16) + nI a) = nI (16 * j + a) := by
      rw [show (16 : Int32) = nI 16 from rfl, pk_mul, nI_add, Nat.mul_comm j 16]
    unfold bX7_remove_12
    rw [(zm_rep (μ := x) (k := 14) (n := 192) (v := 0) (j := 16 * j + a) e (by omega) (by decide)).1]
    refine ⟨fun k hk => (zm_pi_ne hk).trans (x1 k hk), by rw [zm_pi_2]; exact x2, fun p hp => ?_⟩
    by_cases c1 : p = 16 * j + a
    · rw [c1, zm_pi_eq, if_pos (by omega)]
    · rw [zm_pi_ne2 c1, x3 p hp]
      by_cases c2 : p % 16 = a ∧ p / 16 < j
      · rw [if_pos c2, if_pos (by omega)]
      · rw [if_neg c2, if_neg (by omega)])
  obtain ⟨z1, z2, z3⟩ := hz
  unfold mX7_remove
  rw [(zm_rep (μ := c) (k := 13) (n := 16) (v := 0) (j := a) rfl ha (by decide)).1]
  generalize rj_fo (bX7_remove_12 c (nI a)) 12 0 (rj_pi c 13 a 0) = m at z1 z2 z3 ⊢
  refine ⟨⟨fun b hb => ?_, fun p hp => ?_⟩, fun k k1 k2 => by rw [z1 k k2, zm_pi_ne k1], z2⟩
  · obtain ⟨b1, b2, b3, b4, b5⟩ := h.1 b hb
    have q : ∀ k, k ≠ 13 → k ≠ 14 → m.1 k = c.1 k := fun k k1 k2 => by rw [z1 k k2, zm_pi_ne k1]
    rw [zp_rm_ne (k := 24 + 6 * b) (by omega) (by omega), zp_rm_ne (k := 25 + 6 * b) (by omega) (by omega), zp_rm_ne (k := 26 + 6 * b) (by omega) (by omega), zp_rm_ne (k := 27 + 6 * b) (by omega) (by omega), zp_rm_ne (k := 28 + 6 * b) (by omega) (by omega)]
    refine ⟨by rw [q 9 (by decide) (by decide)]; exact b1, by rw [q 10 (by decide) (by decide)]; exact b2, by rw [q 11 (by decide) (by decide)]; exact b3, by rw [q 12 (by decide) (by decide)]; exact b4, ?_⟩
    rw [z1 13 (by decide)]
    by_cases e : b = a
    · subst e
      rw [zm_pi_eq, zp_rm_at]
      rfl
    · rw [zm_pi_ne2 e, zp_rm_ne (by omega) (by omega)]
      exact b5
  · show m.1 14 p = nI (zp_rm S a (119 + p))
    rw [z3 p hp]
    by_cases e : p % 16 = a
    · rw [if_pos ⟨e, by omega⟩]
      have : zp_rm S a (119 + p) = 0 := by
        unfold zp_rm
        rw [if_neg (by omega), if_pos ⟨by omega, by omega, by omega⟩]
      rw [this]
      rfl
    · rw [if_neg (fun z => e z.1), zp_rm_ne (by omega) (by omega)]
      exact h.2 p hp
theorem zq_goes {r : rj_M} {a : Nat} (h : zr_row (r.1 396) S B) (ha : a < 16) : zr_row ((mX12_goes r (nI a)).1 396) (zp_rm S a) B ∧ (∀ k, k ≠ 396 → (mX12_goes r (nI a)).1 k = r.1 k) ∧ (mX12_goes r (nI a)).2 = r.2 := by
  have e0 : (23 + (6 * nI a)).toNatClampNeg = 23 + 6 * a := pk_cl _ (by rw [show (23 : Int32) = nI 23 from rfl, show (6 : Int32) = nI 6 from rfl, pk_mul, nI_add]) (by omega)
  unfold mX12_goes
  rw [e0]
  have hz := zf_inv (f := bX12_goes_15 r (nI a)) (fun j x => (∀ k, k ≠ 396 → x.1 k = r.1 k) ∧ x.2 = r.2 ∧ zr_row (x.1 396) (fun k => if k = 23 + 6 * a then 0 else if 119 ≤ k ∧ k < 119 + 16 * j ∧ (k - 119) % 16 = a then 0 else S k) B) 12 0 (rj_pi r 396 (23 + 6 * a) 0) ⟨fun k hk => zm_pi_ne hk, by rw [zm_pi_2], zr_pi h (by omega) (fun y => by
    show (if y = 23 + 6 * a then 0 else if 119 ≤ y ∧ y < 119 + 16 * 0 ∧ (y - 119) % 16 = a then 0 else S y) = _
    by_cases e : y = 23 + 6 * a
    · rw [if_pos e, if_pos e]
    · rw [if_neg e, if_neg e, if_neg (by omega)])⟩ (fun j x _ hj ⟨x1, x2, x3⟩ => by
    unfold bX12_goes_15
    rw [zi_wish (v := j) (a := a) (by omega) ha]
    refine ⟨fun k hk => (zm_pi_ne hk).trans (x1 k hk), by rw [zm_pi_2]; exact x2, zr_pi x3 (v := 0) (by omega) (fun y => ?_)⟩
    show (if y = 23 + 6 * a then 0 else if 119 ≤ y ∧ y < 119 + 16 * (j + 1) ∧ (y - 119) % 16 = a then 0 else S y) = if y = 119 + 16 * j + a then 0 else (if y = 23 + 6 * a then 0 else if 119 ≤ y ∧ y < 119 + 16 * j ∧ (y - 119) % 16 = a then 0 else S y)
    by_cases e : y = 23 + 6 * a
    · rw [if_pos e, if_pos e]
      split <;> rfl
    · rw [if_neg e, if_neg e]
      by_cases e2 : y = 119 + 16 * j + a
      · rw [if_pos e2, if_pos (by omega)]
      · rw [if_neg e2]
        by_cases e3 : 119 ≤ y ∧ y < 119 + 16 * j ∧ (y - 119) % 16 = a
        · rw [if_pos e3, if_pos (by omega)]
        · rw [if_neg e3, if_neg (by omega)])
  obtain ⟨z1, z2, z3⟩ := hz
  exact ⟨zr_iff z3 (fun k => rfl), z1, z2⟩
theorem zc_shiftTo {c : rj_M} {a s : Nat} (h : zr_prog c 1 S) (ha : a < 16) : zr_prog (mX7_shiftTo c (nI a) (nI s)) 1 (zp_st S a s) ∧ (∀ k, k ≠ 9 → (mX7_shiftTo c (nI a) (nI s)).1 k = c.1 k) ∧ (mX7_shiftTo c (nI a) (nI s)).2 = c.2 := by
  unfold mX7_shiftTo
  rw [(zm_rep (μ := c) (k := 9) (n := 16) (v := nI s) (j := a) rfl ha (by decide)).1]
  refine ⟨⟨fun b hb => ?_, fun p hp => ?_⟩, fun k hk => zm_pi_ne hk, zm_pi_2⟩
  · obtain ⟨b1, b2, b3, b4, b5⟩ := h.1 b hb
    rw [zp_st_ne (k := 25 + 6 * b) (by omega), zp_st_ne (k := 26 + 6 * b) (by omega), zp_st_ne (k := 27 + 6 * b) (by omega), zp_st_ne (k := 28 + 6 * b) (by omega), zp_st_ne (k := 23 + 6 * b) (by omega)]
    refine ⟨?_, by rw [zm_pi_ne (by decide)]; exact b2, by rw [zm_pi_ne (by decide)]; exact b3, by rw [zm_pi_ne (by decide)]; exact b4, by rw [zm_pi_ne (by decide)]; exact b5⟩
    by_cases e : b = a
    · subst e
      rw [zm_pi_eq, zp_st_at]
    · rw [zm_pi_ne2 e, zp_st_ne (by omega)]
      exact b1
  · rw [zm_pi_ne (by decide), zp_st_ne (by omega)]
    exact h.2 p hp
end zqRain5
