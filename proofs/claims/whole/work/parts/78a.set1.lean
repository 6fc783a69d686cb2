/-! STATES: the class's memory, the reference's memory, and the state both stand for -/
abbrev zi_St := (Nat → Nat) × (Nat → Int)
def zi_c (c : rj_M) (s : zi_St) (L : List zi_St) (G : Option (Nat → Nat)) : Prop := zr_mom c 1 s.1 s.2 ∧ zu_c c L ∧ zg_c c G
def zi_r (r : rj_M) (s : zi_St) (L : List zi_St) (G : Option (Nat → Nat)) : Prop := zr_row (r.1 396) s.1 s.2 ∧ zu_q r L ∧ zg_q r G ∧ zq_ptr r ∧ rj_cr r
def zi_fc (c c' : rj_M) : Prop := (∀ k, 395 ≤ k → c'.1 k = c.1 k ∧ c'.2.1 k = c.2.1 k) ∧ c'.2.2 = c.2.2
def zi_fr (r r' : rj_M) : Prop := (∀ k, k < 395 → r'.1 k = r.1 k) ∧ (∀ k, k < 440 → r'.2.1 k = r.2.1 k ∧ r'.2.2.1 k = r.2.2.1 k) ∧ (∀ k, k < 440 → k ≠ 397 → r'.2.2.2 k = r.2.2.2 k)
theorem zi_fc_rfl {c : rj_M} : zi_fc c c := ⟨fun _ _ => ⟨rfl, rfl⟩, rfl⟩
theorem zi_fr_rfl {r : rj_M} : zi_fr r r := ⟨fun _ _ => rfl, fun _ _ => ⟨rfl, rfl⟩, fun _ _ _ => rfl⟩
theorem zi_fc_trans {c c' c'' : rj_M} (h : zi_fc c c') (h' : zi_fc c' c'') : zi_fc c c'' := ⟨fun k hk => ⟨(h'.1 k hk).1.trans (h.1 k hk).1, (h'.1 k hk).2.trans (h.1 k hk).2⟩, h'.2.trans h.2⟩
theorem zi_fr_trans {r r' r'' : rj_M} (h : zi_fr r r') (h' : zi_fr r' r'') : zi_fr r r'' := ⟨fun k hk => (h'.1 k hk).trans (h.1 k hk), fun k hk => ⟨(h'.2.1 k hk).1.trans (h.2.1 k hk).1, (h'.2.1 k hk).2.trans (h.2.1 k hk).2⟩, fun k hk e => (h'.2.2 k hk e).trans (h.2.2 k hk e)⟩
theorem zi_fc_pi {c : rj_M} {k i : Nat} {v : Int32} (h : k < 395) : zi_fc c (rj_pi c k i v) := ⟨fun k' hk => ⟨zm_pi_ne (by omega), rfl⟩, rfl⟩
theorem zi_fr_pi {r : rj_M} {k i : Nat} {v : Int32} (h : 395 ≤ k) : zi_fr r (rj_pi r k i v) := ⟨fun k' hk => zm_pi_ne (by omega), fun _ _ => ⟨rfl, rfl⟩, fun _ _ _ => rfl⟩
theorem zi_fr_rst {r r' : rj_M} (h : zo_rst r r') : zi_fr r r' := ⟨fun k hk => h.1 k (by omega) (.inl (by omega)), fun k hk => ⟨(h.2.2.2.1 k hk).1, (h.2.2.2.1 k hk).2.1⟩, fun k hk _ => (h.2.2.2.1 k hk).2.2⟩
theorem zi_fc_cst {c c' : rj_M} (h : zo_cst c c') : zi_fc c c' := ⟨fun k hk => ⟨h.1 k (by
  unfold zo_scr
  have e : ∀ x, x < 395 → (k == x) = false := fun x hx => beq_false_of_ne (by omega)
  rw [e 15 (by decide), e 16 (by decide), e 17 (by decide), e 25 (by decide), e 28 (by decide), e 29 (by decide), e 35 (by decide), e 36 (by decide), e 37 (by decide), e 38 (by decide), e 45 (by decide), e 46 (by decide), e 49 (by decide), e 50 (by decide)]
  rfl), by rw [h.2]⟩, by rw [h.2]⟩
/-- a query keeps the state -/
theorem zi_r_rst {r r' : rj_M} {s : zi_St} {L : List zi_St} {G : Option (Nat → Nat)} (h : zi_r r s L G) (e : zo_rst r r') : zi_r r' s L G := by
  obtain ⟨h1, h2, h3, h4, h5⟩ := h
  refine ⟨zo_rst_row e h1, zu_q_of h2 e.2.1 (e.2.2.2.1 397 (by decide)).2.2 (fun k k1 k2 => e.1 k (by omega) (.inl k2)), ?_, zo_rst_ptr e h4, e.2.2.2.2 h5⟩
  rcases h3 with ⟨g1, g2⟩ | ⟨g, g1, g2, g3⟩
  · exact .inl ⟨g1, e.2.2.1.trans g2⟩
  · refine .inr ⟨g, g1, e.2.2.1.trans g2, fun k hk => ?_⟩
    rw [e.1 435 (by decide) (.inr rfl)]
    exact g3 k hk
theorem zk_ph_congr {w w' : Nat → Nat → Nat} {k : Nat} (hk : k < 4) (h : ∀ x y, x < 4 → y < 4 → w x y = w' x y) : ∀ x y, x < 4 → y < 4 → zk_ph w k x y = zk_ph w' k x y := fun x y hx hy => by
  unfold zk_ph
  rw [h x y hx hy, h x k hx hk, h k y hk hy]
theorem zk_fw_congr {w w' : Nat → Nat → Nat} (h : ∀ x y, x < 4 → y < 4 → w x y = w' x y) {i j : Nat} (hi : i < 4) (hj : j < 4) : zk_fw w i j = zk_fw w' i j := zk_ph_congr (by decide) (zk_ph_congr (by decide) (zk_ph_congr (by decide) (zk_ph_congr (by decide) h))) i j hi hj
section zi
variable {c t r : rj_M} {S S' : Nat → Nat} {B : Nat → Int}
theorem zt_cal (h : zr_cal c 1 S) (e : t.1 2 = c.1 2) (f : ∀ x, x < 3 → S' x = S x) : zr_cal t 1 S' := by
  unfold zr_cal
  rw [f 0 (by decide), f 1 (by decide), f 2 (by decide), show t.1 (1 + 1) = c.1 (1 + 1) from e]
  exact h
theorem zt_grnd (h : zr_grnd c 1 S) (e : ∀ k, 4 ≤ k → k ≤ 7 → t.1 k = c.1 k) (f : ∀ x, 3 ≤ x → x < 23 → S' x = S x) (f2 : ∀ x, 525 ≤ x → x < 625 → S' x = S x) : zr_grnd t 1 S' := by
  have h' := zr_grnd_of h (fun k k1 k2 => e k (by omega) (by omega))
  obtain ⟨h1, h2, h3, h4⟩ := h'
  refine ⟨fun k hk => by rw [f _ (by omega) (by omega)]; exact h1 k hk, fun p hp => by rw [f _ (by omega) (by omega)]; exact h2 p hp, fun i j hi hj => ?_, fun k hk => by rw [f2 _ (by omega) (by omega)]; exact h4 k hk⟩
  rw [h3 i j hi hj]
  congr 1
  exact zk_fw_congr (fun x y hx hy => (f (7 + 4 * x + y) (by omega) (by omega)).symm) hi hj
theorem zt_prog (h : zr_prog c 1 S) (e : ∀ k, 9 ≤ k → k ≤ 14 → t.1 k = c.1 k) (f : ∀ x, 23 ≤ x → x < 311 → S' x = S x) : zr_prog t 1 S' := by
  have h' := zr_prog_of h (fun k k1 k2 => e k (by omega) (by omega))
  obtain ⟨h1, h2⟩ := h'
  refine ⟨fun a ha => ?_, fun p hp => by rw [f _ (by omega) (by omega)]; exact h2 p hp⟩
  rw [f (23 + 6 * a) (by omega) (by omega), f (24 + 6 * a) (by omega) (by omega), f (25 + 6 * a) (by omega) (by omega), f (26 + 6 * a) (by omega) (by omega), f (27 + 6 * a) (by omega) (by omega), f (28 + 6 * a) (by omega) (by omega)]
  exact h1 a ha
theorem zt_exit (h : zr_exit c 1 S) (e : ∀ k, 18 ≤ k → k ≤ 20 → t.1 k = c.1 k) (f : ∀ x, 311 ≤ x → x < 330 → S' x = S x) : zr_exit t 1 S' := by
  obtain ⟨h1, h2, h3⟩ := h
  exact ⟨fun k hk => by rw [e (1 + 17) (by decide) (by decide), f _ (by omega) (by omega)]; exact h1 k hk, fun k hk => by rw [e (1 + 18) (by decide) (by decide), f _ (by omega) (by omega)]; exact h2 k hk, fun k hk => by rw [e (1 + 19) (by decide) (by decide), f _ (by omega) (by omega)]; exact h3 k hk⟩
theorem zt_bars (h : zr_bars c 1 S) (e : ∀ k, 21 ≤ k → k ≤ 24 → t.1 k = c.1 k) (f : ∀ x, 330 ≤ x → x < 387 → S' x = S x) : zr_bars t 1 S' := by
  obtain ⟨q, w, hq, hb⟩ := h
  have hb' : zb_c t S q w := zb_c_of hb (e 21 (by decide) (by decide)) (e 22 (by decide) (by decide)) (e 23 (by decide) (by decide)) (e 24 (by decide) (by decide))
  exact ⟨q, w, zr_line_congr hq (fun k k1 k2 => f k (by omega) (by omega)) (fun k k1 k2 => f k (by omega) (by omega)), zb_c_congr hb' (fun k hk => f _ (by omega) (by omega)) (f 330 (by decide) (by decide)) (f 386 (by decide) (by decide))⟩
theorem zt_shft (h : zr_shft c 1 S) (e : ∀ k, 26 ≤ k → k ≤ 27 → t.1 k = c.1 k) (f : ∀ x, 387 ≤ x → x < 412 → S' x = S x) : zr_shft t 1 S' := by
  obtain ⟨h1, h2⟩ := h
  exact ⟨by rw [e (1 + 25) (by decide) (by decide), f _ (by omega) (by omega)]; exact h1, fun k hk => by rw [e (1 + 26) (by decide) (by decide), f _ (by omega) (by omega)]; exact h2 k hk⟩
theorem zt_powr (h : zr_powr c 1 S) (e : ∀ k, 31 ≤ k → k ≤ 34 → t.1 k = c.1 k) (f : ∀ x, 412 ≤ x → x < 448 → S' x = S x) : zr_powr t 1 S' := by
  obtain ⟨h1, h2⟩ := h
  refine ⟨fun k hk => by rw [e (1 + 30) (by decide) (by decide), f _ (by omega) (by omega)]; exact h1 k hk, fun g hg => ?_⟩
  rw [e (1 + 31) (by decide) (by decide), e (1 + 32) (by decide) (by decide), e (1 + 33) (by decide) (by decide), f (436 + 3 * g) (by omega) (by omega), f (437 + 3 * g) (by omega) (by omega), f (438 + 3 * g) (by omega) (by omega)]
  exact h2 g hg
theorem zt_purs {B' : Nat → Int} (h : zr_purs c 1 S B) (e : ∀ k, 40 ≤ k → k ≤ 41 → t.1 k = c.1 k) (e2 : t.2.1 39 = c.2.1 39 ∧ t.2.1 42 = c.2.1 42 ∧ t.2.1 43 = c.2.1 43) (f : ∀ x, 448 ≤ x → x < 500 → S' x = S x) (fB : ∀ x, x < 25 → B' x = B x) : zr_purs t 1 S' B' := by
  obtain ⟨h1, h2, h3, h4, h5⟩ := h
  exact ⟨fun k hk => by rw [e (1 + 39) (by decide) (by decide), f _ (by omega) (by omega)]; exact h1 k hk, fun k hk => by rw [e (1 + 40) (by decide) (by decide), f _ (by omega) (by omega)]; exact h2 k hk, by rw [show t.2.1 (1 + 38) = c.2.1 (1 + 38) from e2.1, fB 0 (by decide)]; exact h3, fun k hk => by rw [show t.2.1 (1 + 41) = c.2.1 (1 + 41) from e2.2.1, fB _ (by omega)]; exact h4 k hk, fun k hk => by rw [show t.2.1 (1 + 42) = c.2.1 (1 + 42) from e2.2.2, fB _ (by omega)]; exact h5 k hk⟩
/-- the pointers stay in their bounds -/
theorem zi_cr_pq {m : rj_M} {k i v : Nat} (h : rj_cr m) (hv : v ≤ 440) : rj_cr (rj_pq m k i v) := fun k' i' => by
  show va_up m.2.2.2 k (va_up (m.2.2.2 k) i v) k' i' ≤ 440
  by_cases e : k' = k
  · rw [e, va_up_self]
    by_cases e2 : i' = i
    · rw [e2, va_up_self]
      exact hv
    · rw [va_up_ne _ _ e2]
      exact h k i'
  · rw [va_up_ne _ _ e]
    exact h k' i'
theorem zi_cr_keeps {m : rj_M} (h : rj_cr m) : rj_cr (mX12_keeps m) := by
  have hf : rj_cr (rj_fo (bX12_keeps_18 m) 7 1 m) := zf_inv (f := bX12_keeps_18 m) (fun _ s => rj_cr s) 7 1 m h (fun j s _ _ hs => by
    unfold bX12_keeps_18
    have := hs 397 (nI j).toNatClampNeg
    exact zi_cr_pq hs (by omega))
  unfold mX12_keeps
  generalize rj_fo (bX12_keeps_18 m) 7 1 m = F at hf ⊢
  have h2 : rj_cr (rj_pq F 397 (7 : Int32).toNatClampNeg ((m.2.2.2 397 (0 : Int32).toNatClampNeg - 1) + 1)) := zi_cr_pq hf (by
    have := h 397 (0 : Int32).toNatClampNeg
    omega)
  generalize rj_pq F 397 (7 : Int32).toNatClampNeg ((m.2.2.2 397 (0 : Int32).toNatClampNeg - 1) + 1) = P at h2 ⊢
  split
  · exact fun k i => h2 k i
  · exact fun k i => h k i
end zi
section zi2
variable {c r : rj_M} {s : zi_St} {L : List zi_St} {G : Option (Nat → Nat)}
theorem zi_begin (h : zi_c c s L G) (og : zo_grnd s.1) : qX11_beginChange c ∧ zi_c (mX11_beginChange c) s ((s :: L).take 8) none ∧ zi_fc c (mX11_beginChange c) ∧ (∀ k, 1 ≤ k → k < 51 → k ≠ 47 → (mX11_beginChange c).1 k = c.1 k) ∧ (∀ k, k < 51 → (mX11_beginChange c).2.1 k = c.2.1 k) := by
  obtain ⟨h1, h2, h3⟩ := h
  obtain ⟨b1, b2, b3, b4, b5, b6, b7⟩ := zc_beg h2 h1 og
  exact ⟨b1, ⟨b3, b2, .inl ⟨rfl, b4⟩⟩, ⟨fun k hk => ⟨b5 k (.inr hk) (by omega), b6 k (.inr hk)⟩, b7⟩, fun k k1 k2 k3 => b5 k (.inl ⟨k1, k2⟩) k3, fun k hk => b6 k (.inl hk)⟩
theorem zi_keeps (h : zi_r r s L G) : qX12_keeps r ∧ zi_r (mX12_keeps r) s ((s :: L).take 8) none ∧ zi_fr r (mX12_keeps r) ∧ (mX12_keeps r).1 395 0 = r.1 395 0 ∧ (mX12_keeps r).1 396 = r.1 396 := by
  obtain ⟨h1, h2, h3, h4, h5⟩ := h
  obtain ⟨k1, k2, k3, k4, k5, k6, k7, k8, k9, k10⟩ := zq_keeps h2 h1
  refine ⟨k1, ⟨by rw [k3]; exact h1, k2, .inl ⟨rfl, k4⟩, fun x hx => by rw [k9 409 (by decide)]; exact h4 x hx, zi_cr_keeps h5⟩, ⟨fun k hk => k6 k (by omega) (.inl (by omega)), fun k _ => ⟨congrFun k7 k, congrFun k8 k⟩, fun k _ e => k9 k e⟩, k5 0 (by decide) (by decide), k3⟩
/-- one number is set, both sides -/
theorem zi_set {x : Nat} {v : Int32} {S' : Nat → Nat} (h : zi_r r s L G) (hrow : zr_row ((rj_pi r 396 x v).1 396) S' s.2) : zi_r (rj_pi r 396 x v) (S', s.2) L G ∧ zi_fr r (rj_pi r 396 x v) := by
  obtain ⟨h1, h2, h3, h4, h5⟩ := h
  refine ⟨⟨hrow, zu_q_of h2 (congrFun (zm_pi_ne (by decide)) 3) rfl (fun k k1 k2 => zm_pi_ne (by omega)), ?_, h4, h5⟩, zi_fr_pi (by decide)⟩
  rcases h3 with ⟨g1, g2⟩ | ⟨g, g1, g2, g3⟩
  · exact .inl ⟨g1, (congrFun (zm_pi_ne (by decide)) 11).trans g2⟩
  · refine .inr ⟨g, g1, (congrFun (zm_pi_ne (by decide)) 11).trans g2, fun k hk => ?_⟩
    rw [zm_pi_ne (by decide)]
    exact g3 k hk
theorem zi_cset {t : rj_M} {S' : Nat → Nat} {B' : Nat → Int} (h : zi_c c s L none) (hm : zr_mom t 1 S' B') (e : ∀ k, (k = 0 ∨ 44 ≤ k) → t.1 k = c.1 k ∧ t.2.1 k = c.2.1 k) (e2 : t.2.2 = c.2.2) : zi_c t (S', B') L none := by
  obtain ⟨h1, h2, h3⟩ := h
  refine ⟨hm, zu_c_of h2 (congrFun (e 0 (.inl rfl)).1 4) (congrFun (e 0 (.inl rfl)).1 5) (by rw [e2]) (fun k k1 k2 => e k (.inr (by omega))), .inl ⟨rfl, ?_⟩⟩
  rcases h3 with ⟨-, g⟩ | ⟨g, g1, -⟩
  · exact (congrFun (e 47 (.inr (by decide))).1 2).trans g
  · cases g1
end zi2
