/-! SETTERS, both sides -/
section zv
variable {S S' : Nat → Nat} {B : Nat → Int} {n : Nat}
theorem zv_cal (h : zo_cal S) (f : ∀ x, x < 3 → S' x = S x) : zo_cal S' := by
  unfold zo_cal
  rw [f 0 (by decide), f 1 (by decide), f 2 (by decide)]
  exact h
theorem zv_grnd (h : zo_grnd S) (f : ∀ x, 3 ≤ x → x < 23 → S' x = S x) (f2 : ∀ x, 525 ≤ x → x < 625 → S' x = S x) : zo_grnd S' := by
  obtain ⟨h1, h2, h3, h4⟩ := h
  exact ⟨fun k hk => by rw [f _ (by omega) (by omega)]; exact h1 k hk, fun i j hi hj => by rw [f (7 + 4 * i + j) (by omega) (by omega), f (7 + 4 * j + i) (by omega) (by omega)]; exact h2 i j hi hj, fun i hi => by rw [f _ (by omega) (by omega)]; exact h3 i hi, fun k hk => by rw [f2 _ (by omega) (by omega)]; exact h4 k hk⟩
theorem zv_prog (h : zo_prog S) (f : ∀ x, 23 ≤ x → x < 311 → S' x = S x) : zo_prog S' := by
  obtain ⟨h1, h2⟩ := h
  refine ⟨fun a ha => ?_, fun v a hv ha => ?_⟩
  · rw [f (23 + 6 * a) (by omega) (by omega), f (24 + 6 * a) (by omega) (by omega), f (25 + 6 * a) (by omega) (by omega), f (26 + 6 * a) (by omega) (by omega), f (27 + 6 * a) (by omega) (by omega), f (28 + 6 * a) (by omega) (by omega)]
    exact h1 a ha
  · rw [f (119 + 16 * v + a) (by omega) (by omega), f (23 + 6 * a) (by omega) (by omega)]
    exact h2 v a hv ha
theorem zv_exit (h : zo_exit S) (f : ∀ x, 311 ≤ x → x < 330 → S' x = S x) : zo_exit S' := by
  obtain ⟨h1, h2, h3⟩ := h
  exact ⟨fun k hk => by rw [f _ (by omega) (by omega)]; exact h1 k hk, fun k hk => by rw [f _ (by omega) (by omega)]; exact h2 k hk, fun k hk => by rw [f _ (by omega) (by omega)]; exact h3 k hk⟩
theorem zv_bars (h : zo_bars S n) (f : ∀ x, 330 ≤ x → x < 387 → S' x = S x) : zo_bars S' (n + 1) := by
  obtain ⟨h1, h2, h3, h4, h5, h6⟩ := h
  refine ⟨by rw [f _ (by omega) (by omega)]; exact h1, by rw [f _ (by omega) (by omega)]; exact h2, fun k hk => by rw [f _ (by omega) (by omega)]; exact h3 k hk, by rw [f _ (by omega) (by omega)]; omega, by rw [f _ (by omega) (by omega)]; omega, fun b hb => ?_⟩
  rw [f (331 + 13 * b) (by omega) (by omega), f (370 + b) (by omega) (by omega)]
  exact h6 b hb
theorem zv_shft (h : zo_shft S) (f : ∀ x, 387 ≤ x → x < 412 → S' x = S x) : zo_shft S' := by
  obtain ⟨h1, h2, h3⟩ := h
  exact ⟨by rw [f _ (by omega) (by omega)]; exact h1, by rw [f _ (by omega) (by omega)]; exact h2, fun k hk => by rw [f _ (by omega) (by omega)]; exact h3 k hk⟩
theorem zv_powr (h : zo_powr S) (f : ∀ x, 412 ≤ x → x < 448 → S' x = S x) : zo_powr S' := by
  obtain ⟨h1, h2⟩ := h
  refine ⟨fun k hk => by rw [f _ (by omega) (by omega)]; exact h1 k hk, fun g hg => ?_⟩
  rw [f (436 + 3 * g) (by omega) (by omega), f (437 + 3 * g) (by omega) (by omega), f (438 + 3 * g) (by omega) (by omega)]
  exact h2 g hg
theorem zv_purs (h : zo_purs S B n) (f : ∀ x, 448 ≤ x → x < 500 → S' x = S x) : zo_purs S' B (n + 1) := by
  obtain ⟨h1, h2, h3, h4, h5⟩ := h
  refine ⟨fun k hk => by rw [f _ (by omega) (by omega)]; exact h1 k hk, fun k hk => by rw [f _ (by omega) (by omega)]; exact h2 k hk, fun v hv => ?_, h4, h5⟩
  have := h3 v hv
  omega
theorem zv_ok (h : zo_ok S B n) : zo_ok S B (n + 1) := by
  obtain ⟨h1, h2, h3, h4, h5, h6, h7, h8⟩ := h
  exact ⟨h1, h2, h3, h4, zv_bars h5 (fun _ _ _ => rfl), h6, h7, zv_purs h8 (fun _ _ _ => rfl)⟩
end zv
def zi_ok (n : Nat) (s : zi_St) (L : List zi_St) (G : Option (Nat → Nat)) : Prop := zo_ok s.1 s.2 n ∧ (∀ t, t ∈ L → zo_ok t.1 t.2 n) ∧ zg_ok s.1 G
def zi_I (n : Nat) (c r : rj_M) : Prop := ∃ s L G, zi_c c s L G ∧ zi_r r s L G ∧ zi_ok n s L G
def zi_op (n : Nat) (c c' r r' : rj_M) : Prop := zi_I (n + 1) c' r' ∧ zi_fc c c' ∧ zi_fr r r'
theorem zi_c_cst {c c' : rj_M} {s : zi_St} {L : List zi_St} {G : Option (Nat → Nat)} (h : zi_c c s L G) (e : zo_cst c c') : zi_c c' s L G := by
  obtain ⟨⟨h1, h2, h3, h4, h5, h6, h7, h8⟩, hu, hg⟩ := h
  obtain ⟨e1, e2⟩ := e
  have ex : ∀ k, zo_scr k = false → c'.1 k = c.1 k := e1
  have e51 : ∀ k, 51 ≤ k → zo_scr k = false := fun k hk => by
    unfold zo_scr
    have e : ∀ x, x < 51 → (k == x) = false := fun x hx => beq_false_of_ne (by omega)
    rw [e 15 (by decide), e 16 (by decide), e 17 (by decide), e 25 (by decide), e 28 (by decide), e 29 (by decide), e 35 (by decide), e 36 (by decide), e 37 (by decide), e 38 (by decide), e 45 (by decide), e 46 (by decide), e 49 (by decide), e 50 (by decide)]
    rfl
  have d : ∀ k, k < 15 → zo_scr k = false := by decide
  have d2 : ∀ k, k < 25 → 18 ≤ k → zo_scr k = false := by decide
  have d3 : ∀ k, k < 35 → 30 ≤ k → zo_scr k = false := by decide
  have d4 : ∀ k, k < 28 → 26 ≤ k → zo_scr k = false := by decide
  have d5 : ∀ k, k < 45 → 39 ≤ k → zo_scr k = false := by decide
  refine ⟨⟨zt_cal h1 (ex 2 rfl) (fun _ _ => rfl), zt_grnd h2 (fun k k1 k2 => ex k (d k (by omega))) (fun _ _ _ => rfl) (fun _ _ _ => rfl), zt_prog h3 (fun k k1 k2 => ex k (d k (by omega))) (fun _ _ _ => rfl), zt_exit h4 (fun k k1 k2 => ex k (d2 k (by omega) k1)) (fun _ _ _ => rfl), zt_bars h5 (fun k k1 k2 => ex k (d2 k (by omega) (by omega))) (fun _ _ _ => rfl), zt_shft h6 (fun k k1 k2 => ex k (d4 k (by omega) k1)) (fun _ _ _ => rfl), zt_powr h7 (fun k k1 k2 => ex k (d3 k (by omega) (by omega))) (fun _ _ _ => rfl), zt_purs h8 (fun k k1 k2 => ex k (d5 k (by omega) (by omega))) (by rw [e2]; exact ⟨rfl, rfl, rfl⟩) (fun _ _ _ => rfl) (fun _ _ => rfl)⟩, zu_c_of hu (congrFun (ex 0 rfl) 4) (congrFun (ex 0 rfl) 5) (by rw [e2]) (fun k k1 k2 => ⟨ex k (e51 k k1), by rw [e2]⟩), ?_⟩
  rcases hg with ⟨g1, g2⟩ | ⟨g, g1, g2, g3⟩
  · exact .inl ⟨g1, (congrFun (ex 47 rfl) 2).trans g2⟩
  · refine .inr ⟨g, g1, (congrFun (ex 47 rfl) 2).trans g2, fun k hk => ?_⟩
    rw [ex 48 rfl]
    exact g3 k hk
theorem zi_ok_s {n : Nat} {s : zi_St} {L : List zi_St} {G : Option (Nat → Nat)} (h : zi_ok n s L G) : zi_ok (n + 1) s L G := ⟨zv_ok h.1, fun t ht => zv_ok (h.2.1 t ht), h.2.2⟩
theorem zi_query {n : Nat} {c c' r r' : rj_M} (h : zi_I n c r) (hc : zo_cst c c') (hr : zo_rst r r') : zi_op n c c' r r' := by
  obtain ⟨s, L, G, h1, h2, h3⟩ := h
  exact ⟨⟨s, L, G, zi_c_cst h1 hc, zi_r_rst h2 hr, zi_ok_s h3⟩, zi_fc_cst hc, zi_fr_rst hr⟩
theorem zo_cst_rfl {c : rj_M} : zo_cst c c := ⟨fun _ _ => rfl, rfl⟩
/-- the core of a setter of one number -/
theorem zi_core {n x k i m : Nat} {v : Int32} {c r : rj_M} {s : zi_St} {L : List zi_St} {G : Option (Nat → Nat)} (h : zi_c c s L G) (h' : zi_r r s L G) (ok : zi_ok n s L G) (hk1 : 1 ≤ k) (hk2 : k < 44) (hv : v = nI m) (hx : x < 452) (hm : ∀ t, zr_mom t 1 s.1 s.2 → zr_mom (rj_pi t k i v) 1 (zg_up s.1 x m) s.2) (hok : zo_ok (zg_up s.1 x m) s.2 (n + 1)) : qX11_beginChange c ∧ qX12_keeps (mX12_lacksT r) ∧ (rj_pi (mX12_keeps (mX12_lacksT r)) 396 x v).1 395 0 = 0 ∧ zi_op n c (rj_pi (mX11_beginChange c) k i v) r (rj_pi (mX12_keeps (mX12_lacksT r)) 396 x v) ∧ (mX11_beginChange c).1 k i = c.1 k i ∧ (mX12_keeps (mX12_lacksT r)).1 396 x = nI (s.1 x) := by
  obtain ⟨b1, b2, b3, b4, b5⟩ := zi_begin h ok.1.2.1
  have hT := zi_r_rst h' (zo_rst_of (zo_stillT (r := r)))
  obtain ⟨k1, k2, k3, k4, k5⟩ := zi_keeps hT
  have hrow : zr_row ((rj_pi (mX12_keeps (mX12_lacksT r)) 396 x v).1 396) (zg_up s.1 x m) s.2 := zr_pi2 k2.1 hx hv
  obtain ⟨s1, s2⟩ := zi_set k2 hrow
  have hcs := zi_cset (t := rj_pi (mX11_beginChange c) k i v) b2 (hm _ b2.1) (fun k' hk' => ⟨zm_pi_ne (by omega), rfl⟩) rfl
  refine ⟨b1, k1, (congrFun (zm_pi_ne (by decide)) 0).trans (k4.trans zm_T), ⟨⟨(zg_up s.1 x m, s.2), (s :: L).take 8, none, hcs, s1, hok, fun t ht => ?_, fun g hg => by cases hg⟩, zi_fc_trans b3 (zi_fc_pi (by omega)), zi_fr_trans (zi_fr_rst (zo_rst_of (zo_stillT (r := r)))) (zi_fr_trans k3 s2)⟩, congrFun (b4 k hk1 (by omega) (by omega)) i, k2.1.1 x hx⟩
  rcases List.mem_cons.mp (List.mem_of_mem_take ht) with rfl | ht
  · exact zv_ok ok.1
  · exact zv_ok (ok.2.1 t ht)
