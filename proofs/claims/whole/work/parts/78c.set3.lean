/-! SETTERS of one number, both sides -/
theorem zn_r3 {μ ν : rj_M} {a l c : Int32} {lo hi : Nat} (hl : l = nI lo) (hc : c = nI hi) (hlo : lo ≤ hi) (hn : hi + 1 < 2 ^ 31) : (fX11_needRange μ a l c = none ∧ fX12_in ν a l c = 1 ∧ ∃ m, lo ≤ m ∧ m ≤ hi ∧ a = nI m) ∨ (fX11_needRange μ a l c = some "java/lang/IllegalArgumentException" ∧ fX12_in ν a l c = 0) := by
  rcases zn_range (μ := μ) (a := a) (l := l) (c := c) with ⟨e1, e2⟩ | ⟨e1, e2⟩
  · refine .inl ⟨e1, e2, ?_⟩
    subst hl
    subst hc
    unfold fX12_in at e2
    by_cases h1 : a < nI lo
    · rw [if_pos h1] at e2
      exact absurd e2 (by decide)
    · rw [if_neg h1] at e2
      by_cases h2 : nI hi < a
      · rw [if_pos h2] at e2
        exact absurd e2 (by decide)
      · rcases pk_ix a hn with h | h | ⟨j, h3, rfl⟩
        · have h4 : (0 : Int32) ≤ nI lo := nI_le (a := 0) (Nat.zero_le _) (by omega)
          exact absurd (Int32.lt_of_lt_of_le h h4) h1
        · exact absurd (Int32.lt_of_lt_of_le (nI_lt (Nat.lt_succ_self hi) hn) h) h2
        · refine ⟨j, ?_, by omega, rfl⟩
          rcases Nat.lt_or_ge j lo with h4 | h4
          · exact absurd (nI_lt h4 (by omega)) h1
          · exact h4
  · exact .inr ⟨e1, e2⟩
section zs1
variable {t : rj_M} {S : Nat → Nat} {B : Nat → Int} {k i x m n : Nat} {v : Int32}
theorem zw_row {base N : Nat} (h : ∀ j, j < N → t.1 k j = nI (S (base + j))) (hv : v = nI m) (hx : x = base + i) : ∀ j, j < N → (rj_pi t k i v).1 k j = nI (zg_up S x m (base + j)) := fun j hj => by
  by_cases e : j = i
  · rw [zm_pi, if_pos ⟨rfl, e⟩, hv, e, hx, zg_up_eq]
  · rw [zm_pi, if_neg (fun z => e z.2), zg_up_ne (by omega)]
    exact h j hj
theorem zr_mom_exit (h : zr_mom t 1 S B) (hk : 18 ≤ k ∧ k ≤ 20) (hx : 311 ≤ x ∧ x < 330) (hX : zr_exit (rj_pi t k i v) 1 (zg_up S x m)) : zr_mom (rj_pi t k i v) 1 (zg_up S x m) B := by
  obtain ⟨h1, h2, h3, h4, h5, h6, h7, h8⟩ := h
  exact ⟨zt_cal h1 (zm_pi_ne (by omega)) (fun y hy => zg_up_ne (by omega)), zt_grnd h2 (fun y y1 y2 => zm_pi_ne (by omega)) (fun y y1 y2 => zg_up_ne (by omega)) (fun y y1 y2 => zg_up_ne (by omega)), zt_prog h3 (fun y y1 y2 => zm_pi_ne (by omega)) (fun y y1 y2 => zg_up_ne (by omega)), hX, zt_bars h5 (fun y y1 y2 => zm_pi_ne (by omega)) (fun y y1 y2 => zg_up_ne (by omega)), zt_shft h6 (fun y y1 y2 => zm_pi_ne (by omega)) (fun y y1 y2 => zg_up_ne (by omega)), zt_powr h7 (fun y y1 y2 => zm_pi_ne (by omega)) (fun y y1 y2 => zg_up_ne (by omega)), zt_purs h8 (fun y y1 y2 => zm_pi_ne (by omega)) ⟨rfl, rfl, rfl⟩ (fun y y1 y2 => zg_up_ne (by omega)) (fun _ _ => rfl)⟩
theorem zr_mom_bars (h : zr_mom t 1 S B) (hk : 21 ≤ k ∧ k ≤ 24) (hx : 330 ≤ x ∧ x < 387) (hX : zr_bars (rj_pi t k i v) 1 (zg_up S x m)) : zr_mom (rj_pi t k i v) 1 (zg_up S x m) B := by
  obtain ⟨h1, h2, h3, h4, h5, h6, h7, h8⟩ := h
  exact ⟨zt_cal h1 (zm_pi_ne (by omega)) (fun y hy => zg_up_ne (by omega)), zt_grnd h2 (fun y y1 y2 => zm_pi_ne (by omega)) (fun y y1 y2 => zg_up_ne (by omega)) (fun y y1 y2 => zg_up_ne (by omega)), zt_prog h3 (fun y y1 y2 => zm_pi_ne (by omega)) (fun y y1 y2 => zg_up_ne (by omega)), zt_exit h4 (fun y y1 y2 => zm_pi_ne (by omega)) (fun y y1 y2 => zg_up_ne (by omega)), hX, zt_shft h6 (fun y y1 y2 => zm_pi_ne (by omega)) (fun y y1 y2 => zg_up_ne (by omega)), zt_powr h7 (fun y y1 y2 => zm_pi_ne (by omega)) (fun y y1 y2 => zg_up_ne (by omega)), zt_purs h8 (fun y y1 y2 => zm_pi_ne (by omega)) ⟨rfl, rfl, rfl⟩ (fun y y1 y2 => zg_up_ne (by omega)) (fun _ _ => rfl)⟩
theorem zr_mom_shft (h : zr_mom t 1 S B) (hk : 26 ≤ k ∧ k ≤ 27) (hx : 387 ≤ x ∧ x < 412) (hX : zr_shft (rj_pi t k i v) 1 (zg_up S x m)) : zr_mom (rj_pi t k i v) 1 (zg_up S x m) B := by
  obtain ⟨h1, h2, h3, h4, h5, h6, h7, h8⟩ := h
  exact ⟨zt_cal h1 (zm_pi_ne (by omega)) (fun y hy => zg_up_ne (by omega)), zt_grnd h2 (fun y y1 y2 => zm_pi_ne (by omega)) (fun y y1 y2 => zg_up_ne (by omega)) (fun y y1 y2 => zg_up_ne (by omega)), zt_prog h3 (fun y y1 y2 => zm_pi_ne (by omega)) (fun y y1 y2 => zg_up_ne (by omega)), zt_exit h4 (fun y y1 y2 => zm_pi_ne (by omega)) (fun y y1 y2 => zg_up_ne (by omega)), zt_bars h5 (fun y y1 y2 => zm_pi_ne (by omega)) (fun y y1 y2 => zg_up_ne (by omega)), hX, zt_powr h7 (fun y y1 y2 => zm_pi_ne (by omega)) (fun y y1 y2 => zg_up_ne (by omega)), zt_purs h8 (fun y y1 y2 => zm_pi_ne (by omega)) ⟨rfl, rfl, rfl⟩ (fun y y1 y2 => zg_up_ne (by omega)) (fun _ _ => rfl)⟩
theorem zr_mom_purs (h : zr_mom t 1 S B) (hk : 40 ≤ k ∧ k ≤ 41) (hx : 448 ≤ x ∧ x < 500) (hX : zr_purs (rj_pi t k i v) 1 (zg_up S x m) B) : zr_mom (rj_pi t k i v) 1 (zg_up S x m) B := by
  obtain ⟨h1, h2, h3, h4, h5, h6, h7, h8⟩ := h
  exact ⟨zt_cal h1 (zm_pi_ne (by omega)) (fun y hy => zg_up_ne (by omega)), zt_grnd h2 (fun y y1 y2 => zm_pi_ne (by omega)) (fun y y1 y2 => zg_up_ne (by omega)) (fun y y1 y2 => zg_up_ne (by omega)), zt_prog h3 (fun y y1 y2 => zm_pi_ne (by omega)) (fun y y1 y2 => zg_up_ne (by omega)), zt_exit h4 (fun y y1 y2 => zm_pi_ne (by omega)) (fun y y1 y2 => zg_up_ne (by omega)), zt_bars h5 (fun y y1 y2 => zm_pi_ne (by omega)) (fun y y1 y2 => zg_up_ne (by omega)), zt_shft h6 (fun y y1 y2 => zm_pi_ne (by omega)) (fun y y1 y2 => zg_up_ne (by omega)), zt_powr h7 (fun y y1 y2 => zm_pi_ne (by omega)) (fun y y1 y2 => zg_up_ne (by omega)), hX⟩
theorem zr_mom_prog (h : zr_mom t 1 S B) (hk : 9 ≤ k ∧ k ≤ 14) (hx : 23 ≤ x ∧ x < 311) (hX : zr_prog (rj_pi t k i v) 1 (zg_up S x m)) : zr_mom (rj_pi t k i v) 1 (zg_up S x m) B := by
  obtain ⟨h1, h2, h3, h4, h5, h6, h7, h8⟩ := h
  exact ⟨zt_cal h1 (zm_pi_ne (by omega)) (fun y hy => zg_up_ne (by omega)), zt_grnd h2 (fun y y1 y2 => zm_pi_ne (by omega)) (fun y y1 y2 => zg_up_ne (by omega)) (fun y y1 y2 => zg_up_ne (by omega)), hX, zt_exit h4 (fun y y1 y2 => zm_pi_ne (by omega)) (fun y y1 y2 => zg_up_ne (by omega)), zt_bars h5 (fun y y1 y2 => zm_pi_ne (by omega)) (fun y y1 y2 => zg_up_ne (by omega)), zt_shft h6 (fun y y1 y2 => zm_pi_ne (by omega)) (fun y y1 y2 => zg_up_ne (by omega)), zt_powr h7 (fun y y1 y2 => zm_pi_ne (by omega)) (fun y y1 y2 => zg_up_ne (by omega)), zt_purs h8 (fun y y1 y2 => zm_pi_ne (by omega)) ⟨rfl, rfl, rfl⟩ (fun y y1 y2 => zg_up_ne (by omega)) (fun _ _ => rfl)⟩
theorem zo_ok_exit (h : zo_ok S B n) (hx : 311 ≤ x ∧ x < 330) (hX : zo_exit (zg_up S x m)) : zo_ok (zg_up S x m) B (n + 1) := by
  obtain ⟨h1, h2, h3, h4, h5, h6, h7, h8⟩ := h
  exact ⟨zv_cal h1 (fun y hy => zg_up_ne (by omega)), zv_grnd h2 (fun y y1 y2 => zg_up_ne (by omega)) (fun y y1 y2 => zg_up_ne (by omega)), zv_prog h3 (fun y y1 y2 => zg_up_ne (by omega)), hX, zv_bars h5 (fun y y1 y2 => zg_up_ne (by omega)), zv_shft h6 (fun y y1 y2 => zg_up_ne (by omega)), zv_powr h7 (fun y y1 y2 => zg_up_ne (by omega)), zv_purs h8 (fun y y1 y2 => zg_up_ne (by omega))⟩
theorem zo_ok_bars (h : zo_ok S B n) (hx : 330 ≤ x ∧ x < 387) (hX : zo_bars (zg_up S x m) (n + 1)) : zo_ok (zg_up S x m) B (n + 1) := by
  obtain ⟨h1, h2, h3, h4, h5, h6, h7, h8⟩ := h
  exact ⟨zv_cal h1 (fun y hy => zg_up_ne (by omega)), zv_grnd h2 (fun y y1 y2 => zg_up_ne (by omega)) (fun y y1 y2 => zg_up_ne (by omega)), zv_prog h3 (fun y y1 y2 => zg_up_ne (by omega)), zv_exit h4 (fun y y1 y2 => zg_up_ne (by omega)), hX, zv_shft h6 (fun y y1 y2 => zg_up_ne (by omega)), zv_powr h7 (fun y y1 y2 => zg_up_ne (by omega)), zv_purs h8 (fun y y1 y2 => zg_up_ne (by omega))⟩
theorem zo_ok_shft (h : zo_ok S B n) (hx : 387 ≤ x ∧ x < 412) (hX : zo_shft (zg_up S x m)) : zo_ok (zg_up S x m) B (n + 1) := by
  obtain ⟨h1, h2, h3, h4, h5, h6, h7, h8⟩ := h
  exact ⟨zv_cal h1 (fun y hy => zg_up_ne (by omega)), zv_grnd h2 (fun y y1 y2 => zg_up_ne (by omega)) (fun y y1 y2 => zg_up_ne (by omega)), zv_prog h3 (fun y y1 y2 => zg_up_ne (by omega)), zv_exit h4 (fun y y1 y2 => zg_up_ne (by omega)), zv_bars h5 (fun y y1 y2 => zg_up_ne (by omega)), hX, zv_powr h7 (fun y y1 y2 => zg_up_ne (by omega)), zv_purs h8 (fun y y1 y2 => zg_up_ne (by omega))⟩
theorem zo_ok_purs (h : zo_ok S B n) (hx : 448 ≤ x ∧ x < 500) (hX : zo_purs (zg_up S x m) B (n + 1)) : zo_ok (zg_up S x m) B (n + 1) := by
  obtain ⟨h1, h2, h3, h4, h5, h6, h7, h8⟩ := h
  exact ⟨zv_cal h1 (fun y hy => zg_up_ne (by omega)), zv_grnd h2 (fun y y1 y2 => zg_up_ne (by omega)) (fun y y1 y2 => zg_up_ne (by omega)), zv_prog h3 (fun y y1 y2 => zg_up_ne (by omega)), zv_exit h4 (fun y y1 y2 => zg_up_ne (by omega)), zv_bars h5 (fun y y1 y2 => zg_up_ne (by omega)), zv_shft h6 (fun y y1 y2 => zg_up_ne (by omega)), zv_powr h7 (fun y y1 y2 => zg_up_ne (by omega)), hX⟩
theorem zo_ok_prog (h : zo_ok S B n) (hx : 23 ≤ x ∧ x < 311) (hX : zo_prog (zg_up S x m)) : zo_ok (zg_up S x m) B (n + 1) := by
  obtain ⟨h1, h2, h3, h4, h5, h6, h7, h8⟩ := h
  exact ⟨zv_cal h1 (fun y hy => zg_up_ne (by omega)), zv_grnd h2 (fun y y1 y2 => zg_up_ne (by omega)) (fun y y1 y2 => zg_up_ne (by omega)), hX, zv_exit h4 (fun y y1 y2 => zg_up_ne (by omega)), zv_bars h5 (fun y y1 y2 => zg_up_ne (by omega)), zv_shft h6 (fun y y1 y2 => zg_up_ne (by omega)), zv_powr h7 (fun y y1 y2 => zg_up_ne (by omega)), zv_purs h8 (fun y y1 y2 => zg_up_ne (by omega))⟩
end zs1
section zs2
variable {c r : rj_M} {a0 a1 a2 : Int32} {n : Nat}
/-- a place, a number from 0: the shape of setGate, setCrowd, setNeed, setPrice -/
theorem zo_setPR {N M K base : Nat} {cN cN1 cM cB : Int32} (hN : cN = nI (N + 1)) (hN1 : cN1 = nI N) (hM : cM = nI M) (hB : cB = nI base) (b1 : N < 100) (b2 : M < 10000) (b3 : base + N < 452) (b4 : 1 ≤ K ∧ K < 44) (hm : ∀ (s : zi_St) j m t, j < N + 1 → m ≤ M → zr_mom t 1 s.1 s.2 → zr_mom (rj_pi t K j (nI m)) 1 (zg_up s.1 (base + j) m) s.2) (hok : ∀ (s : zi_St) j m, j < N + 1 → m ≤ M → zo_ok s.1 s.2 n → zo_ok (zg_up s.1 (base + j) m) s.2 (n + 1)) (hval : ∀ (s : zi_St), zr_mom c 1 s.1 s.2 → ∀ j, j < N + 1 → c.1 K j = nI (s.1 (base + j))) (h : zi_I n c r) :
    zo_out ["java/lang/IndexOutOfBoundsException", "java/lang/IllegalArgumentException"] (rj_bx (fX11_needPlace c a0 cN) (rj_bx (fX11_needRange c a1 0 cM) (.inl (fX11_replace (mX11_beginChange c) K (N + 1) a0 a1)))) ((if (fX12_lacks r (fX12_in r a0 0 cN1)) = 0 then (if (fX12_no (mX12_lacks r (fX12_in r a0 0 cN1)) (fX12_in (mX12_lacks r (fX12_in r a0 0 cN1)) a1 0 cM) 2) = 0 then (mX12_sets (mX12_no (mX12_lacks r (fX12_in r a0 0 cN1)) (fX12_in (mX12_lacks r (fX12_in r a0 0 cN1)) a1 0 cM) 2) (cB + a0) a1) else (mX12_no (mX12_lacks r (fX12_in r a0 0 cN1)) (fX12_in (mX12_lacks r (fX12_in r a0 0 cN1)) a1 0 cM) 2)) else (mX12_lacks r (fX12_in r a0 0 cN1))).1 395 0) (if (fX12_lacks r (fX12_in r a0 0 cN1)) = 0 then (if (fX12_no (mX12_lacks r (fX12_in r a0 0 cN1)) (fX12_in (mX12_lacks r (fX12_in r a0 0 cN1)) a1 0 cM) 2) = 0 then (fX12_sets (mX12_no (mX12_lacks r (fX12_in r a0 0 cN1)) (fX12_in (mX12_lacks r (fX12_in r a0 0 cN1)) a1 0 cM) 2) (cB + a0) a1) else 0) else 0)
    ∧ zi_op n c (rj_bm (fX11_needPlace c a0 cN) (rj_bm (fX11_needRange c a1 0 cM) (mX11_replace (mX11_beginChange c) K (N + 1) a0 a1) c) c) r (if (fX12_lacks r (fX12_in r a0 0 cN1)) = 0 then (if (fX12_no (mX12_lacks r (fX12_in r a0 0 cN1)) (fX12_in (mX12_lacks r (fX12_in r a0 0 cN1)) a1 0 cM) 2) = 0 then (mX12_sets (mX12_no (mX12_lacks r (fX12_in r a0 0 cN1)) (fX12_in (mX12_lacks r (fX12_in r a0 0 cN1)) a1 0 cM) 2) (cB + a0) a1) else (mX12_no (mX12_lacks r (fX12_in r a0 0 cN1)) (fX12_in (mX12_lacks r (fX12_in r a0 0 cN1)) a1 0 cM) 2)) else (mX12_lacks r (fX12_in r a0 0 cN1)))
    ∧ rq_bx (fX11_needPlace c a0 cN) (rq_bx (fX11_needRange c a1 0 cM) (qX11_beginChange c ∧ True))
    ∧ ((((fX12_lacks r (fX12_in r a0 0 cN1)) = 0) → ((((fX12_no (mX12_lacks r (fX12_in r a0 0 cN1)) (fX12_in (mX12_lacks r (fX12_in r a0 0 cN1)) a1 0 cM) 2) = 0) → (vp_in (cB + a0) 625 ∧ qX12_sets (mX12_no (mX12_lacks r (fX12_in r a0 0 cN1)) (fX12_in (mX12_lacks r (fX12_in r a0 0 cN1)) a1 0 cM) 2) (cB + a0) a1 ∧ True)) ∧ ((¬ ((fX12_no (mX12_lacks r (fX12_in r a0 0 cN1)) (fX12_in (mX12_lacks r (fX12_in r a0 0 cN1)) a1 0 cM) 2) = 0)) → True))) ∧ ((¬ ((fX12_lacks r (fX12_in r a0 0 cN1)) = 0)) → True)) := by
  rcases zn_p2 (μ := c) (ν := r) (a := a0) hN hN1 (by omega) with ⟨e1, e2, x, hx, rfl⟩ | ⟨e1, e2⟩
  · rw [e1, e2, zm_lacks1.1, zm_lacks1.2, if_pos rfl, if_pos rfl, zm_bmn]
    rcases zn_r2 (μ := c) (ν := mX12_lacksT r) (a := a1) hM (by omega) with ⟨e3, e4, m, hm', rfl⟩ | ⟨e3, e4⟩
    · rw [e3, e4, zm_no1.1, zm_no1.2, if_pos rfl, if_pos rfl, zm_bmn]
      obtain ⟨s, L, G, h1, h2, ok⟩ := h
      have hb : cB + nI x = nI (base + x) := by rw [hB, nI_add]
      have hrep := zm_rep (μ := mX11_beginChange c) (k := K) (n := N + 1) (v := nI m) (j := x) rfl hx (by omega)
      obtain ⟨c1, c2, c3, c4, c5, c6⟩ := zi_core (x := base + x) (k := K) (i := x) (m := m) (v := nI m) h1 h2 ok b4.1 b4.2 rfl (by omega) (fun t ht => hm s x m t hx (by omega) ht) (hok s x m hx (by omega) ok.1)
      unfold mX12_sets fX12_sets qX12_sets
      rw [hrep.1, hrep.2, hb, nI_clamp (by omega), c3, c5, c6, hval s h1.1 x hx]
      exact ⟨⟨rfl, rfl⟩, c4, ⟨c1, trivial⟩, fun _ => ⟨fun _ => ⟨vp_in_nI (by omega) (by decide), ⟨c2, trivial⟩, trivial⟩, fun _ => trivial⟩, fun _ => trivial⟩
    · rw [e3, e4, zm_no0.1, zm_no0.2, if_neg (show ¬ (1 : Int32) = 0 by decide), if_neg (show ¬ (1 : Int32) = 0 by decide), zm_bms]
      have h1 : (rj_pi (mX12_lacksT r) 395 0 2).1 395 0 = 2 := zm_pi_eq
      rw [h1]
      exact ⟨zh_2 (by decide), zi_query h zo_cst_rfl (zo_rst_of zo_stillF2), trivial, fun _ => ⟨fun z => absurd z (by decide), fun _ => trivial⟩, fun _ => trivial⟩
  · rw [e1, e2, zm_lacks0.1, zm_lacks0.2, if_neg (show ¬ (1 : Int32) = 0 by decide), if_neg (show ¬ (1 : Int32) = 0 by decide), zm_bms, zm_F]
    exact ⟨zh_1, zi_query h zo_cst_rfl (zo_rst_of zo_stillF), trivial, fun z => absurd z (by decide), fun _ => trivial⟩
theorem zo_setGate (h : zi_I n c r) : zo_out ["java/lang/IndexOutOfBoundsException", "java/lang/IllegalArgumentException"] (fX11_setGate c a0 a1) ((mX12_setGate r a0 a1).1 395 0) (fX12_setGate r a0 a1) ∧ zi_op n c (mX11_setGate c a0 a1) r (mX12_setGate r a0 a1) ∧ qX11_setGate c a0 a1 ∧ qX12_setGate r a0 a1 := by
  unfold fX11_setGate mX12_setGate fX12_setGate mX11_setGate qX11_setGate qX12_setGate fX12_isGate
  exact zo_setPR (N := 2) (M := 50) (K := 18) (base := 311) rfl rfl rfl rfl (by decide) (by decide) (by decide) (by decide) (fun s j m t hj hm ht => zr_mom_exit ht (by decide) (by omega) ⟨zw_row ht.2.2.2.1.1 rfl rfl, fun p hp => by rw [zm_pi_ne (by decide), zg_up_ne (by omega)]; exact ht.2.2.2.1.2.1 p hp, fun p hp => by rw [zm_pi_ne (by decide), zg_up_ne (by omega)]; exact ht.2.2.2.1.2.2 p hp⟩) (fun s j m hj hm ok => zo_ok_exit ok (by omega) ⟨fun k hk => by
    by_cases e : k = j
    · rw [e, zg_up_eq]
      exact hm
    · rw [zg_up_ne (by omega)]
      exact ok.2.2.2.1.1 k hk, fun p hp => by rw [zg_up_ne (by omega)]; exact ok.2.2.2.1.2.1 p hp, fun p hp => by rw [zg_up_ne (by omega)]; exact ok.2.2.2.1.2.2 p hp⟩) (fun s hs j hj => hs.2.2.2.1.1 j hj) h
theorem zo_setCrowd (h : zi_I n c r) : zo_out ["java/lang/IndexOutOfBoundsException", "java/lang/IllegalArgumentException"] (fX11_setCrowd c a0 a1) ((mX12_setCrowd r a0 a1).1 395 0) (fX12_setCrowd r a0 a1) ∧ zi_op n c (mX11_setCrowd c a0 a1) r (mX12_setCrowd r a0 a1) ∧ qX11_setCrowd c a0 a1 ∧ qX12_setCrowd r a0 a1 := by
  unfold fX11_setCrowd mX12_setCrowd fX12_setCrowd mX11_setCrowd qX11_setCrowd qX12_setCrowd fX12_isStage
  exact zo_setPR (N := 3) (M := 2000) (K := 20) (base := 326) rfl rfl rfl rfl (by decide) (by decide) (by decide) (by decide) (fun s j m t hj hm ht => zr_mom_exit ht (by decide) (by omega) ⟨fun p hp => by rw [zm_pi_ne (by decide), zg_up_ne (by omega)]; exact ht.2.2.2.1.1 p hp, fun p hp => by rw [zm_pi_ne (by decide), zg_up_ne (by omega)]; exact ht.2.2.2.1.2.1 p hp, zw_row ht.2.2.2.1.2.2 rfl rfl⟩) (fun s j m hj hm ok => zo_ok_exit ok (by omega) ⟨fun p hp => by rw [zg_up_ne (by omega)]; exact ok.2.2.2.1.1 p hp, fun p hp => by rw [zg_up_ne (by omega)]; exact ok.2.2.2.1.2.1 p hp, fun k hk => by
    by_cases e : k = j
    · rw [e, zg_up_eq]
      exact hm
    · rw [zg_up_ne (by omega)]
      exact ok.2.2.2.1.2.2 k hk⟩) (fun s hs j hj => hs.2.2.2.1.2.2 j hj) h
theorem zo_setNeed (h : zi_I n c r) : zo_out ["java/lang/IndexOutOfBoundsException", "java/lang/IllegalArgumentException"] (fX11_setNeed c a0 a1) ((mX12_setNeed r a0 a1).1 395 0) (fX12_setNeed r a0 a1) ∧ zi_op n c (mX11_setNeed c a0 a1) r (mX12_setNeed r a0 a1) ∧ qX11_setNeed c a0 a1 ∧ qX12_setNeed r a0 a1 := by
  unfold fX11_setNeed mX12_setNeed fX12_setNeed mX11_setNeed qX11_setNeed qX12_setNeed fX12_isHour
  exact zo_setPR (N := 23) (M := 9) (K := 27) (base := 387) rfl rfl rfl rfl (by decide) (by decide) (by decide) (by decide) (fun s j m t hj hm ht => zr_mom_shft ht (by decide) (by omega) ⟨by rw [zm_pi_ne (by decide), zg_up_ne (by omega)]; exact ht.2.2.2.2.2.1.1, zw_row ht.2.2.2.2.2.1.2 rfl rfl⟩) (fun s j m hj hm ok => zo_ok_shft ok (by omega) ⟨by rw [zg_up_ne (by omega)]; exact ok.2.2.2.2.2.1.1, by rw [zg_up_ne (by omega)]; exact ok.2.2.2.2.2.1.2.1, fun k hk => by
    by_cases e : k = j
    · rw [e, zg_up_eq]
      exact hm
    · rw [zg_up_ne (by omega)]
      exact ok.2.2.2.2.2.1.2.2 k hk⟩) (fun s hs j hj => hs.2.2.2.2.2.1.2 j hj) h
theorem zo_setPrice (h : zi_I n c r) : zo_out ["java/lang/IndexOutOfBoundsException", "java/lang/IllegalArgumentException"] (fX11_setPrice c a0 a1) ((mX12_setPrice r a0 a1).1 395 0) (fX12_setPrice r a0 a1) ∧ zi_op n c (mX11_setPrice c a0 a1) r (mX12_setPrice r a0 a1) ∧ qX11_setPrice c a0 a1 ∧ qX12_setPrice r a0 a1 := by
  unfold fX11_setPrice mX12_setPrice fX12_setPrice mX11_setPrice qX11_setPrice qX12_setPrice fX12_isDay
  exact zo_setPR (N := 3) (M := 500) (K := 40) (base := 448) rfl rfl rfl rfl (by decide) (by decide) (by decide) (by decide) (fun s j m t hj hm ht => zr_mom_purs ht (by decide) (by omega) ⟨zw_row ht.2.2.2.2.2.2.2.1 rfl rfl, fun p hp => by rw [zm_pi_ne (by decide), zg_up_ne (by omega)]; exact ht.2.2.2.2.2.2.2.2.1 p hp, ht.2.2.2.2.2.2.2.2.2⟩) (fun s j m hj hm ok => zo_ok_purs ok (by omega) (by
    obtain ⟨p1, p2, p3, p4, p5⟩ := zv_purs ok.2.2.2.2.2.2.2 (S' := s.1) (fun _ _ _ => rfl)
    exact ⟨fun k hk => by
      by_cases e : k = j
      · rw [e, zg_up_eq]
        exact hm
      · rw [zg_up_ne (by omega)]
        exact p1 k hk, fun k hk => by rw [zg_up_ne (by omega)]; exact p2 k hk, p3, p4, p5⟩)) (fun s hs j hj => hs.2.2.2.2.2.2.2.1 j hj) h
end zs2
