/-! SETTERS of several numbers: the frames; setOpen, lose, setGenerator, setDate, setWay -/
section zs5
variable {c t : rj_M} {S S' : Nat → Nat} {B B' : Nat → Int} {n : Nat}
theorem zr_momC (h : zr_mom c 1 S B) (e : ∀ k, k ≠ 2 → t.1 k = c.1 k) (e2 : t.2 = c.2) (f : ∀ x, 3 ≤ x → S' x = S x) (hX : zr_cal t 1 S') : zr_mom t 1 S' B := by
  obtain ⟨h1, h2, h3, h4, h5, h6, h7, h8⟩ := h
  exact ⟨hX, zt_grnd h2 (fun y y1 y2 => e y (by omega)) (fun y y1 y2 => f y (by omega)) (fun y y1 y2 => f y (by omega)), zt_prog h3 (fun y y1 y2 => e y (by omega)) (fun y y1 y2 => f y (by omega)), zt_exit h4 (fun y y1 y2 => e y (by omega)) (fun y y1 y2 => f y (by omega)), zt_bars h5 (fun y y1 y2 => e y (by omega)) (fun y y1 y2 => f y (by omega)), zt_shft h6 (fun y y1 y2 => e y (by omega)) (fun y y1 y2 => f y (by omega)), zt_powr h7 (fun y y1 y2 => e y (by omega)) (fun y y1 y2 => f y (by omega)), zt_purs h8 (fun y y1 y2 => e y (by omega)) (by rw [e2]; exact ⟨rfl, rfl, rfl⟩) (fun y y1 y2 => f y (by omega)) (fun _ _ => rfl)⟩
theorem zr_momG (h : zr_mom c 1 S B) (e : ∀ k, k < 4 ∨ 7 < k → t.1 k = c.1 k) (e2 : t.2 = c.2) (f : ∀ x, x < 3 ∨ (23 ≤ x ∧ x < 525) → S' x = S x) (hX : zr_grnd t 1 S') : zr_mom t 1 S' B := by
  obtain ⟨h1, h2, h3, h4, h5, h6, h7, h8⟩ := h
  exact ⟨zt_cal h1 (e 2 (by omega)) (fun y hy => f y (by omega)), hX, zt_prog h3 (fun y y1 y2 => e y (by omega)) (fun y y1 y2 => f y (by omega)), zt_exit h4 (fun y y1 y2 => e y (by omega)) (fun y y1 y2 => f y (by omega)), zt_bars h5 (fun y y1 y2 => e y (by omega)) (fun y y1 y2 => f y (by omega)), zt_shft h6 (fun y y1 y2 => e y (by omega)) (fun y y1 y2 => f y (by omega)), zt_powr h7 (fun y y1 y2 => e y (by omega)) (fun y y1 y2 => f y (by omega)), zt_purs h8 (fun y y1 y2 => e y (by omega)) (by rw [e2]; exact ⟨rfl, rfl, rfl⟩) (fun y y1 y2 => f y (by omega)) (fun _ _ => rfl)⟩
theorem zr_momP (h : zr_mom c 1 S B) (e : ∀ k, k < 9 ∨ 14 < k → t.1 k = c.1 k) (e2 : t.2 = c.2) (f : ∀ x, x < 23 ∨ 311 ≤ x → S' x = S x) (hX : zr_prog t 1 S') : zr_mom t 1 S' B := by
  obtain ⟨h1, h2, h3, h4, h5, h6, h7, h8⟩ := h
  exact ⟨zt_cal h1 (e 2 (by omega)) (fun y hy => f y (by omega)), zt_grnd h2 (fun y y1 y2 => e y (by omega)) (fun y y1 y2 => f y (by omega)) (fun y y1 y2 => f y (by omega)), hX, zt_exit h4 (fun y y1 y2 => e y (by omega)) (fun y y1 y2 => f y (by omega)), zt_bars h5 (fun y y1 y2 => e y (by omega)) (fun y y1 y2 => f y (by omega)), zt_shft h6 (fun y y1 y2 => e y (by omega)) (fun y y1 y2 => f y (by omega)), zt_powr h7 (fun y y1 y2 => e y (by omega)) (fun y y1 y2 => f y (by omega)), zt_purs h8 (fun y y1 y2 => e y (by omega)) (by rw [e2]; exact ⟨rfl, rfl, rfl⟩) (fun y y1 y2 => f y (by omega)) (fun _ _ => rfl)⟩
theorem zr_momB (h : zr_mom c 1 S B) (e : ∀ k, k < 21 ∨ 24 < k → t.1 k = c.1 k) (e2 : t.2 = c.2) (f : ∀ x, x < 330 ∨ 387 ≤ x → S' x = S x) (hX : zr_bars t 1 S') : zr_mom t 1 S' B := by
  obtain ⟨h1, h2, h3, h4, h5, h6, h7, h8⟩ := h
  exact ⟨zt_cal h1 (e 2 (by omega)) (fun y hy => f y (by omega)), zt_grnd h2 (fun y y1 y2 => e y (by omega)) (fun y y1 y2 => f y (by omega)) (fun y y1 y2 => f y (by omega)), zt_prog h3 (fun y y1 y2 => e y (by omega)) (fun y y1 y2 => f y (by omega)), zt_exit h4 (fun y y1 y2 => e y (by omega)) (fun y y1 y2 => f y (by omega)), hX, zt_shft h6 (fun y y1 y2 => e y (by omega)) (fun y y1 y2 => f y (by omega)), zt_powr h7 (fun y y1 y2 => e y (by omega)) (fun y y1 y2 => f y (by omega)), zt_purs h8 (fun y y1 y2 => e y (by omega)) (by rw [e2]; exact ⟨rfl, rfl, rfl⟩) (fun y y1 y2 => f y (by omega)) (fun _ _ => rfl)⟩
theorem zr_momW (h : zr_mom c 1 S B) (e : ∀ k, k < 31 ∨ 34 < k → t.1 k = c.1 k) (e2 : t.2 = c.2) (f : ∀ x, x < 412 ∨ 448 ≤ x → S' x = S x) (hX : zr_powr t 1 S') : zr_mom t 1 S' B := by
  obtain ⟨h1, h2, h3, h4, h5, h6, h7, h8⟩ := h
  exact ⟨zt_cal h1 (e 2 (by omega)) (fun y hy => f y (by omega)), zt_grnd h2 (fun y y1 y2 => e y (by omega)) (fun y y1 y2 => f y (by omega)) (fun y y1 y2 => f y (by omega)), zt_prog h3 (fun y y1 y2 => e y (by omega)) (fun y y1 y2 => f y (by omega)), zt_exit h4 (fun y y1 y2 => e y (by omega)) (fun y y1 y2 => f y (by omega)), zt_bars h5 (fun y y1 y2 => e y (by omega)) (fun y y1 y2 => f y (by omega)), zt_shft h6 (fun y y1 y2 => e y (by omega)) (fun y y1 y2 => f y (by omega)), hX, zt_purs h8 (fun y y1 y2 => e y (by omega)) (by rw [e2]; exact ⟨rfl, rfl, rfl⟩) (fun y y1 y2 => f y (by omega)) (fun _ _ => rfl)⟩
theorem zr_momU (h : zr_mom c 1 S B) (e : ∀ k, k < 40 ∨ 41 < k → t.1 k = c.1 k) (f : ∀ x, x < 448 ∨ 500 ≤ x → S' x = S x) (hX : zr_purs t 1 S' B') : zr_mom t 1 S' B' := by
  obtain ⟨h1, h2, h3, h4, h5, h6, h7, h8⟩ := h
  exact ⟨zt_cal h1 (e 2 (by omega)) (fun y hy => f y (by omega)), zt_grnd h2 (fun y y1 y2 => e y (by omega)) (fun y y1 y2 => f y (by omega)) (fun y y1 y2 => f y (by omega)), zt_prog h3 (fun y y1 y2 => e y (by omega)) (fun y y1 y2 => f y (by omega)), zt_exit h4 (fun y y1 y2 => e y (by omega)) (fun y y1 y2 => f y (by omega)), zt_bars h5 (fun y y1 y2 => e y (by omega)) (fun y y1 y2 => f y (by omega)), zt_shft h6 (fun y y1 y2 => e y (by omega)) (fun y y1 y2 => f y (by omega)), zt_powr h7 (fun y y1 y2 => e y (by omega)) (fun y y1 y2 => f y (by omega)), hX⟩
theorem zo_okC (h : zo_ok S B n) (f : ∀ x, 3 ≤ x → S' x = S x) (hX : zo_cal S') : zo_ok S' B (n + 1) := by
  obtain ⟨h1, h2, h3, h4, h5, h6, h7, h8⟩ := h
  exact ⟨hX, zv_grnd h2 (fun y y1 y2 => f y (by omega)) (fun y y1 y2 => f y (by omega)), zv_prog h3 (fun y y1 y2 => f y (by omega)), zv_exit h4 (fun y y1 y2 => f y (by omega)), zv_bars h5 (fun y y1 y2 => f y (by omega)), zv_shft h6 (fun y y1 y2 => f y (by omega)), zv_powr h7 (fun y y1 y2 => f y (by omega)), zv_purs h8 (fun y y1 y2 => f y (by omega))⟩
theorem zo_okG (h : zo_ok S B n) (f : ∀ x, x < 3 ∨ (23 ≤ x ∧ x < 525) → S' x = S x) (hX : zo_grnd S') : zo_ok S' B (n + 1) := by
  obtain ⟨h1, h2, h3, h4, h5, h6, h7, h8⟩ := h
  exact ⟨zv_cal h1 (fun y hy => f y (by omega)), hX, zv_prog h3 (fun y y1 y2 => f y (by omega)), zv_exit h4 (fun y y1 y2 => f y (by omega)), zv_bars h5 (fun y y1 y2 => f y (by omega)), zv_shft h6 (fun y y1 y2 => f y (by omega)), zv_powr h7 (fun y y1 y2 => f y (by omega)), zv_purs h8 (fun y y1 y2 => f y (by omega))⟩
theorem zo_okP (h : zo_ok S B n) (f : ∀ x, x < 23 ∨ 311 ≤ x → S' x = S x) (hX : zo_prog S') : zo_ok S' B (n + 1) := by
  obtain ⟨h1, h2, h3, h4, h5, h6, h7, h8⟩ := h
  exact ⟨zv_cal h1 (fun y hy => f y (by omega)), zv_grnd h2 (fun y y1 y2 => f y (by omega)) (fun y y1 y2 => f y (by omega)), hX, zv_exit h4 (fun y y1 y2 => f y (by omega)), zv_bars h5 (fun y y1 y2 => f y (by omega)), zv_shft h6 (fun y y1 y2 => f y (by omega)), zv_powr h7 (fun y y1 y2 => f y (by omega)), zv_purs h8 (fun y y1 y2 => f y (by omega))⟩
theorem zo_okB (h : zo_ok S B n) (f : ∀ x, x < 330 ∨ 387 ≤ x → S' x = S x) (hX : zo_bars S' (n + 1)) : zo_ok S' B (n + 1) := by
  obtain ⟨h1, h2, h3, h4, h5, h6, h7, h8⟩ := h
  exact ⟨zv_cal h1 (fun y hy => f y (by omega)), zv_grnd h2 (fun y y1 y2 => f y (by omega)) (fun y y1 y2 => f y (by omega)), zv_prog h3 (fun y y1 y2 => f y (by omega)), zv_exit h4 (fun y y1 y2 => f y (by omega)), hX, zv_shft h6 (fun y y1 y2 => f y (by omega)), zv_powr h7 (fun y y1 y2 => f y (by omega)), zv_purs h8 (fun y y1 y2 => f y (by omega))⟩
theorem zo_okW (h : zo_ok S B n) (f : ∀ x, x < 412 ∨ 448 ≤ x → S' x = S x) (hX : zo_powr S') : zo_ok S' B (n + 1) := by
  obtain ⟨h1, h2, h3, h4, h5, h6, h7, h8⟩ := h
  exact ⟨zv_cal h1 (fun y hy => f y (by omega)), zv_grnd h2 (fun y y1 y2 => f y (by omega)) (fun y y1 y2 => f y (by omega)), zv_prog h3 (fun y y1 y2 => f y (by omega)), zv_exit h4 (fun y y1 y2 => f y (by omega)), zv_bars h5 (fun y y1 y2 => f y (by omega)), zv_shft h6 (fun y y1 y2 => f y (by omega)), hX, zv_purs h8 (fun y y1 y2 => f y (by omega))⟩
theorem zo_okU (h : zo_ok S B n) (f : ∀ x, x < 448 ∨ 500 ≤ x → S' x = S x) (hX : zo_purs S' B' (n + 1)) : zo_ok S' B' (n + 1) := by
  obtain ⟨h1, h2, h3, h4, h5, h6, h7, h8⟩ := h
  exact ⟨zv_cal h1 (fun y hy => f y (by omega)), zv_grnd h2 (fun y y1 y2 => f y (by omega)) (fun y y1 y2 => f y (by omega)), zv_prog h3 (fun y y1 y2 => f y (by omega)), zv_exit h4 (fun y y1 y2 => f y (by omega)), zv_bars h5 (fun y y1 y2 => f y (by omega)), zv_shft h6 (fun y y1 y2 => f y (by omega)), zv_powr h7 (fun y y1 y2 => f y (by omega)), hX⟩
end zs5
section zs6
variable {c r : rj_M} {a0 a1 a2 a3 : Int32} {n : Nat}
theorem zo_setGenerator (h : zi_I n c r) : zo_out ["java/lang/IndexOutOfBoundsException", "java/lang/IllegalArgumentException"] (fX11_setGenerator c a0 a1 a2 a3) ((mX12_setGenerator r a0 a1 a2 a3).1 395 0) (fX12_setGenerator r a0 a1 a2 a3) ∧ zi_op n c (mX11_setGenerator c a0 a1 a2 a3) r (mX12_setGenerator r a0 a1 a2 a3) ∧ qX11_setGenerator c a0 a1 a2 a3 ∧ qX12_setGenerator r a0 a1 a2 a3 := by
  unfold fX11_setGenerator mX12_setGenerator fX12_setGenerator mX11_setGenerator qX11_setGenerator qX12_setGenerator
  rcases zn_p2 (μ := c) (ν := r) (a := a0) (c := 4) (d := 3) (n := 3) rfl rfl (by decide) with ⟨e1, e2, x, hx, rfl⟩ | ⟨e1, e2⟩
  · rw [e1, e2, zm_lacks1.1, zm_lacks1.2, if_pos rfl, if_pos rfl, zm_bmn]
    have bad : zo_out ["java/lang/IndexOutOfBoundsException", "java/lang/IllegalArgumentException"] (α := Int32) (.inr "java/lang/IllegalArgumentException") ((mX12_noF (mX12_lacksT r) 2).1 395 0) 0 ∧ zi_op n c c r (mX12_noF (mX12_lacksT r) 2) := by
      rw [zm_F2]
      exact ⟨zh_2 (by decide), zi_query h zo_cst_rfl (zo_rst_of zo_stillF2)⟩
    rcases zn_r2 (μ := c) (ν := mX12_lacksT r) (a := a1) (c := 200) (n := 200) rfl (by decide) with ⟨e3, e4, m1, hm1, rfl⟩ | ⟨e3, e4⟩
    · rw [e3, e4, if_neg (show ¬ (1 : Int32) = 0 by decide), if_neg (show ¬ (1 : Int32) = 0 by decide), zm_bmn]
      rcases zn_r2 (μ := c) (ν := mX12_lacksT r) (a := a2) (c := 100) (n := 100) rfl (by decide) with ⟨e5, e6, m2, hm2, rfl⟩ | ⟨e5, e6⟩
      · rw [e5, e6, if_neg (show ¬ (1 : Int32) = 0 by decide), if_neg (show ¬ (1 : Int32) = 0 by decide), zm_bmn]
        rcases zn_r2 (μ := c) (ν := mX12_lacksT r) (a := a3) (c := 100) (n := 100) rfl (by decide) with ⟨e7, e8, m3, hm3, rfl⟩ | ⟨e7, e8⟩
        · rw [e7, e8, if_neg (show ¬ (1 : Int32) = 0 by decide), if_neg (show ¬ (1 : Int32) = 0 by decide), zm_bmn]
          obtain ⟨s, L, G, h1, h2, ok⟩ := h
          have hb : 436 + 3 * nI x = nI (436 + 3 * x) := by rw [show 3 * nI x = nI (3 * x) from pk_mul 3 x, show (436 : Int32) = nI 436 from rfl, nI_add]
          have hb1 : nI (436 + 3 * x) + 1 = nI (436 + 3 * x + 1) := nI_1 _
          have hb2 : nI (436 + 3 * x) + 2 = nI (436 + 3 * x + 2) := by rw [show (2 : Int32) = nI 2 from rfl, nI_add]
          have r1 := zm_rep (μ := mX11_beginChange c) (k := 33) (n := 4) (v := nI m2) (j := x) rfl hx (by decide)
          have r2 := zm_rep (μ := rj_pi (mX11_beginChange c) 33 x (nI m2)) (k := 34) (n := 4) (v := nI m3) (j := x) rfl hx (by decide)
          have r3 := zm_rep (μ := rj_pi (rj_pi (mX11_beginChange c) 33 x (nI m2)) 34 x (nI m3)) (k := 32) (n := 4) (v := nI m1) (j := x) rfl hx (by decide)
          unfold mX12_sets fX12_sets qX12_sets
          rw [r1.1, r2.1, r3.1, r3.2, hb, hb1, hb2, nI_clamp (by omega), nI_clamp (by omega), nI_clamp (by omega)]
          generalize hc1 : mX11_beginChange c = c1
          generalize hr1 : mX12_keeps (mX12_lacksT r) = q1
          obtain ⟨c1', c2', c3', c4'⟩ := zi_gen (S' := zg_up (zg_up (zg_up s.1 (436 + 3 * x) m1) (436 + 3 * x + 1) m2) (436 + 3 * x + 2) m3) (B' := s.2) (t := rj_pi (rj_pi (rj_pi c1 33 x (nI m2)) 34 x (nI m3)) 32 x (nI m1)) (u := rj_pi (rj_pi (rj_pi q1 396 (436 + 3 * x) (nI m1)) 396 (436 + 3 * x + 1) (nI m2)) 396 (436 + 3 * x + 2) (nI m3)) h1 h2 ok (fun d hd hm => by
            rw [hc1] at hd
            subst hd
            refine ⟨zr_momW hm (fun k hk => by rw [zm_pi_ne (by omega), zm_pi_ne (by omega), zm_pi_ne (by omega)]) rfl (fun y hy => by rw [zg_up_ne (by omega), zg_up_ne (by omega), zg_up_ne (by omega)]) ⟨fun k hk => by rw [zm_pi_ne (by decide), zm_pi_ne (by decide), zm_pi_ne (by decide), zg_up_ne (by omega), zg_up_ne (by omega), zg_up_ne (by omega)]; exact hm.2.2.2.2.2.2.1.1 k hk, fun g hg => ?_⟩, fun k hk => ⟨by rw [zm_pi_ne (by omega), zm_pi_ne (by omega), zm_pi_ne (by omega)], rfl⟩, rfl⟩
            have := hm.2.2.2.2.2.2.1.2 g hg
            by_cases e : g = x
            · subst e
              refine ⟨?_, ?_, ?_⟩
              · rw [zg_up_ne (by omega), zg_up_ne (by omega), zg_up_eq]
                exact zm_pi_eq
              · rw [show 437 + 3 * g = 436 + 3 * g + 1 by omega, zg_up_ne (by omega), zg_up_eq, zm_pi_ne (by decide), zm_pi_ne (by decide)]
                exact zm_pi_eq
              · rw [show 438 + 3 * g = 436 + 3 * g + 2 by omega, zg_up_eq, zm_pi_ne (by decide)]
                exact zm_pi_eq
            · refine ⟨?_, ?_, ?_⟩
              · rw [zg_up_ne (by omega), zg_up_ne (by omega), zg_up_ne (by omega), zm_pi_ne2 e, zm_pi_ne (by decide), zm_pi_ne (by decide)]
                exact this.1
              · rw [zg_up_ne (by omega), zg_up_ne (by omega), zg_up_ne (by omega), zm_pi_ne (by decide), zm_pi_ne (by decide), zm_pi_ne2 e]
                exact this.2.1
              · rw [zg_up_ne (by omega), zg_up_ne (by omega), zg_up_ne (by omega), zm_pi_ne (by decide), zm_pi_ne2 e, zm_pi_ne (by decide)]
                exact this.2.2) (fun d hd hm => by
            rw [hr1] at hd
            subst hd
            exact ⟨zr_pi2 (zr_pi2 (zr_pi2 hm (by omega) rfl) (by omega) rfl) (by omega) rfl, fun k e1 e2 => by rw [zm_pi_ne e2, zm_pi_ne e2, zm_pi_ne e2], fun i _ => by rw [zm_pi_ne (by decide), zm_pi_ne (by decide), zm_pi_ne (by decide)], rfl⟩) (zo_okW ok.1 (fun y hy => by rw [zg_up_ne (by omega), zg_up_ne (by omega), zg_up_ne (by omega)]) ⟨fun k hk => by rw [zg_up_ne (by omega), zg_up_ne (by omega), zg_up_ne (by omega)]; exact ok.1.2.2.2.2.2.2.1.1 k hk, fun g hg => by
            have := ok.1.2.2.2.2.2.2.1.2 g hg
            unfold zg_up
            refine ⟨?_, ?_, ?_⟩ <;> (repeat' split) <;> omega⟩)
          have hkr := zi_keeps (zi_r_rst h2 (zo_rst_of (zo_stillT (r := r))))
          obtain ⟨b1, b2, b3, b4, b5⟩ := zi_begin h1 ok.1.2.1
          rw [hr1] at hkr
          rw [hc1] at b4
          rw [c3', zm_pi_ne (k := 34) (by decide), zm_pi_ne (k := 33) (by decide), b4 32 (by decide) (by decide) (by decide), hkr.2.1.1.1 _ (by omega)]
          exact ⟨⟨rfl, (h1.1.2.2.2.2.2.2.1.2 x hx).1.symm⟩, c4', ⟨c1', trivial⟩, fun _ => ⟨fun z => absurd z (by decide), fun _ => ⟨fun z => absurd z (by decide), fun _ => ⟨fun z => absurd z (by decide), fun _ => ⟨vp_in_nI (by omega) (by decide), ⟨c2', trivial⟩, vp_in_nI (by omega) (by decide), vp_in_nI (by omega) (by decide), trivial⟩⟩⟩⟩, fun _ => trivial⟩
        · rw [e7, e8, if_pos rfl, if_pos rfl, zm_bms]
          exact ⟨bad.1, bad.2, trivial, fun _ => ⟨fun _ => trivial, fun _ => ⟨fun _ => trivial, fun _ => ⟨fun _ => trivial, fun z => absurd rfl z⟩⟩⟩, fun _ => trivial⟩
      · rw [e5, e6, if_pos rfl, if_pos rfl, zm_bms]
        exact ⟨bad.1, bad.2, trivial, fun _ => ⟨fun _ => trivial, fun _ => ⟨fun _ => trivial, fun z => absurd rfl z⟩⟩, fun _ => trivial⟩
    · rw [e3, e4, if_pos rfl, if_pos rfl, zm_bms]
      exact ⟨bad.1, bad.2, trivial, fun _ => ⟨fun _ => trivial, fun z => absurd rfl z⟩, fun _ => trivial⟩
  · rw [e1, e2, zm_lacks0.1, zm_lacks0.2, if_neg (show ¬ (1 : Int32) = 0 by decide), if_neg (show ¬ (1 : Int32) = 0 by decide), zm_bms, zm_F]
    exact ⟨zh_1, zi_query h zo_cst_rfl (zo_rst_of zo_stillF), trivial, fun z => absurd z (by decide), fun _ => trivial⟩
theorem zo_setOpen (hb : a1 = 0 ∨ a1 = 1) (h : zi_I n c r) : zo_out ["java/lang/IndexOutOfBoundsException"] (fX11_setOpen c a0 a1) ((mX12_setOpen r a0 a1).1 395 0) (fX12_setOpen r a0 a1) ∧ zi_op n c (mX11_setOpen c a0 a1) r (mX12_setOpen r a0 a1) ∧ qX11_setOpen c a0 a1 ∧ qX12_setOpen r a0 a1 ∧ (∀ v, fX11_setOpen c a0 a1 = .inl v → v = 0 ∨ v = 1) := by
  unfold fX11_setOpen mX12_setOpen fX12_setOpen mX11_setOpen qX11_setOpen qX12_setOpen fX12_isStage
  rcases zn_p2 (μ := c) (ν := r) (a := a0) (c := 4) (d := 3) (n := 3) rfl rfl (by decide) with ⟨e1, e2, x, hx, rfl⟩ | ⟨e1, e2⟩
  · rw [e1, e2, zm_lacks1.1, zm_lacks1.2, if_pos rfl, if_pos rfl, zm_bmn, ite_self, ite_self]
    obtain ⟨s, L, G, h1, h2, ok⟩ := h
    obtain ⟨m, hm, ha, hn⟩ : ∃ m, m ≤ 1 ∧ a1 = nI m ∧ vp_nar .boolean a1 = nI m := by
      rcases hb with rfl | rfl
      · exact ⟨0, by decide, rfl, by decide⟩
      · exact ⟨1, by decide, rfl, by decide⟩
    have h3 : 3 + nI x = nI (3 + x) := by rw [show (3 : Int32) = nI 3 from rfl, nI_add]
    have g := h1.1.2.1.1 x hx
    have s1 := ok.1.2.1.1 x hx
    obtain ⟨c1, c2, c3, c4, c5, c6⟩ := zi_core (x := 3 + x) (k := 4) (i := x) (m := m) (v := nI m) h1 h2 ok (by decide) (by decide) rfl (by omega) (fun t ht => zr_momG ht (fun k hk => zm_pi_ne (by omega)) rfl (fun y hy => zg_up_ne (by omega)) ⟨zw_row ht.2.1.1 rfl rfl, fun p hp => by rw [zm_pi_ne (by decide), zg_up_ne (by omega)]; exact ht.2.1.2.1 p hp, fun i j hi hj => by
      rw [zm_pi_ne (by decide), ht.2.1.2.2.1 i j hi hj]
      congr 1
      exact zk_fw_congr (fun y z hy hz => (zg_up_ne (by omega)).symm) hi hj, fun k hk => by rw [zm_pi_ne (by decide), zg_up_ne (by omega)]; exact ht.2.1.2.2.2 k hk⟩) (zo_okG ok.1 (fun y hy => zg_up_ne (by omega)) ⟨fun k hk => by
      by_cases e : k = x
      · rw [e, zg_up_eq]
        exact hm
      · rw [zg_up_ne (by omega)]
        exact ok.1.2.1.1 k hk, fun i j hi hj => by rw [zg_up_ne (k := 7 + 4 * i + j) (by omega), zg_up_ne (k := 7 + 4 * j + i) (by omega)]; exact ok.1.2.1.2.1 i j hi hj, fun i hi => by rw [zg_up_ne (by omega)]; exact ok.1.2.1.2.2.1 i hi, fun k hk => by rw [zg_up_ne (by omega)]; exact ok.1.2.1.2.2.2 k hk⟩)
    have hmem : (if a1 = 0 then mX12_sets (mX12_lacksT r) (3 + nI x) 0 else mX12_sets (mX12_lacksT r) (3 + nI x) 1) = rj_pi (mX12_keeps (mX12_lacksT r)) 396 (3 + x) (nI m) := by
      unfold mX12_sets
      rw [h3, nI_clamp (by omega), ← ha]
      rcases hb with rfl | rfl
      · exact if_pos rfl
      · exact if_neg (by decide)
    have hval : (if a1 = 0 then (if fX12_sets (mX12_lacksT r) (3 + nI x) 0 = 1 then (1 : Int32) else 0) else (if fX12_sets (mX12_lacksT r) (3 + nI x) 1 = 1 then 1 else 0)) = nI (s.1 (3 + x)) := by
      unfold fX12_sets
      rw [h3, nI_clamp (by omega), c6, ite_self]
      rcases (by omega : s.1 (3 + x) = 0 ∨ s.1 (3 + x) = 1) with e | e
      · rw [e]
        rfl
      · rw [e]
        rfl
    have hcls : mX4_uncover (mX11_beginChange c) (nI x) a1 = rj_pi (mX11_beginChange c) 4 x (nI m) := by
      unfold mX4_uncover
      rw [if_neg (nI_pos (by omega)), if_neg (show ¬ (4 : Int32) ≤ nI x from nI_ge (b := 4) (by omega) (by decide)), nI_clamp (by omega), hn]
    have hcv : fX4_uncover (mX11_beginChange c) (nI x) a1 = nI (s.1 (3 + x)) := by
      unfold fX4_uncover
      rw [ite_self, ite_self]
      unfold fX4_isInOpenAir
      rw [if_neg (nI_pos (by omega)), if_neg (show ¬ (4 : Int32) ≤ nI x from nI_ge (b := 4) (by omega) (by decide)), nI_clamp (by omega), c5, show c.1 4 x = nI (s.1 (3 + x)) from g]
      rcases (by omega : s.1 (3 + x) = 0 ∨ s.1 (3 + x) = 1) with e | e
      · rw [e]
        rfl
      · rw [e]
        rfl
    rw [hmem, hval, hcls, hcv, c3]
    refine ⟨⟨rfl, rfl⟩, c4, ⟨c1, trivial⟩, ⟨fun _ => ⟨fun _ => ⟨by rw [h3]; exact vp_in_nI (by omega) (by decide), ⟨c2, trivial⟩, trivial⟩, fun _ => ⟨by rw [h3]; exact vp_in_nI (by omega) (by decide), ⟨c2, trivial⟩, trivial⟩⟩, fun _ => trivial⟩, fun v hv => ?_⟩
    cases hv
    rcases (by omega : s.1 (3 + x) = 0 ∨ s.1 (3 + x) = 1) with e | e
    · exact .inl (by rw [e]; rfl)
    · exact .inr (by rw [e]; rfl)
  · rw [e1, e2, zm_lacks0.1, zm_lacks0.2, if_neg (show ¬ (1 : Int32) = 0 by decide), if_neg (show ¬ (1 : Int32) = 0 by decide), zm_bms, zm_F]
    exact ⟨zh_1, zi_query h zo_cst_rfl (zo_rst_of zo_stillF), trivial, ⟨fun z => absurd z (by decide), fun _ => trivial⟩, fun v hv => by cases hv⟩
end zs6
