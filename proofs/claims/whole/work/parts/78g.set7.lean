/-! SETTERS: drop, setWay, find -/
theorem zb_search {f : Nat → Unit → Unit ⊕ (Nat × Unit)} {p : Nat → Prop} {n : Nat} (h : ∀ i, i < n → (p i ∧ f i () = .inr (i, ())) ∨ (¬ p i ∧ f i () = .inl ())) : (∃ k, zf_find p n = some k ∧ k < n ∧ (rj_br f n 0 ()).1 = k) ∨ (zf_find p n = none ∧ (rj_br f n 0 ()).1 = n) := by
  have aux : ∀ r j, j + r = n → (∀ x, x < j → ¬ p x) → (∃ k, zf_find p n = some k ∧ k < n ∧ (rj_br f r j ()).1 = k) ∨ (zf_find p n = none ∧ (rj_br f r j ()).1 = n) := fun r => by
    induction r with
    | zero => exact fun j hj hx => .inr ⟨zf_find_none.mpr (fun x hx' => hx x (by omega)), hj⟩
    | succ r ih =>
      intro j hj hx
      show (∃ k, zf_find p n = some k ∧ k < n ∧ (Sum.elim (fun z => rj_br f r (j + 1) z) id (f j ())).1 = k) ∨ (zf_find p n = none ∧ (Sum.elim (fun z => rj_br f r (j + 1) z) id (f j ())).1 = n)
      rcases h j (by omega) with ⟨e1, e2⟩ | ⟨e1, e2⟩
      · rw [e2]
        exact .inl ⟨j, zf_find_some.mpr ⟨by omega, e1, hx⟩, by omega, rfl⟩
      · rw [e2]
        exact ih (j + 1) (by omega) (fun x hx' => by
          by_cases e : x = j
          · rw [e]
            exact e1
          · exact hx x (by omega))
  exact aux n 0 (Nat.zero_add n) (fun x hx => absurd hx (Nat.not_lt_zero x))
section zs8
variable {c r : rj_M} {a0 a1 a2 a3 : Int32} {n : Nat}
theorem zo_drop (h : zi_I n c r) : zo_out ["java/lang/IndexOutOfBoundsException"] (fX11_drop c a0) ((mX12_drop r a0).1 395 0) (fX12_drop r a0) ∧ zi_op n c (mX11_drop c a0) r (mX12_drop r a0) ∧ qX11_drop c a0 ∧ qX12_drop r a0 := by
  unfold fX11_drop mX12_drop fX12_drop mX11_drop qX11_drop qX12_drop
  have h0 := h
  obtain ⟨s, L, G, h1, h2, ok⟩ := h0
  rcases zn_act (a0 := a0) h1.1.2.2.1 h2.1 ok.1.2.2.1 with ⟨e1, e2, x, hx, hxp, rfl⟩ | ⟨e1, e2⟩
  · rw [e1, e2, zm_lacks1.1, zm_lacks1.2, if_pos rfl, if_pos rfl, zm_bmn]
    have hb := zi_begin h1 ok.1.2.1
    have hk := zi_keeps (zi_r_rst h2 (zo_rst_of (zo_stillT (r := r))))
    have v1 := zc_pl hb.2.1.1.2.2.1 ok.1.2.2.1 hx
    have v2 := zq_pl hk.2.1.1 hx
    obtain ⟨c1, c2, c3, c4⟩ := zi_gen (S' := zp_rm s.1 x) (B' := s.2) (t := mX7_remove (mX11_beginChange c) (nI x)) (u := mX12_goes (mX12_keeps (mX12_lacksT r)) (nI x)) h1 h2 ok (fun d hd hm => by
      subst hd
      obtain ⟨m1, m2, m3⟩ := zc_remove hm.2.2.1 hx
      exact ⟨zr_momP hm (fun k hk => m2 k (by omega) (by omega)) m3 (fun y hy => zp_rm_ne (by omega) (by omega)) m1, fun k hk => ⟨m2 k (by omega) (by omega), by rw [m3]⟩, by rw [m3]⟩) (fun d hd hm => by
      subst hd
      obtain ⟨m1, m2, m3⟩ := zq_goes hm hx
      exact ⟨m1, fun k e1 e2 => m2 k e2, fun i _ => congrFun (m2 395 (by decide)) i, m3⟩) (zo_okP ok.1 (fun y hy => zp_rm_ne (by omega) (by omega)) (zp_rm_ok ok.1.2.2.1 hx))
    rw [c3, v2]
    exact ⟨⟨rfl, v1.symm⟩, c4, ⟨c1, trivial⟩, fun _ => ⟨c2, vp_in_nI (by omega) (by decide), vp_in_nI (by omega) (by decide), trivial⟩, fun _ => trivial⟩
  · rw [e1, e2, zm_lacks0.1, zm_lacks0.2, if_neg (show ¬ (1 : Int32) = 0 by decide), if_neg (show ¬ (1 : Int32) = 0 by decide), zm_bms, zm_F]
    exact ⟨zh_1, zi_query h zo_cst_rfl (zo_rst_of zo_stillF), trivial, fun z => absurd z (by decide), fun _ => trivial⟩
theorem zo_setWay (h : zi_I n c r) : zo_out ["java/lang/IndexOutOfBoundsException", "java/lang/IllegalArgumentException"] (fX11_setWay c a0 a1 a2) ((mX12_setWay r a0 a1 a2).1 395 0) (fX12_setWay r a0 a1 a2) ∧ zi_op n c (mX11_setWay c a0 a1 a2) r (mX12_setWay r a0 a1 a2) ∧ qX11_setWay c a0 a1 a2 ∧ qX12_setWay r a0 a1 a2 := by
  unfold fX11_setWay mX12_setWay fX12_setWay mX11_setWay qX11_setWay qX12_setWay fX12_isStage
  have bad : zo_out ["java/lang/IndexOutOfBoundsException", "java/lang/IllegalArgumentException"] (α := Int32) (.inr "java/lang/IllegalArgumentException") ((mX12_noF (mX12_lacksT r) 2).1 395 0) 0 ∧ zi_op n c c r (mX12_noF (mX12_lacksT r) 2) := by
    rw [zm_F2]
    exact ⟨zh_2 (by decide), zi_query h zo_cst_rfl (zo_rst_of zo_stillF2)⟩
  have n10 : ¬ (1 : Int32) = 0 := by decide
  rcases zn_p2 (μ := c) (ν := r) (a := a0) (c := 4) (d := 3) (n := 3) rfl rfl (by decide) with ⟨e1, e2, x, hx, rfl⟩ | ⟨e1, e2⟩
  · rw [e1, e2, if_neg n10, if_neg n10, zm_bmn]
    rcases zn_p2 (μ := c) (ν := r) (a := a1) (c := 4) (d := 3) (n := 3) rfl rfl (by decide) with ⟨e3, e4, y, hy, rfl⟩ | ⟨e3, e4⟩
    · rw [e3, e4, if_neg n10, if_neg n10, zm_bmn]
      unfold fX11_needOthers
      by_cases cxy : nI x = nI y
      · rw [if_pos cxy, if_pos cxy, if_pos cxy, zm_bms]
        exact ⟨bad.1, bad.2, trivial, fun z => absurd z n10, fun _ => ⟨fun z => absurd z n10, fun _ => ⟨fun _ => trivial, fun z => absurd cxy z⟩⟩⟩
      · have hxy : x ≠ y := fun z => cxy (by rw [z])
        rw [if_neg cxy, if_neg cxy, if_neg cxy, zm_bmn]
        rcases zn_r3 (μ := c) (ν := mX12_lacksT r) (a := a2) (l := 1) (c := 60) (lo := 1) (hi := 60) rfl rfl (by decide) (by decide) with ⟨e5, e6, m, hm1, hm2, rfl⟩ | ⟨e5, e6⟩
        · rw [e5, e6, if_neg n10, if_neg n10, zm_bmn]
          have h0 := h
          obtain ⟨s, L, G, h1, h2, ok⟩ := h0
          have p1 : nI x * 4 + nI y = nI (4 * x + y) := by rw [show nI x * 4 = nI (x * 4) from pk_mul x 4, nI_add, Nat.mul_comm]
          have p2 : nI y * 4 + nI x = nI (4 * y + x) := by rw [show nI y * 4 = nI (y * 4) from pk_mul y 4, nI_add, Nat.mul_comm]
          have q1 : 7 + 4 * nI x + nI y = nI (7 + (4 * x + y)) := by rw [show 4 * nI x = nI (4 * x) from pk_mul 4 x, show (7 : Int32) = nI 7 from rfl, nI_add, nI_add, Nat.add_assoc]
          have q2 : 7 + 4 * nI y + nI x = nI (7 + (4 * y + x)) := by rw [show 4 * nI y = nI (4 * y) from pk_mul 4 y, show (7 : Int32) = nI 7 from rfl, nI_add, nI_add, Nat.add_assoc]
          have r1 := zm_rep (μ := mX11_beginChange c) (k := 5) (n := 16) (v := nI m) (j := 4 * x + y) p1 (by omega) (by decide)
          have r2 := zm_rep (μ := rj_pi (mX11_beginChange c) 5 (4 * x + y) (nI m)) (k := 5) (n := 16) (v := nI m) (j := 4 * y + x) p2 (by omega) (by decide)
          unfold mX4_layWay
          rw [r1.1, r2.1, q1, q2, nI_clamp (by omega), nI_clamp (by omega)]
          have hb := zi_begin h1 ok.1.2.1
          have hk := zi_keeps (zi_r_rst h2 (zo_rst_of (zo_stillT (r := r))))
          generalize hc1 : mX11_beginChange c = c1 at hb ⊢
          generalize hr1 : mX12_keeps (mX12_lacksT r) = u1 at hk ⊢
          generalize hS : zg_up (zg_up s.1 (7 + (4 * x + y)) m) (7 + (4 * y + x)) m = S'
          have hout : ∀ z, z ≠ 7 + (4 * x + y) → z ≠ 7 + (4 * y + x) → S' z = s.1 z := fun z z1 z2 => by rw [← hS, zg_up_ne z2, zg_up_ne z1]
          have hg : zo_grnd S' := by
            refine ⟨fun k hk => by rw [hout _ (by omega) (by omega)]; exact ok.1.2.1.1 k hk, fun i j hi hj => ?_, fun i hi => by rw [hout _ (by omega) (by omega)]; exact ok.1.2.1.2.2.1 i hi, fun k hk => by rw [hout _ (by omega) (by omega)]; exact ok.1.2.1.2.2.2 k hk⟩
            have s1 := ok.1.2.1.2.1 i j hi hj
            rw [← hS]
            unfold zg_up
            by_cases ca : i = x ∧ j = y
            · obtain ⟨rfl, rfl⟩ := ca
              rw [if_neg (by omega), if_pos (by omega), if_pos (by omega)]
              exact ⟨hm2, rfl⟩
            · by_cases cb : i = y ∧ j = x
              · obtain ⟨rfl, rfl⟩ := cb
                rw [if_pos (by omega), if_neg (by omega), if_pos (by omega)]
                exact ⟨hm2, rfl⟩
              · rw [if_neg (by omega), if_neg (by omega), if_neg (by omega), if_neg (by omega)]
                exact s1
          have hP : ∀ p, p < 16 → (rj_pi (rj_pi c1 5 (4 * x + y) (nI m)) 5 (4 * y + x) (nI m)).1 5 p = nI (S' (7 + p)) := by
            rw [← hS]
            exact zw_row (zw_row hb.2.1.1.2.1.2.1 rfl rfl) rfl rfl
          generalize hPP : rj_pi (rj_pi c1 5 (4 * x + y) (nI m)) 5 (4 * y + x) (nI m) = P at hP ⊢
          have hPk : ∀ k, k ≠ 5 → P.1 k = c1.1 k := fun k hk => by rw [← hPP, zm_pi_ne hk, zm_pi_ne hk]
          have hP2 : P.2 = c1.2 := by rw [← hPP]; rfl
          obtain ⟨w1, w2, w3⟩ := zc_measure (c := P) (w := fun i j => S' (7 + 4 * i + j)) (fun i j hi hj => by rw [hP _ (by omega), Nat.add_assoc]) (fun a ha => hg.2.2.1 a ha) (fun a b ha hb => (hg.2.1 a b ha hb).1)
          generalize mX4_measureWalks P = t at w1 w2 w3 ⊢
          have hgr : zr_grnd t 1 S' := by
            refine ⟨fun k hk => ?_, fun p hp => ?_, fun i j hi hj => w3 i j hi hj, fun k hk => ?_⟩
            · rw [hout _ (by omega) (by omega), w1 (1 + 3) (by decide), hPk (1 + 3) (by decide)]
              exact hb.2.1.1.2.1.1 k hk
            · rw [w1 (1 + 4) (by decide)]
              exact hP p hp
            · rw [hout _ (by omega) (by omega), w1 (1 + 6) (by decide), hPk (1 + 6) (by decide)]
              exact hb.2.1.1.2.1.2.2.2 k hk
          have hrow : zr_row ((rj_pi (rj_pi u1 396 (7 + (4 * x + y)) (nI m)) 396 (7 + (4 * y + x)) (nI m)).1 396) S' s.2 := by
            rw [← hS]
            exact zr_pi2 (zr_pi2 hk.2.1.1 (by omega) rfl) (by omega) rfl
          obtain ⟨c1', c2', c3', c4'⟩ := zi_gen (S' := S') (B' := s.2) (t := t) (u := rj_pi (rj_pi u1 396 (7 + (4 * x + y)) (nI m)) 396 (7 + (4 * y + x)) (nI m)) h1 h2 ok (fun d hd hm => by
            rw [hc1] at hd
            subst hd
            exact ⟨zr_momG hm (fun k hk => (w1 k (by omega)).trans (hPk k (by omega))) (w2.trans hP2) (fun z hz => hout z (by omega) (by omega)) hgr, fun k hk => ⟨(w1 k (by omega)).trans (hPk k (by omega)), by rw [w2, hP2]⟩, by rw [w2, hP2]⟩) (fun d hd hm => by
            rw [hr1] at hd
            subst hd
            exact ⟨hrow, fun k e1 e2 => by rw [zm_pi_ne e2, zm_pi_ne e2], fun i _ => by rw [zm_pi_ne (by decide), zm_pi_ne (by decide)], rfl⟩) (zo_okG ok.1 (fun z hz => hout z (by omega) (by omega)) hg)
          obtain ⟨v1, v2⟩ := zq_walkOf hrow hg hx hy
          have v3 : fX4_minutesBetween t (nI x) (nI y) = nI (zk_fw (zk_w S') x y) := by
            unfold fX4_minutesBetween
            rw [p1, if_neg (nI_pos (by omega)), if_pos (show nI (4 * x + y) < 16 from nI_lt (b := 16) (by omega) (by decide)), nI_clamp (by omega)]
            exact w3 x y hx hy
          rw [c3', v1, v3]
          exact ⟨⟨rfl, rfl⟩, c4', ⟨c1', trivial⟩, fun z => absurd z n10, fun _ => ⟨fun z => absurd z n10, fun _ => ⟨fun z => absurd z cxy, fun _ => ⟨fun z => absurd z n10, fun _ => ⟨c2', v2, trivial⟩⟩⟩⟩⟩
        · rw [e5, e6, if_pos rfl, if_pos rfl, zm_bms]
          exact ⟨bad.1, bad.2, trivial, fun z => absurd z n10, fun _ => ⟨fun z => absurd z n10, fun _ => ⟨fun z => absurd z cxy, fun _ => ⟨fun _ => trivial, fun z => absurd rfl z⟩⟩⟩⟩
    · rw [e3, e4, if_pos rfl, if_pos rfl, zm_bms, zm_F]
      exact ⟨zh_1, zi_query h zo_cst_rfl (zo_rst_of zo_stillF), trivial, fun _ => trivial, fun _ => ⟨fun _ => trivial, fun z => absurd rfl z⟩⟩
  · rw [e1, e2, if_pos rfl, if_pos rfl, zm_bms, zm_F]
    exact ⟨zh_1, zi_query h zo_cst_rfl (zo_rst_of zo_stillF), trivial, fun _ => trivial, fun z => absurd rfl z⟩
end zs8
