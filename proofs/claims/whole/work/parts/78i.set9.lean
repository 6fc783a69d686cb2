/-! SETTERS: ticket, resell -/
theorem zt_coins {α : Type} {P g : Nat} {W : Int32 → α} (hP : P ≤ 500) (hg : g ≤ 120) : (if 6 ≤ nI g then (if 14 ≤ nI g then (if 65 ≤ nI g then W ((8 * nI P + 5) / 10) else W (nI P)) else W ((nI P + 1) / 2)) else W 0) = W (nI (zk_coins P g)) := by
  unfold zk_coins
  by_cases c6 : g < 6
  · rw [if_neg (show ¬ (6 : Int32) ≤ nI g from nI_ge (b := 6) c6 (by decide)), if_pos c6]
    rfl
  · rw [if_pos (show (6 : Int32) ≤ nI g from nI_le (a := 6) (by omega) (by omega)), if_neg c6]
    by_cases c14 : g < 14
    · rw [if_neg (show ¬ (14 : Int32) ≤ nI g from nI_ge (b := 14) c14 (by decide)), if_pos c14, ← nI_succ]
      exact congrArg W (pk_div (d := 2) (by omega) (by decide) (by decide))
    · rw [if_pos (show (14 : Int32) ≤ nI g from nI_le (a := 14) (by omega) (by omega)), if_neg c14]
      by_cases c65 : g < 65
      · rw [if_neg (show ¬ (65 : Int32) ≤ nI g from nI_ge (b := 65) c65 (by decide)), if_pos c65]
      · rw [if_pos (show (65 : Int32) ≤ nI g from nI_le (a := 65) (by omega) (by omega)), if_neg c65, show (8 : Int32) = nI 8 from rfl, show (5 : Int32) = nI 5 from rfl, pk_mul, nI_add]
        exact congrArg W (pk_div (d := 10) (by omega) (by decide) (by decide))
section zs10
variable {c r : rj_M} {a0 a1 a2 a3 : Int32} {n : Nat}
theorem zo_ticket (h : zi_I n c r) : zo_out ["java/lang/IndexOutOfBoundsException", "java/lang/IllegalArgumentException", "java/lang/IllegalStateException"] (fX11_ticket c a0 a1 a2) ((mX12_ticket r a0 a1 a2).1 395 0) (fX12_ticket r a0 a1 a2) ∧ zi_op n c (mX11_ticket c a0 a1 a2) r (mX12_ticket r a0 a1 a2) ∧ qX11_ticket c a0 a1 a2 ∧ qX12_ticket r a0 a1 a2 := by
  unfold fX11_ticket mX12_ticket fX12_ticket mX11_ticket qX11_ticket qX12_ticket fX12_isVisitor fX12_isDay
  have n10 : ¬ (1 : Int32) = 0 := by decide
  rcases zn_p2 (μ := c) (ν := r) (a := a0) (c := 12) (d := 11) (n := 11) rfl rfl (by decide) with ⟨e1, e2, v, hv, rfl⟩ | ⟨e1, e2⟩
  · rw [e1, e2, if_neg n10, if_neg n10, zm_bmn]
    rcases zn_p2 (μ := c) (ν := r) (a := a1) (c := 4) (d := 3) (n := 3) rfl rfl (by decide) with ⟨e3, e4, d, hd, rfl⟩ | ⟨e3, e4⟩
    · rw [e3, e4, if_neg n10, if_neg n10, zm_bmn, zn_tk, nI_clamp (n := 452 + (4 * v + d)) (by omega)]
      rcases zn_r2 (μ := c) (ν := mX12_lacksT r) (a := a2) (c := 120) (n := 120) rfl (by decide) with ⟨e5, e6, g, hg, rfl⟩ | ⟨e5, e6⟩
      · rw [e5, e6, zm_no1.1, zm_no1.2, if_pos rfl, if_pos rfl, zm_bmn]
        have h0 := h
        obtain ⟨s, L, G, h1, h2, ok⟩ := h0
        have hp := h1.1.2.2.2.2.2.2.2
        have okp := ok.1.2.2.2.2.2.2.2
        have hS := okp.2.1 (4 * v + d) (by omega)
        have hT : (mX12_lacksT r).1 396 (452 + (4 * v + d)) = nI (s.1 (452 + (4 * v + d))) - 1 := by
          rw [zm_T396]
          exact h2.1.2.1 _ (by omega) (by omega)
        have hm := (zn_m1 (s := s.1 (452 + (4 * v + d))) (by omega)).1
        unfold fX11_needNoTicket
        rw [zc_hasTicket hp okp.2.1 hv hd, hT]
        by_cases c0 : s.1 (452 + (4 * v + d)) = 0
        · have hb := zi_begin h1 ok.1.2.1
          have hk := zi_keeps (zi_r_rst h2 (zo_rst_of (zo_stillT (r := r))))
          have e448 : (448 : Int32) + nI d = nI (448 + d) := by rw [show (448 : Int32) = nI 448 from rfl, nI_add]
          rw [if_pos c0, if_pos rfl, if_pos (hm.mpr c0), if_pos (hm.mpr c0), zm_bmn, e448, nI_clamp (n := 448 + d) (by omega), hk.2.1.1.1 (448 + d) (by omega)]
          have hP := okp.1 d hd
          have w1 := zt_coins (P := s.1 (448 + d)) (g := g) (W := fun X => mX12_pays (rj_pi (mX12_keeps (mX12_lacksT r)) 396 (452 + (4 * v + d)) X) (1 + nI v) 0 X) hP (by omega)
          have w2 := zt_coins (P := s.1 (448 + d)) (g := g) (W := fun X => X) hP (by omega)
          rw [w1, w2]
          have hcx := zk_coins_le (P := s.1 (448 + d)) (g := g) hP
          have hco := zc_coins hb.2.1.1.2.2.2.2.2.2.2 okp.1 hd (g := g) (by omega)
          generalize zk_coins (s.1 (448 + d)) g = X at hcx hco ⊢
          obtain ⟨t1, t2, t3, t4, t5⟩ := zc_sell hb.2.1.1.2.2.2.2.2.2.2 hv hd hcx hco
          have hrow : zr_row ((mX12_pays (rj_pi (mX12_keeps (mX12_lacksT r)) 396 (452 + (4 * v + d)) (nI X)) (nI (1 + v)) (nI 0) (nI X)).1 396) _ _ ∧ _ := zq_pays (zr_pt (p := 4 * v + d) (x := X + 1) (v := nI X) hk.2.1.1 (by omega) (nI_pred X).symm) (f := 1 + v) (t := 0) (x := X) (by omega) (by decide) (by omega)
          obtain ⟨u1, u2, u3⟩ := hrow
          have e1v : (1 : Int32) + nI v = nI (1 + v) := by rw [show (1 : Int32) = nI 1 from rfl, nI_add]
          rw [show nI 0 = (0 : Int32) from rfl, ← e1v] at u1 u2 u3
          obtain ⟨c1, c2, c3, c4⟩ := zi_gen (S' := zg_up s.1 (452 + (4 * v + d)) (X + 1)) (B' := zB_pay s.2 (1 + v) 0 X) (t := mX8_sell (mX11_beginChange c) (nI v) (nI d) (nI g)) (u := mX12_pays (rj_pi (mX12_keeps (mX12_lacksT r)) 396 (452 + (4 * v + d)) (nI X)) (1 + nI v) 0 (nI X)) h1 h2 ok (fun x hx hm => by
            subst hx
            exact ⟨zr_momU hm (fun k hk => t3 k (by omega)) (fun y hy => zg_up_ne (by omega)) t1, fun k hk => ⟨t3 k (by omega), t4 k (by omega) (by omega)⟩, t5⟩) (fun x hx hm => by
            subst hx
            exact ⟨u1, fun k e1 e2 => (u2 k e2).trans (zm_pi_ne e2), fun i _ => (congrFun (u2 395 (by decide)) i).trans (congrFun (zm_pi_ne (by decide)) i), u3⟩) (zo_okU ok.1 (fun y hy => zg_up_ne (by omega)) (zv_pay okp (by omega) (by decide) (by omega) hcx (fun k hk => by rw [zg_up_ne (by omega)]; exact okp.1 k hk) (fun k hk => by
              by_cases e : k = 4 * v + d
              · rw [e, zg_up_eq]
                omega
              · rw [zg_up_ne (by omega)]
                exact okp.2.1 k hk)))
          rw [c3]
          exact ⟨⟨rfl, t2.symm⟩, c4, ⟨c1, trivial⟩, fun z => absurd z n10, fun _ => ⟨fun z => absurd z n10, fun _ => ⟨fun _ => ⟨fun _ => ⟨c2, trivial⟩, fun z => absurd (hm.mpr c0) z⟩, fun z => absurd rfl z⟩⟩⟩
        · have hne : ¬ nI (s.1 (452 + (4 * v + d))) - 1 = -1 := fun z => c0 (hm.mp z)
          rw [if_neg c0, if_neg n10, if_neg hne, if_neg hne, zm_bms, zm_F2]
          exact ⟨zh_3 (by decide) (by decide), zi_query h zo_cst_rfl (zo_rst_of zo_stillF2), trivial, fun z => absurd z n10, fun _ => ⟨fun z => absurd z n10, fun _ => ⟨fun _ => ⟨fun z => absurd z hne, fun _ => trivial⟩, fun z => absurd rfl z⟩⟩⟩
      · rw [e5, e6, zm_no0.1, zm_no0.2, if_neg n10, if_neg n10, zm_bms]
        have h1 : (rj_pi (mX12_lacksT r) 395 0 2).1 395 0 = 2 := zm_pi_eq
        rw [h1]
        exact ⟨zh_2 (by decide), zi_query h zo_cst_rfl (zo_rst_of zo_stillF2), trivial, fun _ => trivial, fun _ => ⟨fun _ => trivial, fun _ => ⟨fun z => absurd z n10, fun _ => trivial⟩⟩⟩
    · rw [e3, e4, if_pos rfl, if_pos rfl, zm_bms, zm_F]
      exact ⟨zh_1, zi_query h zo_cst_rfl (zo_rst_of zo_stillF), trivial, fun _ => trivial, fun _ => ⟨fun _ => trivial, fun z => absurd rfl z⟩⟩
  · rw [e1, e2, if_pos rfl, if_pos rfl, zm_bms, zm_F]
    exact ⟨zh_1, zi_query h zo_cst_rfl (zo_rst_of zo_stillF), trivial, fun _ => trivial, fun z => absurd rfl z⟩
theorem zo_resell (h : zi_I n c r) : zo_out ["java/lang/IndexOutOfBoundsException", "java/util/NoSuchElementException", "java/lang/IllegalStateException"] (fX11_resell c a0 a1 a2) ((mX12_resell r a0 a1 a2).1 395 0) (fX12_resell r a0 a1 a2) ∧ zi_op n c (mX11_resell c a0 a1 a2) r (mX12_resell r a0 a1 a2) ∧ qX11_resell c a0 a1 a2 ∧ qX12_resell r a0 a1 a2 := by
  unfold fX11_resell mX12_resell fX12_resell mX11_resell qX11_resell qX12_resell fX12_isVisitor fX12_isDay
  have n10 : ¬ (1 : Int32) = 0 := by decide
  rcases zn_p2 (μ := c) (ν := r) (a := a0) (c := 12) (d := 11) (n := 11) rfl rfl (by decide) with ⟨e1, e2, v, hv, rfl⟩ | ⟨e1, e2⟩
  · rw [e1, e2, if_neg n10, if_neg n10, zm_bmn]
    rcases zn_p2 (μ := c) (ν := r) (a := a1) (c := 12) (d := 11) (n := 11) rfl rfl (by decide) with ⟨e5, e6, o, ho, rfl⟩ | ⟨e5, e6⟩
    · rw [e5, e6, if_neg n10, if_neg n10, zm_bmn]
      rcases zn_p2 (μ := c) (ν := r) (a := a2) (c := 4) (d := 3) (n := 3) rfl rfl (by decide) with ⟨e3, e4, d, hd, rfl⟩ | ⟨e3, e4⟩
      · rw [e3, e4, if_neg n10, if_neg n10, zm_bmn, zn_tk, zn_tk, nI_clamp (n := 452 + (4 * v + d)) (by omega), nI_clamp (n := 452 + (4 * o + d)) (by omega)]
        have h0 := h
        obtain ⟨s, L, G, h1, h2, ok⟩ := h0
        have hp := h1.1.2.2.2.2.2.2.2
        have okp := ok.1.2.2.2.2.2.2.2
        have hS := okp.2.1 (4 * v + d) (by omega)
        have hSo := okp.2.1 (4 * o + d) (by omega)
        have hT : ∀ p, p < 48 → (mX12_lacksT r).1 396 (452 + p) = nI (s.1 (452 + p)) - 1 := fun p hp => by
          rw [zm_T396]
          exact h2.1.2.1 _ (by omega) (by omega)
        have hm := (zn_m1 (s := s.1 (452 + (4 * v + d))) (by omega)).1
        have hmo := (zn_m1 (s := s.1 (452 + (4 * o + d))) (by omega)).1
        unfold fX11_needTicket fX11_needNoTicket
        rw [zc_hasTicket hp okp.2.1 hv hd, zc_hasTicket hp okp.2.1 ho hd, hT _ (by omega), hT _ (by omega)]
        by_cases c0 : s.1 (452 + (4 * v + d)) = 0
        · rw [if_pos c0, if_pos rfl, if_pos (hm.mpr c0), if_pos (hm.mpr c0), zm_bms, zm_F2]
          exact ⟨zh_2 (by decide), zi_query h zo_cst_rfl (zo_rst_of zo_stillF2), trivial, fun z => absurd z n10, fun _ => ⟨fun z => absurd z n10, fun _ => ⟨fun z => absurd z n10, fun _ => ⟨fun _ => trivial, fun z => absurd (hm.mpr c0) z⟩⟩⟩⟩
        · have hne : ¬ nI (s.1 (452 + (4 * v + d))) - 1 = -1 := fun z => c0 (hm.mp z)
          rw [if_neg c0, if_neg n10, if_neg hne, if_neg hne, zm_bmn]
          by_cases co : s.1 (452 + (4 * o + d)) = 0
          · have hvo : v ≠ o := fun z => c0 (by rw [z]; exact co)
            have hb := zi_begin h1 ok.1.2.1
            have hk := zi_keeps (zi_r_rst h2 (zo_rst_of (zo_stillT (r := r))))
            have hprice : (mX12_keeps (mX12_lacksT r)).1 396 (452 + (4 * v + d)) = nI (s.1 (452 + (4 * v + d))) - 1 := hk.2.1.1.2.1 _ (by omega) (by omega)
            have hpr2 : nI (s.1 (452 + (4 * v + d))) - 1 = nI (s.1 (452 + (4 * v + d)) - 1) := pk_sub (b := 1) (by omega)
            rw [if_pos co, if_pos rfl, if_pos (hmo.mpr co), if_pos (hmo.mpr co), zm_bmn, hprice, hpr2]
            obtain ⟨t1, t2, t3, t4, t5⟩ := zc_handOver hb.2.1.1.2.2.2.2.2.2.2 hv ho hvo hd ⟨by show 1 ≤ s.1 _; omega, hS⟩
            have hrow : zr_row ((mX12_pays (rj_pi (rj_pi (mX12_keeps (mX12_lacksT r)) 396 (452 + (4 * o + d)) (nI (s.1 (452 + (4 * v + d)) - 1))) 396 (452 + (4 * v + d)) (-1)) (nI (1 + o)) (nI (1 + v)) (nI (s.1 (452 + (4 * v + d)) - 1))).1 396) _ _ ∧ _ := zq_pays (zr_pt (p := 4 * v + d) (x := 0) (v := -1) (zr_pt (p := 4 * o + d) (x := s.1 (452 + (4 * v + d))) (v := nI (s.1 (452 + (4 * v + d)) - 1)) hk.2.1.1 (by omega) hpr2.symm) (by omega) (by decide)) (f := 1 + o) (t := 1 + v) (x := s.1 (452 + (4 * v + d)) - 1) (by omega) (by omega) (by omega)
            obtain ⟨u1, u2, u3⟩ := hrow
            have e1v : ∀ z, (1 : Int32) + nI z = nI (1 + z) := fun z => by rw [show (1 : Int32) = nI 1 from rfl, nI_add]
            rw [← e1v, ← e1v] at u1 u2 u3
            obtain ⟨c1, c2, c3, c4⟩ := zi_gen (S' := zg_up (zg_up s.1 (452 + (4 * o + d)) (s.1 (452 + (4 * v + d)))) (452 + (4 * v + d)) 0) (B' := zB_pay s.2 (1 + o) (1 + v) ((s.1 (452 + (4 * v + d)) - 1 : Nat))) (t := mX8_handOver (mX11_beginChange c) (nI v) (nI o) (nI d)) (u := mX12_pays (rj_pi (rj_pi (mX12_keeps (mX12_lacksT r)) 396 (452 + (4 * o + d)) (nI (s.1 (452 + (4 * v + d)) - 1))) 396 (452 + (4 * v + d)) (-1)) (1 + nI o) (1 + nI v) (nI (s.1 (452 + (4 * v + d)) - 1))) h1 h2 ok (fun x hx hm => by
              subst hx
              exact ⟨zr_momU hm (fun k hk => t3 k (by omega)) (fun y hy => by rw [zg_up_ne (by omega), zg_up_ne (by omega)]) t1, fun k hk => ⟨t3 k (by omega), t4 k (by omega)⟩, t5⟩) (fun x hx hm => by
              subst hx
              exact ⟨u1, fun k e1 e2 => (u2 k e2).trans ((zm_pi_ne e2).trans (zm_pi_ne e2)), fun i _ => (congrFun (u2 395 (by decide)) i).trans ((congrFun (zm_pi_ne (by decide)) i).trans (congrFun (zm_pi_ne (by decide)) i)), u3⟩) (zo_okU ok.1 (fun y hy => by rw [zg_up_ne (by omega), zg_up_ne (by omega)]) (zv_pay okp (by omega) (by omega) (by omega) (by omega) (fun k hk => by rw [zg_up_ne (by omega), zg_up_ne (by omega)]; exact okp.1 k hk) (fun k hk => by
                by_cases e : k = 4 * v + d
                · rw [e, zg_up_eq]
                  exact Nat.zero_le _
                · rw [zg_up_ne (by omega)]
                  by_cases e' : k = 4 * o + d
                  · rw [e', zg_up_eq]
                    exact hS
                  · rw [zg_up_ne (by omega)]
                    exact okp.2.1 k hk)))
            rw [c3]
            exact ⟨⟨rfl, t2.symm⟩, c4, ⟨c1, trivial⟩, fun z => absurd z n10, fun _ => ⟨fun z => absurd z n10, fun _ => ⟨fun z => absurd z n10, fun _ => ⟨fun z => absurd (hpr2.trans z) hne, fun _ => ⟨fun _ => ⟨c2, trivial⟩, fun z => absurd (hmo.mpr co) z⟩⟩⟩⟩⟩
          · have hneo : ¬ nI (s.1 (452 + (4 * o + d))) - 1 = -1 := fun z => co (hmo.mp z)
            rw [if_neg co, if_neg n10, if_neg hneo, if_neg hneo, zm_bms, zm_F2]
            exact ⟨zh_3 (by decide) (by decide), zi_query h zo_cst_rfl (zo_rst_of zo_stillF2), trivial, fun z => absurd z n10, fun _ => ⟨fun z => absurd z n10, fun _ => ⟨fun z => absurd z n10, fun _ => ⟨fun z => absurd z hne, fun _ => ⟨fun z => absurd z hneo, fun _ => trivial⟩⟩⟩⟩⟩
      · rw [e3, e4, if_pos rfl, if_pos rfl, zm_bms, zm_F]
        exact ⟨zh_1, zi_query h zo_cst_rfl (zo_rst_of zo_stillF), trivial, fun _ => trivial, fun _ => ⟨fun _ => trivial, fun _ => ⟨fun _ => trivial, fun z => absurd rfl z⟩⟩⟩
    · rw [e5, e6, if_pos rfl, if_pos rfl, zm_bms, zm_F]
      exact ⟨zh_1, zi_query h zo_cst_rfl (zo_rst_of zo_stillF), trivial, fun _ => trivial, fun _ => ⟨fun _ => trivial, fun z => absurd rfl z⟩⟩
  · rw [e1, e2, if_pos rfl, if_pos rfl, zm_bms, zm_F]
    exact ⟨zh_1, zi_query h zo_cst_rfl (zo_rst_of zo_stillF), trivial, fun _ => trivial, fun z => absurd rfl z⟩
end zs10
