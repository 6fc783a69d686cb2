/-! SETTERS, the general shape; setReach, wish, setServing, setShift, setOpen, lose -/
theorem zi_gen {n : Nat} {c r t u : rj_M} {s : zi_St} {L : List zi_St} {G : Option (Nat → Nat)} {S' : Nat → Nat} {B' : Nat → Int} (h : zi_c c s L G) (h' : zi_r r s L G) (ok : zi_ok n s L G) (hc : ∀ c1, c1 = mX11_beginChange c → zr_mom c1 1 s.1 s.2 → zr_mom t 1 S' B' ∧ (∀ k, (k = 0 ∨ 44 ≤ k) → t.1 k = c1.1 k ∧ t.2.1 k = c1.2.1 k) ∧ t.2.2 = c1.2.2) (hu : ∀ r1, r1 = mX12_keeps (mX12_lacksT r) → zr_row (r1.1 396) s.1 s.2 → zr_row (u.1 396) S' B' ∧ (∀ k, k ≠ 395 → k ≠ 396 → u.1 k = r1.1 k) ∧ (∀ i, i = 0 ∨ i = 3 ∨ i = 11 → u.1 395 i = r1.1 395 i) ∧ u.2 = r1.2) (hok : zo_ok S' B' (n + 1)) : qX11_beginChange c ∧ qX12_keeps (mX12_lacksT r) ∧ u.1 395 0 = 0 ∧ zi_op n c t r u := by
  obtain ⟨b1, b2, b3, b4, b5⟩ := zi_begin h ok.1.2.1
  have hT := zi_r_rst h' (zo_rst_of (zo_stillT (r := r)))
  obtain ⟨k1, k2, k3, k4, k5⟩ := zi_keeps hT
  obtain ⟨c1, c2, c3⟩ := hc _ rfl b2.1
  obtain ⟨u1, u2, u3, u4⟩ := hu _ rfl k2.1
  have hcs := zi_cset (t := t) b2 c1 c2 c3
  obtain ⟨g1, g2, g3, g4, g5⟩ := k2
  refine ⟨b1, k1, (u3 0 (.inl rfl)).trans (k4.trans zm_T), ⟨⟨(S', B'), (s :: L).take 8, none, hcs, ⟨u1, zu_q_of g2 (u3 3 (.inr (.inl rfl))) (by rw [u4]) (fun k e1 e2 => u2 k (by omega) (by omega)), .inl ⟨rfl, (u3 11 (.inr (.inr rfl))).trans ?_⟩, fun k hk => by rw [u4]; exact g4 k hk, fun k i => by rw [u4]; exact g5 k i⟩, hok, fun t ht => ?_, fun g hg => by cases hg⟩, zi_fc_trans b3 ⟨fun k hk => c2 k (.inr (by omega)), c3⟩, zi_fr_trans (zi_fr_rst (zo_rst_of (zo_stillT (r := r)))) (zi_fr_trans k3 ⟨fun k hk => u2 k (by omega) (by omega), fun k _ => by rw [u4]; exact ⟨rfl, rfl⟩, fun k _ _ => by rw [u4]⟩)⟩⟩
  · rcases g3 with ⟨-, g⟩ | ⟨g, e, -⟩
    · exact g
    · cases e
  · rcases List.mem_cons.mp (List.mem_of_mem_take ht) with rfl | ht
    · exact zv_ok ok.1
    · exact zv_ok (ok.2.1 t ht)
theorem zr_up_exit {t : rj_M} {S : Nat → Nat} {k i x m : Nat} {v : Int32} (h : zr_exit t 1 S) (hv : v = nI m) (hx : (k = 18 ∧ x = 311 + i ∧ i < 3) ∨ (k = 19 ∧ x = 314 + i ∧ i < 12) ∨ (k = 20 ∧ x = 326 + i ∧ i < 4)) : zr_exit (rj_pi t k i v) 1 (zg_up S x m) := by
  obtain ⟨h1, h2, h3⟩ := h
  rcases hx with ⟨rfl, hx, hi⟩ | ⟨rfl, hx, hi⟩ | ⟨rfl, hx, hi⟩
  · exact ⟨zw_row h1 hv hx, fun p hp => by rw [zm_pi_ne (by decide), zg_up_ne (by omega)]; exact h2 p hp, fun p hp => by rw [zm_pi_ne (by decide), zg_up_ne (by omega)]; exact h3 p hp⟩
  · exact ⟨fun p hp => by rw [zm_pi_ne (by decide), zg_up_ne (by omega)]; exact h1 p hp, zw_row h2 hv hx, fun p hp => by rw [zm_pi_ne (by decide), zg_up_ne (by omega)]; exact h3 p hp⟩
  · exact ⟨fun p hp => by rw [zm_pi_ne (by decide), zg_up_ne (by omega)]; exact h1 p hp, fun p hp => by rw [zm_pi_ne (by decide), zg_up_ne (by omega)]; exact h2 p hp, zw_row h3 hv hx⟩
section zs4
variable {c r : rj_M} {a0 a1 a2 : Int32} {n : Nat}
theorem zo_setReach (h : zi_I n c r) : zo_out ["java/lang/IndexOutOfBoundsException", "java/lang/IllegalArgumentException"] (fX11_setReach c a0 a1 a2) ((mX12_setReach r a0 a1 a2).1 395 0) (fX12_setReach r a0 a1 a2) ∧ zi_op n c (mX11_setReach c a0 a1 a2) r (mX12_setReach r a0 a1 a2) ∧ qX11_setReach c a0 a1 a2 ∧ qX12_setReach r a0 a1 a2 := by
  unfold fX11_setReach mX12_setReach fX12_setReach mX11_setReach qX11_setReach qX12_setReach fX12_isGate fX12_isStage
  rcases zn_p2 (μ := c) (ν := r) (a := a0) (c := 3) (d := 2) (n := 2) rfl rfl (by decide) with ⟨e1, e2, x, hx, rfl⟩ | ⟨e1, e2⟩
  · rw [e1, e2, if_neg (show ¬ (1 : Int32) = 0 by decide), if_neg (show ¬ (1 : Int32) = 0 by decide), zm_bmn]
    rcases zn_p2 (μ := c) (ν := r) (a := a1) (c := 4) (d := 3) (n := 3) rfl rfl (by decide) with ⟨e3, e4, y, hy, rfl⟩ | ⟨e3, e4⟩
    · rw [e3, e4, if_neg (show ¬ (1 : Int32) = 0 by decide), if_neg (show ¬ (1 : Int32) = 0 by decide), zm_bmn]
      rcases zn_r3 (μ := c) (ν := mX12_lacksT r) (a := a2) (l := 1) (c := 30) (lo := 1) (hi := 30) rfl rfl (by decide) (by decide) with ⟨e5, e6, m, hm1, hm2, rfl⟩ | ⟨e5, e6⟩
      · rw [e5, e6, zm_no1.1, zm_no1.2, if_pos rfl, if_pos rfl, zm_bmn]
        obtain ⟨s, L, G, h1, h2, ok⟩ := h
        have hp : nI x * 4 + nI y = nI (4 * x + y) := by rw [show nI x * 4 = nI (x * 4) from pk_mul x 4, nI_add, Nat.mul_comm]
        have hb : 314 + 4 * nI x + nI y = nI (314 + (4 * x + y)) := by rw [show 4 * nI x = nI (4 * x) from pk_mul 4 x, show (314 : Int32) = nI 314 from rfl, nI_add, nI_add, Nat.add_assoc]
        have hrep := zm_rep (μ := mX11_beginChange c) (k := 19) (n := 12) (v := nI m) (j := 4 * x + y) hp (by omega) (by decide)
        obtain ⟨c1, c2, c3, c4, c5, c6⟩ := zi_core (x := 314 + (4 * x + y)) (k := 19) (i := 4 * x + y) (m := m) (v := nI m) h1 h2 ok (by decide) (by decide) rfl (by omega) (fun t ht => zr_mom_exit ht (by decide) (by omega) (zr_up_exit ht.2.2.2.1 rfl (.inr (.inl ⟨rfl, rfl, by omega⟩)))) (zo_ok_exit ok.1 (by omega) ⟨fun p hp => by rw [zg_up_ne (by omega)]; exact ok.1.2.2.2.1.1 p hp, fun k hk => by
          by_cases e : k = 4 * x + y
          · rw [e, zg_up_eq]
            exact ⟨hm1, hm2⟩
          · rw [zg_up_ne (by omega)]
            exact ok.1.2.2.2.1.2.1 k hk, fun p hp => by rw [zg_up_ne (by omega)]; exact ok.1.2.2.2.1.2.2 p hp⟩)
        unfold mX12_sets fX12_sets qX12_sets
        rw [hrep.1, hrep.2, hb, nI_clamp (by omega), c3, c5, c6, show c.1 19 (4 * x + y) = nI (s.1 (314 + (4 * x + y))) from h1.1.2.2.2.1.2.1 _ (by omega)]
        exact ⟨⟨rfl, rfl⟩, c4, ⟨c1, trivial⟩, fun z => absurd z (by decide), fun _ => ⟨fun z => absurd z (by decide), fun _ => ⟨fun _ => ⟨⟨c2, trivial⟩, trivial⟩, fun _ => trivial⟩⟩⟩
      · rw [e5, e6, zm_no0.1, zm_no0.2, if_neg (show ¬ (1 : Int32) = 0 by decide), if_neg (show ¬ (1 : Int32) = 0 by decide), zm_bms]
        have h1 : (rj_pi (mX12_lacksT r) 395 0 2).1 395 0 = 2 := zm_pi_eq
        rw [h1]
        exact ⟨zh_2 (by decide), zi_query h zo_cst_rfl (zo_rst_of zo_stillF2), trivial, fun _ => trivial, fun _ => ⟨fun _ => trivial, fun _ => ⟨fun z => absurd z (by decide), fun _ => trivial⟩⟩⟩
    · rw [e3, e4, if_pos rfl, if_pos rfl, zm_bms, zm_F]
      exact ⟨zh_1, zi_query h zo_cst_rfl (zo_rst_of zo_stillF), trivial, fun _ => trivial, fun _ => ⟨fun _ => trivial, fun z => absurd rfl z⟩⟩
  · rw [e1, e2, if_pos rfl, if_pos rfl, zm_bms, zm_F]
    exact ⟨zh_1, zi_query h zo_cst_rfl (zo_rst_of zo_stillF), trivial, fun _ => trivial, fun z => absurd rfl z⟩
theorem zo_wish (h : zi_I n c r) : zo_out ["java/lang/IndexOutOfBoundsException", "java/lang/IllegalArgumentException"] (fX11_wish c a0 a1 a2) ((mX12_wish r a0 a1 a2).1 395 0) (fX12_wish r a0 a1 a2) ∧ zi_op n c (mX11_wish c a0 a1 a2) r (mX12_wish r a0 a1 a2) ∧ qX11_wish c a0 a1 a2 ∧ qX12_wish r a0 a1 a2 := by
  unfold fX11_wish mX12_wish fX12_wish mX11_wish qX11_wish qX12_wish fX12_isVisitor
  have h0 := h
  obtain ⟨s, L, G, h1, h2, ok⟩ := h0
  rcases zn_p2 (μ := c) (ν := r) (a := a0) (c := 12) (d := 11) (n := 11) rfl rfl (by decide) with ⟨e1, e2, x, hx, rfl⟩ | ⟨e1, e2⟩
  · rw [e1, e2, if_neg (show ¬ (1 : Int32) = 0 by decide), if_neg (show ¬ (1 : Int32) = 0 by decide), zm_bmn]
    rcases zn_act (a0 := a1) h1.1.2.2.1 h2.1 ok.1.2.2.1 with ⟨e3, e4, y, hy, hyp, rfl⟩ | ⟨e3, e4⟩
    · rw [e3, e4, if_neg (show ¬ (1 : Int32) = 0 by decide), if_neg (show ¬ (1 : Int32) = 0 by decide), zm_bmn]
      rcases zn_r2 (μ := c) (ν := mX12_lacksT r) (a := a2) (c := 9) (n := 9) rfl (by decide) with ⟨e5, e6, m, hm, rfl⟩ | ⟨e5, e6⟩
      · rw [e5, e6, zm_no1.1, zm_no1.2, if_pos rfl, if_pos rfl, zm_bmn]
        have hp : nI x * 16 + nI y = nI (16 * x + y) := by rw [show nI x * 16 = nI (x * 16) from pk_mul x 16, nI_add, Nat.mul_comm]
        have hb : 119 + 16 * nI x + nI y = nI (119 + (16 * x + y)) := by rw [show 16 * nI x = nI (16 * x) from pk_mul 16 x, show (119 : Int32) = nI 119 from rfl, nI_add, nI_add, Nat.add_assoc]
        have hrep := zm_rep (μ := mX11_beginChange c) (k := 14) (n := 192) (v := nI m) (j := 16 * x + y) hp (by omega) (by decide)
        obtain ⟨c1, c2, c3, c4, c5, c6⟩ := zi_core (x := 119 + (16 * x + y)) (k := 14) (i := 16 * x + y) (m := m) (v := nI m) h1 h2 ok (by decide) (by decide) rfl (by omega) (fun t ht => zr_mom_prog ht (by decide) (by omega) ⟨fun a ha => by
          rw [zm_pi_ne (by decide), zm_pi_ne (by decide), zm_pi_ne (by decide), zm_pi_ne (by decide), zm_pi_ne (by decide), zg_up_ne (k := 23 + 6 * a) (by omega), zg_up_ne (k := 24 + 6 * a) (by omega), zg_up_ne (k := 25 + 6 * a) (by omega), zg_up_ne (k := 26 + 6 * a) (by omega), zg_up_ne (k := 27 + 6 * a) (by omega), zg_up_ne (k := 28 + 6 * a) (by omega)]
          exact ht.2.2.1.1 a ha, zw_row ht.2.2.1.2 rfl rfl⟩) (zo_ok_prog ok.1 (by omega) ⟨fun a ha => by
          rw [zg_up_ne (k := 23 + 6 * a) (by omega), zg_up_ne (k := 24 + 6 * a) (by omega), zg_up_ne (k := 25 + 6 * a) (by omega), zg_up_ne (k := 26 + 6 * a) (by omega), zg_up_ne (k := 27 + 6 * a) (by omega), zg_up_ne (k := 28 + 6 * a) (by omega)]
          exact ok.1.2.2.1.1 a ha, fun v a hv ha => by
          rw [zg_up_ne (k := 23 + 6 * a) (by omega)]
          by_cases e : v = x ∧ a = y
          · obtain ⟨rfl, rfl⟩ := e
            rw [Nat.add_assoc, zg_up_eq]
            exact ⟨by omega, fun z => absurd hyp z⟩
          · rw [zg_up_ne (by omega)]
            exact ok.1.2.2.1.2 v a hv ha⟩)
        unfold mX12_sets fX12_sets qX12_sets
        rw [hrep.1, hrep.2, hb, nI_clamp (by omega), c3, c5, c6, show c.1 14 (16 * x + y) = nI (s.1 (119 + (16 * x + y))) from h1.1.2.2.1.2 _ (by omega)]
        exact ⟨⟨rfl, rfl⟩, c4, ⟨c1, trivial⟩, fun z => absurd z (by decide), fun _ => ⟨fun z => absurd z (by decide), fun _ => ⟨fun _ => ⟨⟨c2, trivial⟩, trivial⟩, fun _ => trivial⟩⟩⟩
      · rw [e5, e6, zm_no0.1, zm_no0.2, if_neg (show ¬ (1 : Int32) = 0 by decide), if_neg (show ¬ (1 : Int32) = 0 by decide), zm_bms]
        have h1 : (rj_pi (mX12_lacksT r) 395 0 2).1 395 0 = 2 := zm_pi_eq
        rw [h1]
        exact ⟨zh_2 (by decide), zi_query h zo_cst_rfl (zo_rst_of zo_stillF2), trivial, fun _ => trivial, fun _ => ⟨fun _ => trivial, fun _ => ⟨fun z => absurd z (by decide), fun _ => trivial⟩⟩⟩
    · rw [e3, e4, if_pos rfl, if_pos rfl, zm_bms, zm_F]
      exact ⟨zh_1, zi_query h zo_cst_rfl (zo_rst_of zo_stillF), trivial, fun _ => trivial, fun _ => ⟨fun _ => trivial, fun z => absurd rfl z⟩⟩
  · rw [e1, e2, if_pos rfl, if_pos rfl, zm_bms, zm_F]
    exact ⟨zh_1, zi_query h zo_cst_rfl (zo_rst_of zo_stillF), trivial, fun _ => trivial, fun z => absurd rfl z⟩
theorem zo_setServing (h : zi_I n c r) : zo_out ["java/lang/IllegalArgumentException"] (fX11_setServing c a0) ((mX12_setServing r a0).1 395 0) (fX12_setServing r a0) ∧ zi_op n c (mX11_setServing c a0) r (mX12_setServing r a0) ∧ qX11_setServing c a0 ∧ qX12_setServing r a0 := by
  unfold fX11_setServing mX12_setServing fX12_setServing mX11_setServing qX11_setServing qX12_setServing
  rcases zn_r3 (μ := c) (ν := r) (a := a0) (l := 1) (c := 10) (lo := 1) (hi := 10) rfl rfl (by decide) (by decide) with ⟨e5, e6, m, hm1, hm2, rfl⟩ | ⟨e5, e6⟩
  · rw [e5, e6, zm_lacks1.1, zm_lacks1.2, if_pos rfl, if_pos rfl, zm_bmn]
    obtain ⟨s, L, G, h1, h2, ok⟩ := h
    obtain ⟨c1, c2, c3, c4, c5, c6⟩ := zi_core (x := 330) (k := 21) (i := 5) (m := m) (v := nI m) h1 h2 ok (by decide) (by decide) rfl (by omega) (fun t ht => zr_mom_bars ht (by decide) (by omega) (by
      obtain ⟨q, w, hq, b1, b2, b3, b4, b5, b6⟩ := ht.2.2.2.2.1
      refine ⟨q, w, zr_line_congr hq (fun k k1 k2 => zg_up_ne (by omega)) (fun k k1 k2 => zg_up_ne (by omega)), (zm_pi_ne2 (by decide)).trans b1, fun i hi => by rw [zm_pi_ne (by decide)]; exact b2 i hi, fun v hv => by rw [zm_pi_ne (by decide)]; exact b3 v hv, fun k hk => by rw [zm_pi_ne (by decide), zg_up_ne (by omega)]; exact b4 k hk, ?_, ?_⟩
      · rw [zg_up_eq]
        exact zm_pi_eq
      · rw [zg_up_ne (by decide)]
        exact (zm_pi_ne2 (by decide)).trans b6)) (zo_ok_bars ok.1 (by omega) (by
      obtain ⟨p1, p2, p3, p4, p5, p6⟩ := zv_bars ok.1.2.2.2.2.1 (S' := s.1) (fun _ _ _ => rfl)
      exact ⟨by rw [zg_up_eq]; exact hm1, by rw [zg_up_eq]; exact hm2, fun k hk => by rw [zg_up_ne (by omega)]; exact p3 k hk, by rw [zg_up_ne (by omega)]; exact p4, by rw [zg_up_ne (by omega)]; exact p5, fun b hb => by rw [zg_up_ne (k := 331 + 13 * b) (by omega), zg_up_ne (k := 370 + b) (by omega)]; exact p6 b hb⟩))
    unfold mX12_sets fX12_sets qX12_sets
    rw [show (330 : Int32).toNatClampNeg = 330 from rfl, c3, c6]
    refine ⟨⟨rfl, ?_⟩, c4, ⟨c1, trivial⟩, fun _ => ⟨⟨c2, trivial⟩, trivial⟩, fun _ => trivial⟩
    rw [c5]
    obtain ⟨q, w, hq, b1, b2, b3, b4, b5, b6⟩ := h1.1.2.2.2.2.1
    exact b5.symm
  · rw [e5, e6, zm_lacks0.1, zm_lacks0.2, if_neg (show ¬ (1 : Int32) = 0 by decide), if_neg (show ¬ (1 : Int32) = 0 by decide), zm_bms, zm_F]
    exact ⟨zh_1, zi_query h zo_cst_rfl (zo_rst_of zo_stillF), trivial, fun z => absurd z (by decide), fun _ => trivial⟩
theorem zo_setShift (h : zi_I n c r) : zo_out ["java/lang/IllegalArgumentException"] (fX11_setShift c a0) ((mX12_setShift r a0).1 395 0) (fX12_setShift r a0) ∧ zi_op n c (mX11_setShift c a0) r (mX12_setShift r a0) ∧ qX11_setShift c a0 ∧ qX12_setShift r a0 := by
  unfold fX11_setShift mX12_setShift fX12_setShift mX11_setShift qX11_setShift qX12_setShift
  rcases zn_r3 (μ := c) (ν := r) (a := a0) (l := 2) (c := 10) (lo := 2) (hi := 10) rfl rfl (by decide) (by decide) with ⟨e5, e6, m, hm1, hm2, rfl⟩ | ⟨e5, e6⟩
  · rw [e5, e6, zm_lacks1.1, zm_lacks1.2, if_pos rfl, if_pos rfl, zm_bmn]
    obtain ⟨s, L, G, h1, h2, ok⟩ := h
    obtain ⟨c1, c2, c3, c4, c5, c6⟩ := zi_core (x := 411) (k := 26) (i := 1) (m := m) (v := nI m) h1 h2 ok (by decide) (by decide) rfl (by omega) (fun t ht => zr_mom_shft ht (by decide) (by omega) ⟨by rw [zg_up_eq]; exact zm_pi_eq, fun k hk => by rw [zm_pi_ne (by decide), zg_up_ne (by omega)]; exact ht.2.2.2.2.2.1.2 k hk⟩) (zo_ok_shft ok.1 (by omega) ⟨by rw [zg_up_eq]; exact hm1, by rw [zg_up_eq]; exact hm2, fun k hk => by rw [zg_up_ne (by omega)]; exact ok.1.2.2.2.2.2.1.2.2 k hk⟩)
    unfold mX12_sets fX12_sets qX12_sets
    rw [show (411 : Int32).toNatClampNeg = 411 from rfl, c3, c6]
    refine ⟨⟨rfl, ?_⟩, c4, ⟨c1, trivial⟩, fun _ => ⟨⟨c2, trivial⟩, trivial⟩, fun _ => trivial⟩
    rw [c5]
    exact h1.1.2.2.2.2.2.1.1.symm
  · rw [e5, e6, zm_lacks0.1, zm_lacks0.2, if_neg (show ¬ (1 : Int32) = 0 by decide), if_neg (show ¬ (1 : Int32) = 0 by decide), zm_bms, zm_F]
    exact ⟨zh_1, zi_query h zo_cst_rfl (zo_rst_of zo_stillF), trivial, fun z => absurd z (by decide), fun _ => trivial⟩
end zs4
