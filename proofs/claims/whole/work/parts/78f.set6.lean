/-! SETTERS: lose, undo, setDate, setWay -/
section zs7
variable {c r : rj_M} {a0 a1 a2 a3 : Int32} {n : Nat}
theorem zq_lostNow {S : Nat → Nat} {B : Nat → Int} (hc : zr_grnd c 1 S) (hr : zr_row (r.1 396) S B) : fX4_countLost c = fX12_lostNow r := by
  unfold fX4_countLost fX12_lostNow
  have step : ∀ j x, j < 100 → bX4_countLost_4 c j x = bX12_lostNow_4 r j x := fun j x hj => by
    unfold bX4_countLost_4 bX12_lostNow_4
    have e525 : (525 : Int32) + nI j = nI (525 + j) := by rw [show (525 : Int32) = nI 525 from rfl, nI_add]
    rw [nI_clamp (n := j) (by omega), e525, nI_clamp (by omega), hr.2.2.2 (525 + j) (by omega) (by omega), show c.1 7 j = nI (S (525 + j)) - 1 from hc.2.2.2 j (by omega), Int32.add_zero]
  exact zf_rel (f := bX4_countLost_4 c) (g := bX12_lostNow_4 r) (fun _ x y => x = y) 100 0 0 0 rfl (fun j x y _ hj e => by
    rw [e]
    exact step j y (by omega))
/-- a thing of the row is set -/
theorem zi_thing {x m : Nat} {v : Int32} {s : zi_St} {L : List zi_St} {G : Option (Nat → Nat)} (h : zi_c c s L G) (h' : zi_r r s L G) (ok : zi_ok n s L G) (hv : v = nI m - 1) (hm : m ≤ 4) (hx : x < 100) : qX11_beginChange c ∧ qX12_keeps (mX12_lacksT r) ∧ (rj_pi (mX12_keeps (mX12_lacksT r)) 396 (525 + x) v).1 395 0 = 0 ∧ zi_op n c (rj_pi (mX11_beginChange c) 7 x v) r (rj_pi (mX12_keeps (mX12_lacksT r)) 396 (525 + x) v) ∧ zr_grnd (rj_pi (mX11_beginChange c) 7 x v) 1 (zg_up s.1 (525 + x) m) ∧ zr_row ((rj_pi (mX12_keeps (mX12_lacksT r)) 396 (525 + x) v).1 396) (zg_up s.1 (525 + x) m) s.2 := by
  have hG : ∀ t, zr_mom t 1 s.1 s.2 → zr_grnd (rj_pi t 7 x v) 1 (zg_up s.1 (525 + x) m) := fun t ht => ⟨fun k hk => by rw [zm_pi_ne (by decide), zg_up_ne (by omega)]; exact ht.2.1.1 k hk, fun p hp => by rw [zm_pi_ne (by decide), zg_up_ne (by omega)]; exact ht.2.1.2.1 p hp, fun i j hi hj => by
      rw [zm_pi_ne (by decide), ht.2.1.2.2.1 i j hi hj]
      congr 1
      exact zk_fw_congr (fun y z hy hz => (zg_up_ne (by omega)).symm) hi hj, fun k hk => by
      by_cases e : k = x
      · rw [e, zg_up_eq, ← hv]
        exact zm_pi_eq
      · rw [zg_up_ne (by omega)]
        exact (zm_pi_ne2 e).trans (ht.2.1.2.2.2 k hk)⟩
  have hb := zi_begin h ok.1.2.1
  have hk := zi_keeps (zi_r_rst h' (zo_rst_of (zo_stillT (r := r))))
  obtain ⟨c1, c2, c3, c4⟩ := zi_gen (S' := zg_up s.1 (525 + x) m) (B' := s.2) (t := rj_pi (mX11_beginChange c) 7 x v) (u := rj_pi (mX12_keeps (mX12_lacksT r)) 396 (525 + x) v) h h' ok (fun d hd hm => by
    subst hd
    exact ⟨zr_momG hm (fun k hk => zm_pi_ne (by omega)) rfl (fun y hy => zg_up_ne (by omega)) (hG _ hm), fun k hk => ⟨zm_pi_ne (by omega), rfl⟩, rfl⟩) (fun d hd hm => by
    subst hd
    exact ⟨zr_th hm hx hv, fun k e1 e2 => zm_pi_ne e2, fun i _ => congrFun (zm_pi_ne (by decide)) i, rfl⟩) (zo_okG ok.1 (fun y hy => zg_up_ne (by omega)) ⟨fun k hk => by rw [zg_up_ne (by omega)]; exact ok.1.2.1.1 k hk, fun i j hi hj => by rw [zg_up_ne (k := 7 + 4 * i + j) (by omega), zg_up_ne (k := 7 + 4 * j + i) (by omega)]; exact ok.1.2.1.2.1 i j hi hj, fun i hi => by rw [zg_up_ne (by omega)]; exact ok.1.2.1.2.2.1 i hi, fun k hk => by
    by_cases e : k = x
    · rw [e, zg_up_eq]
      exact hm
    · rw [zg_up_ne (by omega)]
      exact ok.1.2.1.2.2.2 k hk⟩)
  exact ⟨c1, c2, c3, c4, hG _ hb.2.1.1, zr_th hk.2.1.1 hx hv⟩
theorem zo_lose (h : zi_I n c r) : zo_out ["java/lang/IndexOutOfBoundsException", "java/lang/IllegalArgumentException"] (fX11_lose c a0 a1) ((mX12_lose r a0 a1).1 395 0) (fX12_lose r a0 a1) ∧ zi_op n c (mX11_lose c a0 a1) r (mX12_lose r a0 a1) ∧ qX11_lose c a0 a1 ∧ qX12_lose r a0 a1 := by
  unfold fX11_lose mX12_lose fX12_lose mX11_lose qX11_lose qX12_lose fX12_isStage
  rcases zn_p2 (μ := c) (ν := r) (a := a1) (c := 4) (d := 3) (n := 3) rfl rfl (by decide) with ⟨e1, e2, y, hy, rfl⟩ | ⟨e1, e2⟩
  · rw [e1, e2, zm_lacks1.1, zm_lacks1.2, if_pos rfl, if_pos rfl, zm_bmn]
    rcases zn_r2 (μ := c) (ν := mX12_lacksT r) (a := a0) (c := 99) (n := 99) rfl (by decide) with ⟨e3, e4, x, hx, rfl⟩ | ⟨e3, e4⟩
    · rw [e3, e4, zm_no1.1, zm_no1.2, if_pos rfl, if_pos rfl, zm_bmn]
      obtain ⟨s, L, G, h1, h2, ok⟩ := h
      have hb : 525 + nI x = nI (525 + x) := by rw [show (525 : Int32) = nI 525 from rfl, nI_add]
      have hrep := zm_rep (μ := mX11_beginChange c) (k := 7) (n := 100) (v := nI y) (j := x) rfl hx (by decide)
      obtain ⟨c1, c2, c3, c4, c5, c6⟩ := zi_thing (x := x) (m := y + 1) (v := nI y) h1 h2 ok (nI_pred y).symm (by omega) (by omega)
      rw [hrep.1, hb, nI_clamp (by omega), c3]
      exact ⟨⟨rfl, (zq_lostNow c5 c6).symm⟩, c4, ⟨c1, trivial⟩, fun _ => ⟨fun _ => ⟨c2, vp_in_nI (by omega) (by decide), trivial⟩, fun _ => trivial⟩, fun _ => trivial⟩
    · rw [e3, e4, zm_no0.1, zm_no0.2, if_neg (show ¬ (1 : Int32) = 0 by decide), if_neg (show ¬ (1 : Int32) = 0 by decide), zm_bms]
      have h1 : (rj_pi (mX12_lacksT r) 395 0 2).1 395 0 = 2 := zm_pi_eq
      rw [h1]
      exact ⟨zh_2 (by decide), zi_query h zo_cst_rfl (zo_rst_of zo_stillF2), trivial, fun _ => ⟨fun z => absurd z (by decide), fun _ => trivial⟩, fun _ => trivial⟩
  · rw [e1, e2, zm_lacks0.1, zm_lacks0.2, if_neg (show ¬ (1 : Int32) = 0 by decide), if_neg (show ¬ (1 : Int32) = 0 by decide), zm_bms, zm_F]
    exact ⟨zh_1, zi_query h zo_cst_rfl (zo_rst_of zo_stillF), trivial, fun z => absurd z (by decide), fun _ => trivial⟩
theorem zo_undo (h : zi_I n c r) : zo_out ["java/lang/IllegalStateException"] (fX11_undo c) ((mX12_undo r).1 395 0) (fX12_undo r) ∧ zi_op n c (mX11_undo c) r (mX12_undo r) ∧ qX11_undo c ∧ qX12_undo r := by
  have h0 := h
  obtain ⟨s, L, G, ⟨h1, h2, h3⟩, ⟨g1, g2, g3, g4, g5⟩, ok1, ok2, ok3⟩ := h0
  cases L with
  | nil =>
    obtain ⟨u1, u2, u3⟩ := zc_undo0 h2
    obtain ⟨v1, v2, v3⟩ := zq_undo0 g2
    rw [u2, u3, v2, v3, zm_F]
    exact ⟨zh_1, zi_query h zo_cst_rfl (zo_rst_of zo_stillF), u1, v1⟩
  | cons s0 L =>
    obtain ⟨S0, B0⟩ := s0
    have o0 := ok2 (S0, B0) List.mem_cons_self
    obtain ⟨u1, u2, u3, u4, u5, u6, u7, u8⟩ := zc_undo (S := S0) (B := B0) h2 o0.2.1
    obtain ⟨v1, v2, v3, v4, v5, v6, v7, v8⟩ := zq_undo g2
    rw [u2, v2, v3]
    exact ⟨⟨rfl, rfl⟩, ⟨⟨(S0, B0), L, none, ⟨u4, u3, .inl ⟨rfl, u5⟩⟩, ⟨v5, v4, .inl ⟨rfl, v6⟩, fun k hk => by rw [v8]; exact g4 k hk, fun k i => by rw [v8]; exact g5 k i⟩, zv_ok o0, fun t ht => zv_ok (ok2 t (List.mem_cons_of_mem _ ht)), fun g hg => by cases hg⟩, ⟨fun k hk => ⟨u6 k (.inr hk) (by omega), u7 k (.inr (.inr hk))⟩, u8⟩, fun k hk => v7 k (by omega) (by omega), fun k _ => by rw [v8]; exact ⟨rfl, rfl⟩, fun k _ _ => by rw [v8]⟩, u1, v1⟩
theorem zn_date : fX1_isDate c a0 a1 a2 = if fX12_in r a0 1 9990 = 0 then 0 else if fX12_in r a1 1 12 = 0 then 0 else if fX12_in r a2 1 (fX1_daysIn c a0 a1) = 0 then 0 else 1 := by
  unfold fX1_isDate fX12_in
  have n10 : ¬ (1 : Int32) = 0 := by decide
  by_cases c1 : a0 < 1
  · rw [if_pos c1, if_pos c1, if_pos rfl]
  · rw [if_neg c1, if_neg c1]
    by_cases c2 : 9990 < a0
    · rw [if_pos c2, if_pos c2, if_pos rfl]
    · rw [if_neg c2, if_neg c2, if_neg n10]
      by_cases c3 : a1 < 1
      · rw [if_pos c3, if_pos c3, if_pos rfl]
      · rw [if_neg c3, if_neg c3]
        by_cases c4 : 12 < a1
        · rw [if_pos c4, if_pos c4, if_pos rfl]
        · rw [if_neg c4, if_neg c4, if_neg n10]
          by_cases c5 : a2 < 1
          · rw [if_pos c5, if_pos rfl]
          · rw [if_neg c5]
            by_cases c6 : fX1_daysIn c a0 a1 < a2
            · rw [if_pos c6, if_pos rfl]
            · rw [if_neg c6, if_neg n10]
theorem zo_cal_of {S : Nat → Nat} {y m d : Nat} (h : zk_isDate (y, m, d)) (hy : y ≤ 9990) (h0 : S 0 = y) (h1 : S 1 = m) (h2 : S 2 = d) : zo_cal S := by
  obtain ⟨d1, d2, d3, d4, d5⟩ := h
  simp only at d1 d2 d3 d4 d5
  have hd := (zk_dim_le (y := y) (m := m)).2
  unfold zo_cal
  rw [h0, h1, h2]
  unfold zk_dim at d5
  refine ⟨d1, hy, d2, d3, d4, by unfold zk_dim at hd; omega, fun e => ?_, fun e => ?_, fun e el => ?_⟩
  · rw [if_pos e] at d5
    split at d5 <;> omega
  · rw [if_neg (by omega), if_pos e] at d5
    exact d5
  · rw [if_pos e, if_neg el] at d5
    exact d5
theorem zo_setDate (h : zi_I n c r) : zo_out ["java/lang/IllegalArgumentException"] (fX11_setDate c a0 a1 a2) ((mX12_setDate r a0 a1 a2).1 395 0) (fX12_setDate r a0 a1 a2) ∧ zi_op n c (mX11_setDate c a0 a1 a2) r (mX12_setDate r a0 a1 a2) ∧ qX11_setDate c a0 a1 a2 ∧ qX12_setDate r a0 a1 a2 := by
  unfold fX11_setDate mX12_setDate fX12_setDate mX11_setDate qX11_setDate qX12_setDate
  rw [zn_date (r := r)]
  rcases zn_r3 (μ := c) (ν := r) (a := a0) (l := 1) (c := 9990) (lo := 1) (hi := 9990) rfl rfl (by decide) (by decide) with ⟨-, e1, y, hy1, hy2, rfl⟩ | ⟨-, e1⟩
  · rw [e1, if_neg (show ¬ (1 : Int32) = 0 by decide), if_neg (show ¬ (1 : Int32) = 0 by decide), if_neg (show ¬ (1 : Int32) = 0 by decide)]
    rcases zn_r3 (μ := c) (ν := r) (a := a1) (l := 1) (c := 12) (lo := 1) (hi := 12) rfl rfl (by decide) (by decide) with ⟨-, e2, m, hm1, hm2, rfl⟩ | ⟨-, e2⟩
    · rw [e2, if_neg (show ¬ (1 : Int32) = 0 by decide), if_neg (show ¬ (1 : Int32) = 0 by decide), if_neg (show ¬ (1 : Int32) = 0 by decide), (zc_dim (mu := c) (y := y) (m := m) (by omega) (by omega)).1, (zc_dim (mu := r) (y := y) (m := m) (by omega) (by omega)).2]
      have hdim := zk_dim_le (y := y) (m := m)
      rcases zn_r3 (μ := c) (ν := r) (a := a2) (l := 1) (c := nI (zk_dim y m)) (lo := 1) (hi := zk_dim y m) rfl rfl (by omega) (by omega) with ⟨-, e3, d, hd1, hd2, rfl⟩ | ⟨-, e3⟩
      · rw [e3, if_neg (show ¬ (1 : Int32) = 0 by decide), if_neg (show ¬ (1 : Int32) = 0 by decide), if_neg (show ¬ (1 : Int32) = 0 by decide), if_neg (show ¬ (1 : Int32) = 0 by decide)]
        obtain ⟨s, L, G, h1, h2, ok⟩ := h
        have hdate : zk_isDate (y, m, d) := ⟨hy1, hm1, hm2, hd1, hd2⟩
        have hb := zi_begin h1 ok.1.2.1
        unfold mX1_startOn
        rw [show (0 : Int32).toNatClampNeg = 0 from rfl, show (1 : Int32).toNatClampNeg = 1 from rfl, show (2 : Int32).toNatClampNeg = 2 from rfl]
        generalize hc1 : mX11_beginChange c = c1 at hb ⊢
        generalize hr1 : mX12_keeps (mX12_lacksT r) = q1
        have s0 : zg_up (zg_up (zg_up s.1 0 y) 1 m) 2 d 0 = y := by rw [zg_up_ne (by decide), zg_up_ne (by decide), zg_up_eq]
        have s1 : zg_up (zg_up (zg_up s.1 0 y) 1 m) 2 d 1 = m := by rw [zg_up_ne (by decide), zg_up_eq]
        have s2 : zg_up (zg_up (zg_up s.1 0 y) 1 m) 2 d 2 = d := zg_up_eq
        have hcal : zr_cal (rj_pi (rj_pi (rj_pi c1 2 0 (nI y)) 2 1 (nI m)) 2 2 (nI d)) 1 (zg_up (zg_up (zg_up s.1 0 y) 1 m) 2 d) := by
          unfold zr_cal
          rw [s0, s1, s2]
          exact ⟨(zm_pi_ne2 (by decide)).trans ((zm_pi_ne2 (by decide)).trans zm_pi_eq), (zm_pi_ne2 (by decide)).trans zm_pi_eq, zm_pi_eq⟩
        have hocal := zo_cal_of hdate hy2 s0 s1 s2
        obtain ⟨c1', c2', c3', c4'⟩ := zi_gen (S' := zg_up (zg_up (zg_up s.1 0 y) 1 m) 2 d) (B' := s.2) (t := rj_pi (rj_pi (rj_pi c1 2 0 (nI y)) 2 1 (nI m)) 2 2 (nI d)) (u := rj_pi (rj_pi (rj_pi q1 396 0 (nI y)) 396 1 (nI m)) 396 2 (nI d)) h1 h2 ok (fun d' hd' hm' => by
          rw [hc1] at hd'
          subst hd'
          exact ⟨zr_momC hm' (fun k hk => by rw [zm_pi_ne hk, zm_pi_ne hk, zm_pi_ne hk]) rfl (fun x hx => by rw [zg_up_ne (by omega), zg_up_ne (by omega), zg_up_ne (by omega)]) hcal, fun k hk => ⟨by rw [zm_pi_ne (by omega), zm_pi_ne (by omega), zm_pi_ne (by omega)], rfl⟩, rfl⟩) (fun d' hd' hm' => by
          rw [hr1] at hd'
          subst hd'
          exact ⟨zr_pi2 (zr_pi2 (zr_pi2 hm' (by decide) rfl) (by decide) rfl) (by decide) rfl, fun k e1 e2 => by rw [zm_pi_ne e2, zm_pi_ne e2, zm_pi_ne e2], fun i _ => by rw [zm_pi_ne (by decide), zm_pi_ne (by decide), zm_pi_ne (by decide)], rfl⟩) (zo_okC ok.1 (fun x hx => by rw [zg_up_ne (by omega), zg_up_ne (by omega), zg_up_ne (by omega)]) hocal)
        have w1 := zc_weekday hcal hocal (i := 0) (by decide)
        have w2 := zq_weekday (mu := rj_pi (rj_pi (rj_pi q1 396 0 (nI y)) 396 1 (nI m)) 396 2 (nI d)) hdate (show y < 10000 by omega)
        rw [s0, s1, s2, Nat.add_zero] at w1
        rw [c3']
        exact ⟨⟨rfl, w2.trans w1.symm⟩, c4', ⟨c1', trivial⟩, fun z => absurd z (by decide), fun _ => ⟨fun z => absurd z (by decide), fun _ => ⟨fun z => absurd z (by decide), fun _ => ⟨c2', trivial⟩⟩⟩⟩
      · rw [e3, if_pos rfl, if_pos rfl, if_pos rfl, if_pos rfl, zm_F]
        exact ⟨zh_1, zi_query h zo_cst_rfl (zo_rst_of zo_stillF), trivial, fun _ => trivial, fun _ => ⟨fun _ => trivial, fun _ => ⟨fun _ => trivial, fun z => absurd rfl z⟩⟩⟩
    · rw [e2, if_pos rfl, if_pos rfl, if_pos rfl, if_pos rfl, zm_F]
      exact ⟨zh_1, zi_query h zo_cst_rfl (zo_rst_of zo_stillF), trivial, fun _ => trivial, fun _ => ⟨fun _ => trivial, fun z => absurd rfl z⟩⟩
  · rw [e1, if_pos rfl, if_pos rfl, if_pos rfl, if_pos rfl, zm_F]
    exact ⟨zh_1, zi_query h zo_cst_rfl (zo_rst_of zo_stillF), trivial, fun _ => trivial, fun z => absurd rfl z⟩
end zs7
