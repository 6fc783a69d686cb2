/-! rain, both sides -/
section zsd
variable {c r : rj_M} {a0 a1 : Int32} {n : Nat}
theorem zj_rain : fX12_rain r a0 a1 = (if (fX12_in r a0 0 5759) = 0 then 0 else (if (fX12_in r a1 (a0 + 1) 5760) = 0 then 0 else (if 6 < (rj_fo (bX12_rain_43 r a0 a1) 16 0 0) then 0 else ((rj_pi (rj_ri (zR r a0 a1) 435 (va_cpy ((zR r a0 a1).1 437) ((zR r a0 a1).1 435) 0 0 16)) 395 11 1).1 395 15)))) := rfl
theorem zj_rainM : mX12_rain r a0 a1 = (if (fX12_in r a0 0 5759) = 0 then (mX12_lacksF r) else (if (fX12_in r a1 (a0 + 1) 5760) = 0 then (mX12_lacksF r) else (if 6 < (rj_fo (bX12_rain_43 r a0 a1) 16 0 0) then (mX12_noF (mX12_lacksT r) 2) else (rj_pi (rj_ri (zR r a0 a1) 435 (va_cpy ((zR r a0 a1).1 437) ((zR r a0 a1).1 435) 0 0 16)) 395 11 1)))) := rfl
theorem zo_rain (h : zi_I n c r) : zo_out ["java/lang/IllegalArgumentException", "java/lang/IllegalStateException"] (fX11_rain c a0 a1) ((mX12_rain r a0 a1).1 395 0) (fX12_rain r a0 a1) ∧ zi_op n c (mX11_rain c a0 a1) r (mX12_rain r a0 a1) ∧ qX11_rain c a0 a1 ∧ qX12_rain r a0 a1 := by
  have n10 : ¬ (1 : Int32) = 0 := by decide
  rw [zj_rain, zj_rainM]
  unfold fX11_rain mX11_rain qX11_rain qX12_rain
  rcases zn_r2 (μ := c) (ν := r) (a := a0) (c := 5759) (n := 5759) rfl (by decide) with ⟨e1, e2, f, hf, rfl⟩ | ⟨e1, e2⟩
  · rw [e1, e2, if_neg n10, if_neg n10, zm_bmn, nI_1]
    rcases zn_r3 (μ := c) (ν := r) (a := a1) (l := nI (f + 1)) (c := 5760) (lo := f + 1) (hi := 5760) rfl rfl (by omega) (by decide) with ⟨e3, e4, t, ht1, ht2, rfl⟩ | ⟨e3, e4⟩
    · rw [e3, e4, if_neg n10, if_neg n10, zm_bmn]
      have h0 := h
      obtain ⟨s, L, G, h1, h2, ok⟩ := h0
      have hp := h1.1.2.2.1
      have hg := h1.1.2.1
      have cm := zc_countMet hp hg ok.1.2.2.1 ok.1.2.1 (f := f) (t := t) (by omega) (by omega)
      obtain ⟨qm, qq⟩ := zq_met h2.1 ok.1.2.2.1 ok.1.2.1 (f := f) (t := t) (by omega) (by omega)
      have c16 := zg_cnt16 (mt := zg_met s.1 f t)
      rw [cm, qm]
      by_cases c6 : zg_cnt (zg_met s.1 f t) ≤ 6
      · have i1 : nI (zg_cnt (zg_met s.1 f t)) ≤ (6 : Int32) := nI_le (b := 6) c6 (by decide)
        have i2 : ¬ (6 : Int32) < nI (zg_cnt (zg_met s.1 f t)) := Int32.not_lt.mpr i1
        rw [if_pos i1, if_pos i1, if_neg i2, if_neg i2]
        obtain ⟨m1, m2, m3, m4, m5⟩ := zc_make hp hg ok.1.2.2.1 ok.1.2.1 (f := f) (t := t) (by omega) (by omega) c6 (fun _ => 0)
        obtain ⟨p1, p2, p3, p4, p5, p6, p7⟩ := zq_plan2 h2.1 ok.1.2.2.1 ok.1.2.1 (f := f) (t := t) (by omega) (by omega) c6 (fun _ => 0)
        have pp := zq_plan1 h2.1 ok.1.2.2.1 ok.1.2.1 (f := f) (t := t) (by omega) (by omega)
        rw [qm] at p7
        generalize zR r (nI f) (nI t) = Z at p1 p2 p3 p4 p5 p6 ⊢
        have u395 : ∀ i, i ≠ 11 → (rj_pi (rj_ri Z 435 (va_cpy (Z.1 437) (Z.1 435) 0 0 16)) 395 11 1).1 395 i = Z.1 395 i := fun i hi => by
          rw [zm_pi_ne2 hi, zm_ri_ne (by decide)]
        have uk : ∀ k, k ≠ 395 → k ≠ 435 → k ≠ 436 → k ≠ 437 → (rj_pi (rj_ri Z 435 (va_cpy (Z.1 437) (Z.1 435) 0 0 16)) 395 11 1).1 k = r.1 k := fun k k1 k2 k3 k4 => by
          rw [zm_pi_ne k1, zm_ri_ne k2]
          exact p3 k k1 k3 k4
        have u435 : ∀ k, k < 16 → (rj_pi (rj_ri Z 435 (va_cpy (Z.1 437) (Z.1 435) 0 0 16)) 395 11 1).1 435 k = nI ((zg_fin s.1 f t (fun _ => 0)).2 k) - 1 := fun k hk => by
          rw [zm_pi_ne (by decide), zm_ri_at, zm_cpy]
          show (if k < 16 then Z.1 437 k else Z.1 435 k) = _
          rw [if_pos hk]
          exact p2 k hk
        have u11 : (rj_pi (rj_ri Z 435 (va_cpy (Z.1 437) (Z.1 435) 0 0 16)) 395 11 1).1 395 11 = 1 := zm_pi_eq
        have u2 : (rj_pi (rj_ri Z 435 (va_cpy (Z.1 437) (Z.1 435) 0 0 16)) 395 11 1).2 = r.2 := p6
        generalize rj_pi (rj_ri Z 435 (va_cpy (Z.1 437) (Z.1 435) 0 0 16)) 395 11 1 = u at u395 uk u435 u11 u2 ⊢
        rw [u395 0 (by decide), u395 15 (by decide), p4, p1, m1]
        have hgok : zg_ok s.1 (some (zg_fin s.1 f t (fun _ => 0)).2) := fun g hg' k hk => by
          cases hg'
          have := zg_res (S := s.1) (mt := zg_met s.1 f t) 16 0 (zg_A0 (zg_met s.1 f t)) 0 (zg_cnt (zg_met s.1 f t) + 1, fun _ => 0) rfl zg_A0_ok (fun k _ => ⟨Nat.zero_le _, fun z => absurd rfl z⟩) k hk
          exact ⟨this.1, fun z => (zz_t.mp (this.2 z)).1⟩
        refine ⟨⟨rfl, rfl⟩, ⟨⟨s, L, some (zg_fin s.1 f t (fun _ => 0)).2, ⟨zr_mom_of h1.1 (fun k k1 k2 => ⟨m3 k (by omega) (by omega) (by omega) (by omega), by rw [m4]⟩), zu_c_of h1.2.1 (congrFun (m3 0 (by decide) (by decide) (by decide) (by decide)) 4) (congrFun (m3 0 (by decide) (by decide) (by decide) (by decide)) 5) (by rw [m4]) (fun k k1 k2 => ⟨m3 k (by omega) (by omega) (by omega) (by omega), by rw [m4]⟩), m2⟩, ⟨by rw [uk 396 (by decide) (by decide) (by decide) (by decide)]; exact h2.1, zu_q_of h2.2.1 ((u395 3 (by decide)).trans (p5 3 (by decide) (by decide))) (by rw [u2]) (fun k k1 k2 => uk k (by omega) (by omega) (by omega) (by omega)), .inr ⟨_, rfl, u11, u435⟩, fun k hk => by rw [u2]; exact h2.2.2.2.1 k hk, fun k i => by rw [u2]; exact h2.2.2.2.2 k i⟩, zv_ok ok.1, fun x hx => zv_ok (ok.2.1 x hx), hgok⟩, ⟨fun k hk => ⟨m3 k (by omega) (by omega) (by omega) (by omega), by rw [m4]⟩, by rw [m4]⟩, ⟨fun k hk => uk k (by omega) (by omega) (by omega) (by omega), fun k _ => by rw [u2]; exact ⟨rfl, rfl⟩, fun k _ _ => by rw [u2]⟩⟩, fun _ _ => ⟨fun _ => ⟨m5, trivial⟩, fun _ => trivial⟩, fun z => absurd z n10, fun _ => ⟨fun z => absurd z n10, fun _ => ⟨fun _ => qq, fun z => absurd z i2, fun _ => ⟨fun _ => pp.1, p7, trivial⟩⟩⟩⟩
      · have i2 : (6 : Int32) < nI (zg_cnt (zg_met s.1 f t)) := nI_lt (a := 6) (by omega) (by omega)
        have i1 : ¬ nI (zg_cnt (zg_met s.1 f t)) ≤ (6 : Int32) := Int32.not_le.mpr i2
        rw [if_neg i1, if_neg i1, if_pos i2, if_pos i2, zm_F2]
        exact ⟨zh_2 (by decide), zi_query h zo_cst_rfl (zo_rst_of zo_stillF2), fun _ _ => ⟨fun z => absurd z i1, fun _ => trivial⟩, fun z => absurd z n10, fun _ => ⟨fun z => absurd z n10, fun _ => ⟨fun _ => qq, fun _ => trivial, fun z => absurd i2 z⟩⟩⟩
    · rw [e3, e4, if_pos rfl, if_pos rfl, zm_bms, zm_F]
      exact ⟨zh_1, zi_query h zo_cst_rfl (zo_rst_of zo_stillF), (fun _ z => by cases z), fun _ => trivial, fun _ => ⟨fun _ => trivial, fun z => absurd rfl z⟩⟩
  · rw [e1, e2, if_pos rfl, if_pos rfl, zm_bms, zm_F]
    exact ⟨zh_1, zi_query h zo_cst_rfl (zo_rst_of zo_stillF), (fun z => by cases z), fun _ => trivial, fun z => absurd rfl z⟩
end zsd
