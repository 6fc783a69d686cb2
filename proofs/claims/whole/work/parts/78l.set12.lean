/-! pass, setLoad, both sides -/
section zs13
variable {c r : rj_M} {a0 a1 a2 a3 : Int32} {n : Nat}
theorem zo_pass (h : zi_I n c r) : zo_out ["java/lang/IllegalArgumentException"] (fX11_pass c a0) ((mX12_pass r a0).1 395 0) (fX12_pass r a0) ∧ zi_op n c (mX11_pass c a0) r (mX12_pass r a0) ∧ qX11_pass c a0 ∧ qX12_pass r a0 := by
  unfold fX11_pass mX12_pass fX12_pass mX11_pass qX11_pass qX12_pass
  rcases zn_r3 (μ := c) (ν := r) (a := a0) (l := 1) (c := 60) (lo := 1) (hi := 60) rfl rfl (by decide) (by decide) with ⟨e5, e6, m, hm1, hm2, rfl⟩ | ⟨e5, e6⟩
  · have e3 : (nI m * 3).toInt.toNat - 0 = 3 * m := by rw [show nI m * 3 = nI (m * 3) from pk_mul m 3, nI_toInt (by omega), Nat.mul_comm]; rfl
    rw [e5, e6, zm_lacks1.1, zm_lacks1.2, if_pos rfl, if_pos rfl, zm_bmn, e3, zn_toN (by omega)]
    obtain ⟨s, L, G, h1, h2, ok⟩ := h
    have hb := zi_begin h1 ok.1.2.1
    have hk := zi_keeps (zi_r_rst h2 (zo_rst_of (zo_stillT (r := r))))
    obtain ⟨q, w, hq, hc0⟩ := hb.2.1.1.2.2.2.2.1
    have hc0 : zb_c (mX11_beginChange c) s.1 q w := hc0
    have okb := ok.1.2.2.2.2.1
    have hmid : zb_mid (mX11_beginChange c) (mX12_keeps (mX12_lacksT r)) (mX11_beginChange c) (mX12_keeps (mX12_lacksT r)) s.1 s.2 0 := ⟨s.1, q, w, hq, zb_c_congr hc0 (fun k hk => zb_sv_ne (by omega)) (zb_sv_ne (by decide)) zb_sv_at, hk.2.1.1, fun _ _ => rfl, okb.2.2.1, okb.2.2.2.2.2, fun _ _ _ _ _ => rfl, rfl, fun _ _ => rfl, rfl⟩
    obtain ⟨x, hx, p1, S, q', w', g1, g2, g3, g4, g5, g6, g7, g8, g9, g10⟩ := zb_pass (a1 := nI m) (a2 := nI m) (mu := r) (mc := c) ⟨okb.1, okb.2.1⟩ hmid m (by omega)
    have hpq := zb_passq (a1 := nI m) (mu := r) ⟨okb.1, okb.2.1⟩ hmid (m := 3 * m) (by omega)
    have h386 : (mX11_beginChange c).1 21 6 = nI (s.1 386) := hc0.2.2.2.2.2
    rw [p1, h386]
    generalize rj_fo (bX11_pass_24 c (nI m)) m 0 (mX11_beginChange c) = t at g2 g7 g8 ⊢
    generalize (rj_fo (bX12_pass_24 r (nI m)) (3 * m) 0 (0, mX12_keeps (mX12_lacksT r))).2 = y at g3 g9 g10 ⊢
    have hS386 : S 386 = s.1 386 := g4 386 (by omega)
    have hy : y.1 396 (386 : Int32).toNatClampNeg = nI (S 386) := g3.1 386 (by decide)
    have ht : t.1 21 6 = nI (S 386 + x) := g2.2.2.2.2.2.trans (by rw [zb_sv_at])
    rw [hy, ht, nI_add, show (386 : Int32).toNatClampNeg = 386 from rfl]
    have hval : nI (S 386 + x) - nI (s.1 386) = nI x := by
      rw [pk_sub (by omega)]
      congr 1
      omega
    rw [hval]
    obtain ⟨c1, c2, c3, c4⟩ := zi_gen (S' := zb_sv S x) (B' := s.2) (t := t) (u := rj_pi y 396 386 (nI (S 386 + x))) h1 h2 ok (fun d hd hm' => by
      subst hd
      exact ⟨zr_momB hm' (fun k hk => g7 k (by omega) (by omega) (by omega) (by omega)) g8 (fun z hz => by rw [zb_sv_ne (by omega)]; exact g4 z (by omega)) ⟨q', w', zr_line_congr g1 (fun k k1 k2 => zb_sv_ne (by omega)) (fun k k1 k2 => zb_sv_ne (by omega)), g2⟩, fun k hk => ⟨g7 k (by omega) (by omega) (by omega) (by omega), by rw [g8]⟩, by rw [g8]⟩) (fun d hd hm' => by
      subst hd
      exact ⟨zr_pi g3 (by decide) (fun z => rfl), fun k e1 e2 => (zm_pi_ne e2).trans (g9 k e2), fun i _ => (congrFun (zm_pi_ne (by decide)) i).trans (congrFun (g9 395 (by decide)) i), g10⟩) (zo_okB ok.1 (fun z hz => by rw [zb_sv_ne (by omega)]; exact g4 z (by omega)) (by
      obtain ⟨o1, o2, o3, o4, o5, o6⟩ := okb
      refine ⟨?_, ?_, fun k hk => ?_, ?_, ?_, fun b hb' => ?_⟩
      · rw [zb_sv_ne (by decide), g4 330 (by omega)]
        exact o1
      · rw [zb_sv_ne (by decide), g4 330 (by omega)]
        exact o2
      · rw [zb_sv_ne (by omega)]
        exact g5 k hk
      · rw [zb_sv_ne (by decide), g4 385 (by omega)]
        omega
      · rw [zb_sv_at, hS386]
        omega
      · rw [zb_sv_ne (k := 331 + 13 * b) (by omega), zb_sv_ne (k := 370 + b) (by omega)]
        exact g6 b hb'))
    rw [c3]
    exact ⟨⟨rfl, rfl⟩, c4, ⟨c1, trivial⟩, fun _ => ⟨c2, fun _ => ra_fo_i hpq, trivial⟩, fun _ => trivial⟩
  · rw [e5, e6, zm_lacks0.1, zm_lacks0.2, if_neg (show ¬ (1 : Int32) = 0 by decide), if_neg (show ¬ (1 : Int32) = 0 by decide), zm_bms, zm_F]
    exact ⟨zh_1, zi_query h zo_cst_rfl (zo_rst_of zo_stillF), trivial, fun z => absurd z (by decide), fun _ => trivial⟩
/-- a run of hours is given one number -/
def zg_run (S : Nat → Nat) (b x h m : Nat) : Nat → Nat := fun k => if b + x ≤ k ∧ k < b + h then m else S k
theorem zg_run_s {S : Nat → Nat} {b x h m : Nat} (hx : x ≤ h) : zg_run S b x (h + 1) m = zg_up (zg_run S b x h m) (b + h) m := by
  funext k
  show (if b + x ≤ k ∧ k < b + (h + 1) then m else S k) = if k = b + h then m else (if b + x ≤ k ∧ k < b + h then m else S k)
  by_cases e : k = b + h
  · rw [if_pos e, if_pos (by omega)]
  · rw [if_neg e]
    by_cases e2 : b + x ≤ k ∧ k < b + h
    · rw [if_pos e2, if_pos (by omega)]
    · rw [if_neg e2, if_neg (by omega)]
theorem zg_run_0 {S : Nat → Nat} {b x m : Nat} : zg_run S b x x m = S := by
  funext k
  exact if_neg (by omega)
theorem zw_for {f : Int32 × rj_M → (Int32 × rj_M) ⊕ (Int32 × rj_M)} {q : Int32 × rj_M → Prop} {x y : Nat} {P : Nat → rj_M → Prop} {m0 : rj_M} (hxy : x ≤ y + 1) (hy : y < 24) (hf : ∀ h m, x ≤ h → h ≤ y + 1 → P h m → (h ≤ y → ∃ m', f (nI h, m) = .inl (nI (h + 1), m') ∧ P (h + 1) m') ∧ (h = y + 1 → f (nI h, m) = .inr (nI h, m)) ∧ q (nI h, m)) (h0 : P x m0) : P (y + 1) (rj_we f 25 (nI x, m0)).2 ∧ rq_we q f 25 (nI x, m0) := by
  refine ⟨?_, ?_⟩
  · refine zw_inv (f := f) (fun s => ∃ h, x ≤ h ∧ h ≤ y + 1 ∧ s.1 = nI h ∧ P h s.2) (fun s => P (y + 1) s.2) (fun s => y + 1 - s.1.toInt.toNat) 25 (nI x, m0) ⟨x, Nat.le_refl _, hxy, rfl, h0⟩ (by
      show y + 1 - (nI x).toInt.toNat < 25
      omega) (fun a ha => ?_)
    obtain ⟨i, mem⟩ := a
    obtain ⟨h, h1, h2, h3, h4⟩ := ha
    have h3 : i = nI h := h3
    subst h3
    obtain ⟨l1, l2, -⟩ := hf h mem h1 h2 h4
    refine ⟨fun z hz => ?_, fun z hz => ?_⟩
    · by_cases c0 : h ≤ y
      · obtain ⟨m', e1, e2⟩ := l1 c0
        have hz := Sum.inl.inj (e1.symm.trans hz)
        subst hz
        refine ⟨⟨h + 1, by omega, by omega, rfl, e2⟩, ?_⟩
        show y + 1 - (nI (h + 1)).toInt.toNat < y + 1 - (nI h).toInt.toNat
        rw [nI_toInt (by omega), nI_toInt (by omega)]
        omega
      · exact absurd ((l2 (by omega)).symm.trans hz) Sum.inr_ne_inl
    · by_cases c0 : h ≤ y
      · obtain ⟨m', e1, e2⟩ := l1 c0
        exact absurd (e1.symm.trans hz) Sum.inl_ne_inr
      · have hz := Sum.inr.inj ((l2 (by omega)).symm.trans hz)
        rw [← hz, show y + 1 = h by omega]
        exact h4
  · refine zw_q (q := q) (f := f) (fun s => ∃ h, x ≤ h ∧ h ≤ y + 1 ∧ s.1 = nI h ∧ P h s.2) (fun s => y + 1 - s.1.toInt.toNat) 25 (nI x, m0) ⟨x, Nat.le_refl _, hxy, rfl, h0⟩ (by
      show y + 1 - (nI x).toInt.toNat < 25
      omega) (fun a ha => ?_)
    obtain ⟨i, mem⟩ := a
    obtain ⟨h, h1, h2, h3, h4⟩ := ha
    have h3 : i = nI h := h3
    subst h3
    obtain ⟨l1, l2, l3⟩ := hf h mem h1 h2 h4
    refine ⟨l3, fun z hz => ?_⟩
    by_cases c0 : h ≤ y
    · obtain ⟨m', e1, e2⟩ := l1 c0
      have hz := Sum.inl.inj (e1.symm.trans hz)
      subst hz
      refine ⟨⟨h + 1, by omega, by omega, rfl, e2⟩, ?_⟩
      show y + 1 - (nI (h + 1)).toInt.toNat < y + 1 - (nI h).toInt.toNat
      rw [nI_toInt (by omega), nI_toInt (by omega)]
      omega
    · exact absurd ((l2 (by omega)).symm.trans hz) Sum.inr_ne_inl
theorem zo_setLoad (h : zi_I n c r) : zo_out ["java/lang/IndexOutOfBoundsException", "java/lang/IllegalArgumentException"] (fX11_setLoad c a0 a1 a2) ((mX12_setLoad r a0 a1 a2).1 395 0) (fX12_setLoad r a0 a1 a2) ∧ zi_op n c (mX11_setLoad c a0 a1 a2) r (mX12_setLoad r a0 a1 a2) ∧ qX11_setLoad c a0 a1 a2 ∧ qX12_setLoad r a0 a1 a2 := by
  unfold fX11_setLoad mX12_setLoad fX12_setLoad mX11_setLoad qX11_setLoad qX12_setLoad fX12_isHour
  have n10 : ¬ (1 : Int32) = 0 := by decide
  have bad : zo_out ["java/lang/IndexOutOfBoundsException", "java/lang/IllegalArgumentException"] (α := Int32) (.inr "java/lang/IllegalArgumentException") ((mX12_noF (mX12_lacksT r) 2).1 395 0) 0 ∧ zi_op n c c r (mX12_noF (mX12_lacksT r) 2) := by
    rw [zm_F2]
    exact ⟨zh_2 (by decide), zi_query h zo_cst_rfl (zo_rst_of zo_stillF2)⟩
  rcases zn_p2 (μ := c) (ν := r) (a := a0) (c := 24) (d := 23) (n := 23) rfl rfl (by decide) with ⟨e1, e2, x, hx, rfl⟩ | ⟨e1, e2⟩
  · rw [e1, e2, if_neg n10, if_neg n10, zm_bmn]
    rcases zn_p2 (μ := c) (ν := r) (a := a1) (c := 24) (d := 23) (n := 23) rfl rfl (by decide) with ⟨e3, e4, y, hy, rfl⟩ | ⟨e3, e4⟩
    · rw [e3, e4, if_neg n10, if_neg n10, zm_bmn]
      by_cases cxy : y < x
      · have hlt : nI y < nI x := nI_lt cxy (by omega)
        have e5 : fX11_needRange c (nI y) (nI x) 23 = some "java/lang/IllegalArgumentException" := if_pos hlt
        rw [e5, if_pos hlt, if_pos hlt, zm_bms]
        exact ⟨bad.1, bad.2, trivial, fun z => absurd z n10, fun _ => ⟨fun z => absurd z n10, fun _ => ⟨fun _ => trivial, fun z => absurd hlt z⟩⟩⟩
      · have hlt : ¬ nI y < nI x := nI_nlt (by omega) (by omega)
        have e5 : fX11_needRange c (nI y) (nI x) 23 = none := (if_neg hlt).trans (if_pos (show nI y ≤ (23 : Int32) from nI_le (b := 23) (by omega) (by decide)))
        rw [e5, if_neg hlt, if_neg hlt, zm_bmn]
        rcases zn_r2 (μ := c) (ν := mX12_lacksT r) (a := a2) (c := 500) (n := 500) rfl (by decide) with ⟨e7, e8, m, hm, rfl⟩ | ⟨e7, e8⟩
        · rw [e7, e8, if_neg n10, if_neg n10, zm_bmn]
          obtain ⟨s, L, G, h1, h2, ok⟩ := h
          have hb := zi_begin h1 ok.1.2.1
          have hk := zi_keeps (zi_r_rst h2 (zo_rst_of (zo_stillT (r := r))))
          have q412 : ∀ z, (412 : Int32) + nI z = nI (412 + z) := fun z => by rw [show (412 : Int32) = nI 412 from rfl, nI_add]
          obtain ⟨⟨f1, f2, f3⟩, f4⟩ := zw_for (f := bX11_setLoad_48 c (nI x) (nI y) (nI m)) (q := qX11_setLoad_48 c (nI x) (nI y) (nI m)) (x := x) (y := y) (P := fun h t => (∀ k, k ≠ 31 → t.1 k = (mX11_beginChange c).1 k) ∧ t.2 = (mX11_beginChange c).2 ∧ ∀ k, k < 24 → t.1 31 k = nI (zg_run s.1 412 x h m (412 + k))) (m0 := mX11_beginChange c) (by omega) (by omega) (fun h t hh1 hh2 ht => by
            obtain ⟨t1, t2, t3⟩ := ht
            unfold bX11_setLoad_48 qX11_setLoad_48
            refine ⟨fun hh => ⟨rj_pi t 31 h (nI m), ?_, fun k hk => (zm_pi_ne hk).trans (t1 k hk), t2, ?_⟩, fun hh => if_pos (nI_lt (by omega) (by omega)), ?_⟩
            · rw [if_neg (nI_nlt hh (by omega)), nI_succ]
              show Sum.inl (nI h + 1, rj_pi t 31 (nI h).toNatClampNeg (nI m)) = _
              rw [nI_clamp (by omega)]
            · rw [zg_run_s (by omega)]
              exact zw_row t3 rfl rfl
            · by_cases hh : nI y < nI h
              · rw [if_pos hh]
                exact trivial
              · have hle : h ≤ y := by
                  rcases Nat.lt_or_ge y h with z | z
                  · exact absurd (nI_lt z (by omega)) hh
                  · exact z
                rw [if_neg hh]
                exact ⟨vp_in_nI (by omega) (by decide), trivial⟩) ⟨fun _ _ => rfl, rfl, fun k hk => by rw [zg_run_0]; exact hb.2.1.1.2.2.2.2.2.2.1.1 k hk⟩
          obtain ⟨⟨g1, g2, g3⟩, g4⟩ := zw_for (f := bX12_setLoad_76 r (nI x) (nI y) (nI m)) (q := qX12_setLoad_76 r (nI x) (nI y) (nI m)) (x := x) (y := y) (P := fun h t => zr_row (t.1 396) (zg_run s.1 412 x h m) s.2 ∧ (∀ k, k ≠ 396 → t.1 k = (mX12_keeps (mX12_lacksT r)).1 k) ∧ t.2 = (mX12_keeps (mX12_lacksT r)).2) (m0 := mX12_keeps (mX12_lacksT r)) (by omega) (by omega) (fun h t hh1 hh2 ht => by
            obtain ⟨t1, t2, t3⟩ := ht
            unfold bX12_setLoad_76 qX12_setLoad_76
            refine ⟨fun hh => ⟨rj_pi t 396 (412 + h) (nI m), ?_, ?_, fun k hk => (zm_pi_ne hk).trans (t2 k hk), t3⟩, fun hh => if_pos (nI_lt (by omega) (by omega)), ?_⟩
            · rw [if_neg (nI_nlt hh (by omega)), nI_succ]
              show Sum.inl (nI h + 1, rj_pi t 396 (412 + nI h).toNatClampNeg (nI m)) = _
              rw [q412, nI_clamp (by omega)]
            · rw [zg_run_s (by omega)]
              exact zr_pi2 t1 (by omega) rfl
            · refine ⟨fun _ => trivial, fun hh => ?_⟩
              have hle : h ≤ y := by
                rcases Nat.lt_or_ge y h with z | z
                · exact absurd (nI_lt z (by omega)) hh
                · exact z
              show vp_in (412 + nI h) 625 ∧ True
              rw [q412]
              exact ⟨vp_in_nI (by omega) (by decide), trivial⟩) ⟨by rw [zg_run_0]; exact hk.2.1.1, fun _ _ => rfl, rfl⟩
          have v1 : (mX11_beginChange c).1 31 (nI x).toNatClampNeg = nI (s.1 (412 + x)) := by
            rw [nI_clamp (by omega)]
            exact hb.2.1.1.2.2.2.2.2.2.1.1 x (by omega)
          have v2 : (mX12_keeps (mX12_lacksT r)).1 396 (412 + nI x).toNatClampNeg = nI (s.1 (412 + x)) := by
            rw [q412, nI_clamp (by omega)]
            exact hk.2.1.1.1 _ (by omega)
          rw [v1, v2]
          generalize (rj_we (bX11_setLoad_48 c (nI x) (nI y) (nI m)) 25 (nI x, mX11_beginChange c)).2 = t at f1 f2 f3 ⊢
          generalize (rj_we (bX12_setLoad_76 r (nI x) (nI y) (nI m)) 25 (nI x, mX12_keeps (mX12_lacksT r))).2 = u at g1 g2 g3 ⊢
          have hout : ∀ z, z < 412 ∨ 436 ≤ z → zg_run s.1 412 x (y + 1) m z = s.1 z := fun z hz => if_neg (by omega)
          obtain ⟨c1, c2, c3, c4⟩ := zi_gen (S' := zg_run s.1 412 x (y + 1) m) (B' := s.2) (t := t) (u := u) h1 h2 ok (fun d hd hm' => by
            subst hd
            exact ⟨zr_momW hm' (fun k hk => f1 k (by omega)) f2 (fun z hz => hout z (by omega)) ⟨f3, fun g hg => by
              rw [hout (436 + 3 * g) (by omega), hout (437 + 3 * g) (by omega), hout (438 + 3 * g) (by omega), f1 (1 + 31) (by decide), f1 (1 + 32) (by decide), f1 (1 + 33) (by decide)]
              exact hm'.2.2.2.2.2.2.1.2 g hg⟩, fun k hk => ⟨f1 k (by omega), by rw [f2]⟩, by rw [f2]⟩) (fun d hd hm' => by
            subst hd
            exact ⟨g1, fun k e1 e2 => g2 k e2, fun i _ => congrFun (g2 395 (by decide)) i, g3⟩) (zo_okW ok.1 (fun z hz => hout z (by omega)) ⟨fun k hk => by
              have := ok.1.2.2.2.2.2.2.1.1 k hk
              unfold zg_run
              split <;> omega, fun g hg => by
              rw [hout (436 + 3 * g) (by omega), hout (437 + 3 * g) (by omega), hout (438 + 3 * g) (by omega)]
              exact ok.1.2.2.2.2.2.2.1.2 g hg⟩)
          rw [c3]
          exact ⟨⟨rfl, rfl⟩, c4, ⟨c1, f4, trivial⟩, fun z => absurd z n10, fun _ => ⟨fun z => absurd z n10, fun _ => ⟨fun z => absurd z hlt, fun _ => ⟨fun z => absurd z n10, fun _ => ⟨c2, fun _ => ra_we_i g4, trivial⟩⟩⟩⟩⟩
        · rw [e7, e8, if_pos rfl, if_pos rfl, zm_bms]
          exact ⟨bad.1, bad.2, trivial, fun z => absurd z n10, fun _ => ⟨fun z => absurd z n10, fun _ => ⟨fun z => absurd z hlt, fun _ => ⟨fun _ => trivial, fun z => absurd rfl z⟩⟩⟩⟩
    · rw [e3, e4, if_pos rfl, if_pos rfl, zm_bms, zm_F]
      exact ⟨zh_1, zi_query h zo_cst_rfl (zo_rst_of zo_stillF), trivial, fun _ => trivial, fun _ => ⟨fun _ => trivial, fun z => absurd rfl z⟩⟩
  · rw [e1, e2, if_pos rfl, if_pos rfl, zm_bms, zm_F]
    exact ⟨zh_1, zi_query h zo_cst_rfl (zo_rst_of zo_stillF), trivial, fun _ => trivial, fun z => absurd rfl z⟩
end zs13
