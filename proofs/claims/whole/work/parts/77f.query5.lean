/-! QUERIES, both sides: what is on, waits, parts of an act -/
section zqQuery5
variable {r c : rj_M} {S : Nat → Nat} {B : Nat → Int} {a0 a1 a2 : Int32}
theorem zn_of2 {m : rj_M} {a c : Int32} {n : Nat} (hc : c = nI n) (hn : n + 1 < 2 ^ 31) : (fX12_in m a 0 c = 1 ∧ ∃ j, j < n + 1 ∧ a = nI j) ∨ fX12_in m a 0 c = 0 := by
  rcases zn_in (μ := m) (a := a) hc hn with ⟨e, h⟩ | ⟨e, -⟩
  · exact .inl ⟨e, h⟩
  · exact .inr e
set_option maxRecDepth 100000 in
theorem zq_isOnLoop {x : Nat} (hr : zr_row (r.1 396) S B) (ok : zo_powr S) (hp : zq_ptr r) (hx : x < 24) (hV : zw_V S 24 0 < 1000000) : ∀ h, h ≤ x + 1 → (h ≤ x → bX12_isOn_38 r (nI x) (nI (zw_at S h), nI h) = .inl (nI (zw_at S (h + 1)), nI (h + 1))) ∧ (h = x + 1 → bX12_isOn_38 r (nI x) (nI (zw_at S h), nI h) = .inr (nI (zw_at S h), nI h)) ∧ qX12_isOn_38 r (nI x) (nI (zw_at S h), nI h) := fun h hh => by
  have hin : fX12_isHour r (nI x) = 1 := by
    unfold fX12_isHour fX12_in
    rw [if_neg (nI_pos (by omega)), if_neg (show ¬ (23 : Int32) < nI x from nI_nlt (a := 23) (b := x) (by omega) (by decide))]
  unfold bX12_isOn_38 qX12_isOn_38
  rw [hin, zm_lacks1.2]
  have hr' : zr_row ((mX12_lacksT r).1 396) S B := zr_T hr
  have hp' : zq_ptr (mX12_lacksT r) := hp
  generalize mX12_lacksT r = m at hr' hp'
  obtain ⟨q1, q2, q3, q4, q5⟩ := zq_costNow hr' ok hp'
  have hr2 : zr_row ((mX12_costNow m).1 396) S B := by rw [q4 396 (.inl (by decide))]; exact hr'
  have hp2 : zq_ptr (mX12_costNow m) := fun k hk => by rw [q5]; exact hp' k hk
  generalize mX12_costNow m = M at q3 hr2 hp2
  by_cases c0 : h = x + 1
  · have hlt : nI x < nI h := nI_lt (by omega) (by omega)
    exact ⟨fun z => by omega, fun _ => if_pos hlt, fun _ => trivial, fun z => absurd hlt z⟩
  · have hlt : ¬ nI x < nI h := nI_nlt (by omega) (by omega)
    obtain ⟨w1, w2⟩ := zw_at_f hV h (by omega)
    obtain ⟨z1, z2⟩ := zq_cheapest (g := h) (b := zw_at S h) hr2 ok hp2 (by omega) (q3 (h + 1) (by omega)) w1
    have hne : ¬ (zw_bp (fun s => zw_W S h (zw_at S h) s (zw_V S (23 - h) s)) 16).2 = 1000000 := by
      rw [show 24 - h = (23 - h) + 1 by omega, zw_V_s, show 23 - (23 - h) = h by omega] at w2
      omega
    rw [if_neg hne] at z1
    refine ⟨fun _ => ?_, fun z => absurd z c0, fun z => absurd z hlt, fun _ => ⟨vp_in_nI (by omega) (by decide), z2, trivial⟩⟩
    rw [if_neg hlt]
    show Sum.inl (fX12_cheapest M (nI h) (nI (zw_at S h)), nI h + 1) = _
    rw [z1, ← nI_succ]
    rfl
set_option maxRecDepth 100000 in
theorem zo_isOn (hc : zr_powr c 1 S) (hr : zr_row (r.1 396) S B) (ok : zo_powr S) (hp : zq_ptr r) : zo_out ["java/lang/IndexOutOfBoundsException", "java/util/NoSuchElementException"] (fX11_isOn c a0) ((mX12_isOn r a0).1 395 0) (fX12_isOn r a0) ∧ zo_rst r (mX12_isOn r a0) ∧ zo_cst c (mX11_isOn c a0) ∧ qX12_isOn r a0 := by
  have hr' : zr_row ((mX12_lacksT r).1 396) S B := zr_T hr
  have h0 : (mX12_lacksT r).1 395 0 = 0 := zm_T
  have hst : zo_rst r (mX12_lacksT r) := zo_rst_of zo_stillT
  have hp' : zq_ptr (mX12_lacksT r) := hp
  have hF := @zm_F r
  have hFs := zo_rst_of (zo_stillF (r := r))
  obtain ⟨p1, p2, p3, p4⟩ := zc_costs hc ok
  have cst : zo_cst c (mX6_planCosts c) := ⟨fun k hk => p3 k (fun z => by subst z; cases hk) (fun z => by subst z; cases hk) (fun z => by subst z; cases hk) (fun z => by subst z; cases hk), p4⟩
  have hIs : fX12_isHour r a0 = fX12_in r a0 0 23 := rfl
  unfold fX11_isOn fX12_isOn mX12_isOn mX11_isOn qX12_isOn
  rw [hIs]
  rcases zn_p2 (μ := c) (ν := r) (a := a0) (c := 24) (d := 23) (n := 23) rfl rfl (by decide) with ⟨e1, e2, x, hx, rfl⟩ | ⟨e1, e2⟩
  · have hstep := fun hV => zq_isOnLoop hr ok hp hx hV
    rw [e1, e2, zm_lacks1.1, zm_lacks1.2, if_pos rfl, if_pos rfl, zm_bmn, ite_self, zc_leastCost ok p2]
    generalize mX12_lacksT r = m at hr' h0 hst hp'
    obtain ⟨q1, q2, q3, q4, q5⟩ := zq_costNow hr' ok hp'
    have hq : zo_rst r (mX12_costNow m) := zo_rst_trans hst (zo_rst_i (fun k hk e => q4 k (by omega)) (congrFun (q4 395 (by decide)) 3) (congrFun (q4 395 (by decide)) 11) q5)
    have hq0 : (mX12_costNow m).1 395 0 = 0 := (congrFun (q4 395 (by decide)) 0).trans h0
    have hVle := zw_V_le ok (n := 24) (b := 0) (Nat.le_refl _)
    rw [q2]
    by_cases cV : zw_V S 24 0 = 1000000
    · have e : zw_i (zw_V S 24 0) = -1 := (zw_i_no hVle).mpr cV
      have h1 : (mX12_noF (mX12_costNow m) 2).1 395 0 = 2 := zm_pi_eq
      have h2 : zo_rst r (mX12_noF (mX12_costNow m) 2) := zo_rst_trans hq (zo_rst_of zo_still_t)
      rw [if_pos cV, if_pos e, if_pos e, h1, if_pos rfl]
      exact ⟨zh_2 (by decide), h2, cst, fun _ => ⟨q1, fun _ => trivial, fun z => absurd e z⟩, fun z => absurd rfl z⟩
    · have hV : zw_V S 24 0 < 1000000 := by omega
      have e : ¬ zw_i (zw_V S 24 0) = -1 := fun z => cV ((zw_i_no hVle).mp z)
      have e' : ¬ nI (zw_V S 24 0) = -1 := fun z => e ((zw_i_is hV).trans z)
      have hl := hstep hV
      rw [if_neg cV, if_neg e, if_neg e, if_neg e', hq0]
      have run := zw_inv (f := bX12_isOn_38 r (nI x)) (fun s => ∃ h, h ≤ x + 1 ∧ s = (nI (zw_at S h), nI h)) (fun s => s = (nI (zw_at S (x + 1)), nI (x + 1))) (fun s => x + 1 - s.2.toInt.toNat) 25 (0, 0) ⟨0, by omega, rfl⟩ (by show x + 1 - 0 < 25; omega) (fun a ha => by
        obtain ⟨h, hh, rfl⟩ := ha
        obtain ⟨l1, l2, -⟩ := hl h hh
        refine ⟨fun z hz => ?_, fun z hz => ?_⟩
        · by_cases c0 : h ≤ x
          · have hz := Sum.inl.inj ((l1 c0).symm.trans hz)
            subst hz
            refine ⟨⟨h + 1, by omega, rfl⟩, ?_⟩
            show x + 1 - (nI (h + 1)).toInt.toNat < x + 1 - (nI h).toInt.toNat
            rw [nI_toInt (by omega), nI_toInt (by omega)]
            omega
          · exact absurd ((l2 (by omega)).symm.trans hz) Sum.inr_ne_inl
        · by_cases c0 : h ≤ x
          · exact absurd ((l1 c0).symm.trans hz) Sum.inl_ne_inr
          · have hz := Sum.inr.inj ((l2 (by omega)).symm.trans hz)
            rw [← hz, show h = x + 1 by omega])
      have hqq := zw_q (q := qX12_isOn_38 r (nI x)) (f := bX12_isOn_38 r (nI x)) (fun s => ∃ h, h ≤ x + 1 ∧ s = (nI (zw_at S h), nI h)) (fun s => x + 1 - s.2.toInt.toNat) 25 (0, 0) ⟨0, by omega, rfl⟩ (by show x + 1 - 0 < 25; omega) (fun a ha => by
        obtain ⟨h, hh, rfl⟩ := ha
        obtain ⟨l1, l2, l3⟩ := hl h hh
        refine ⟨l3, fun z hz => ?_⟩
        by_cases c0 : h ≤ x
        · have hz := Sum.inl.inj ((l1 c0).symm.trans hz)
          subst hz
          refine ⟨⟨h + 1, by omega, rfl⟩, ?_⟩
          show x + 1 - (nI (h + 1)).toInt.toNat < x + 1 - (nI h).toInt.toNat
          rw [nI_toInt (by omega), nI_toInt (by omega)]
          omega
        · exact absurd ((l2 (by omega)).symm.trans hz) Sum.inr_ne_inl)
      rw [run]
      exact ⟨⟨rfl, (zc_setAt ok p1 p2 hV hx).symm⟩, hq, cst, fun _ => ⟨q1, fun z => absurd z e, fun _ => ⟨fun _ => ra_we_i hqq, trivial⟩⟩, fun z => absurd rfl z⟩
  · rw [e1, e2, zm_lacks0.1, zm_lacks0.2, if_neg (show ¬ (1 : Int32) = 0 by decide), if_neg (show ¬ (1 : Int32) = 0 by decide), hF]
    exact ⟨zh_1, hFs, ⟨fun _ _ => rfl, rfl⟩, fun z => absurd z (by decide), fun _ => trivial⟩
theorem zo_waits {nn kN : Nat} (hc : zr_bars c 1 S) (hr : zr_row (r.1 396) S B) (ok : zo_bars S nn) (hn : nn ≤ 1000) (hk : 440 ≤ kN) (hcr : rj_cr r) : fX11_waits c a0 = fX12_waits r a0 kN ∧ (mX12_waits r a0 kN).1 395 0 = 0 ∧ zo_rst r (mX12_waits r a0 kN) ∧ zo_cst c (mX11_waits c a0) ∧ qX12_waits r a0 kN := by
  obtain ⟨q, w, hq, hb⟩ := hc
  have hb : zb_c c S q w := hb
  have hr' : zr_row ((rj_pi r 395 0 0).1 396) S B := by rw [zm_pi_ne (by decide)]; exact hr
  have h0 : (rj_pi r 395 0 0).1 395 0 = 0 := zm_pi_eq
  have hst : zo_rst r (rj_pi r 395 0 0) := zo_rst_of zo_still_t
  have hcr' : rj_cr (rj_pi r 395 0 0) := hcr
  unfold fX11_waits fX12_waits mX12_waits mX11_waits qX12_waits
  generalize rj_pi r 395 0 0 = m at hr' h0 hst hcr'
  by_cases c0 : a0 = 0
  · rw [if_pos c0, if_pos c0, if_pos c0, if_pos c0, zc_sumLines hb hq, zq_sumLines hr' hq ok]
    exact ⟨rfl, h0, hst, ⟨fun _ _ => rfl, rfl⟩, fun _ => trivial, fun z => absurd c0 z⟩
  · have z1 : ∀ k, k ≠ kN → (rj_z m kN).1 k = m.1 k := fun k hk => va_up_ne _ _ hk
    have hz : zo_rst m (rj_z m kN) := by
      refine ⟨fun k e1 e2 => z1 k (by omega), congrFun (z1 395 (by omega)) 3, congrFun (z1 395 (by omega)) 11, fun k hk => ⟨va_up_ne _ _ (by omega), va_up_ne _ _ (by omega), va_up_ne _ _ (by omega)⟩, fun h k i => ?_⟩
      show va_up m.2.2.2 kN (fun _ => 0) k i ≤ 440
      by_cases e : k = kN
      · rw [e, va_up_self]
        exact Nat.zero_le _
      · rw [va_up_ne _ _ e]
        exact h k i
    have hzr : zr_row ((rj_z m kN).1 396) S B := zo_rst_row hz hr'
    have hz0 : (rj_z m kN).1 395 0 = 0 := (congrFun (z1 395 (by omega)) 0).trans h0
    generalize rj_z m kN = m' at hz hzr hz0
    obtain ⟨p1, p2, p3⟩ := zc_sumOne hb hq ok
    obtain ⟨q1, q2, q3, q4⟩ := zq_sumOne hzr hq ok hn hk
    rw [if_neg c0, if_neg c0, if_neg c0, if_neg c0, p1, q1]
    exact ⟨rfl, (congrFun (q2 395 (by omega)) 0).trans hz0, zo_rst_trans (zo_rst_trans hst hz) (zo_rst_i (fun k e1 e2 => q2 k (by omega)) (congrFun (q2 395 (by omega)) 3) (congrFun (q2 395 (by omega)) 11) q3), ⟨fun k hk => p2 k (fun z => by subst z; cases hk), p3⟩, fun z => absurd z c0, fun _ => ⟨hcr', q4, trivial⟩⟩
end zqQuery5
