/-! BARS: minutes that pass -/
theorem zb_fo3 {σ : Type} {f : Nat → σ → σ} {s : σ} : rj_fo f 3 0 s = f 2 (f 1 (f 0 s)) := rfl
theorem zb_pass {c0 r0 : rj_M} {S0 : Nat → Nat} {B : Nat → Int} {a1 a2 : Int32} {mu mc : rj_M} (h0 : 1 ≤ S0 330 ∧ S0 330 ≤ 10) (hi : zb_mid c0 r0 c0 r0 S0 B 0) : ∀ m, m ≤ 1000 → ∃ n, n ≤ 3 * m ∧ (rj_fo (bX12_pass_24 mu a1) (3 * m) 0 (0, r0)).1 = nI n ∧ zb_mid (rj_fo (bX11_pass_24 mc a2) m 0 c0) (rj_fo (bX12_pass_24 mu a1) (3 * m) 0 (0, r0)).2 c0 r0 S0 B n
  | 0, _ => ⟨0, Nat.le_refl _, rfl, hi⟩
  | m + 1, hm => by
    obtain ⟨n, n1, n2, n3⟩ := zb_pass h0 hi m (by omega)
    have hk : ∀ i, i < 3 → nI (3 * m + i) - nI (3 * m + i) / 3 * 3 = nI i := fun i hi => by
      have := pk_rem (a := 3 * m + i) (d := 3) (by omega) (by decide) (by decide)
      rw [show (3 * m + i) % 3 = i by omega] at this
      exact this
    have hlast : rj_fo (bX12_pass_24 mu a1) (3 * (m + 1)) 0 (0, r0) = bX12_pass_24 mu a1 (3 * m + 2) (bX12_pass_24 mu a1 (3 * m + 1) (bX12_pass_24 mu a1 (3 * m + 0) (rj_fo (bX12_pass_24 mu a1) (3 * m) 0 (0, r0)))) := by
      rw [show 3 * (m + 1) = 3 * m + 1 + 1 + 1 by omega, zf_last, zf_last, zf_last, Nat.zero_add, Nat.zero_add, Nat.zero_add]
      rfl
    have hlastc : rj_fo (bX11_pass_24 mc a2) (m + 1) 0 c0 = rj_fo (bX0_passMinute_2 (rj_fo (bX11_pass_24 mc a2) m 0 c0)) 3 0 (rj_fo (bX11_pass_24 mc a2) m 0 c0) := by
      rw [zf_last]
      rfl
    rw [hlast, hlastc, zb_fo3]
    generalize rj_fo (bX11_pass_24 mc a2) m 0 c0 = c at n3 ⊢
    generalize rj_fo (bX12_pass_24 mu a1) (3 * m) 0 (0, r0) = s at n2 n3 ⊢
    obtain ⟨x, s⟩ := s
    have n2 : x = nI n := n2
    subst n2
    have n3 : zb_mid c s c0 r0 S0 B n := n3
    obtain ⟨d0, p1, -, p2, p3⟩ := zb_tick (mu := mu) (a := a1) (k := 3 * m + 0) (b := 0) h0 (by decide) (hk 0 (by decide)) n3
    have hmu : ∀ (mu' : rj_M) b x, bX0_passMinute_2 mu' b x = bX0_passMinute_2 mu b x := fun _ _ _ => rfl
    rw [hmu, hmu, hmu]
    generalize bX12_pass_24 mu a1 (3 * m + 0) (nI n, s) = s1 at p2 p3 ⊢
    obtain ⟨x1, s1⟩ := s1
    have p2 : x1 = nI (n + d0) := p2
    subst p2
    have p3 : zb_mid (bX0_passMinute_2 mu 0 c) s1 c0 r0 S0 B (n + d0) := p3
    obtain ⟨d1, q1, -, q2, q3⟩ := zb_tick (mu := mu) (a := a1) (k := 3 * m + 1) (b := 1) h0 (by decide) (hk 1 (by decide)) p3
    generalize bX12_pass_24 mu a1 (3 * m + 1) (nI (n + d0), s1) = s2 at q2 q3 ⊢
    obtain ⟨x2, s2⟩ := s2
    have q2 : x2 = nI (n + d0 + d1) := q2
    subst q2
    have q3 : zb_mid (bX0_passMinute_2 mu 1 (bX0_passMinute_2 mu 0 c)) s2 c0 r0 S0 B (n + d0 + d1) := q3
    obtain ⟨d2, r1, -, r2, r3⟩ := zb_tick (mu := mu) (a := a1) (k := 3 * m + 2) (b := 2) h0 (by decide) (hk 2 (by decide)) q3
    exact ⟨n + d0 + d1 + d2, by omega, r2, r3⟩
theorem zb_passq {c0 r0 : rj_M} {S0 : Nat → Nat} {B : Nat → Int} {a1 : Int32} {mu : rj_M} (h0 : 1 ≤ S0 330 ∧ S0 330 ≤ 10) (hi : zb_mid c0 r0 c0 r0 S0 B 0) {m : Nat} (hm : m ≤ 3000) : rq_fo (qX12_pass_24 mu a1) (bX12_pass_24 mu a1) m 0 (0, r0) := by
  refine zf_q (fun _ s => ∃ c n, s.1 = nI n ∧ zb_mid c s.2 c0 r0 S0 B n) m 0 (0, r0) ⟨c0, 0, rfl, hi⟩ (fun k s _ hk hs => ?_)
  obtain ⟨x, s⟩ := s
  obtain ⟨c, n, e, h⟩ := hs
  have e : x = nI n := e
  subst e
  have hkb : nI k - nI k / 3 * 3 = nI (k % 3) := pk_rem (by omega) (by decide) (by decide)
  obtain ⟨d, -, q1, q2, q3⟩ := zb_tick (mu := mu) (a := a1) (k := k) (b := k % 3) h0 (Nat.mod_lt _ (by decide)) hkb h
  exact ⟨q1, _, n + d, q2, q3⟩
