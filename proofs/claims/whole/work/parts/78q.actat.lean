/-! actAt, both sides -/
section zsc
variable {c r : rj_M} {a0 a1 : Int32} {n : Nat} {S : Nat → Nat} {B : Nat → Int}
theorem zo_actAt (hc : zr_prog c 1 S) (hr : zr_row (r.1 396) S B) (ok : zo_prog S) : zo_out ["java/lang/IndexOutOfBoundsException", "java/lang/IllegalArgumentException"] (fX11_actAt c a0 a1) ((mX12_actAt r a0 a1).1 395 0) (fX12_actAt r a0 a1) ∧ zo_rst r (mX12_actAt r a0 a1) ∧ zo_cst c (mX11_actAt c a0 a1) ∧ qX11_actAt c a0 a1 ∧ qX12_actAt r a0 a1 := by
  have n10 : ¬ (1 : Int32) = 0 := by decide
  unfold fX11_actAt mX12_actAt fX12_actAt mX11_actAt qX11_actAt qX12_actAt
  rcases zn_act (a0 := a0) hc hr ok with ⟨e1, e2, a, ha, g1, rfl⟩ | ⟨e1, e2⟩
  · rw [e1, e2, zm_lacks1.1, zm_lacks1.2, if_pos rfl, if_pos rfl, zm_bmn]
    rcases zn_r2 (μ := c) (ν := mX12_lacksT r) (a := a1) (c := 6) (n := 6) rfl (by decide) with ⟨e3, e4, p, hp, rfl⟩ | ⟨e3, e4⟩
    · rw [e3, e4, zm_no1.1, zm_no1.2, if_pos rfl, if_pos rfl, zm_bmn]
      have hr' : zr_row ((mX12_lacksT r).1 396) S B := zr_T hr
      have h0 : (mX12_lacksT r).1 395 0 = 0 := zm_T
      have hst : zo_rst r (mX12_lacksT r) := zo_rst_of zo_stillT
      generalize mX12_lacksT r = m at hr' h0 hst
      obtain ⟨k1, k2, k3⟩ := zc_look hc ok
      have cst0 : zo_cst c (mX7_lookAtAll c) := ⟨fun k hk => k1 k (fun z => by subst z; cases hk) (fun z => by subst z; cases hk), k2⟩
      have cst : zo_cst c (mX7_lineup c) := cst0
      obtain ⟨l1, l2⟩ := zc_lineup hc ok
      obtain ⟨q1, q2, q3⟩ := zq_lineup hr' ok
      have hQ : zo_rst m (mX12_lineup m) ∧ (mX12_lineup m).1 395 0 = m.1 395 0 := by
        rw [q1]
        exact ⟨zo_rst_i (fun k hk _ => (zm_pi_ne hk).trans ((zm_pi_ne hk).trans (zm_pi_ne hk))) ((zm_pi_ne2 (by decide)).trans ((zm_pi_ne2 (by decide)).trans (zm_pi_ne2 (by decide)))) ((zm_pi_ne2 (by decide)).trans ((zm_pi_ne2 (by decide)).trans (zm_pi_ne2 (by decide)))) rfl, (zm_pi_ne2 (by decide)).trans ((zm_pi_ne2 (by decide)).trans (zm_pi_ne2 (by decide)))⟩
      by_cases c6 : p = 6
      · subst c6
        rw [if_pos (show nI 6 = 6 from rfl), if_pos (show nI 6 = 6 from rfl), if_pos (show nI 6 = 6 from rfl), if_pos (show (5 : Int32) ≤ nI 6 by decide), if_pos (show (5 : Int32) ≤ nI 6 by decide), if_neg (show ¬ nI 6 = 5 by decide), if_neg (show ¬ nI 6 = 5 by decide), l1, q2, hQ.2, h0]
        exact ⟨⟨rfl, rfl⟩, zo_rst_trans hst hQ.1, cst, ⟨l2, trivial⟩, fun _ => ⟨fun _ => ⟨fun _ => ⟨fun z => absurd z (by decide), fun _ => ⟨q3, trivial⟩⟩, fun z => absurd (show (5 : Int32) ≤ nI 6 by decide) z⟩, fun z => absurd rfl z⟩, fun z => absurd rfl z⟩
      · have n6 : ¬ nI p = 6 := zn_ne (n := 6) rfl c6 (by omega) (by decide)
        rw [if_neg n6, if_neg n6, if_neg n6]
        have hv : fX7_partOf c (nI a) (nI p) = (if 5 ≤ nI p then (if nI p = 5 then fX12_pleases m (nI a) else (fX12_lineup m >>> (nI a &&& 31)) &&& 1) else fX12_its m (nI a) (1 + nI p)) := by
          unfold fX7_partOf
          rcases zc_has hc ok ha with ⟨-, g2⟩ | ⟨g2, -⟩
          · have ho := hc.1 a ha
            rw [g2, if_neg n10, nI_clamp (by omega)]
            have h6 : p = 0 ∨ p = 1 ∨ p = 2 ∨ p = 3 ∨ p = 4 ∨ p = 5 := by omega
            have hit : ∀ x, x < 5 → fX12_its m (nI a) (1 + nI x) = nI (S (23 + 6 * a + (1 + x))) := fun x hx => zq_its hr' ha (w := 1 + x) (by omega) (by rw [show (1 : Int32) = nI 1 from rfl, nI_add])
            rcases h6 with rfl | rfl | rfl | rfl | rfl | rfl
            · rw [if_pos (show nI 0 = 0 from rfl), if_neg (show ¬ (5 : Int32) ≤ nI 0 by decide), hit 0 (by decide), show 23 + 6 * a + (1 + 0) = 24 + 6 * a by omega]
              exact ho.1
            · rw [if_neg (show ¬ nI 1 = 0 by decide), if_pos (show nI 1 = 1 from rfl), if_neg (show ¬ (5 : Int32) ≤ nI 1 by decide), hit 1 (by decide), show 23 + 6 * a + (1 + 1) = 25 + 6 * a by omega]
              exact ho.2.1
            · rw [if_neg (show ¬ nI 2 = 0 by decide), if_neg (show ¬ nI 2 = 1 by decide), if_pos (show nI 2 = 2 from rfl), if_neg (show ¬ (5 : Int32) ≤ nI 2 by decide), hit 2 (by decide), show 23 + 6 * a + (1 + 2) = 26 + 6 * a by omega]
              exact ho.2.2.1
            · rw [if_neg (show ¬ nI 3 = 0 by decide), if_neg (show ¬ nI 3 = 1 by decide), if_neg (show ¬ nI 3 = 2 by decide), if_pos (show nI 3 = 3 from rfl), if_neg (show ¬ (5 : Int32) ≤ nI 3 by decide), hit 3 (by decide), show 23 + 6 * a + (1 + 3) = 27 + 6 * a by omega]
              exact ho.2.2.2.1
            · rw [if_neg (show ¬ nI 4 = 0 by decide), if_neg (show ¬ nI 4 = 1 by decide), if_neg (show ¬ nI 4 = 2 by decide), if_neg (show ¬ nI 4 = 3 by decide), if_pos (show nI 4 = 4 from rfl), if_neg (show ¬ (5 : Int32) ≤ nI 4 by decide), hit 4 (by decide), show 23 + 6 * a + (1 + 4) = 28 + 6 * a by omega]
              have h5 := ho.2.2.2.2
              rw [if_pos g1] at h5
              exact h5
            · rw [if_neg (show ¬ nI 5 = 0 by decide), if_neg (show ¬ nI 5 = 1 by decide), if_neg (show ¬ nI 5 = 2 by decide), if_neg (show ¬ nI 5 = 3 by decide), if_neg (show ¬ nI 5 = 4 by decide), if_pos (show (5 : Int32) ≤ nI 5 by decide), if_pos (show nI 5 = 5 from rfl), zq_pl hr' ha]
              exact zc_pl hc ok ha
          · exact absurd g1 g2
        have hmem : (if 5 ≤ nI p then (if nI p = 5 then m else mX12_lineup m) else m) = m := by
          by_cases c5 : p = 5
          · subst c5
            rfl
          · rw [if_neg (show ¬ (5 : Int32) ≤ nI p from nI_ge (b := 5) (by omega) (by decide))]
        rw [hmem, ← hv, h0]
        refine ⟨⟨rfl, rfl⟩, hst, zo_cst_rfl, trivial, fun _ => ⟨fun _ => ⟨fun h5 => ⟨fun _ => ⟨vp_in_nI ha (by decide), trivial⟩, fun _ => ⟨q3, trivial⟩⟩, fun h5 => ⟨vp_in_nI ha (by decide), ?_, trivial⟩⟩, fun z => absurd rfl z⟩, fun z => absurd rfl z⟩
        have : p < 5 := by
          rcases Nat.lt_or_ge p 5 with z | z
          · exact z
          · exact absurd (show (5 : Int32) ≤ nI p from nI_le (a := 5) z (by omega)) h5
        rw [show (1 : Int32) + nI p = nI (1 + p) by rw [show (1 : Int32) = nI 1 from rfl, nI_add]]
        exact vp_in_nI (by omega) (by decide)
    · rw [e3, e4, zm_no0.1, zm_no0.2, if_neg n10, if_neg n10, zm_bms]
      have h1 : (rj_pi (mX12_lacksT r) 395 0 2).1 395 0 = 2 := zm_pi_eq
      rw [h1]
      exact ⟨zh_2 (by decide), zo_rst_of zo_stillF2, zo_cst_rfl, trivial, fun _ => ⟨fun z => absurd z n10, fun _ => trivial⟩, fun _ => trivial⟩
  · rw [e1, e2, zm_lacks0.1, zm_lacks0.2, if_neg n10, if_neg n10, zm_bms, zm_F]
    exact ⟨zh_1, zo_rst_of zo_stillF, zo_cst_rfl, trivial, fun z => absurd z n10, fun _ => trivial⟩
end zsc
