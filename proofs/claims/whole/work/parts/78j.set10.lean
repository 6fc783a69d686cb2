/-! payBands, both sides -/
theorem zn_le32 {b : Int} (h1 : -2147483648 ≤ b) (h2 : b < 2147483648) : Int32.ofInt b ≤ 0 ↔ b ≤ 0 := by
  rw [Int32.le_iff_toInt_le, Int32.toInt_ofInt_of_le h1 h2]
  exact Iff.rfl
theorem zn_le64 {b : Int} (h1 : -2147483648 ≤ b) (h2 : b < 2147483648) : Int64.ofInt b ≤ 0 ↔ b ≤ 0 := by
  rw [Int64.le_iff_toInt_le, Int64.toInt_ofInt_of_le (by omega) (by omega)]
  exact Iff.rfl
section zs11
variable {c r : rj_M} {a0 a1 a2 a3 : Int32} {n : Nat}
theorem zo_payBands (h : zi_I n c r) (hn : n ≤ 100000) : fX11_payBands c = fX12_payBands r ∧ (mX12_payBands r).1 395 0 = 0 ∧ zi_op n c (mX11_payBands c) r (mX12_payBands r) ∧ qX11_payBands c ∧ qX12_payBands r := by
  obtain ⟨s, L, G, h1, h2, ok⟩ := h
  have hb := zi_begin h1 ok.1.2.1
  have hk := zi_keeps (zi_r_rst h2 (zo_rst_of (zo_stillT (r := r))))
  obtain ⟨q1, q2, q3⟩ := zq_lineup hk.2.1.1 ok.1.2.2.1
  obtain ⟨l1, l2⟩ := zc_lineup hb.2.1.1.2.2.1 ok.1.2.2.1
  obtain ⟨k1, k2, k3⟩ := zc_look hb.2.1.1.2.2.1 ok.1.2.2.1
  have hcst : zo_cst (mX11_beginChange c) (mX7_lookAtAll (mX11_beginChange c)) := ⟨fun k hk => k1 k (fun z => by subst z; cases hk) (fun z => by subst z; cases hk), k2⟩
  obtain ⟨M, z1, z2, z3⟩ := zl_val (el := zp_el s.1) (cl := zp_cl s.1) (p := zp_p s.1) 16 0 0
  have hs : (zl_best (zp_el s.1) (zp_cl s.1) (zp_p s.1) 16 0 0).2 < 65536 := by
    rw [z1, Nat.pow_zero, Nat.one_mul]
    exact z2
  have hbits : ∀ a, (zl_best (zp_el s.1) (zp_cl s.1) (zp_p s.1) 16 0 0).2.testBit a = true → zp_has s.1 a ∧ a < 16 := fun a ha => by
    have := (zl_bits (el := zp_el s.1) (cl := zp_cl s.1) (p := zp_p s.1) 16 0 0).2 a ha
    exact ⟨zz_t.mp this.1, by omega⟩
  have hc' := zi_c_cst hb.2.1 hcst
  have hBb := zB_all ok.1.2.2.2.2.2.2.2 hn 0 (by decide)
  have e0 : rj_pi r 395 0 0 = mX12_lacksT r := rfl
  have hrow : zr_row ((mX12_lineup (mX12_keeps (mX12_lacksT r))).1 396) s.1 s.2 := by
    rw [q1, zm_pi_ne (by decide), zm_pi_ne (by decide), zm_pi_ne (by decide)]
    exact hk.2.1.1
  have hQk : ∀ k, k ≠ 395 → (mX12_lineup (mX12_keeps (mX12_lacksT r))).1 k = (mX12_keeps (mX12_lacksT r)).1 k := fun k hk => by
    rw [q1, zm_pi_ne hk, zm_pi_ne hk, zm_pi_ne hk]
  have hQi : ∀ i, i = 0 ∨ i = 3 ∨ i = 11 → (mX12_lineup (mX12_keeps (mX12_lacksT r))).1 395 i = (mX12_keeps (mX12_lacksT r)).1 395 i := fun i hi => by
    rw [q1, zm_pi_ne2 (by omega), zm_pi_ne2 (by omega), zm_pi_ne2 (by omega)]
  have hQ2 : (mX12_lineup (mX12_keeps (mX12_lacksT r))).2 = (mX12_keeps (mX12_lacksT r)).2 := by
    rw [q1]
    rfl
  unfold fX11_payBands mX11_payBands qX11_payBands
  rw [show mX7_lineup (mX11_beginChange c) = mX7_lookAtAll (mX11_beginChange c) from rfl]
  have gall : ∀ set, set = (zl_best (zp_el s.1) (zp_cl s.1) (zp_p s.1) 16 0 0).2 → rj_fo (bX12_payBands_18 r) 16 0 0 = nI (zk_all s.1 set 16) := fun set hset => zq_allPaid (mu := mX12_lineup (mX12_keeps (mX12_lacksT r))) hrow ok.1.2.2.1 (by rw [hset]; exact hs) (fun j z => by
    unfold bX12_payBands_18
    rw [e0, q2, hset])
  have gall := gall _ rfl
  have r500 : (mX12_lineup (mX12_keeps (mX12_lacksT r))).1 396 (500 : Int32).toNatClampNeg = Int32.ofInt (s.2 0) := hrow.2.2.1 0 (by decide)
  have g98 : ∀ a z m x, bX12_payBands_98 r a z m x = if ((nI (zl_best (zp_el s.1) (zp_cl s.1) (zp_p s.1) 16 0 0).2 >>> ((nI a) &&& 31)) &&& 1) = 1 then (if (((fX12_its x (nI a) 5) >>> ((nI m) &&& 31)) &&& 1) = 1 then (mX12_pays x 0 (13 + (nI m)) 0) else x) else x := fun a z m x => by
    unfold bX12_payBands_98
    rw [e0, q2]
  have g98b : ∀ a z m x, bX12_payBands_98b r a z m x = if ((nI (zl_best (zp_el s.1) (zp_cl s.1) (zp_p s.1) 16 0 0).2 >>> ((nI a) &&& 31)) &&& 1) = 1 then (if (((fX12_its x (nI a) 5) >>> ((nI m) &&& 31)) &&& 1) = 1 then (mX12_pays x 0 (13 + (nI m)) 0) else x) else x := fun a z m x => by
    unfold bX12_payBands_98b
    rw [e0, q2]
  have g98c : ∀ a z m x, bX12_payBands_98c r a z m x = if ((nI (zl_best (zp_el s.1) (zp_cl s.1) (zp_p s.1) 16 0 0).2 >>> ((nI a) &&& 31)) &&& 1) = 1 then (if (((fX12_its x (nI a) 5) >>> ((nI m) &&& 31)) &&& 1) = 1 then (mX12_pays x 0 (13 + (nI m)) (Int32.ofInt (s.2 0) / nI (zk_all s.1 (zl_best (zp_el s.1) (zp_cl s.1) (zp_p s.1) 16 0 0).2 16))) else x) else x := fun a z m x => by
    unfold bX12_payBands_98c
    rw [e0, q2, r500, gall]
  have u1 : fX12_payBands r = if nI (zk_all s.1 (zl_best (zp_el s.1) (zp_cl s.1) (zp_p s.1) 16 0 0).2 16) ≤ 0 then 0 else if Int32.ofInt (s.2 0) ≤ 0 then 0 else Int32.ofInt (s.2 0) / nI (zk_all s.1 (zl_best (zp_el s.1) (zp_cl s.1) (zp_p s.1) 16 0 0).2 16) := by
    unfold fX12_payBands
    rw [e0, r500, gall]
  have u2 : mX12_payBands r = if nI (zk_all s.1 (zl_best (zp_el s.1) (zp_cl s.1) (zp_p s.1) 16 0 0).2 16) ≤ 0 then (rj_fo (bX12_payBands_88 r) 16 0 (mX12_lineup (mX12_keeps (mX12_lacksT r)))) else if Int32.ofInt (s.2 0) ≤ 0 then (rj_fo (bX12_payBands_88b r) 16 0 (mX12_lineup (mX12_keeps (mX12_lacksT r)))) else (rj_fo (bX12_payBands_88c r) 16 0 (mX12_lineup (mX12_keeps (mX12_lacksT r)))) := by
    unfold mX12_payBands
    rw [e0, r500, gall]
  have u3 : (qX12_keeps (mX12_lacksT r) ∧ qX12_lineup (mX12_keeps (mX12_lacksT r))) → (¬ nI (zk_all s.1 (zl_best (zp_el s.1) (zp_cl s.1) (zp_p s.1) 16 0 0).2 16) ≤ 0 → ¬ nI (zk_all s.1 (zl_best (zp_el s.1) (zp_cl s.1) (zp_p s.1) 16 0 0).2 16) = 0) → qX12_payBands r := fun z1 z2 => by
    unfold qX12_payBands
    rw [e0, r500, gall]
    exact ⟨z1.1, z1.2, fun _ => trivial, fun w => ⟨fun _ => trivial, fun _ => ⟨z2 w, trivial⟩⟩⟩
  rw [l1, u1, u2]
  have h39 := hc'.1.2.2.2.2.2.2.2.2.2.1
  rw [show 1 + 38 = 39 from rfl] at h39
  have eall := zc_allPaid hc'.1.2.2.1 ok.1.2.2.1 hs hbits
  have hall := zk_all_le (S := s.1) (set := (zl_best (zp_el s.1) (zp_cl s.1) (zp_p s.1) 16 0 0).2) 16
  have hcmp : lg_cmp ((mX7_lookAtAll (mX11_beginChange c)).2.1 39 2) 0 ≤ 0 ↔ s.2 0 ≤ 0 := by
    rw [lg_cmp_le, h39]
    exact zn_le64 hBb.1 hBb.2
  have hle := zn_le32 hBb.1 hBb.2
  have hfr : zr_mom (mX7_lookAtAll (mX11_beginChange c)) 1 s.1 s.2 := hc'.1
  generalize (zl_best (zp_el s.1) (zp_cl s.1) (zp_p s.1) 16 0 0).2 = set at *
  have none : ∀ (f : Nat → rj_M → rj_M) (g : Nat → rj_M → Nat → rj_M → rj_M), (∀ a z, f a z = rj_fo (g a z) 12 0 z) → (∀ a z m x, g a z m x = if ((nI set >>> ((nI a) &&& 31)) &&& 1) = 1 then (if (((fX12_its x (nI a) 5) >>> ((nI m) &&& 31)) &&& 1) = 1 then (mX12_pays x 0 (13 + (nI m)) 0) else x) else x) → (rj_fo f 16 0 (mX12_lineup (mX12_keeps (mX12_lacksT r)))).1 395 0 = 0 ∧ zi_op n c (mX7_lookAtAll (mX11_beginChange c)) r (rj_fo f 16 0 (mX12_lineup (mX12_keeps (mX12_lacksT r)))) := fun f g hf hg => by
    obtain ⟨w1, w2, w3⟩ := zq_nopay (set := set) hrow hf hg
    obtain ⟨-, -, c3, c4⟩ := zi_gen (S' := s.1) (B' := s.2) (t := mX7_lookAtAll (mX11_beginChange c)) (u := rj_fo f 16 0 (mX12_lineup (mX12_keeps (mX12_lacksT r)))) h1 h2 ok (fun x hx hm => by
      subst hx
      exact ⟨hfr, fun k hk => ⟨k1 k (by omega) (by omega), by rw [k2]⟩, by rw [k2]⟩) (fun x hx hm => by
      subst hx
      exact ⟨w1, fun k e1 e2 => (w2 k e2).trans (hQk k e1), fun i hi => (congrFun (w2 395 (by decide)) i).trans (hQi i hi), w3.trans hQ2⟩) (zv_ok ok.1)
    exact ⟨c3, c4⟩
  by_cases ca : zk_all s.1 set 16 = 0
  · have hA : nI (zk_all s.1 set 16) ≤ 0 := by rw [ca]; exact Int32.le_refl _
    have hnl : ¬ (0 : Int32) < rj_fo (bX8_payMembers_5 (mX7_lookAtAll (mX11_beginChange c)) (nI set)) 16 0 0 := by
      rw [eall, ca]
      decide
    have hm8 : mX8_payMembers (mX7_lookAtAll (mX11_beginChange c)) (nI set) = mX7_lookAtAll (mX11_beginChange c) := by
      unfold mX8_payMembers
      rw [if_neg hnl, ite_self]
    have hf8 : fX8_payMembers (mX7_lookAtAll (mX11_beginChange c)) (nI set) = 0 := by
      unfold fX8_payMembers
      rw [if_neg hnl, ite_self]
    obtain ⟨n1, n2⟩ := none (bX12_payBands_88 r) (bX12_payBands_98 r) (fun _ _ => rfl) g98
    rw [if_pos hA, if_pos hA, hm8, hf8]
    exact ⟨rfl, n1, n2, ⟨hb.1, l2, trivial⟩, u3 ⟨hk.1, q3⟩ (fun z => absurd hA z)⟩
  · have hA : ¬ nI (zk_all s.1 set 16) ≤ 0 := nI_nle (by omega) (by omega)
    have hA0 : ¬ nI (zk_all s.1 set 16) = 0 := nI_ne0 (by omega) (by omega)
    rw [if_neg hA, if_neg hA]
    by_cases cb : s.2 0 ≤ 0
    · have hm8 : mX8_payMembers (mX7_lookAtAll (mX11_beginChange c)) (nI set) = mX7_lookAtAll (mX11_beginChange c) := by
        unfold mX8_payMembers
        rw [if_pos (hcmp.mpr cb)]
      have hf8 : fX8_payMembers (mX7_lookAtAll (mX11_beginChange c)) (nI set) = 0 := by
        unfold fX8_payMembers
        rw [if_pos (hcmp.mpr cb)]
      obtain ⟨n1, n2⟩ := none (bX12_payBands_88b r) (bX12_payBands_98b r) (fun _ _ => rfl) g98b
      rw [if_pos (hle.mpr cb), if_pos (hle.mpr cb), hm8, hf8]
      exact ⟨rfl, n1, n2, ⟨hb.1, l2, trivial⟩, u3 ⟨hk.1, q3⟩ (fun _ => hA0)⟩
    · have hdiv : Int32.ofInt (s.2 0) / nI (zk_all s.1 set 16) = nI ((s.2 0).toNat / zk_all s.1 set 16) := by
        rw [(zn_ofI (b := s.2 0) (by omega)).2]
        exact pk_div (by omega) (by omega) (by omega)
      rw [hdiv] at g98c
      rw [if_neg (fun z => cb (hle.mp z)), if_neg (fun z => cb (hle.mp z)), hdiv]
      obtain ⟨Bi, p1, p2, p3, p4, p5, p6, p7, p8, p9, p10, p11, p12, p13⟩ := zb_payAll (f88 := bX12_payBands_88c r) (g98 := bX12_payBands_98c r) hfr.2.2.1 hfr.2.2.2.2.2.2.2 hrow ok.1.2.2.1 hs hbits (by omega) (by omega) (by omega) (fun _ _ => rfl) g98c
      obtain ⟨-, -, c3, c4⟩ := zi_gen (S' := s.1) (B' := Bi) (t := mX8_payMembers (mX7_lookAtAll (mX11_beginChange c)) (nI set)) (u := rj_fo (bX12_payBands_88c r) 16 0 (mX12_lineup (mX12_keeps (mX12_lacksT r)))) h1 h2 ok (fun x hx hm => by
        subst hx
        exact ⟨zr_momU hfr (fun k hk => by rw [p9]) (fun _ _ => rfl) p1, fun k hk => ⟨by rw [p9]; exact k1 k (by omega) (by omega), by rw [p10 k (by omega) (by omega), k2]⟩, by rw [p11, k2]⟩) (fun x hx hm => by
        subst hx
        exact ⟨p2, fun k e1 e2 => (p12 k e2).trans (hQk k e1), fun i hi => (congrFun (p12 395 (by decide)) i).trans (hQi i hi), p13.trans hQ2⟩) (zo_okU ok.1 (fun _ _ => rfl) (by
        obtain ⟨o1, o2, o3, o4, o5⟩ := ok.1.2.2.2.2.2.2.2
        refine ⟨o1, o2, fun v hv => ?_, fun m hm => ?_, ?_⟩
        · have := o3 v hv
          have o0 := o3 0 (by decide)
          by_cases e : v = 0
          · subst e
            omega
          · rw [p6 v (by omega) hv]
            omega
        · have := p7 m hm
          have := o4 m hm
          omega
        · show zB_sum Bi = 0
          rw [p8]
          exact o5))
      rw [p3, c3]
      exact ⟨rfl, rfl, c4, ⟨hb.1, l2, trivial⟩, u3 ⟨hk.1, q3⟩ (fun _ => hA0)⟩
end zs11
