/-! moveAll, both sides -/
section zse
variable {c r : rj_M} {n : Nat}
def zk_mv (S : Nat → Nat) (B : Nat → Int) (c1 q1 : rj_M) (x y : Int32 × rj_M) : Prop := ∃ (S' : Nat → Nat) (cnt : Nat), x.1 = nI cnt ∧ y.1 = nI cnt ∧ zr_prog x.2 1 S' ∧ zo_prog S' ∧ zr_row (y.2.1 396) S' B ∧ (∀ z, z < 23 ∨ 311 ≤ z → S' z = S z) ∧ (∀ k, k ≠ 9 → k ≠ 13 → k ≠ 14 → x.2.1 k = c1.1 k) ∧ x.2.2 = c1.2 ∧ (∀ k, k ≠ 396 → y.2.1 k = q1.1 k) ∧ y.2.2 = q1.2
theorem zk_mv_step {S : Nat → Nat} {B : Nat → Int} {c1 q1 mc mr : rj_M} {g : Nat → Nat} {j : Nat} {x y : Int32 × rj_M} (hj : j < 16) (hg : g j ≤ 5) (h48 : c1.1 48 j = nI (g j) - 1) (h435 : q1.1 435 j = nI (g j) - 1) (h : zk_mv S B c1 q1 x y) : zk_mv S B c1 q1 (bX9_carryOut_4 mc j x) (bX12_moveAll_21 mr j y) := by
  obtain ⟨S', cnt, m1, m2, m3, m4, m5, m6, m7, m8, m9, m10⟩ := h
  obtain ⟨x1, x2⟩ := x
  obtain ⟨y1, y2⟩ := y
  have m1 : x1 = nI cnt := m1
  have m2 : y1 = nI cnt := m2
  subst m1
  subst m2
  have hx : x2.1 48 j = nI (g j) - 1 := (congrFun (m7 48 (by decide) (by decide) (by decide)) j).trans h48
  have hy : y2.1 435 j = nI (g j) - 1 := (congrFun (m9 435 (by decide)) j).trans h435
  unfold bX9_carryOut_4 bX12_moveAll_21
  rw [nI_clamp (by omega)]
  show zk_mv S B c1 q1 (if x2.1 48 j = 4 then (nI cnt, mX7_remove x2 (nI j)) else (if x2.1 48 j = -1 then (nI cnt, x2) else (nI cnt + 1, mX7_shiftTo x2 (nI j) (x2.1 48 j)))) (if y2.1 435 j = 4 then (if fX12_in (mX12_goes y2 (nI j)) ((mX12_goes y2 (nI j)).1 435 j) 0 3 = 0 then (nI cnt, mX12_goes y2 (nI j)) else (nI cnt + 1, rj_pi (mX12_goes y2 (nI j)) 396 ((23 + (6 * (nI j))) + 1).toNatClampNeg ((mX12_goes y2 (nI j)).1 435 j))) else (if fX12_in y2 (y2.1 435 j) 0 3 = 0 then (nI cnt, y2) else (nI cnt + 1, rj_pi y2 396 ((23 + (6 * (nI j))) + 1).toNatClampNeg (y2.1 435 j))))
  have hm := zn_m1 (s := g j) (by omega)
  by_cases c5 : g j = 5
  · have e4 : nI (g j) - 1 = 4 := by rw [c5]; decide
    obtain ⟨r1, r2, r3⟩ := zc_remove m3 hj
    obtain ⟨w1, w2, w3⟩ := zq_goes m5 hj
    have hg435 : (mX12_goes y2 (nI j)).1 435 j = 4 := (congrFun (w2 435 (by decide)) j).trans (hy.trans e4)
    have hin : fX12_in (mX12_goes y2 (nI j)) 4 0 3 = 0 := by
      unfold fX12_in
      rfl
    rw [hx, hy, if_pos e4, if_pos e4, hg435, if_pos hin]
    exact ⟨zp_rm S' j, cnt, rfl, rfl, r1, zp_rm_ok m4 hj, w1, fun z hz => (zp_rm_ne (by omega) (by omega)).trans (m6 z hz), fun k k1 k2 k3 => (r2 k k2 k3).trans (m7 k k1 k2 k3), r3.trans m8, fun k hk => (w2 k hk).trans (m9 k hk), w3.trans m10⟩
  · have n4 : ¬ nI (g j) - 1 = 4 := fun z => c5 ((hm.2 4 (by decide)).mp z)
    rw [hx, hy, if_neg n4, if_neg n4]
    by_cases c0 : g j = 0
    · have e1 : nI (g j) - 1 = -1 := hm.1.mpr c0
      have hin : fX12_in y2 (nI (g j) - 1) 0 3 = 0 := by
        rw [e1]
        unfold fX12_in
        rfl
      rw [if_pos e1, if_pos hin]
      exact ⟨S', cnt, rfl, rfl, m3, m4, m5, m6, m7, m8, m9, m10⟩
    · have n1 : ¬ nI (g j) - 1 = -1 := fun z => c0 (hm.1.mp z)
      have es : nI (g j) - 1 = nI (g j - 1) := pk_sub (b := 1) (by omega)
      have hin : ¬ fX12_in y2 (nI (g j - 1)) 0 3 = 0 := by
        unfold fX12_in
        rw [if_neg (nI_pos (by omega)), if_neg (show ¬ (3 : Int32) < nI (g j - 1) from nI_nlt (a := 3) (by omega) (by decide))]
        decide
      have q24 : (23 : Int32) + 6 * nI j + 1 = nI (24 + 6 * j) := by
        rw [show 6 * nI j = nI (6 * j) from pk_mul 6 j, show (23 : Int32) = nI 23 from rfl, nI_add, nI_1]
        congr 1
        omega
      rw [if_neg n1, es, if_neg hin, q24, nI_clamp (by omega), ← nI_succ]
      obtain ⟨r1, r2, r3⟩ := zc_shiftTo (s := g j - 1) m3 hj
      exact ⟨zp_st S' j (g j - 1), cnt + 1, rfl, rfl, r1, zp_st_ok m4 hj (by omega), zr_iff (zr_pi2 (v := g j - 1) m5 (by omega) rfl) (fun _ => rfl), fun z hz => (zp_st_ne (by omega)).trans (m6 z hz), fun k k1 k2 k3 => (r2 k k1).trans (m7 k k1 k2 k3), r3.trans m8, fun k hk => (zm_pi_ne hk).trans (m9 k hk), m10⟩
end zse
