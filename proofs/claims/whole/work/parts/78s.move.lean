/-! moveAll, both sides -/
section zse
variable {c r : rj_M} {n : Nat}
def zk_mv (S : Nat → Nat) (B : Nat → Int) (c1 q1 : rj_M) (x y : Int32 × rj_M) : Prop := ∃ (S' : Nat → Nat) (cnt : Nat), x.1 = nI cnt ∧ y.1 = nI cnt ∧ zr_prog x.2 1 S' ∧ zo_prog S' ∧ zr_row (y.2.1 396) S' B ∧ (∀ z, z < 23 ∨ 311 ≤ z → S' z = S z) ∧ (∀ k, k ≠ 9 → k ≠ 13 → k ≠ 14 → x.2.1 k = c1.1 k) ∧ x.2.2 = c1.2 ∧ (∀ k, k ≠ 396 → y.2.1 k = q1.1 k) ∧ y.2.2 = q1.2
theorem zk_mv_step {S : Nat → Nat} {B : Nat → Int} {c1 q1 mc mr : rj_M} {g : Nat → Nat} {j : Nat} {x y : Int32 × rj_M} (hj : j < 16) (hg : g j ≤ 5) (h48 : c1.1 48 j = nI (g j) - 1) (h435 : q1.1 435 j = nI (g j) - 1) (h : zk_mv S B c1 q1 x y) : zk_mv S B c1 q1 (bX9_carryOut_4 mc j x) (bX12_moveAll_21 mr j y) := by
  obtain ⟨S', cnt, m1, m2, m3, m4, m5, m6, m7, m8, m9, m10⟩ := h
  obtain ⟨x1, x2⟩ := x
  obtain ⟨y1, y2⟩ := y
  have m1 : x1 = nI cnt := m1
  have m2 : y1 = nI cnt := m2
  subst m1
  subst m2
  have hx : x2.1 48 j = nI (g j) - 1 := (congrFun (m7 48 (by decide) (by decide) (by decide)) j).trans h48
  have hy : y2.1 435 j = nI (g j) - 1 := (congrFun (m9 435 (by decide)) j).trans h435
  unfold bX9_carryOut_4 bX12_moveAll_21
  rw [nI_clamp (by omega)]
  show zk_mv S B c1 q1 (if x2.1 48 j = 4 then (nI cnt, mX7_remove x2 (nI j)) else (if x2.1 48 j = -1 then (nI cnt, x2) else (nI cnt + 1, mX7_shiftTo x2 (nI j) (x2.1 48 j)))) (if y2.1 435 j = 4 then (if fX12_in (mX12_goes y2 (nI j)) ((mX12_goes y2 (nI j)).1 435 j) 0 3 = 0 then (nI cnt, mX12_goes y2 (nI j)) else (nI cnt + 1, rj_pi (mX12_goes y2 (nI j)) 396 ((23 + (6 * (nI j))) + 1).toNatClampNeg ((mX12_goes y2 (nI j)).1 435 j))) else (if fX12_in y2 (y2.1 435 j) 0 3 = 0 then (nI cnt, y2) else (nI cnt + 1, rj_pi y2 396 ((23 + (6 * (nI j))) + 1).toNatClampNeg (y2.1 435 j))))
  have hm := zn_m1 (s := g j) (by omega)
  by_cases c5 : g j = 5
  · have e4 : nI (g j) - 1 = 4 := by rw [c5]; decide
    obtain ⟨r1, r2, r3⟩ := zc_remove m3 hj
    obtain ⟨w1, w2, w3⟩ := zq_goes m5 hj
    have hg435 : (mX12_goes y2 (nI j)).1 435 j = 4 := (congrFun (w2 435 (by decide)) j).trans (hy.trans e4)
    have hin : fX12_in (mX12_goes y2 (nI j)) 4 0 3 = 0 := by
      unfold fX12_in
      rfl
    rw [hx, hy, if_pos e4, if_pos e4, hg435, if_pos hin]
    exact ⟨zp_rm S' j, cnt, rfl, rfl, r1, zp_rm_ok m4 hj, w1, fun z hz => (zp_rm_ne (by omega) (by omega)).trans (m6 z hz), fun k k1 k2 k3 => (r2 k k2 k3).trans (m7 k k1 k2 k3), r3.trans m8, fun k hk => (w2 k hk).trans (m9 k hk), w3.trans m10⟩
  · have n4 : ¬ nI (g j) - 1 = 4 := fun z => c5 ((hm.2 4 (by decide)).mp z)
    rw [hx, hy, if_neg n4, if_neg n4]
    by_cases c0 : g j = 0
    · have e1 : nI (g j) - 1 = -1 := hm.1.mpr c0
      have hin : fX12_in y2 (nI (g j) - 1) 0 3 = 0 := by
        rw [e1]
        unfold fX12_in
        rfl
      rw [if_pos e1, if_pos hin]
      exact ⟨S', cnt, rfl, rfl, m3, m4, m5, m6, m7, m8, m9, m10⟩
    · have n1 : ¬ nI (g j) - 1 = -1 := fun z => c0 (hm.1.mp z)
      have es : nI (g j) - 1 = nI (g j - 1) := pk_sub (b := 1) (by omega)
      have hin : ¬ fX12_in y2 (nI (g j - 1)) 0 3 = 0 := by
        unfold fX12_in
        rw [if_neg (nI_pos (by omega)), if_neg (show ¬ (3 : Int32) < nI (g j - 1) from nI_nlt (a := 3) (by omega) (by decide))]
        decide
      have q24 : (23 : Int32) + 6 * nI j + 1 = nI (24 + 6 * j) := by
        rw [show 6 * nI j = nI (6 * j) from pk_mul 6 j, show (23 : Int32) = nI 23 from rfl, nI_add, nI_1]
        congr 1
        omega
      rw [if_neg n1, es, if_neg hin, q24, nI_clamp (by omega), ← nI_succ]
      obtain ⟨r1, r2, r3⟩ := zc_shiftTo (s := g j - 1) m3 hj
      exact ⟨zp_st S' j (g j - 1), cnt + 1, rfl, rfl, r1, zp_st_ok m4 hj (by omega), zr_iff (zr_pi2 (v := g j - 1) m5 (by omega) rfl) (fun _ => rfl), fun z hz => (zp_st_ne (by omega)).trans (m6 z hz), fun k k1 k2 k3 => (r2 k k1).trans (m7 k k1 k2 k3), r3.trans m8, fun k hk => (zm_pi_ne hk).trans (m9 k hk), m10⟩
end zse
section zsf
variable {c r : rj_M} {n : Nat}
theorem zo_moveAll (h : zi_I n c r) : zo_out ["java/lang/IllegalStateException"] (fX11_moveAll c) ((mX12_moveAll r).1 395 0) (fX12_moveAll r) ∧ zi_op n c (mX11_moveAll c) r (mX12_moveAll r) ∧ qX11_moveAll c ∧ qX12_moveAll r := by
  have h0 := h
  obtain ⟨s, L, G, ⟨h1, h2, h3⟩, hr, ok⟩ := h0
  unfold fX11_moveAll mX12_moveAll fX12_moveAll mX11_moveAll qX11_moveAll qX12_moveAll
  rcases h3 with ⟨rfl, g2⟩ | ⟨g, rfl, g2, g3⟩
  · rcases hr.2.2.1 with ⟨-, q2⟩ | ⟨g', q1, -⟩
    · rw [if_pos g2, if_pos g2, if_pos g2, q2, zm_lacks0.1, zm_lacks0.2, if_neg (show ¬ (1 : Int32) = 0 by decide), if_neg (show ¬ (1 : Int32) = 0 by decide), zm_F]
      exact ⟨zh_1, zi_query h zo_cst_rfl (zo_rst_of zo_stillF), trivial, fun z => absurd z (by decide), fun _ => trivial⟩
    · cases q1
  · rcases hr.2.2.1 with ⟨q1, -⟩ | ⟨g', q1, q2, q3⟩
    · cases q1
    · cases q1
      have n2 : ¬ c.1 47 2 = 0 := by rw [g2]; decide
      rw [if_neg n2, if_neg n2, if_neg n2, q2, zm_lacks1.1, zm_lacks1.2, if_pos rfl, if_pos rfl]
      obtain ⟨s1, s2, s3, s4, s5⟩ := zc_save h2 h1 ok.1.2.1
      have hT := zi_r_rst hr (zo_rst_of (zo_stillT (r := r)))
      obtain ⟨k1, k2, k3, k4, k5⟩ := zi_keeps hT
      have kq : ∀ j, j < 16 → (mX12_keeps (mX12_lacksT r)).1 435 j = nI (g j) - 1 := fun j hj => by
        have e := (zq_keeps hT.2.1 hT.1).2.2.2.2.2.1 435 (by decide) (.inr (by decide))
        rw [e, show (mX12_lacksT r).1 435 = r.1 435 from zm_pi_ne (by decide)]
        exact q3 j hj
      have hm0 : zr_mom (mX11_saveMoment c) 1 s.1 s.2 := zr_mom_of h1 (fun k e1 e2 => ⟨s3 k (.inl (by omega)), s4 k (.inl (by omega))⟩)
      unfold fX9_carryOut mX9_carryOut mX9_forget
      generalize mX11_saveMoment c = c1 at s1 s2 s3 s4 s5 hm0 ⊢
      generalize mX12_keeps (mX12_lacksT r) = q1 at k1 k2 k3 k4 k5 kq ⊢
      have run : zk_mv s.1 s.2 c1 q1 (rj_fo (bX9_carryOut_4 c1) 16 0 (0, c1)) (rj_fo (bX12_moveAll_21 r) 16 0 (0, q1)) := zf_rel (f := bX9_carryOut_4 c1) (g := bX12_moveAll_21 r) (fun _ x y => zk_mv s.1 s.2 c1 q1 x y) 16 0 (0, c1) (0, q1) ⟨s.1, 0, rfl, rfl, hm0.2.2.1, ok.1.2.2.1, k2.1, fun _ _ => rfl, fun _ _ _ _ => rfl, rfl, fun _ _ => rfl, rfl⟩ (fun j x y _ hj hxy => zk_mv_step (by omega) (ok.2.2 g rfl j (by omega)).1 ((congrFun (s3 48 (.inl (by decide))) j).trans (g3 j (by omega))) (kq j (by omega)) hxy)
      obtain ⟨S', cnt, m1, m2, m3, m4, m5, m6, m7, m8, m9, m10⟩ := run
      rw [m1, m2]
      generalize (rj_fo (bX9_carryOut_4 c1) 16 0 (0, c1)).2 = t at m3 m7 m8 ⊢
      generalize (rj_fo (bX12_moveAll_21 r) 16 0 (0, q1)).2 = u at m5 m9 m10 ⊢
      have hmt : zr_mom t 1 S' s.2 := zr_momP hm0 (fun k hk => m7 k (by omega) (by omega) (by omega)) m8 m6 m3
      have hmf : zr_mom (rj_pi t 47 2 0) 1 S' s.2 := zr_mom_of hmt (fun k e1 e2 => ⟨zm_pi_ne (by omega), rfl⟩)
      have tk : ∀ k, k ≠ 9 → k ≠ 13 → k ≠ 14 → k ≠ 47 → (rj_pi t 47 2 0).1 k = c1.1 k := fun k e1 e2 e3 e4 => (zm_pi_ne e4).trans (m7 k e1 e2 e3)
      have t2 : (rj_pi t 47 2 0).2 = c1.2 := m8
      have t47 : (rj_pi t 47 2 0).1 47 2 = 0 := zm_pi_eq
      generalize rj_pi t 47 2 0 = tf at hmf tk t2 t47 ⊢
      have u0 : u.1 395 0 = 0 := (congrFun (m9 395 (by decide)) 0).trans (k4.trans zm_T)
      rw [u0]
      obtain ⟨w1, w2, w3, w4, w5⟩ := k2
      refine ⟨⟨rfl, rfl⟩, ⟨⟨(S', s.2), (s :: L).take 8, none, ⟨hmf, zu_c_of s2 (congrFun (tk 0 (by decide) (by decide) (by decide) (by decide)) 4) (congrFun (tk 0 (by decide) (by decide) (by decide) (by decide)) 5) (by rw [t2]) (fun k e1 e2 => ⟨tk k (by omega) (by omega) (by omega) (by omega), by rw [t2]⟩), .inl ⟨rfl, t47⟩⟩, ⟨m5, zu_q_of w2 (congrFun (m9 395 (by decide)) 3) (by rw [m10]) (fun k e1 e2 => m9 k (by omega)), .inl ⟨rfl, (congrFun (m9 395 (by decide)) 11).trans ?_⟩, fun k hk => by rw [m10]; exact w4 k hk, fun k i => by rw [m10]; exact w5 k i⟩, zo_okP ok.1 m6 m4, fun x hx => ?_, fun g hg => by cases hg⟩, ⟨fun k hk => ⟨(tk k (by omega) (by omega) (by omega) (by omega)).trans (s3 k (.inr hk)), by rw [t2]; exact s4 k (.inr hk)⟩, by rw [t2]; exact s5⟩, zi_fr_trans (zi_fr_rst (zo_rst_of (zo_stillT (r := r)))) (zi_fr_trans k3 ⟨fun k hk => m9 k (by omega), fun k _ => by rw [m10]; exact ⟨rfl, rfl⟩, fun k _ _ => by rw [m10]⟩)⟩, ⟨s1, trivial⟩, fun _ => ⟨k1, trivial⟩, fun z => absurd rfl z⟩
      · rcases w3 with ⟨-, e⟩ | ⟨g', e, -⟩
        · exact e
        · cases e
      · rcases List.mem_cons.mp (List.mem_of_mem_take hx) with rfl | hx
        · exact zv_ok ok.1
        · exact zv_ok (ok.2.1 x hx)
end zsf
