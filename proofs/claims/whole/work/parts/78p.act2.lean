/-! act, both sides: the operation -/
section zsb
variable {c r : rj_M} {a0 a1 a2 a3 a4 : Int32} {n : Nat}
theorem zq_add {q1 : rj_M} {S : Nat → Nat} {B : Nat → Int} {k st t l p m : Nat} {f : Nat → rj_M → rj_M} (h : zr_row (q1.1 396) S B) (ok : zo_prog S) (hk : k < 16) (hnot : ¬ zp_has S k) (hf : ∀ j s, f j s = rj_pi s 396 ((119 + (16 * (nI j))) + nI k).toNatClampNeg 0) : zr_row ((rj_fo f 12 0 (rj_pi (rj_pi (rj_pi (rj_pi (rj_pi (rj_pi q1 396 (23 + 6 * k) 1) 396 (23 + 6 * k + 1) (nI st)) 396 (23 + 6 * k + 2) (nI t)) 396 (23 + 6 * k + 3) (nI l)) 396 (23 + 6 * k + 4) (nI p)) 396 (23 + 6 * k + 5) (nI m))).1 396) (zp_add S k st t l p m) B ∧ (∀ j, j ≠ 396 → (rj_fo f 12 0 (rj_pi (rj_pi (rj_pi (rj_pi (rj_pi (rj_pi q1 396 (23 + 6 * k) 1) 396 (23 + 6 * k + 1) (nI st)) 396 (23 + 6 * k + 2) (nI t)) 396 (23 + 6 * k + 3) (nI l)) 396 (23 + 6 * k + 4) (nI p)) 396 (23 + 6 * k + 5) (nI m))).1 j = q1.1 j) ∧ (rj_fo f 12 0 (rj_pi (rj_pi (rj_pi (rj_pi (rj_pi (rj_pi q1 396 (23 + 6 * k) 1) 396 (23 + 6 * k + 1) (nI st)) 396 (23 + 6 * k + 2) (nI t)) 396 (23 + 6 * k + 3) (nI l)) 396 (23 + 6 * k + 4) (nI p)) 396 (23 + 6 * k + 5) (nI m))).2 = q1.2 := by
  have h6 : zr_row ((rj_pi (rj_pi (rj_pi (rj_pi (rj_pi (rj_pi q1 396 (23 + 6 * k) 1) 396 (23 + 6 * k + 1) (nI st)) 396 (23 + 6 * k + 2) (nI t)) 396 (23 + 6 * k + 3) (nI l)) 396 (23 + 6 * k + 4) (nI p)) 396 (23 + 6 * k + 5) (nI m)).1 396) (zp_add S k st t l p m) B := by
    unfold zp_add
    rw [show 24 + 6 * k = 23 + 6 * k + 1 by omega, show 25 + 6 * k = 23 + 6 * k + 2 by omega, show 26 + 6 * k = 23 + 6 * k + 3 by omega, show 27 + 6 * k = 23 + 6 * k + 4 by omega, show 28 + 6 * k = 23 + 6 * k + 5 by omega]
    exact zr_pi2 (zr_pi2 (zr_pi2 (zr_pi2 (zr_pi2 (zr_pi2 h (by omega) rfl) (by omega) rfl) (by omega) rfl) (by omega) rfl) (by omega) rfl) (by omega) rfl
  have hz : ∀ j, j < 12 → zp_add S k st t l p m (119 + 16 * j + k) = 0 := fun j hj => by
    rw [zp_add_ne (by omega)]
    exact (ok.2 j k hj hk).2 hnot
  refine zf_inv (f := f) (fun _ s => zr_row (s.1 396) (zp_add S k st t l p m) B ∧ (∀ j, j ≠ 396 → s.1 j = q1.1 j) ∧ s.2 = q1.2) 12 0 _ ⟨h6, fun j hj => by rw [zm_pi_ne hj, zm_pi_ne hj, zm_pi_ne hj, zm_pi_ne hj, zm_pi_ne hj, zm_pi_ne hj], rfl⟩ (fun j s _ hj hs => ?_)
  obtain ⟨s1, s2, s3⟩ := hs
  have q119 : (119 : Int32) + 16 * nI j + nI k = nI (119 + 16 * j + k) := by rw [show 16 * nI j = nI (16 * j) from pk_mul 16 j, show (119 : Int32) = nI 119 from rfl, nI_add, nI_add]
  rw [hf, q119, nI_clamp (by omega)]
  refine ⟨?_, fun x hx => (zm_pi_ne hx).trans (s2 x hx), s3⟩
  have hzj := hz j (by omega)
  exact zr_pi (S' := zp_add S k st t l p m) (x := 119 + 16 * j + k) (v := 0) s1 (by omega) (fun y => by
    by_cases e : y = 119 + 16 * j + k
    · rw [if_pos e, e, hzj]
    · rw [if_neg e])
theorem zo_act (h : zi_I n c r) : zo_out ["java/lang/IndexOutOfBoundsException", "java/lang/IllegalArgumentException", "java/lang/IllegalStateException"] (fX11_act c a0 a1 a2 a3 a4) ((mX12_act r a0 a1 a2 a3 a4).1 395 0) (fX12_act r a0 a1 a2 a3 a4) ∧ zi_op n c (mX11_act c a0 a1 a2 a3 a4) r (mX12_act r a0 a1 a2 a3 a4) ∧ qX11_act c a0 a1 a2 a3 a4 ∧ qX12_act r a0 a1 a2 a3 a4 := by
  have n10 : ¬ (1 : Int32) = 0 := by decide
  have bad : zo_out ["java/lang/IndexOutOfBoundsException", "java/lang/IllegalArgumentException", "java/lang/IllegalStateException"] (α := Int32) (.inr "java/lang/IllegalArgumentException") ((mX12_noF (mX12_lacksT r) 2).1 395 0) 0 ∧ zi_op n c c r (mX12_noF (mX12_lacksT r) 2) := by
    rw [zm_F2]
    exact ⟨zh_2 (by decide), zi_query h zo_cst_rfl (zo_rst_of zo_stillF2)⟩
  have hSt : fX12_isStage r a0 = fX12_in r a0 0 3 := rfl
  unfold fX11_act mX12_act fX12_act mX11_act qX11_act qX12_act
  rw [hSt]
  rcases zn_p2 (μ := c) (ν := r) (a := a0) (c := 4) (d := 3) (n := 3) rfl rfl (by decide) with ⟨e1, e2, st, hst, rfl⟩ | ⟨e1, e2⟩
  · rw [e1, e2, zm_lacks1.1, zm_lacks1.2, if_pos rfl, if_pos rfl, zm_bmn]
    rcases zn_r2 (μ := c) (ν := mX12_lacksT r) (a := a1) (c := 5759) (n := 5759) rfl (by decide) with ⟨e3, e4, t, ht, rfl⟩ | ⟨e3, e4⟩
    · rw [e3, e4, if_neg n10, if_neg n10, zm_bmn]
      rcases zn_r3 (μ := c) (ν := mX12_lacksT r) (a := a2) (l := 10) (c := 240) (lo := 10) (hi := 240) rfl rfl (by decide) (by decide) with ⟨e5, e6, l, hl1, hl2, rfl⟩ | ⟨e5, e6⟩
      · rw [e5, e6, if_neg n10, if_neg n10, zm_bmn]
        rcases zn_r2 (μ := c) (ν := mX12_lacksT r) (a := a3) (c := 60) (n := 60) rfl (by decide) with ⟨e7, e8, p, hp, rfl⟩ | ⟨e7, e8⟩
        · rw [e7, e8, if_neg n10, if_neg n10, zm_bmn]
          rcases zn_r3 (μ := c) (ν := mX12_lacksT r) (a := a4) (l := 1) (c := 4095) (lo := 1) (hi := 4095) rfl rfl (by decide) (by decide) with ⟨e9, e10, m, hm1, hm2, rfl⟩ | ⟨e9, e10⟩
          · rw [e9, e10, if_neg n10, if_neg n10, zm_bmn]
            have hlt := zn_lt0 (a := t) (b := p) (by omega) (by omega)
            by_cases cp : t < p
            · have ex : fX11_needRange c (nI t - nI p) 0 5760 = some "java/lang/IllegalArgumentException" := if_pos (hlt.mpr cp)
              rw [ex, if_pos (hlt.mpr cp), if_pos (hlt.mpr cp), zm_bms]
              exact ⟨bad.1, bad.2, trivial, fun _ => ⟨fun z => absurd z n10, fun _ => ⟨fun z => absurd z n10, fun _ => ⟨fun z => absurd z n10, fun _ => ⟨fun z => absurd z n10, fun _ => ⟨fun _ => trivial, fun z => absurd (hlt.mpr cp) z⟩⟩⟩⟩⟩, fun _ => trivial⟩
            · have hge : ¬ nI t - nI p < 0 := fun z => cp (hlt.mp z)
              have ex : fX11_needRange c (nI t - nI p) 0 5760 = none := (if_neg hge).trans (if_pos (by
                rw [pk_sub (by omega)]
                exact nI_le (b := 5760) (by omega) (by decide)))
              rw [ex, if_neg hge, if_neg hge, zm_bmn, nI_add]
              by_cases cq : 5760 < t + l
              · have hq : (5760 : Int32) < nI (t + l) := nI_lt (a := 5760) cq (by omega)
                have ey : fX11_needRange c (nI (t + l)) 0 5760 = some "java/lang/IllegalArgumentException" := (if_neg (nI_pos (by omega))).trans (if_neg (Int32.not_le.mpr hq))
                rw [ey, if_pos hq, if_pos hq, zm_bms]
                exact ⟨bad.1, bad.2, trivial, fun _ => ⟨fun z => absurd z n10, fun _ => ⟨fun z => absurd z n10, fun _ => ⟨fun z => absurd z n10, fun _ => ⟨fun z => absurd z n10, fun _ => ⟨fun z => absurd z hge, fun _ => ⟨fun _ => trivial, fun z => absurd hq z⟩⟩⟩⟩⟩⟩, fun _ => trivial⟩
              · have hq : ¬ (5760 : Int32) < nI (t + l) := nI_nlt (a := 5760) (by omega) (by decide)
                have ey : fX11_needRange c (nI (t + l)) 0 5760 = none := (if_neg (nI_pos (by omega))).trans (if_pos (Int32.not_lt.mp hq))
                rw [ey, if_neg hq, if_neg hq, zm_bmn]
                have h0 := h
                obtain ⟨s, L, G, h1, h2, ok⟩ := h0
                have hT := zi_r_rst h2 (zo_rst_of (zo_stillT (r := r)))
                have hA : fX7_freeNumber c = zo_i (zf_find (fun j => ¬ zp_has s.1 j) 16) := by
                  unfold fX7_freeNumber
                  refine zx_search (fun i hi => ?_)
                  unfold bX7_freeNumber_2
                  rcases zc_has h1.1.2.2.1 ok.1.2.2.1 hi with ⟨g1, g2⟩ | ⟨g1, g2⟩
                  · rw [g2]
                    exact .inr ⟨fun z => z g1, if_neg (by decide)⟩
                  · rw [g2]
                    exact .inl ⟨g1, if_pos rfl⟩
                have hK := zb_search (f := bX12_act_97 r (nI st) (nI t) (nI l) (nI p) (nI m)) (p := fun j => ¬ zp_has s.1 j) (n := 16) (fun i hi => by
                  have hSt' : fX12_isStage r (nI st) = 1 := e2
                  have hi0 : fX12_its (mX12_lacksT r) (nI i) 0 = nI (s.1 (23 + 6 * i)) := (zq_its hT.1 (w := 0) (i := 0) hi (by decide) rfl).trans (by rw [Nat.add_zero])
                  unfold bX12_act_97
                  rw [hSt', zm_lacks1.2, hi0]
                  have hle := (ok.1.2.2.1.1 i hi).1
                  by_cases e : zp_has s.1 i
                  · refine .inr ⟨fun z => z e, if_pos ?_⟩
                    rw [show s.1 (23 + 6 * i) = 1 from e]
                    rfl
                  · exact .inl ⟨e, if_neg (zn_ne (L := 1) (n := 1) rfl e (by omega) (by decide))⟩)
                rcases hK with ⟨k, ho, hk, hKk⟩ | ⟨ho, hKk⟩
                · have hnot := (zf_find_some.mp ho).2.1
                  have hA' : fX7_freeNumber c = nI k := by rw [hA, ho]; rfl
                  have hn1 : ¬ nI k = -1 := fun z => by
                    have h3 : ¬ nI k < 0 := nI_pos (by omega)
                    rw [z] at h3
                    exact absurd (by decide) h3
                  have h16 : ¬ (16 : Int32) ≤ nI k := nI_ge (b := 16) hk (by decide)
                  have q23 : (23 : Int32) + 6 * nI k = nI (23 + 6 * k) := by rw [show 6 * nI k = nI (6 * k) from pk_mul 6 k, show (23 : Int32) = nI 23 from rfl, nI_add]
                  have qj : ∀ j, nI (23 + 6 * k) + nI j = nI (23 + 6 * k + j) := fun j => nI_add _ _
                  rw [hA', hKk, if_neg hn1, if_neg hn1, if_neg hn1, if_neg h16, if_neg h16, q23, show nI (23 + 6 * k) + 1 = nI (23 + 6 * k + 1) from qj 1, show nI (23 + 6 * k) + 2 = nI (23 + 6 * k + 2) from qj 2, show nI (23 + 6 * k) + 3 = nI (23 + 6 * k + 3) from qj 3, show nI (23 + 6 * k) + 4 = nI (23 + 6 * k + 4) from qj 4, show nI (23 + 6 * k) + 5 = nI (23 + 6 * k + 5) from qj 5, nI_clamp (n := 23 + 6 * k) (by omega), nI_clamp (n := 23 + 6 * k + 1) (by omega), nI_clamp (n := 23 + 6 * k + 2) (by omega), nI_clamp (n := 23 + 6 * k + 3) (by omega), nI_clamp (n := 23 + 6 * k + 4) (by omega), nI_clamp (n := 23 + 6 * k + 5) (by omega)]
                  have hf : ∀ j s', bX12_act_220 r (nI st) (nI t) (nI l) (nI p) (nI m) j s' = rj_pi s' 396 ((119 + (16 * (nI j))) + nI k).toNatClampNeg 0 := fun j s' => by
                    unfold bX12_act_220
                    rw [hKk]
                  have hqf : ∀ w, rq_fo (qX12_act_220 r (nI st) (nI t) (nI l) (nI p) (nI m)) (bX12_act_220 r (nI st) (nI t) (nI l) (nI p) (nI m)) 12 0 w := fun w => zf_q (fun _ _ => True) 12 0 w trivial (fun j s' _ hj _ => ⟨by
                    unfold qX12_act_220
                    rw [hKk, show (119 : Int32) + 16 * nI j + nI k = nI (119 + 16 * j + k) by rw [show 16 * nI j = nI (16 * j) from pk_mul 16 j, show (119 : Int32) = nI 119 from rfl, nI_add, nI_add]]
                    exact ⟨vp_in_nI (by omega) (by decide), trivial⟩, trivial⟩)
                  generalize bX12_act_220 r (nI st) (nI t) (nI l) (nI p) (nI m) = f at hf hqf ⊢
                  obtain ⟨c1, c2, c3, c4⟩ := zi_gen (S' := zp_add s.1 k st t l p m) (B' := s.2) (t := mX7_add (mX11_beginChange c) (nI k) (nI st) (nI t) (nI l) (nI p) (nI m)) (u := rj_fo f 12 0 (rj_pi (rj_pi (rj_pi (rj_pi (rj_pi (rj_pi (mX12_keeps (mX12_lacksT r)) 396 (23 + 6 * k) 1) 396 (23 + 6 * k + 1) (nI st)) 396 (23 + 6 * k + 2) (nI t)) 396 (23 + 6 * k + 3) (nI l)) 396 (23 + 6 * k + 4) (nI p)) 396 (23 + 6 * k + 5) (nI m))) h1 h2 ok (fun x hx hm' => by
                    subst hx
                    obtain ⟨m1, m2, m3⟩ := zc_add (st := st) (t := t) (l := l) (p := p) (m := m) hm'.2.2.1 hk
                    exact ⟨zr_momP hm' (fun j hj => m2 j (by omega)) m3 (fun y hy => zp_add_ne (by omega)) m1, fun j hj => ⟨m2 j (by omega), by rw [m3]⟩, by rw [m3]⟩) (fun x hx hm' => by
                    subst hx
                    obtain ⟨m1, m2, m3⟩ := zq_add (st := st) (t := t) (l := l) (p := p) (m := m) hm' ok.1.2.2.1 hk hnot hf
                    exact ⟨m1, fun j e1 e2 => m2 j e2, fun i _ => congrFun (m2 395 (by decide)) i, m3⟩) (zo_okP ok.1 (fun y hy => zp_add_ne (by omega)) (zp_add_ok ok.1.2.2.1 hk hst (by omega) ⟨hl1, hl2⟩ (by omega) (by omega) (by omega) ⟨hm1, by omega⟩))
                  rw [c3]
                  exact ⟨⟨rfl, rfl⟩, c4, ⟨c1, trivial⟩, fun _ => ⟨fun z => absurd z n10, fun _ => ⟨fun z => absurd z n10, fun _ => ⟨fun z => absurd z n10, fun _ => ⟨fun z => absurd z n10, fun _ => ⟨fun z => absurd z hge, fun _ => ⟨fun z => absurd z hq, fun _ => ⟨fun _ => trivial, fun _ => ⟨c2, vp_in_nI (by omega) (by decide), vp_in_nI (by omega) (by decide), vp_in_nI (by omega) (by decide), vp_in_nI (by omega) (by decide), vp_in_nI (by omega) (by decide), vp_in_nI (by omega) (by decide), fun _ => ra_fo_i (hqf _), trivial⟩⟩⟩⟩⟩⟩⟩⟩, fun _ => trivial⟩
                · have hA' : fX7_freeNumber c = -1 := by rw [hA, ho]; rfl
                  have h16 : (16 : Int32) ≤ nI 16 := Int32.le_refl _
                  rw [hA', hKk, if_pos rfl, if_pos rfl, if_pos rfl, if_pos h16, if_pos h16, zm_F2]
                  exact ⟨zh_3 (by decide) (by decide), zi_query h zo_cst_rfl (zo_rst_of zo_stillF2), trivial, fun _ => ⟨fun z => absurd z n10, fun _ => ⟨fun z => absurd z n10, fun _ => ⟨fun z => absurd z n10, fun _ => ⟨fun z => absurd z n10, fun _ => ⟨fun z => absurd z hge, fun _ => ⟨fun z => absurd z hq, fun _ => ⟨fun _ => trivial, fun z => absurd h16 z⟩⟩⟩⟩⟩⟩⟩, fun _ => trivial⟩
          · rw [e9, e10, if_pos rfl, if_pos rfl, zm_bms]
            exact ⟨bad.1, bad.2, trivial, fun _ => ⟨fun z => absurd z n10, fun _ => ⟨fun z => absurd z n10, fun _ => ⟨fun z => absurd z n10, fun _ => ⟨fun _ => trivial, fun z => absurd rfl z⟩⟩⟩⟩, fun _ => trivial⟩
        · rw [e7, e8, if_pos rfl, if_pos rfl, zm_bms]
          exact ⟨bad.1, bad.2, trivial, fun _ => ⟨fun z => absurd z n10, fun _ => ⟨fun z => absurd z n10, fun _ => ⟨fun _ => trivial, fun z => absurd rfl z⟩⟩⟩, fun _ => trivial⟩
      · rw [e5, e6, if_pos rfl, if_pos rfl, zm_bms]
        exact ⟨bad.1, bad.2, trivial, fun _ => ⟨fun z => absurd z n10, fun _ => ⟨fun _ => trivial, fun z => absurd rfl z⟩⟩, fun _ => trivial⟩
    · rw [e3, e4, if_pos rfl, if_pos rfl, zm_bms]
      exact ⟨bad.1, bad.2, trivial, fun _ => ⟨fun _ => trivial, fun z => absurd rfl z⟩, fun _ => trivial⟩
  · rw [e1, e2, zm_lacks0.1, zm_lacks0.2, if_neg n10, if_neg n10, zm_bms, zm_F]
    exact ⟨zh_1, zi_query h zo_cst_rfl (zo_rst_of zo_stillF), trivial, fun z => absurd z n10, fun _ => trivial⟩
end zsb
