/-! SETTERS: find; tickets -/
theorem zn_m1 {s : Nat} (h : s < 1000) : (nI s - 1 = -1 ↔ s = 0) ∧ ∀ t, t < 1000 → (nI s - 1 = nI t ↔ s = t + 1) := by
  cases s with
  | zero =>
    refine ⟨⟨fun _ => rfl, fun _ => by decide⟩, fun t ht => ⟨fun z => ?_, fun z => by omega⟩⟩
    have h1 : ¬ nI t < 0 := nI_pos (by omega)
    rw [← z] at h1
    exact absurd (by decide) h1
  | succ s =>
    rw [nI_pred]
    refine ⟨⟨fun z => ?_, fun z => by omega⟩, fun t ht => ⟨fun z => ?_, fun z => by congr 1; omega⟩⟩
    · have h1 : ¬ nI s < 0 := nI_pos (by omega)
      rw [z] at h1
      exact absurd (by decide) h1
    · have := (nI_eq (a := s) (b := t) (by omega) (by omega)).mp z
      omega
section zs9
variable {c r : rj_M} {a0 a1 a2 a3 : Int32} {n : Nat}
theorem zi_findcore {K : Nat} {A : Int32} {o : Option Nat} (h : zi_I n c r) (hA : A = zo_i o) (hK : (∃ k, o = some k ∧ k < 100 ∧ K = k) ∨ (o = none ∧ K = 100)) : zo_out ["java/lang/IndexOutOfBoundsException", "java/util/NoSuchElementException"] (if A = -1 then .inr "java/util/NoSuchElementException" else .inl A) ((if 100 ≤ nI K then (mX12_noF (mX12_lacksT r) 2) else (rj_pi (mX12_keeps (mX12_lacksT r)) 396 (525 + (nI K)).toNatClampNeg (-1))).1 395 0) (if 100 ≤ nI K then 0 else nI K) ∧ zi_op n c (if A = -1 then c else (mX11_replace (mX11_beginChange c) 7 100 A (-1))) r (if 100 ≤ nI K then (mX12_noF (mX12_lacksT r) 2) else (rj_pi (mX12_keeps (mX12_lacksT r)) 396 (525 + (nI K)).toNatClampNeg (-1))) ∧ (if A = -1 then True else (qX11_beginChange c ∧ True)) ∧ ((100 ≤ nI K → True) ∧ (¬ 100 ≤ nI K → qX12_keeps (mX12_lacksT r) ∧ vp_in (525 + (nI K)) 625 ∧ True)) := by
  rcases hK with ⟨k, ho, hk, hK⟩ | ⟨ho, hK⟩
  · subst hK
    have hA' : A = nI K := by rw [hA, ho]; rfl
    have hn1 : ¬ A = -1 := fun z => by
      have h1 : ¬ nI K < 0 := nI_pos (by omega)
      rw [← hA', z] at h1
      exact absurd (by decide) h1
    have h100 : ¬ (100 : Int32) ≤ nI K := nI_ge (b := 100) (by omega) (by decide)
    obtain ⟨s, L, G, h1, h2, ok⟩ := h
    have hb : 525 + nI K = nI (525 + K) := by rw [show (525 : Int32) = nI 525 from rfl, nI_add]
    have hrep := zm_rep (μ := mX11_beginChange c) (k := 7) (n := 100) (v := -1) (j := K) rfl hk (by decide)
    obtain ⟨c1, c2, c3, c4, -, -⟩ := zi_thing (x := K) (m := 0) (v := -1) h1 h2 ok (by decide) (by decide) hk
    rw [if_neg hn1, if_neg hn1, if_neg hn1, if_neg h100, if_neg h100, hA', hrep.1, hb, nI_clamp (by omega), c3]
    exact ⟨⟨rfl, rfl⟩, c4, ⟨c1, trivial⟩, fun _ => trivial, fun _ => ⟨c2, vp_in_nI (by omega) (by decide), trivial⟩⟩
  · subst hK
    have hA' : A = -1 := by rw [hA, ho]; rfl
    have h100 : (100 : Int32) ≤ nI 100 := Int32.le_refl _
    rw [if_pos hA', if_pos hA', if_pos hA', if_pos h100, if_pos h100, zm_F2]
    exact ⟨zh_2 (by decide), zi_query h zo_cst_rfl (zo_rst_of zo_stillF2), trivial, fun _ => trivial, fun z => absurd h100 z⟩
theorem zo_find (h : zi_I n c r) : zo_out ["java/lang/IndexOutOfBoundsException", "java/util/NoSuchElementException"] (fX11_find c a0) ((mX12_find r a0).1 395 0) (fX12_find r a0) ∧ zi_op n c (mX11_find c a0) r (mX12_find r a0) ∧ qX11_find c a0 ∧ qX12_find r a0 := by
  have h0 := h
  obtain ⟨s, L, G, h1, h2, ok⟩ := h0
  have hcl : ∀ j, j < 100 → c.1 7 (nI j).toNatClampNeg = nI (s.1 (525 + j)) - 1 := fun j hj => by
    rw [nI_clamp (by omega)]
    exact h1.1.2.1.2.2.2 j hj
  have hrl : ∀ j, j < 100 → (mX12_lacksT r).1 396 (525 + (nI j)).toNatClampNeg = nI (s.1 (525 + j)) - 1 := fun j hj => by
    rw [zm_T396, show (525 : Int32) + nI j = nI (525 + j) by rw [show (525 : Int32) = nI 525 from rfl, nI_add], nI_clamp (by omega)]
    exact h2.1.2.2.2 _ (by omega) (by omega)
  have hs : ∀ j, j < 100 → s.1 (525 + j) ≤ 4 := fun j hj => ok.1.2.1.2.2.2 j hj
  unfold fX11_find mX12_find fX12_find mX11_find qX11_find qX12_find
  by_cases c0 : a0 = -1
  · have hA : fX4_firstLost c a0 = zo_i (zf_find (fun j => s.1 (525 + j) ≠ 0) 100) := by
      unfold fX4_firstLost
      refine zx_search (fun i hi => ?_)
      have hm := (zn_m1 (s := s.1 (525 + i)) (by have := hs i hi; omega)).1
      unfold bX4_firstLost_2
      rw [hcl i hi]
      by_cases e : s.1 (525 + i) = 0
      · exact .inr ⟨fun z => z e, if_pos (hm.mpr e)⟩
      · exact .inl ⟨e, (if_neg (fun z => e (hm.mp z))).trans (if_pos c0)⟩
    have hK := zb_search (f := bX12_find_28 r a0) (p := fun j => s.1 (525 + j) ≠ 0) (n := 100) (fun i hi => by
      have hm := (zn_m1 (s := s.1 (525 + i)) (by have := hs i hi; omega)).1
      unfold bX12_find_28
      rw [hrl i hi]
      by_cases e : s.1 (525 + i) = 0
      · exact .inr ⟨fun z => z e, if_pos (hm.mpr e)⟩
      · exact .inl ⟨e, if_neg (fun z => e (hm.mp z))⟩)
    rw [if_pos c0, if_pos c0, if_pos c0, if_pos c0, if_pos c0]
    obtain ⟨g1, g2, g3, g4⟩ := zi_findcore h hA hK
    exact ⟨g1, g2, g3, fun _ => g4, fun z => absurd c0 z⟩
  · rw [if_neg c0, if_neg c0, if_neg c0, if_neg c0, if_neg c0]
    have hIs : fX12_isStage r a0 = fX12_in r a0 0 3 := rfl
    rw [hIs]
    rcases zn_p2 (μ := c) (ν := r) (a := a0) (c := 4) (d := 3) (n := 3) rfl rfl (by decide) with ⟨e1, e2, x, hx, rfl⟩ | ⟨e1, e2⟩
    · have hA : fX4_firstLost c (nI x) = zo_i (zf_find (fun j => s.1 (525 + j) = x + 1) 100) := by
        unfold fX4_firstLost
        refine zx_search (fun i hi => ?_)
        have hm := zn_m1 (s := s.1 (525 + i)) (by have := hs i hi; omega)
        unfold bX4_firstLost_2
        rw [hcl i hi]
        by_cases e : s.1 (525 + i) = x + 1
        · exact .inl ⟨e, (if_neg (fun z => by have := hm.1.mp z; omega)).trans ((if_neg c0).trans (if_pos ((hm.2 x (by omega)).mpr e)))⟩
        · refine .inr ⟨e, ?_⟩
          by_cases e0 : s.1 (525 + i) = 0
          · exact if_pos (hm.1.mpr e0)
          · exact (if_neg (fun z => e0 (hm.1.mp z))).trans ((if_neg c0).trans (if_neg (fun z => e ((hm.2 x (by omega)).mp z))))
      have hK := zb_search (f := bX12_find_28b r (nI x)) (p := fun j => s.1 (525 + j) = x + 1) (n := 100) (fun i hi => by
        have hm := zn_m1 (s := s.1 (525 + i)) (by have := hs i hi; omega)
        unfold bX12_find_28b
        rw [hrl i hi]
        by_cases e : s.1 (525 + i) = x + 1
        · exact .inl ⟨e, (if_neg (fun z => by have := hm.1.mp z; omega)).trans (if_pos ((hm.2 x (by omega)).mpr e))⟩
        · refine .inr ⟨e, ?_⟩
          by_cases e0 : s.1 (525 + i) = 0
          · exact if_pos (hm.1.mpr e0)
          · exact (if_neg (fun z => e0 (hm.1.mp z))).trans (if_neg (fun z => e ((hm.2 x (by omega)).mp z))))
      rw [e1, e2, if_neg (show ¬ (1 : Int32) = 0 by decide), if_neg (show ¬ (1 : Int32) = 0 by decide), zm_bmn]
      obtain ⟨g1, g2, g3, g4⟩ := zi_findcore h hA hK
      exact ⟨g1, g2, g3, fun z => absurd z c0, fun _ => ⟨fun z => absurd z (by decide), fun _ => g4⟩⟩
    · rw [e1, e2, if_pos rfl, if_pos rfl, zm_bms, zm_F]
      exact ⟨zh_1, zi_query h zo_cst_rfl (zo_rst_of zo_stillF), trivial, fun z => absurd z c0, fun _ => ⟨fun _ => trivial, fun z => absurd rfl z⟩⟩
theorem zv_pay {S S' : Nat → Nat} {B : Nat → Int} {f t x : Nat} (ok : zo_purs S B n) (hf : f < 13) (ht : t < 13) (hft : f ≠ t) (hx : x ≤ 500) (h1 : ∀ d, d < 4 → S' (448 + d) ≤ 500) (h2 : ∀ p, p < 48 → S' (452 + p) ≤ 501) : zo_purs S' (zB_pay B f t x) (n + 1) := by
  obtain ⟨o1, o2, o3, o4, o5⟩ := ok
  refine ⟨h1, h2, fun v hv => ?_, fun m hm => ?_, ?_⟩
  · have := o3 v hv
    by_cases e1 : v = t
    · rw [e1, zB_t]
      rw [e1] at this
      omega
    · by_cases e2 : v = f
      · rw [e2, zB_f hft]
        rw [e2] at this
        omega
      · rw [zB_o e2 e1]
        omega
  · rw [zB_o (by omega) (by omega)]
    exact o4 m hm
  · show zB_sum (zB_pay B f t x) = 0
    rw [zB_sum_pay (by omega) (by omega) hft]
    exact o5
theorem zn_tk {v d : Nat} : 452 + 4 * nI v + nI d = nI (452 + (4 * v + d)) := by rw [show 4 * nI v = nI (4 * v) from pk_mul 4 v, show (452 : Int32) = nI 452 from rfl, nI_add, nI_add, Nat.add_assoc]
theorem zo_refund (h : zi_I n c r) : zo_out ["java/lang/IndexOutOfBoundsException", "java/util/NoSuchElementException"] (fX11_refund c a0 a1) ((mX12_refund r a0 a1).1 395 0) (fX12_refund r a0 a1) ∧ zi_op n c (mX11_refund c a0 a1) r (mX12_refund r a0 a1) ∧ qX11_refund c a0 a1 ∧ qX12_refund r a0 a1 := by
  unfold fX11_refund mX12_refund fX12_refund mX11_refund qX11_refund qX12_refund fX12_isVisitor fX12_isDay
  have n10 : ¬ (1 : Int32) = 0 := by decide
  rcases zn_p2 (μ := c) (ν := r) (a := a0) (c := 12) (d := 11) (n := 11) rfl rfl (by decide) with ⟨e1, e2, v, hv, rfl⟩ | ⟨e1, e2⟩
  · rw [e1, e2, if_neg n10, if_neg n10, zm_bmn]
    rcases zn_p2 (μ := c) (ν := r) (a := a1) (c := 4) (d := 3) (n := 3) rfl rfl (by decide) with ⟨e3, e4, d, hd, rfl⟩ | ⟨e3, e4⟩
    · rw [e3, e4, if_neg n10, if_neg n10, zm_bmn, zn_tk, nI_clamp (by omega)]
      have h0 := h
      obtain ⟨s, L, G, h1, h2, ok⟩ := h0
      have hp := h1.1.2.2.2.2.2.2.2
      have okp := ok.1.2.2.2.2.2.2.2
      have hS := okp.2.1 (4 * v + d) (by omega)
      have hT : (mX12_lacksT r).1 396 (452 + (4 * v + d)) = nI (s.1 (452 + (4 * v + d))) - 1 := by
        rw [zm_T396]
        exact h2.1.2.1 _ (by omega) (by omega)
      have hm := (zn_m1 (s := s.1 (452 + (4 * v + d))) (by omega)).1
      unfold fX11_needTicket
      rw [zc_hasTicket hp okp.2.1 hv hd, hT]
      by_cases c0 : s.1 (452 + (4 * v + d)) = 0
      · rw [if_pos c0, if_pos rfl, if_pos (hm.mpr c0), if_pos (hm.mpr c0), zm_bms, zm_F2]
        exact ⟨zh_2 (by decide), zi_query h zo_cst_rfl (zo_rst_of zo_stillF2), trivial, fun z => absurd z n10, fun _ => ⟨fun z => absurd z n10, fun _ => ⟨fun _ => trivial, fun z => absurd (hm.mpr c0) z⟩⟩⟩
      · have hne : ¬ nI (s.1 (452 + (4 * v + d))) - 1 = -1 := fun z => c0 (hm.mp z)
        rw [if_neg c0, if_neg n10, if_neg hne, if_neg hne, zm_bmn]
        have hb := zi_begin h1 ok.1.2.1
        have hk := zi_keeps (zi_r_rst h2 (zo_rst_of (zo_stillT (r := r))))
        have hprice : 9 * ((mX12_keeps (mX12_lacksT r)).1 396 (452 + (4 * v + d))) / 10 = nI ((s.1 (452 + (4 * v + d)) - 1) * 9 / 10) := by
          rw [hk.2.1.1.2.1 _ (by omega) (by omega)]
          show 9 * (nI (s.1 (452 + (4 * v + d))) - 1) / 10 = _
          rw [show (1 : Int32) = nI 1 from rfl, pk_sub (by omega), show (9 : Int32) = nI 9 from rfl, pk_mul, Nat.mul_comm]
          exact pk_div (d := 10) (by omega) (by decide) (by decide)
        rw [hprice]
        obtain ⟨t1, t2, t3, t4, t5⟩ := zc_takeBack hb.2.1.1.2.2.2.2.2.2.2 hv hd ⟨by show 1 ≤ s.1 _; omega, hS⟩
        have hrow : zr_row ((mX12_pays (rj_pi (mX12_keeps (mX12_lacksT r)) 396 (452 + (4 * v + d)) (-1)) (nI 0) (nI (1 + v)) (nI ((s.1 (452 + (4 * v + d)) - 1) * 9 / 10))).1 396) _ _ ∧ _ := zq_pays (zr_pt (p := 4 * v + d) (x := 0) (v := -1) hk.2.1.1 (by omega) (by decide)) (f := 0) (t := 1 + v) (x := (s.1 (452 + (4 * v + d)) - 1) * 9 / 10) (by decide) (by omega) (by omega)
        obtain ⟨u1, u2, u3⟩ := hrow
        have e1v : (1 : Int32) + nI v = nI (1 + v) := by rw [show (1 : Int32) = nI 1 from rfl, nI_add]
        rw [show nI 0 = (0 : Int32) from rfl, ← e1v] at u1 u2 u3
        obtain ⟨c1, c2, c3, c4⟩ := zi_gen (S' := zg_up s.1 (452 + (4 * v + d)) 0) (B' := zB_pay s.2 0 (1 + v) (((s.1 (452 + (4 * v + d)) - 1) * 9 / 10 : Nat))) (t := mX8_takeBack (mX11_beginChange c) (nI v) (nI d)) (u := mX12_pays (rj_pi (mX12_keeps (mX12_lacksT r)) 396 (452 + (4 * v + d)) (-1)) 0 (1 + nI v) (nI ((s.1 (452 + (4 * v + d)) - 1) * 9 / 10))) h1 h2 ok (fun x hx hm => by
          subst hx
          exact ⟨zr_momU hm (fun k hk => t3 k (by omega)) (fun y hy => zg_up_ne (by omega)) t1, fun k hk => ⟨t3 k (by omega), t4 k (by omega) (by omega)⟩, t5⟩) (fun x hx hm => by
          subst hx
          exact ⟨u1, fun k e1 e2 => (u2 k e2).trans (zm_pi_ne e2), fun i _ => (congrFun (u2 395 (by decide)) i).trans (congrFun (zm_pi_ne (by decide)) i), u3⟩) (zo_okU ok.1 (fun y hy => zg_up_ne (by omega)) (zv_pay okp (by decide) (by omega) (by omega) (by omega) (fun k hk => by rw [zg_up_ne (by omega)]; exact okp.1 k hk) (fun k hk => by
            by_cases e : k = 4 * v + d
            · rw [e, zg_up_eq]
              exact Nat.zero_le _
            · rw [zg_up_ne (by omega)]
              exact okp.2.1 k hk)))
        rw [c3]
        exact ⟨⟨rfl, t2.symm⟩, c4, ⟨c1, trivial⟩, fun z => absurd z n10, fun _ => ⟨fun z => absurd z n10, fun _ => ⟨fun z => absurd z hne, fun _ => ⟨c2, trivial⟩⟩⟩⟩
    · rw [e3, e4, if_pos rfl, if_pos rfl, zm_bms, zm_F]
      exact ⟨zh_1, zi_query h zo_cst_rfl (zo_rst_of zo_stillF), trivial, fun _ => trivial, fun _ => ⟨fun _ => trivial, fun z => absurd rfl z⟩⟩
  · rw [e1, e2, if_pos rfl, if_pos rfl, zm_bms, zm_F]
    exact ⟨zh_1, zi_query h zo_cst_rfl (zo_rst_of zo_stillF), trivial, fun _ => trivial, fun z => absurd rfl z⟩
end zs9
