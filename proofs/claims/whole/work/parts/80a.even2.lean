/-! EVENINGS as calls, both sides -/
section zsk
variable {c r : rj_M} {S : Nat → Nat} {B : Nat → Int} {a0 a1 a2 : Int32}
theorem zc_plan1 (hg : zr_grnd c 1 S) (hc : zr_prog c 1 S) (ok : zo_prog S) (og : zo_grnd S) {v : Nat} (hv : v < 12) : ∃ P, zc_pl1 (mX2_planFor c (nI v)) S P v ∧ zo_cst c (mX2_planFor c (nI v)) := by
  obtain ⟨P, p1, p2, p3, p4, p5, p6⟩ := zc_plan hc hg ok og hv
  refine ⟨P, ⟨zr_prog_of hc (fun k e1 e2 => p4 k (by omega) (by omega)), zr_grnd_of hg (fun k e1 e2 => p4 k (by omega) (by omega)), ?_, p1, p2, p3⟩, ⟨fun k hk => p4 k (fun z => by subst z; cases hk) (fun z => by subst z; cases hk), p6⟩⟩
  rw [p5]
  simp [upd]
theorem zo_cst_prog {c' : rj_M} (h : zo_cst c c') (hc : zr_prog c 1 S) : zr_prog c' 1 S := zr_prog_of hc (fun k e1 e2 => h.1 k (by
  have d : ∀ k, k < 15 → zo_scr k = false := by decide
  exact d k (by omega)))
theorem zo_cst_grnd {c' : rj_M} (h : zo_cst c c') (hc : zr_grnd c 1 S) : zr_grnd c' 1 S := zr_grnd_of hc (fun k e1 e2 => h.1 k (by
  have d : ∀ k, k < 15 → zo_scr k = false := by decide
  exact d k (by omega)))
theorem zq_evrst {v d : Nat} {m : rj_M} (q5 : ∀ k, k ≠ 395 → k ≠ 406 → k ≠ 407 → (mX12_findsEvening m (nI v) (nI d)).1 k = m.1 k) (q6 : ∀ i, i ≠ 8 → (mX12_findsEvening m (nI v) (nI d)).1 395 i = m.1 395 i) (q7 : (mX12_findsEvening m (nI v) (nI d)).2 = m.2) : zo_rst m (mX12_findsEvening m (nI v) (nI d)) := zo_rst_i (fun k hk e => q5 k hk (by omega) (by omega)) (q6 3 (by decide)) (q6 11 (by decide)) q7
theorem zo_evening (hg : zr_grnd c 1 S) (hc : zr_prog c 1 S) (hr : zr_row (r.1 396) S B) (ok : zo_prog S) (og : zo_grnd S) : zo_out ["java/lang/IndexOutOfBoundsException"] (fX11_evening c a0 a1) ((mX12_evening r a0 a1).1 395 0) (fX12_evening r a0 a1) ∧ zo_rst r (mX12_evening r a0 a1) ∧ zo_cst c (mX11_evening c a0 a1) ∧ qX12_evening r a0 a1 := by
  have hr' := zr_T hr
  have h0 : (mX12_lacksT r).1 395 0 = 0 := zm_T
  have hst : zo_rst r (mX12_lacksT r) := zo_rst_of zo_stillT
  have hF := @zm_F r
  have hFs := zo_rst_of (zo_stillF (r := r))
  unfold fX11_evening mX12_evening fX12_evening mX11_evening qX12_evening fX12_isVisitor fX12_isDay
  rcases zn_p2 (μ := c) (ν := r) (a := a0) (c := 12) (d := 11) (n := 11) rfl rfl (by decide) with ⟨e1, e2, v, hv, rfl⟩ | ⟨e1, e2⟩
  · rw [e1, e2, if_neg (show ¬ (1 : Int32) = 0 by decide), if_neg (show ¬ (1 : Int32) = 0 by decide)]
    rcases zn_p2 (μ := c) (ν := r) (a := a1) (c := 4) (d := 3) (n := 3) rfl rfl (by decide) with ⟨e3, e4, d, hd, rfl⟩ | ⟨e3, e4⟩
    · rw [e3, e4, if_neg (show ¬ (1 : Int32) = 0 by decide), if_neg (show ¬ (1 : Int32) = 0 by decide), zm_bmn, zm_bmn]
      generalize mX12_lacksT r = m at hr' h0 hst
      obtain ⟨P, hp, cst⟩ := zc_plan1 hg hc ok og hv
      obtain ⟨q1, q2, q3, q4, q5, q6, q7⟩ := zq_even hr' ok og hv hd hp.2.2.2.2.1 hp.2.2.2.2.2
      exact ⟨⟨(q6 0 (by decide)).trans h0, q2.trans (zc_weightOn hp ok og hv hd).symm⟩, zo_rst_trans hst (zq_evrst q5 q6 q7), cst, fun z => absurd z (by decide), fun _ => ⟨fun z => absurd z (by decide), fun _ => ⟨q1, trivial⟩⟩⟩
    · rw [e3, e4, if_pos rfl, if_pos rfl, hF]
      exact ⟨zh_1, hFs, zo_cst_rfl, fun z => absurd z (by decide), fun _ => ⟨fun _ => trivial, fun z => absurd rfl z⟩⟩
  · rw [e1, e2, if_pos rfl, if_pos rfl, hF]
    exact ⟨zh_1, hFs, zo_cst_rfl, fun _ => trivial, fun z => absurd rfl z⟩
theorem zo_eveningAct (hg : zr_grnd c 1 S) (hc : zr_prog c 1 S) (hr : zr_row (r.1 396) S B) (ok : zo_prog S) (og : zo_grnd S) : zo_out ["java/lang/IndexOutOfBoundsException", "java/util/NoSuchElementException"] (fX11_eveningAct c a0 a1 a2) ((mX12_eveningAct r a0 a1 a2).1 395 0) (fX12_eveningAct r a0 a1 a2) ∧ zo_rst r (mX12_eveningAct r a0 a1 a2) ∧ zo_cst c (mX11_eveningAct c a0 a1 a2) ∧ qX12_eveningAct r a0 a1 a2 := by
  have hr' := zr_T hr
  have h0 : (mX12_lacksT r).1 395 0 = 0 := zm_T
  have hst : zo_rst r (mX12_lacksT r) := zo_rst_of zo_stillT
  have hF := @zm_F r
  have hFs := zo_rst_of (zo_stillF (r := r))
  unfold fX11_eveningAct mX12_eveningAct fX12_eveningAct mX11_eveningAct qX12_eveningAct fX12_isVisitor fX12_isDay
  rcases zn_p2 (μ := c) (ν := r) (a := a0) (c := 12) (d := 11) (n := 11) rfl rfl (by decide) with ⟨e1, e2, v, hv, rfl⟩ | ⟨e1, e2⟩
  · rw [e1, e2, if_neg (show ¬ (1 : Int32) = 0 by decide), if_neg (show ¬ (1 : Int32) = 0 by decide)]
    rcases zn_p2 (μ := c) (ν := r) (a := a1) (c := 4) (d := 3) (n := 3) rfl rfl (by decide) with ⟨e3, e4, d, hd, rfl⟩ | ⟨e3, e4⟩
    · rw [e3, e4, if_neg (show ¬ (1 : Int32) = 0 by decide), if_neg (show ¬ (1 : Int32) = 0 by decide), ite_self, zm_bmn, zm_bmn]
      generalize mX12_lacksT r = m at hr' h0 hst
      obtain ⟨P, hp, cst⟩ := zc_plan1 hg hc ok og hv
      have hE := hp.2.2.2.2.1
      obtain ⟨q1, q2, q3, q4, q5, q6, q7⟩ := zq_even hr' ok og hv hd hE hp.2.2.2.2.2
      have rst := zq_evrst q5 q6 q7
      have h8 := q6 0 (by decide)
      have hact := zc_actOn hp ok og hv hd a2
      have hmb : ze_max (ze_Q S P d) ≤ 51840 := ze_maxb (Q := ze_Q S P d) (M := 51840) (fun k hk => ze_Qb hp d hk)
      have hlen : (ze_row S P v d).length ≤ 16 := ze_run_len (nx := ze_n S P v) 16 (ze_f S P d)
      have hV : ∀ k, k ∈ ze_row S P v d → ze_V S P v d k := ze_run_V ok hE 16 (ze_f S P d) (fun k hk => (ze_f_V hE hk).1)
      show zo_out _ (if fX2_actOn (mX2_planFor c (nI v)) (nI d) a2 = -1 then Sum.inr "java/util/NoSuchElementException" else Sum.inl (fX2_actOn (mX2_planFor c (nI v)) (nI d) a2)) _ _ ∧ _
      generalize fX2_actOn (mX2_planFor c (nI v)) (nI d) a2 = act at hact
      generalize mX12_findsEvening m (nI v) (nI d) = M at q3 q4 rst h8
      generalize mX2_planFor c (nI v) = C at cst
      have hbad : act = -1 → (fX12_findsEvening m (nI v) (nI d) ≤ 0 ∨ ¬ fX12_findsEvening m (nI v) (nI d) ≤ 0 ∧ fX12_in M a2 0 (M.1 395 8 - 1) = 0) → zo_out ["java/lang/IndexOutOfBoundsException", "java/util/NoSuchElementException"] (if act = -1 then Sum.inr "java/util/NoSuchElementException" else Sum.inl act) ((if fX12_findsEvening m (nI v) (nI d) ≤ 0 then mX12_noF M 2 else if fX12_in M a2 0 (M.1 395 8 - 1) = 0 then mX12_noF M 2 else M).1 395 0) (if fX12_findsEvening m (nI v) (nI d) ≤ 0 then 0 else if fX12_in M a2 0 (M.1 395 8 - 1) = 0 then 0 else M.1 407 a2.toNatClampNeg) ∧ zo_rst r (if fX12_findsEvening m (nI v) (nI d) ≤ 0 then mX12_noF M 2 else if fX12_in M a2 0 (M.1 395 8 - 1) = 0 then mX12_noF M 2 else M) := fun ha hor => by
        have e : (if fX12_findsEvening m (nI v) (nI d) ≤ 0 then mX12_noF M 2 else if fX12_in M a2 0 (M.1 395 8 - 1) = 0 then mX12_noF M 2 else M) = mX12_noF M 2 := by
          rcases hor with h | ⟨h, h'⟩
          · exact if_pos h
          · exact (if_neg h).trans (if_pos h')
        rw [e, if_pos ha]
        have e2 : (mX12_noF M 2).1 395 0 = 2 := zm_pi_eq
        rw [e2]
        exact ⟨zh_2 (by decide), zo_rst_trans hst (zo_rst_trans rst (zo_rst_of (zo_still_t (r := M) (x := 2))))⟩
      by_cases c0 : 0 < ze_max (ze_Q S P d)
      · have hnle : ¬ fX12_findsEvening m (nI v) (nI d) ≤ 0 := by rw [q2]; exact nI_nle c0 (by omega)
        have hl1 : 0 < (ze_row S P v d).length := by
          obtain ⟨x, hx⟩ := ze_f_some c0
          unfold ze_row
          rw [hx, ze_run_s, List.length_cons]
          omega
        have hc8 : M.1 395 8 - 1 = nI ((ze_row S P v d).length - 1) := by
          rw [q3, show (1 : Int32) = nI 1 from rfl, pk_sub (by omega)]
        rcases zn_in (μ := M) (a := a2) hc8 (by omega) with ⟨i1, j, hj, rfl⟩ | ⟨i1, i2⟩
        · have hj' : j < (ze_row S P v d).length := by omega
          have hg : (ze_row S P v d)[j]? = some (ze_row S P v d)[j] := List.getElem?_eq_getElem hj'
          have hk := hV _ (List.getElem_mem hj')
          rw [if_neg (nI_pos (by omega)), nI_clamp (n := j) (by omega), hg] at hact
          have hne : ¬ act = -1 := by rw [hact]; exact zo_not (by have := hk.1; omega)
          rw [if_neg hnle, if_neg hnle, if_neg (show ¬ fX12_in M (nI j) 0 (M.1 395 8 - 1) = 0 by rw [i1]; decide), if_neg (show ¬ fX12_in M (nI j) 0 (M.1 395 8 - 1) = 0 by rw [i1]; decide), if_neg hne]
          refine ⟨⟨h8.trans h0, ?_⟩, zo_rst_trans hst rst, cst, fun z => absurd z (by decide), fun _ => ⟨fun z => absurd z (by decide), fun _ => ⟨q1, fun _ => trivial, fun _ => ⟨fun _ => trivial, fun _ => ⟨vp_in_nI (by omega) (by decide), trivial⟩⟩⟩⟩⟩
          rw [nI_clamp (n := j) (by omega), q4 j _ hg, hact]
          rfl
        · have ha : act = -1 := by
            rw [hact]
            by_cases c1 : a2 < 0
            · rw [if_pos c1]
            · obtain ⟨j, hj, rfl⟩ := nI_of c1
              rw [if_neg c1, nI_clamp hj]
              rcases i2 with i2 | i2
              · exact absurd i2 c1
              · have hh : (ze_row S P v d).length - 1 + 1 ≤ j := by
                  rcases Nat.lt_or_ge j ((ze_row S P v d).length - 1 + 1) with h | h
                  · exact absurd i2 (nI_ge h (by omega))
                  · exact h
                rw [List.getElem?_eq_none (by omega)]
                rfl
          obtain ⟨b1, b2⟩ := hbad ha (.inr ⟨hnle, i1⟩)
          exact ⟨b1, b2, cst, fun z => absurd z (by decide), fun _ => ⟨fun z => absurd z (by decide), fun _ => ⟨q1, fun _ => trivial, fun _ => ⟨fun _ => trivial, fun z => absurd i1 z⟩⟩⟩⟩
      · have hle : fX12_findsEvening m (nI v) (nI d) ≤ 0 := by
          rw [q2, show ze_max (ze_Q S P d) = 0 by omega]
          decide
        have hnil : ze_row S P v d = [] := by
          unfold ze_row
          rw [ze_f_none (by omega), ze_run_n]
        have ha : act = -1 := by
          rw [hact, hnil, List.getElem?_nil]
          exact ite_self _
        obtain ⟨b1, b2⟩ := hbad ha (.inl hle)
        exact ⟨b1, b2, cst, fun z => absurd z (by decide), fun _ => ⟨fun z => absurd z (by decide), fun _ => ⟨q1, fun _ => trivial, fun z => absurd hle z⟩⟩⟩
    · rw [e3, e4, if_pos rfl, if_pos rfl, hF]
      exact ⟨zh_1, hFs, zo_cst_rfl, fun z => absurd z (by decide), fun _ => ⟨fun _ => trivial, fun z => absurd rfl z⟩⟩
  · rw [e1, e2, if_pos rfl, if_pos rfl, hF]
    exact ⟨zh_1, hFs, zo_cst_rfl, fun _ => trivial, fun z => absurd rfl z⟩
theorem zo_price (hg : zr_grnd c 1 S) (hc : zr_prog c 1 S) (hr : zr_row (r.1 396) S B) (ok : zo_prog S) (og : zo_grnd S) : zo_out ["java/lang/IndexOutOfBoundsException"] (fX11_price c a0 a1) ((mX12_price r a0 a1).1 395 0) (fX12_price r a0 a1) ∧ zo_rst r (mX12_price r a0 a1) ∧ zo_cst c (mX11_price c a0 a1) ∧ qX12_price r a0 a1 := by
  have hr' := zr_T hr
  have h0 : (mX12_lacksT r).1 395 0 = 0 := zm_T
  have hst : zo_rst r (mX12_lacksT r) := zo_rst_of zo_stillT
  have hF := @zm_F r
  have hFs := zo_rst_of (zo_stillF (r := r))
  unfold fX11_price mX12_price fX12_price mX11_price qX12_price fX12_isVisitor
  rcases zn_p2 (μ := c) (ν := r) (a := a0) (c := 12) (d := 11) (n := 11) rfl rfl (by decide) with ⟨e1, e2, v, hv, rfl⟩ | ⟨e1, e2⟩
  · rw [e1, e2, if_neg (show ¬ (1 : Int32) = 0 by decide), if_neg (show ¬ (1 : Int32) = 0 by decide)]
    rcases zn_act (a0 := a1) hc hr ok with ⟨e3, e4, a, ha, hh, rfl⟩ | ⟨e3, e4⟩
    · rw [e3, e4, if_neg (show ¬ (1 : Int32) = 0 by decide), if_neg (show ¬ (1 : Int32) = 0 by decide), zm_bmn, zm_bmn]
      generalize mX12_lacksT r = m at hr' h0 hst
      obtain ⟨P, hp, cst⟩ := zc_plan1 hg hc ok og hv
      have hb := (ok.1 a ha).2.2.1
      have hday : fX12_its m (nI a) 2 / 1440 = nI (ze_day S a) := by
        rw [zq_begin hr' ha]
        exact pk_div (d := 1440) (by omega) (by decide) (by decide)
      have hd : ze_day S a < 4 := by
        unfold ze_day
        omega
      rw [hday]
      obtain ⟨p1, p2, p3, p4⟩ := zq_prices hr' ok og hv hd hp.2.2.2.2.1 hp.2.2.2.2.2
      have e5 : ∀ i, (mX12_findsPrices m (nI v) (nI (ze_day S a))).1 395 i = m.1 395 i := fun i => congrFun (p2 395 (by decide)) i
      refine ⟨⟨(e5 0).trans h0, ?_⟩, zo_rst_trans hst (zo_rst_i (fun k hk e => p2 k (by omega)) (e5 3) (e5 11) p3), cst, fun z => absurd z (by decide), fun _ => ⟨fun z => absurd z (by decide), fun _ => ⟨p4, trivial⟩⟩⟩
      rw [nI_clamp (n := a) (by omega), p1 a ha, ze_Q_of hh rfl]
      unfold fX2_priceOf
      rw [if_neg (nI_pos (by omega)), if_pos (show nI a < 16 from nI_lt (b := 16) ha (by decide)), nI_clamp (n := a) (by omega)]
      exact (hp.2.2.2.1 a ha).symm
    · rw [e3, e4, if_pos rfl, if_pos rfl, hF]
      exact ⟨zh_1, hFs, zo_cst_rfl, fun z => absurd z (by decide), fun _ => ⟨fun _ => trivial, fun z => absurd rfl z⟩⟩
  · rw [e1, e2, if_pos rfl, if_pos rfl, hF]
    exact ⟨zh_1, hFs, zo_cst_rfl, fun _ => trivial, fun z => absurd rfl z⟩
/-- all visitors in turn, both sides -/
theorem zw_vis {α β : Type} {f : Nat → α × rj_M → α × rj_M} {g : Nat → β × rj_M → β × rj_M} {x0 : α} {y0 : β} (R : Nat → α → β → Prop) (h0 : R 0 x0 y0) (hst : ∀ v x y c' r', v < 12 → zo_cst c c' → zo_rst r r' → (r'.1 395 0 = r.1 395 0) → R v x y → R (v + 1) (f v (x, c')).1 (g v (y, r')).1 ∧ zo_cst c' (f v (x, c')).2 ∧ zo_rst r' (g v (y, r')).2 ∧ (g v (y, r')).2.1 395 0 = r'.1 395 0) : R 12 (rj_fo f 12 0 (x0, c)).1 (rj_fo g 12 0 (y0, r)).1 ∧ zo_cst c (rj_fo f 12 0 (x0, c)).2 ∧ zo_rst r (rj_fo g 12 0 (y0, r)).2 ∧ (rj_fo g 12 0 (y0, r)).2.1 395 0 = r.1 395 0 := by
  have hz := zf_rel (f := f) (g := g) (fun j x y => R j x.1 y.1 ∧ zo_cst c x.2 ∧ zo_rst r y.2 ∧ y.2.1 395 0 = r.1 395 0) 12 0 (x0, c) (y0, r) ⟨h0, zo_cst_rfl, zo_rst_of ⟨fun _ _ => rfl, fun _ _ => rfl, rfl⟩, rfl⟩ (fun j x y _ hj hx => by
    obtain ⟨a1, a2, a3, a4⟩ := hx
    obtain ⟨b1, b2, b3, b4⟩ := hst j x.1 y.1 x.2 y.2 (by omega) a2 a3 a4 a1
    exact ⟨b1, zo_cst_trans a2 b2, zo_rst_trans a3 b3, b4.trans a4⟩)
  exact hz
set_option maxRecDepth 100000 in
theorem zo_listeners (hg : zr_grnd c 1 S) (hc : zr_prog c 1 S) (hr : zr_row (r.1 396) S B) (ok : zo_prog S) (og : zo_grnd S) : zo_out ["java/lang/IndexOutOfBoundsException", "java/lang/IllegalArgumentException"] (fX11_listeners c a0 a1) ((mX12_listeners r a0 a1).1 395 0) (fX12_listeners r a0 a1) ∧ zo_rst r (mX12_listeners r a0 a1) ∧ zo_cst c (mX11_listeners c a0 a1) ∧ qX12_listeners r a0 a1 := by
  have hr' := zr_T hr
  have h0 : (mX12_lacksT r).1 395 0 = 0 := zm_T
  have hst : zo_rst r (mX12_lacksT r) := zo_rst_of zo_stillT
  have hF := @zm_F r
  have hFs := zo_rst_of (zo_stillF (r := r))
  have hF2 : (mX12_noF (mX12_lacksT r) 2).1 395 0 = 2 := zm_F2
  have hF2s : zo_rst r (mX12_noF (mX12_lacksT r) 2) := zo_rst_of zo_stillF2
  unfold fX11_listeners mX12_listeners fX12_listeners mX11_listeners qX12_listeners fX12_isStage
  rcases zn_p2 (μ := c) (ν := r) (a := a0) (c := 4) (d := 3) (n := 3) rfl rfl (by decide) with ⟨e1, e2, st, hs, rfl⟩ | ⟨e1, e2⟩
  · rw [e1, e2, zm_lacks1.1, zm_lacks1.2, if_pos rfl, if_pos rfl]
    rcases zn_r2 (μ := c) (ν := mX12_lacksT r) (a := a1) (c := 5759) (n := 5759) rfl (by decide) with ⟨e3, e4, mn, hmn, rfl⟩ | ⟨e3, e4⟩
    · have en : fX12_no (mX12_lacksT r) 1 2 = 0 ∧ mX12_no (mX12_lacksT r) 1 2 = mX12_lacksT r := by
        unfold fX12_no mX12_no
        exact ⟨if_neg (by decide), if_neg (by decide)⟩
      rw [e3, e4, en.1, en.2, if_pos rfl, if_pos rfl, zm_bmn, zm_bmn]
      generalize mX12_lacksT r = m at hr' h0 hst
      have hz := zw_vis (c := c) (r := m) (f := bX11_listeners_18 c (nI st) (nI mn)) (g := bX12_listeners_34 r (nI st) (nI mn)) (x0 := (0 : Int32)) (y0 := (0 : Int32)) (fun _ x y => x = y) rfl (fun v x y c' r' hv cs rs h395 hxy => by
        subst hxy
        obtain ⟨P, hp, cst⟩ := zc_plan1 (zo_cst_grnd cs hg) (zo_cst_prog cs hc) ok og hv
        obtain ⟨l1, l2, l3, l4, l5⟩ := zq_listen (zo_rst_row rs hr') ok og hv hs hmn hp.2.2.2.2.1 hp.2.2.2.2.2
        have la := zc_isAt hp ok og hv hs hmn
        have rst : zo_rst r' (mX12_isListening r' (nI v) (nI st) (nI mn)) := zo_rst_i (fun k hk e => l3 k hk (by omega) (by omega)) (l4 3 (by decide)) (l4 11 (by decide)) l5
        unfold bX11_listeners_18 bX12_listeners_34
        dsimp only
        rw [la, l2]
        have l40 := l4 0 (by decide)
        clear l1 l2 l3 l4 l5 la
        generalize mX12_isListening r' (nI v) (nI st) (nI mn) = LM at l40 rst ⊢
        generalize mX2_planFor c' (nI v) = PC at cst hp ⊢
        rcases zi_01 (p := ∃ d, d < 4 ∧ ∃ k, k ∈ ze_row S P v d ∧ ze_on S st mn k) with z | z
        · rw [z, if_pos rfl, if_pos rfl]
          exact ⟨(Int32.add_zero _).symm, cst, rst, l40⟩
        · rw [z, if_neg (by decide), if_neg (by decide)]
          exact ⟨rfl, cst, rst, l40⟩)
      obtain ⟨z1, z2, z3, z4⟩ := hz
      refine ⟨⟨z4.trans h0, z1.symm⟩, zo_rst_trans hst z3, z2, fun _ => ⟨fun _ => ⟨fun _ => ra_fo_i ?_, trivial⟩, fun z => absurd rfl z⟩, fun z => absurd rfl z⟩
      refine zf_q (fun _ y => zo_rst m y.2) 12 0 _ (zo_rst_of ⟨fun _ _ => rfl, fun _ _ => rfl, rfl⟩) (fun v y _ hv rs => ?_)
      have hv : v < 12 := by omega
      obtain ⟨P, hp, -⟩ := zc_plan1 hg hc ok og hv
      obtain ⟨l1, l2, l3, l4, l5⟩ := zq_listen (zo_rst_row rs hr') ok og hv hs hmn hp.2.2.2.2.1 hp.2.2.2.2.2
      refine ⟨⟨l1, trivial⟩, zo_rst_trans rs ?_⟩
      have e : (bX12_listeners_34 r (nI st) (nI mn) v y).2 = mX12_isListening y.2 (nI v) (nI st) (nI mn) := by
        unfold bX12_listeners_34
        generalize mX12_isListening y.2 (nI v) (nI st) (nI mn) = LM
        split <;> rfl
      rw [e]
      exact zo_rst_i (fun k hk e => l3 k hk (by omega) (by omega)) (l4 3 (by decide)) (l4 11 (by decide)) l5
    · have en : fX12_no (mX12_lacksT r) 0 2 = 1 ∧ mX12_no (mX12_lacksT r) 0 2 = mX12_noF (mX12_lacksT r) 2 := by
        unfold fX12_no mX12_no
        exact ⟨if_pos rfl, if_pos rfl⟩
      rw [e3, e4, en.1, en.2, if_neg (show ¬ (1 : Int32) = 0 by decide), if_neg (show ¬ (1 : Int32) = 0 by decide), hF2]
      exact ⟨zh_2 (by decide), hF2s, zo_cst_rfl, fun _ => ⟨fun z => absurd z (by decide), fun _ => trivial⟩, fun z => absurd rfl z⟩
  · rw [e1, e2, zm_lacks0.1, zm_lacks0.2, if_neg (show ¬ (1 : Int32) = 0 by decide), if_neg (show ¬ (1 : Int32) = 0 by decide), hF]
    exact ⟨zh_1, hFs, zo_cst_rfl, fun z => absurd z (by decide), fun _ => trivial⟩
end zsk
