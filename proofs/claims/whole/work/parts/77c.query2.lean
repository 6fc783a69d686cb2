/-! QUERIES, both sides: walks, the bars, clashes, tickets -/
theorem zh_1 {x : String} {L : List String} : x ∈ x :: L ∧ (1 : Int32) = rj_hc (x :: L) 1 x := ⟨List.mem_cons_self, (if_pos rfl).symm⟩
theorem zh_2 {x y : String} {L : List String} (h : y ≠ x) : y ∈ x :: y :: L ∧ (2 : Int32) = rj_hc (x :: y :: L) 1 y := ⟨List.mem_cons_of_mem _ List.mem_cons_self, ((if_neg h).trans (if_pos rfl)).symm⟩
theorem zh_3 {x y z : String} {L : List String} (h : z ≠ x) (h' : z ≠ y) : z ∈ x :: y :: z :: L ∧ (3 : Int32) = rj_hc (x :: y :: z :: L) 1 z := ⟨List.mem_cons_of_mem _ (List.mem_cons_of_mem _ List.mem_cons_self), ((if_neg h).trans ((if_neg h').trans (if_pos rfl))).symm⟩
theorem zm_lacks1 {r : rj_M} : fX12_lacks r 1 = 0 ∧ mX12_lacks r 1 = mX12_lacksT r := by
  unfold fX12_lacks mX12_lacks fX12_no mX12_no
  exact ⟨if_neg (by decide), if_neg (by decide)⟩
theorem zm_lacks0 {r : rj_M} : fX12_lacks r 0 = 1 ∧ mX12_lacks r 0 = mX12_lacksF r := by
  unfold fX12_lacks mX12_lacks fX12_no mX12_no
  exact ⟨if_pos rfl, if_pos rfl⟩
theorem zm_F2 {r : rj_M} {x : Int32} : (mX12_noF (mX12_lacksT r) x).1 395 0 = x := zm_pi_eq
theorem zo_stillF2 {r : rj_M} {x : Int32} : zo_still r (mX12_noF (mX12_lacksT r) x) := ⟨fun k hk => (zm_pi_ne hk).trans (zm_pi_ne hk), fun _ hi => (zm_pi_ne2 hi).trans (zm_pi_ne2 hi), rfl⟩
section zqQuery
variable {r c : rj_M} {S : Nat → Nat} {B : Nat → Int} {a0 a1 a2 : Int32}
theorem zr_T (hr : zr_row (r.1 396) S B) : zr_row ((mX12_lacksT r).1 396) S B := by
  rw [zm_T396]
  exact hr
theorem zo_walk (hc : zr_grnd c 1 S) (hr : zr_row (r.1 396) S B) (ok : zo_grnd S) : zo_out ["java/lang/IndexOutOfBoundsException"] (fX11_walk c a0 a1) ((mX12_walk r a0 a1).1 395 0) (fX12_walk r a0 a1) ∧ zo_still r (mX12_walk r a0 a1) := by
  unfold fX11_walk mX12_walk fX12_walk fX12_isStage
  rcases zn_p2 (μ := c) (ν := r) (a := a0) (c := 4) (d := 3) (n := 3) rfl rfl (by decide) with ⟨e1, e2, x, hx, rfl⟩ | ⟨e1, e2⟩
  · rw [e1, e2, if_neg (show ¬ (1 : Int32) = 0 by decide), if_neg (show ¬ (1 : Int32) = 0 by decide)]
    rcases zn_p2 (μ := c) (ν := r) (a := a1) (c := 4) (d := 3) (n := 3) rfl rfl (by decide) with ⟨e3, e4, y, hy, rfl⟩ | ⟨e3, e4⟩
    · rw [e3, e4, if_neg (show ¬ (1 : Int32) = 0 by decide), if_neg (show ¬ (1 : Int32) = 0 by decide), zm_T, (zq_walkOf (zr_T hr) ok hx hy).1]
      refine ⟨⟨rfl, ?_⟩, zo_stillT⟩
      have e : nI x * 4 + nI y = nI (4 * x + y) := by rw [show nI x * 4 = nI (x * 4) from pk_mul x 4, nI_add, Nat.mul_comm]
      unfold fX4_minutesBetween
      rw [e, if_neg (nI_pos (by omega)), if_pos (show nI (4 * x + y) < 16 from nI_lt (b := 16) (by omega) (by decide)), nI_clamp (by omega)]
      exact (hc.2.2.1 x y hx hy).symm
    · rw [e3, e4, if_pos rfl, if_pos rfl, zm_F]
      exact ⟨zh_1, zo_stillF⟩
  · rw [e1, e2, if_pos rfl, if_pos rfl, zm_F]
    exact ⟨zh_1, zo_stillF⟩
theorem zo_line (hc : zr_bars c 1 S) (hr : zr_row (r.1 396) S B) : zo_out ["java/lang/IndexOutOfBoundsException"] (fX11_line c a0) ((mX12_line r a0).1 395 0) (fX12_line r a0) ∧ zo_still r (mX12_line r a0) := by
  obtain ⟨q, w, hq, hb⟩ := hc
  have hb : zb_c c S q w := hb
  unfold fX11_line mX12_line fX12_line fX12_isBar
  rcases zn_p2 (μ := c) (ν := r) (a := a0) (c := 3) (d := 2) (n := 2) rfl rfl (by decide) with ⟨e1, e2, x, hx, rfl⟩ | ⟨e1, e2⟩
  · rw [e1, e2, zm_lacks1.1, zm_lacks1.2, if_pos rfl, if_pos rfl, zm_T, zq_lineOf (zr_T hr) hq hx]
    exact ⟨⟨rfl, (zc_lengthOf hb hq hx).symm⟩, zo_stillT⟩
  · rw [e1, e2, zm_lacks0.1, zm_lacks0.2, if_neg (show ¬ (1 : Int32) = 0 by decide), if_neg (show ¬ (1 : Int32) = 0 by decide), zm_F]
    exact ⟨zh_1, zo_stillF⟩
theorem zo_front (hc : zr_bars c 1 S) (hr : zr_row (r.1 396) S B) : zo_out ["java/lang/IndexOutOfBoundsException", "java/util/NoSuchElementException"] (fX11_front c a0 a1) ((mX12_front r a0 a1).1 395 0) (fX12_front r a0 a1) ∧ zo_still r (mX12_front r a0 a1) := by
  obtain ⟨q, w, hq, hb⟩ := hc
  have hb : zb_c c S q w := hb
  unfold fX11_front mX12_front fX12_front fX12_isBar
  rcases zn_p2 (μ := c) (ν := r) (a := a0) (c := 3) (d := 2) (n := 2) rfl rfl (by decide) with ⟨e1, e2, x, hx, rfl⟩ | ⟨e1, e2⟩
  · rw [e1, e2, zm_lacks1.1, zm_lacks1.2, if_pos rfl, if_pos rfl, zq_lineOf (zr_T hr) hq hx]
    have hf := zc_firstOf hb hq hx
    have hl : (zb_L q w x).length ≤ 12 := by
      have h1 := zb_L_len (q := q) (w := w) (b := x)
      have h2 := zb_ln12 hq
      omega
    cases hL : (zb_L q w x) with
    | nil =>
      rw [hL] at hf
      show zo_out _ (if fX0_firstOf c (nI x) = -1 then _ else _) _ _ ∧ _
      rw [hf]
      show zo_out _ (.inr "java/util/NoSuchElementException") _ _ ∧ _
      rw [if_pos (show nI ([] : List Nat).length ≤ 0 from Int32.le_refl _), if_pos (show nI ([] : List Nat).length ≤ 0 from Int32.le_refl _), zm_F2]
      exact ⟨zh_2 (by decide), zo_stillF2⟩
    | cons v l =>
      rw [hL] at hf hl
      have hv := (zb_pos hq (k := 0) (b := x) (v := v) (by rw [hL]; rfl)).1
      have hfv : ¬ zo_i (some v) = -1 := fun z => by
        have := (zo_none (o := some v) (fun k hk => by cases hk; omega)).mp z
        cases this
      show zo_out _ (if fX0_firstOf c (nI x) = -1 then _ else _) _ _ ∧ _
      rw [hf, show (v :: l).head? = some v from rfl, if_neg hfv, if_neg (nI_nle (by rw [List.length_cons]; omega) (by omega)), if_neg (nI_nle (by rw [List.length_cons]; omega) (by omega)), ite_self, zm_T]
      refine ⟨?_, zo_stillT⟩
      by_cases c1 : a1 = 0
      · rw [if_pos c1, if_pos c1]
        exact ⟨rfl, zq_inLine (k := 0) (zr_T hr) hq hx (by rw [hL]; rfl)⟩
      · rw [if_neg c1, if_neg c1]
        refine ⟨rfl, ?_⟩
        have e370 : (370 : Int32) + nI x = nI (370 + x) := by rw [show (370 : Int32) = nI 370 from rfl, nI_add]
        rw [zm_T396, e370, nI_clamp (by omega), nI_clamp (by omega), hr.1 _ (by omega)]
        exact (hb.2.2.2.1 x hx).symm
  · rw [e1, e2, zm_lacks0.1, zm_lacks0.2, if_neg (show ¬ (1 : Int32) = 0 by decide), if_neg (show ¬ (1 : Int32) = 0 by decide), zm_F]
    exact ⟨zh_1, zo_stillF⟩
theorem zo_waitOf (hc : zr_bars c 1 S) (hr : zr_row (r.1 396) S B) : zo_out ["java/lang/IndexOutOfBoundsException"] (fX11_waitOf c a0) ((mX12_waitOf r a0).1 395 0) (fX12_waitOf r a0) ∧ zo_still r (mX12_waitOf r a0) := by
  obtain ⟨q, w, hq, hb⟩ := hc
  have hb : zb_c c S q w := hb
  unfold fX11_waitOf mX12_waitOf fX12_waitOf fX12_isVisitor
  rcases zn_p2 (μ := c) (ν := r) (a := a0) (c := 12) (d := 11) (n := 11) rfl rfl (by decide) with ⟨e1, e2, x, hx, rfl⟩ | ⟨e1, e2⟩
  · rw [e1, e2, zm_lacks1.1, zm_lacks1.2, if_pos rfl, if_pos rfl, zm_T]
    refine ⟨⟨rfl, ?_⟩, zo_stillT⟩
    by_cases hw : w x = 0
    · rw [zc_till0 hb hx hw]
      exact (zq_waitNow0 (zr_T hr) hq hx hw).1
    · obtain ⟨i, hi⟩ : ∃ i, (zb_L q w (w x - 1))[i]? = some x := List.mem_iff_getElem?.mp (zb_L_mem.mpr ⟨(hq.2.2.1 x hx).mpr hw, by omega⟩)
      rw [zc_till hb hq hx hw hi]
      exact (zq_waitNow (zr_T hr) hq hx hw hi).1
  · rw [e1, e2, zm_lacks0.1, zm_lacks0.2, if_neg (show ¬ (1 : Int32) = 0 by decide), if_neg (show ¬ (1 : Int32) = 0 by decide), zm_F]
    exact ⟨zh_1, zo_stillF⟩
theorem zo_served (hc : zr_bars c 1 S) (hr : zr_row (r.1 396) S B) : fX11_served c = fX12_served r ∧ (mX12_served r).1 395 0 = 0 ∧ zo_still r (mX12_served r) := by
  obtain ⟨q, w, hq, hb⟩ := hc
  refine ⟨?_, zm_pi_eq, zo_still_t⟩
  unfold fX12_served
  rw [zm_pi_ne (by decide), show (386 : Int32).toNatClampNeg = 386 from rfl, hr.1 386 (by decide)]
  exact hb.2.2.2.2.2
/-- is there such an act -/
theorem zn_act (hc : zr_prog c 1 S) (hr : zr_row (r.1 396) S B) (ok : zo_prog S) : (fX11_needAct c a0 = none ∧ fX12_isAct r a0 = 1 ∧ ∃ a, a < 16 ∧ zp_has S a ∧ a0 = nI a) ∨ (fX11_needAct c a0 = some "java/lang/IndexOutOfBoundsException" ∧ fX12_isAct r a0 = 0) := by
  unfold fX11_needAct
  rcases zn_in (μ := r) (a := a0) (c := 15) (n := 15) rfl (by decide) with ⟨-, a, ha, rfl⟩ | ⟨e, h⟩
  · rcases zc_has hc ok ha with ⟨g1, g2⟩ | ⟨g1, g2⟩
    · rcases zq_isAct hr ok ha with ⟨-, g3⟩ | ⟨g3, -⟩
      · rw [g2, if_neg (by decide)]
        exact .inl ⟨rfl, g3, a, ha, g1, rfl⟩
      · exact absurd g1 g3
    · rcases zq_isAct hr ok ha with ⟨g3, -⟩ | ⟨-, g3⟩
      · exact absurd g3 g1
      · rw [g2, if_pos rfl]
        exact .inr ⟨rfl, g3⟩
  · have h1 : fX7_has c a0 = 0 := by
      unfold fX7_has
      by_cases c1 : a0 < 0
      · rw [if_pos c1]
      · rw [if_neg c1]
        rcases h with h | h
        · exact absurd h c1
        · exact if_pos h
    rw [h1, if_pos rfl]
    refine .inr ⟨rfl, ?_⟩
    unfold fX12_isAct
    rw [e, if_pos rfl]
theorem zo_clash (hc : zr_prog c 1 S) (hr : zr_row (r.1 396) S B) (ok : zo_prog S) : zo_out ["java/lang/IndexOutOfBoundsException", "java/lang/IllegalArgumentException"] (fX11_clash c a0 a1) ((mX12_clash r a0 a1).1 395 0) (fX12_clash r a0 a1) ∧ zo_still r (mX12_clash r a0 a1) ∧ (∀ v, fX11_clash c a0 a1 = .inl v → v = 0 ∨ v = 1) := by
  unfold fX11_clash mX12_clash fX12_clash
  rcases zn_act (a0 := a0) hc hr ok with ⟨e1, e2, a, ha, g1, rfl⟩ | ⟨e1, e2⟩
  · rw [e1, e2, if_neg (show ¬ (1 : Int32) = 0 by decide), if_neg (show ¬ (1 : Int32) = 0 by decide)]
    rcases zn_act (a0 := a1) hc hr ok with ⟨e3, e4, b, hb, g2, rfl⟩ | ⟨e3, e4⟩
    · rw [e3, e4, if_neg (show ¬ (1 : Int32) = 0 by decide), if_neg (show ¬ (1 : Int32) = 0 by decide)]
      unfold fX11_needOthers
      by_cases cab : nI a = nI b
      · rw [if_pos cab, if_pos cab, if_pos cab, zm_F2]
        exact ⟨zh_2 (by decide), zo_stillF2, fun v hv => by cases hv⟩
      · rw [if_neg cab, if_neg cab, if_neg cab, ite_self, zm_T]
        refine ⟨⟨rfl, ?_⟩, zo_stillT, fun v hv => ?_⟩
        · rcases zc_foes hc ok ha hb with ⟨f1, f2⟩ | ⟨f1, f2⟩
          · rcases zq_clash (zr_T hr) ok ha hb with ⟨-, f3⟩ | ⟨f3, -⟩
            · rw [f2, f3, if_neg (by decide)]
            · exact absurd f1.2.2 f3
          · rcases zq_clash (zr_T hr) ok ha hb with ⟨f3, -⟩ | ⟨-, f3⟩
            · exact absurd ⟨g1, g2, f3⟩ f1
            · rw [f2, f3, if_pos rfl]
        · cases hv
          rcases zc_foes hc ok ha hb with ⟨f1, f2⟩ | ⟨f1, f2⟩
          · exact .inr f2
          · exact .inl f2
    · rw [e3, e4, if_pos rfl, if_pos rfl, zm_F]
      exact ⟨zh_1, zo_stillF, fun v hv => by cases hv⟩
  · rw [e1, e2, if_pos rfl, if_pos rfl, zm_F]
    exact ⟨zh_1, zo_stillF, fun v hv => by cases hv⟩
theorem zo_ticketAt (hc : zr_purs c 1 S B) (hr : zr_row (r.1 396) S B) : zo_out ["java/lang/IndexOutOfBoundsException"] (fX11_ticketAt c a0 a1) ((mX12_ticketAt r a0 a1).1 395 0) (fX12_ticketAt r a0 a1) ∧ zo_still r (mX12_ticketAt r a0 a1) := by
  unfold fX11_ticketAt mX12_ticketAt fX12_ticketAt fX12_isVisitor fX12_isDay
  rcases zn_p2 (μ := c) (ν := r) (a := a0) (c := 12) (d := 11) (n := 11) rfl rfl (by decide) with ⟨e1, e2, x, hx, rfl⟩ | ⟨e1, e2⟩
  · rw [e1, e2, if_neg (show ¬ (1 : Int32) = 0 by decide), if_neg (show ¬ (1 : Int32) = 0 by decide)]
    rcases zn_p2 (μ := c) (ν := r) (a := a1) (c := 4) (d := 3) (n := 3) rfl rfl (by decide) with ⟨e3, e4, y, hy, rfl⟩ | ⟨e3, e4⟩
    · rw [e3, e4, if_neg (show ¬ (1 : Int32) = 0 by decide), if_neg (show ¬ (1 : Int32) = 0 by decide), zm_T]
      refine ⟨⟨rfl, ?_⟩, zo_stillT⟩
      have e : nI x * 4 + nI y = nI (4 * x + y) := by rw [show nI x * 4 = nI (x * 4) from pk_mul x 4, nI_add, Nat.mul_comm]
      have e' : 452 + 4 * nI x + nI y = nI (452 + (4 * x + y)) := by rw [show 4 * nI x = nI (4 * x) from pk_mul 4 x, show (452 : Int32) = nI 452 from rfl, nI_add, nI_add, Nat.add_assoc]
      rw [e, e', nI_clamp (by omega), nI_clamp (by omega), zm_T396, hr.2.1 _ (by omega) (by omega)]
      exact (hc.2.1 _ (by omega)).symm
    · rw [e3, e4, if_pos rfl, if_pos rfl, zm_F]
      exact ⟨zh_1, zo_stillF⟩
  · rw [e1, e2, if_pos rfl, if_pos rfl, zm_F]
    exact ⟨zh_1, zo_stillF⟩
theorem zo_lost (hc : zr_grnd c 1 S) (hr : zr_row (r.1 396) S B) : fX11_lost c = fX12_lost r ∧ (mX12_lost r).1 395 0 = 0 ∧ zo_still r (mX12_lost r) := by
  refine ⟨?_, zm_pi_eq, zo_still_t⟩
  unfold fX11_lost fX4_countLost fX12_lost fX12_lostNow
  generalize hm : rj_pi r 395 0 0 = m
  have h396 : m.1 396 = r.1 396 := by rw [← hm]; exact zm_pi_ne (by decide)
  have step : ∀ j x, j < 100 → bX4_countLost_4 c j x = bX12_lostNow_4 m j x := fun j x hj => by
    unfold bX4_countLost_4 bX12_lostNow_4
    have e525 : (525 : Int32) + nI j = nI (525 + j) := by rw [show (525 : Int32) = nI 525 from rfl, nI_add]
    rw [nI_clamp (n := j) (by omega), e525, nI_clamp (by omega), h396, hr.2.2.2 (525 + j) (by omega) (by omega), show c.1 7 j = nI (S (525 + j)) - 1 from hc.2.2.2 j (by omega), Int32.add_zero]
  exact zf_rel (f := bX4_countLost_4 c) (g := bX12_lostNow_4 m) (fun _ x y => x = y) 100 0 0 0 rfl (fun j x y _ hj e => by
    rw [e]
    exact step j y (by omega))
end zqQuery
