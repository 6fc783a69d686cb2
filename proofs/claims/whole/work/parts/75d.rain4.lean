/-! RAIN: the plan is made, both sides alike -/
/-- a plan: for each act one more than where it goes; 0 if it isn't met -/
def zg_c (c : rj_M) (G : Option (Nat → Nat)) : Prop := (G = none ∧ c.1 47 2 = 0) ∨ ∃ g, G = some g ∧ c.1 47 2 = 1 ∧ ∀ k, k < 16 → c.1 48 k = nI (g k) - 1
def zg_q (r : rj_M) (G : Option (Nat → Nat)) : Prop := (G = none ∧ r.1 395 11 = 0) ∨ ∃ g, G = some g ∧ r.1 395 11 = 1 ∧ ∀ k, k < 16 → r.1 435 k = nI (g k) - 1
/-- what is right of a plan -/
def zg_ok (S : Nat → Nat) (G : Option (Nat → Nat)) : Prop := ∀ g, G = some g → ∀ k, k < 16 → g k ≤ 5 ∧ (g k ≠ 0 → zp_has S k)
theorem zg_res {S : Nat → Nat} {mt : Nat → Bool} : ∀ (r a : Nat) (A : Nat → Nat) (left : Nat) (st : Nat × (Nat → Nat)), a + r = 16 → zg_A mt a A → (∀ k, k < 16 → st.2 k ≤ 5 ∧ (st.2 k ≠ 0 → mt k = true)) → ∀ k, k < 16 → (zg S mt r a A left st).2 k ≤ 5 ∧ ((zg S mt r a A left st).2 k ≠ 0 → mt k = true)
  | 0, a, A, left, st, ha, hA, hs => by
    rw [zg_0]
    by_cases c : st.1 ≤ left
    · rw [if_pos c]
      exact hs
    · rw [if_neg c]
      intro k hk
      refine ⟨(hA k hk).1, fun z => ?_⟩
      rcases hm : mt k with _ | _
      · exact absurd ((hA k hk).2.2 hm) z
      · rfl
  | r + 1, a, A, left, st, ha, hA, hs => by
    by_cases cm : mt a = true
    · rw [zg_s]
      by_cases c : st.1 ≤ left
      · rw [if_pos c]
        exact hs
      · rw [if_neg c, if_pos cm]
        refine zg_res r (a + 1) _ _ _ (by omega) (zg_A_up hA cm (by decide) (by decide)) ?_
        exact zf_inv (f := fun s st => if zg_can S A a s = true then zg S mt r (a + 1) (zg_up A a (s + 1)) left st else st) (fun _ y => ∀ k, k < 16 → y.2 k ≤ 5 ∧ (y.2 k ≠ 0 → mt k = true)) 4 0 st hs (fun s y _ h4 hy => by
          show ∀ k, k < 16 → (if zg_can S A a s = true then zg S mt r (a + 1) (zg_up A a (s + 1)) left y else y).2 k ≤ 5 ∧ ((if zg_can S A a s = true then zg S mt r (a + 1) (zg_up A a (s + 1)) left y else y).2 k ≠ 0 → mt k = true)
          by_cases cc : zg_can S A a s = true
          · rw [if_pos cc]
            exact zg_res r (a + 1) _ _ _ (by omega) (zg_A_up hA cm (by omega) (by omega)) hy
          · rw [if_neg cc]
            exact hy)
    · have cm' : mt a = false := by simpa using cm
      rw [zg_skip cm']
      exact zg_res r (a + 1) A left st (by omega) (zg_A_s hA) hs
noncomputable def zg_A0 (mt : Nat → Bool) : Nat → Nat := fun k => if mt k = true then 5 else 0
theorem zg_A0_ok {mt : Nat → Bool} : zg_A mt 0 (zg_A0 mt) := fun k hk => by
  unfold zg_A0
  rcases mt k with _ | _
  · exact ⟨Nat.zero_le _, (fun z => by cases z), fun _ => rfl⟩
  · exact ⟨Nat.le_refl _, fun _ => ⟨by decide, fun _ => rfl⟩, (fun z => by cases z)⟩
/-- how many are met -/
noncomputable def zg_cnt (mt : Nat → Bool) : Nat := rj_fo (fun k s => if mt k = true then s + 1 else s) 16 0 0
theorem zg_cnt_len {mt : Nat → Bool} : zg_cnt mt = (zg_l mt).length := zb_count 16 (zg_l mt) (List.Pairwise.filter _ List.nodup_range) (fun v hv => (List.mem_range.mp (List.mem_filter.mp hv).1)) mt (fun v hv => by
  unfold zg_l
  rw [List.mem_filter, List.mem_range]
  exact ⟨fun z => ⟨hv, z⟩, fun z => z.2⟩)
theorem zg_n_len {mt : Nat → Bool} : ∀ r a, zg_n mt r a = ((List.range' a r).filter mt).length
  | 0, _ => rfl
  | r + 1, a => by
    show (if mt a = true then 1 else 0) + zg_n mt r (a + 1) = _
    rw [List.range'_succ, zg_n_len r (a + 1)]
    by_cases c : mt a = true
    · rw [if_pos c, List.filter_cons_of_pos c, List.length_cons, Nat.add_comm]
    · rw [if_neg c, List.filter_cons_of_neg c, Nat.zero_add]
theorem zg_n16 {mt : Nat → Bool} : zg_n mt 16 0 = zg_cnt mt := by
  rw [zg_n_len, zg_cnt_len]
  unfold zg_l
  rw [List.range_eq_range']
section zrRain
variable {S : Nat → Nat} {B : Nat → Int} {f t : Nat}
noncomputable def zg_fin (S : Nat → Nat) (f t : Nat) (b0 : Nat → Nat) : Nat × (Nat → Nat) := zg S (zg_met S f t) 16 0 (zg_A0 (zg_met S f t)) 0 (zg_cnt (zg_met S f t) + 1, b0)
theorem zg_fin_lt {b0 : Nat → Nat} : (zg_fin S f t b0).1 ≤ zg_cnt (zg_met S f t) := by
  have h := (zg_le (S := S) (mt := zg_met S f t) 16 0 (zg_A0 (zg_met S f t)) 0 (zg_cnt (zg_met S f t) + 1, b0)).2
  rw [zg_n16, Nat.zero_add] at h
  exact h
theorem zc_countMet {c : rj_M} (hp : zr_prog c 1 S) (hg : zr_grnd c 1 S) (ok : zo_prog S) (og : zo_grnd S) (hf : f < 5760) (ht : t ≤ 5760) : fX9_countMet c (nI f) (nI t) = nI (zg_cnt (zg_met S f t)) := by
  unfold fX9_countMet zg_cnt
  exact zf_rel (fun _ x y => x = nI y) 16 0 (0 : Int32) (0 : Nat) rfl (fun j x y _ hj hx => by
    subst hx
    unfold bX9_countMet_5
    rw [zc_isMet hp hg ok og hf ht (show j < 16 by omega)]
    by_cases c : zg_met S f t j = true
    · rw [if_pos c, if_neg (by decide), if_pos c, nI_1]
    · rw [if_neg c, if_pos rfl, if_neg c])
theorem zg_cnt16 {mt : Nat → Bool} : zg_cnt mt ≤ 16 := by
  rw [zg_cnt_len]
  exact Nat.le_trans (List.length_filter_le _ _) (by rw [List.length_range]; exact Nat.le_refl _)
theorem zc_make1 {c : rj_M} (hp : zr_prog c 1 S) (hg : zr_grnd c 1 S) (ok : zo_prog S) (og : zo_grnd S) (hf : f < 5760) (ht : t ≤ 5760) (h6 : zg_cnt (zg_met S f t) ≤ 6) : ra_fo (qX9_make_15 c (nI f) (nI t)) (bX9_make_15 c (nI f) (nI t)) 16 0 (rj_pi (mX11_fillRow c 48 16 (-1)) 47 5 0) ∧ (∀ k, k ≠ 47 → k ≠ 49 → (rj_fo (bX9_make_15 c (nI f) (nI t)) 16 0 (rj_pi (mX11_fillRow c 48 16 (-1)) 47 5 0)).1 k = (rj_pi (mX11_fillRow c 48 16 (-1)) 47 5 0).1 k) ∧ (∀ i, i ≠ 5 → (rj_fo (bX9_make_15 c (nI f) (nI t)) 16 0 (rj_pi (mX11_fillRow c 48 16 (-1)) 47 5 0)).1 47 i = c.1 47 i) ∧ (rj_fo (bX9_make_15 c (nI f) (nI t)) 16 0 (rj_pi (mX11_fillRow c 48 16 (-1)) 47 5 0)).2 = c.2 ∧ (rj_fo (bX9_make_15 c (nI f) (nI t)) 16 0 (rj_pi (mX11_fillRow c 48 16 (-1)) 47 5 0)).1 47 5 = nI (zg_l (zg_met S f t)).length ∧ ∀ i a, (zg_l (zg_met S f t))[i]? = some a → (rj_fo (bX9_make_15 c (nI f) (nI t)) 16 0 (rj_pi (mX11_fillRow c 48 16 (-1)) 47 5 0)).1 49 i = nI a := by
  have hlen : (zg_l (zg_met S f t)).length ≤ 6 := by rw [← zg_cnt_len]; exact h6
  obtain ⟨w1, w2, w3⟩ := zm_fill (μ := c) (k := 48) (n := 16) (v := -1) (by decide)
  -- the list of those who are met
  have hstep : ∀ j x, 0 ≤ j → j < 0 + 16 → ((∀ k, k ≠ 47 → k ≠ 49 → x.1 k = (rj_pi (mX11_fillRow c 48 16 (-1)) 47 5 0).1 k) ∧ (∀ i, i ≠ 5 → x.1 47 i = c.1 47 i) ∧ x.2 = c.2 ∧ x.1 47 5 = nI ((List.range j).filter (zg_met S f t)).length ∧ ∀ i a, ((List.range j).filter (zg_met S f t))[i]? = some a → x.1 49 i = nI a) → qX9_make_15 c (nI f) (nI t) j x ∧ ((∀ k, k ≠ 47 → k ≠ 49 → (bX9_make_15 c (nI f) (nI t) j x).1 k = (rj_pi (mX11_fillRow c 48 16 (-1)) 47 5 0).1 k) ∧ (∀ i, i ≠ 5 → (bX9_make_15 c (nI f) (nI t) j x).1 47 i = c.1 47 i) ∧ (bX9_make_15 c (nI f) (nI t) j x).2 = c.2 ∧ (bX9_make_15 c (nI f) (nI t) j x).1 47 5 = nI ((List.range (j + 1)).filter (zg_met S f t)).length ∧ ∀ i a, ((List.range (j + 1)).filter (zg_met S f t))[i]? = some a → (bX9_make_15 c (nI f) (nI t) j x).1 49 i = nI a) := fun j x _ hj ⟨x1, x2, x3, x4, x5⟩ => by
    have hk : ∀ k, k < 40 → x.1 k = c.1 k := fun k hk => by rw [x1 k (by omega) (by omega), zm_pi_ne (by omega), w1 k (by omega)]
    have hpx := zr_prog_of hp (fun k h1 h2 => hk k (by omega))
    have hgx := zr_grnd_of hg (fun k h1 h2 => hk k (by omega))
    have hm := zc_isMet hpx hgx ok og hf ht (show j < 16 by omega)
    have hsub : ((List.range j).filter (zg_met S f t)).length ≤ 16 := Nat.le_trans (List.length_filter_le _ _) (by rw [List.length_range]; omega)
    have hsub6 : zg_met S f t j = true → ((List.range j).filter (zg_met S f t)).length < 6 := fun hmj => by
      have h1 : ((List.range (j + 1)).filter (zg_met S f t)).length = ((List.range j).filter (zg_met S f t)).length + 1 := by
        rw [List.range_succ, List.filter_append, List.filter_cons_of_pos hmj, List.filter_nil, List.length_append, List.length_singleton]
      have h2 : ((List.range (j + 1)).filter (zg_met S f t)).length ≤ (zg_l (zg_met S f t)).length := by
        have h3 : zg_l (zg_met S f t) = (List.range (j + 1)).filter (zg_met S f t) ++ (List.range' (j + 1) (16 - (j + 1))).filter (zg_met S f t) := by
          unfold zg_l
          rw [← List.filter_append, List.range_eq_range', List.range_eq_range', show List.range' 0 (j + 1) ++ List.range' (j + 1) (16 - (j + 1)) = List.range' 0 16 from by
            have h9 := List.range'_append_1 (s := 0) (m := j + 1) (n := 16 - (j + 1))
            rw [Nat.zero_add, show j + 1 + (16 - (j + 1)) = 16 by omega] at h9
            exact h9]
        rw [h3, List.length_append]
        omega
      omega
    unfold qX9_make_15 bX9_make_15
    rw [hm, x4]
    by_cases c1 : zg_met S f t j = true
    · have h5 := hsub6 c1
      have hcl : (nI ((List.range j).filter (zg_met S f t)).length).toNatClampNeg = ((List.range j).filter (zg_met S f t)).length := nI_clamp (by omega)
      have h6' : ¬ 6 ≤ nI ((List.range j).filter (zg_met S f t)).length := nI_ge (b := 6) h5 (by decide)
      rw [if_pos c1, if_neg (by decide), if_neg h6', hcl, zm_pi_ne (show 47 ≠ 49 by decide), x4, nI_1, List.range_succ, List.filter_append, List.filter_cons_of_pos c1, List.filter_nil, List.length_append, List.length_singleton]
      refine ⟨⟨fun z => absurd z (by decide), fun _ => ⟨fun z => absurd z h6', fun _ => ⟨vp_in_nI h5 (by decide), trivial⟩⟩⟩, fun k k1 k2 => ?_, fun i hi => ?_, x3, zm_pi_eq, fun i a hi => ?_⟩
      · rw [zm_pi_ne k1, zm_pi_ne k2]
        exact x1 k k1 k2
      · rw [zm_pi_ne2 hi, zm_pi_ne (by decide)]
        exact x2 i hi
      · rw [zm_pi_ne (by decide)]
        by_cases e : i = ((List.range j).filter (zg_met S f t)).length
        · rw [e, List.getElem?_append_right (Nat.le_refl _), Nat.sub_self] at hi
          rw [e, zm_pi_eq]
          exact congrArg nI (Option.some.inj hi)
        · have hil := (List.getElem?_eq_some_iff.mp hi).1
          rw [List.length_append, List.length_singleton] at hil
          rw [List.getElem?_append_left (by omega)] at hi
          rw [zm_pi_ne2 e]
          exact x5 i a hi
    · rw [if_neg c1, if_pos rfl, List.range_succ, List.filter_append, List.filter_cons_of_neg c1, List.filter_nil, List.append_nil]
      exact ⟨⟨fun _ => trivial, fun z => absurd rfl z⟩, x1, x2, x3, x4, x5⟩
  have h0 : (∀ k, k ≠ 47 → k ≠ 49 → (rj_pi (mX11_fillRow c 48 16 (-1)) 47 5 0).1 k = (rj_pi (mX11_fillRow c 48 16 (-1)) 47 5 0).1 k) ∧ (∀ i, i ≠ 5 → (rj_pi (mX11_fillRow c 48 16 (-1)) 47 5 0).1 47 i = c.1 47 i) ∧ (rj_pi (mX11_fillRow c 48 16 (-1)) 47 5 0).2 = c.2 ∧ (rj_pi (mX11_fillRow c 48 16 (-1)) 47 5 0).1 47 5 = nI ((List.range 0).filter (zg_met S f t)).length ∧ ∀ i a, ((List.range 0).filter (zg_met S f t))[i]? = some a → (rj_pi (mX11_fillRow c 48 16 (-1)) 47 5 0).1 49 i = nI a := ⟨fun _ _ _ => rfl, fun i hi => by rw [zm_pi_ne2 hi, w1 47 (by decide)], (by rw [zm_pi_2, w3]), (by rw [zm_pi_eq, List.range_zero, List.filter_nil]; rfl), fun i a hi => by rw [List.range_zero, List.filter_nil] at hi; cases hi⟩
  have hq : ra_fo (qX9_make_15 c (nI f) (nI t)) (bX9_make_15 c (nI f) (nI t)) 16 0 (rj_pi (mX11_fillRow c 48 16 (-1)) 47 5 0) := ra_fo_i (zf_q (fun j x => (∀ k, k ≠ 47 → k ≠ 49 → x.1 k = (rj_pi (mX11_fillRow c 48 16 (-1)) 47 5 0).1 k) ∧ (∀ i, i ≠ 5 → x.1 47 i = c.1 47 i) ∧ x.2 = c.2 ∧ x.1 47 5 = nI ((List.range j).filter (zg_met S f t)).length ∧ ∀ i a, ((List.range j).filter (zg_met S f t))[i]? = some a → x.1 49 i = nI a) 16 0 _ h0 hstep)
  have hz := zf_inv (f := bX9_make_15 c (nI f) (nI t)) (fun j x => (∀ k, k ≠ 47 → k ≠ 49 → x.1 k = (rj_pi (mX11_fillRow c 48 16 (-1)) 47 5 0).1 k) ∧ (∀ i, i ≠ 5 → x.1 47 i = c.1 47 i) ∧ x.2 = c.2 ∧ x.1 47 5 = nI ((List.range j).filter (zg_met S f t)).length ∧ ∀ i a, ((List.range j).filter (zg_met S f t))[i]? = some a → x.1 49 i = nI a) 16 0 _ h0 (fun j x a1 a2 hx => (hstep j x a1 a2 hx).2)
  rw [Nat.zero_add] at hz
  unfold zg_l
  exact ⟨hq, hz⟩
theorem zc_make2 {c : rj_M} (hp : zr_prog c 1 S) (hg : zr_grnd c 1 S) (ok : zo_prog S) (og : zo_grnd S) (hf : f < 5760) (ht : t ≤ 5760) (h6 : zg_cnt (zg_met S f t) ≤ 6) (b0 : Nat → Nat) {m : rj_M} (hz : (∀ k, k ≠ 47 → k ≠ 49 → m.1 k = (rj_pi (mX11_fillRow c 48 16 (-1)) 47 5 0).1 k) ∧ (∀ i, i ≠ 5 → m.1 47 i = c.1 47 i) ∧ m.2 = c.2 ∧ m.1 47 5 = nI (zg_l (zg_met S f t)).length ∧ ∀ i a, (zg_l (zg_met S f t))[i]? = some a → m.1 49 i = nI a) : ∃ u : rj_M, mX9_tryGoals rz7 (rj_pi m 47 7 (nI ((zg_l (zg_met S f t)).length + 1))) 0 0 = u ∧ u.1 47 7 = nI (zg_fin S f t b0).1 ∧ (∀ k, k < 16 → u.1 48 k = nI ((zg_fin S f t b0).2 k) - 1) ∧ (∀ k, k ≠ 47 → k ≠ 48 → k ≠ 49 → k ≠ 50 → u.1 k = c.1 k) ∧ u.2 = c.2 ∧ qX9_tryGoals rz7 (rj_pi m 47 7 (nI ((zg_l (zg_met S f t)).length + 1))) 0 0 := by
  have hlen : (zg_l (zg_met S f t)).length ≤ 6 := by rw [← zg_cnt_len]; exact h6
  obtain ⟨w1, w2, w3⟩ := zm_fill (μ := c) (k := 48) (n := 16) (v := -1) (by decide)
  obtain ⟨z1, z2, z3, z4, z5⟩ := hz
  have hkm : ∀ k, k < 40 → (rj_pi m 47 7 (nI ((zg_l (zg_met S f t)).length + 1))).1 k = c.1 k := fun k hk => by rw [zm_pi_ne (by omega), z1 k (by omega) (by omega), zm_pi_ne (by omega), w1 k (by omega)]
  have hrn : zc_rn (rj_pi m 47 7 (nI ((zg_l (zg_met S f t)).length + 1))) S (zg_met S f t) := ⟨zr_prog_of hp (fun k h1 h2 => hkm k (by omega)), zr_grnd_of hg (fun k h1 h2 => hkm k (by omega)), by rw [zm_pi_ne2 (by decide)]; exact z4, fun i a hi => by rw [zm_pi_ne (by decide)]; exact z5 i a hi⟩
  have hb0 : zc_bst (rj_pi m 47 7 (nI ((zg_l (zg_met S f t)).length + 1))) (zg_met S f t) (zg_cnt (zg_met S f t) + 1) (zg_cnt (zg_met S f t) + 1, b0) := ⟨by rw [zm_pi_eq, zg_cnt_len], fun z => absurd z (Nat.lt_irrefl _), fun k hk hm => by rw [zm_pi_ne (by decide), z1 48 (by decide) (by decide), zm_pi_ne (by decide), w2, if_pos hk]⟩
  have hst : zc_stay (rj_pi m 47 7 (nI ((zg_l (zg_met S f t)).length + 1))) (rj_pi m 47 7 (nI ((zg_l (zg_met S f t)).length + 1))) := ⟨fun _ _ _ _ => rfl, fun _ _ => rfl, rfl⟩
  have hout : ∀ k, k ≠ 47 → k ≠ 48 → k ≠ 49 → k ≠ 50 → (rj_pi m 47 7 (nI ((zg_l (zg_met S f t)).length + 1))).1 k = c.1 k := fun k k1 k2 k3 k4 => by rw [zm_pi_ne k1, z1 k k1 k3, zm_pi_ne k1, w1 k k2]
  have hout2 : (rj_pi m 47 7 (nI ((zg_l (zg_met S f t)).length + 1))).2 = c.2 := z3
  generalize rj_pi m 47 7 (nI ((zg_l (zg_met S f t)).length + 1)) = m0 at hrn hb0 hst hout hout2 ⊢
  have hd0 : (zg_l (zg_met S f t)).drop 0 = (List.range' 0 16).filter (zg_met S f t) := by
    rw [List.drop_zero]
    unfold zg_l
    rw [List.range_eq_range']
  have hgo := zc_goals hrn (fun k _ => rfl) ok og hlen (M0 := zg_cnt (zg_met S f t) + 1) 16 rz7 0 0 (zg_A0 (zg_met S f t)) 0 (zg_cnt (zg_met S f t) + 1, b0) m0 rfl hd0 (Nat.zero_le _) (by rw [rz7_eq]; omega) (by decide) (by decide) (show zg_cnt (zg_met S f t) + 1 ≤ 100 by omega) (Nat.le_refl _) zg_A0_ok (fun i x hi => absurd hi (Nat.not_lt_zero _)) hb0 hst
  have hlt := zg_fin_lt (S := S) (f := f) (t := t) (b0 := b0)
  have hfin : zg S (zg_met S f t) 16 0 (zg_A0 (zg_met S f t)) 0 (zg_cnt (zg_met S f t) + 1, b0) = zg_fin S f t b0 := rfl
  rw [hfin, show nI 0 = (0 : Int32) from rfl] at hgo
  obtain ⟨⟨g1, g2, g3⟩, -, ⟨g4, g5, g6⟩, g7⟩ := hgo
  exact ⟨_, rfl, g1, g2 (Nat.lt_succ_of_le hlt), fun k k1 k2 k3 k4 => (g4 k k1 k2 k4).trans (hout k k1 k2 k3 k4), g6.trans hout2, g7⟩
theorem zc_make {c : rj_M} (hp : zr_prog c 1 S) (hg : zr_grnd c 1 S) (ok : zo_prog S) (og : zo_grnd S) (hf : f < 5760) (ht : t ≤ 5760) (h6 : zg_cnt (zg_met S f t) ≤ 6) (b0 : Nat → Nat) : fX9_make c (nI f) (nI t) = nI (zg_fin S f t b0).1 ∧ zg_c (mX9_make c (nI f) (nI t)) (some (zg_fin S f t b0).2) ∧ (∀ k, k ≠ 47 → k ≠ 48 → k ≠ 49 → k ≠ 50 → (mX9_make c (nI f) (nI t)).1 k = c.1 k) ∧ (mX9_make c (nI f) (nI t)).2 = c.2 ∧ qX9_make c (nI f) (nI t) := by
  obtain ⟨hq, hz⟩ := zc_make1 hp hg ok og hf ht h6
  unfold fX9_make mX9_make qX9_make
  generalize rj_fo (bX9_make_15 c (nI f) (nI t)) 16 0 (rj_pi (mX11_fillRow c 48 16 (-1)) 47 5 0) = m at hz ⊢
  obtain ⟨u, u1, u2, u3, u4, u5, u6⟩ := zc_make2 hp hg ok og hf ht h6 b0 hz
  rw [hz.2.2.2.1, nI_1, u1]
  refine ⟨?_, .inr ⟨_, rfl, zm_pi_eq, fun k hk => ?_⟩, fun k k1 k2 k3 k4 => ?_, u5, fun _ => hq, u6, trivial⟩
  · rw [zm_pi_ne2 (by decide)]
    exact u2
  · rw [zm_pi_ne (by decide)]
    exact u3 k hk
  · rw [zm_pi_ne k1]
    exact u4 k k1 k2 k3 k4
end zrRain
