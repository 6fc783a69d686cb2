/-! RAIN, the class's search -/
section zcRain3
variable {S : Nat → Nat}
theorem zc_goals {c : rj_M} {mt : Nat → Bool} {f t M0 : Nat} (h : zc_rn c S mt) (hmt : ∀ k, k < 16 → mt k = zg_met S f t k) (ok : zo_prog S) (og : zo_grnd S) (hl : (zg_l mt).length ≤ 6) : ∀ (rr n a p : Nat) (A : Nat → Nat) (left : Nat) (st : Nat × (Nat → Nat)) (mem : rj_M), a + rr = 16 → (zg_l mt).drop p = (List.range' a rr).filter mt → p ≤ (zg_l mt).length → (zg_l mt).length - p < n → left ≤ 20 → left + rr ≤ 20 → st.1 ≤ 100 → st.1 ≤ M0 → zg_A mt a A → (∀ i x, i < p → (zg_l mt)[i]? = some x → mem.1 50 i = nI (A x) - 1) → zc_bst mem mt M0 st → zc_stay c mem → (zc_bst (mX9_tryGoals n mem (nI p) (nI left)) mt M0 (zg S mt rr a A left st) ∧ (∀ i, i < p → (mX9_tryGoals n mem (nI p) (nI left)).1 50 i = mem.1 50 i) ∧ zc_stay c (mX9_tryGoals n mem (nI p) (nI left)) ∧ qX9_tryGoals n mem (nI p) (nI left))
  | _, 0, _, _, _, _, _, _, _, _, _, hn, _, _, _, _, _, _, _, _ => absurd hn (Nat.not_lt_zero _)
  | 0, n + 1, a, p, A, left, st, mem, ha, hd, hp, hn, hL, hLr, hs, hM, hA, ht, hb, hy => by
    have e : a = 16 := by omega
    subst e
    have hpl : (zg_l mt).length ≤ p := by
      have h1 : ((zg_l mt).drop p).length = 0 := by rw [hd]; rfl
      rw [List.length_drop] at h1
      omega
    have hr := zc_rn_of h hy
    rw [mX9_tryGoals_s, qX9_tryGoals_s, hb.1, hr.2.2.1, zg_0]
    by_cases c1 : st.1 ≤ left
    · rw [if_pos (nI_le c1 (by omega)), if_pos c1]
      exact ⟨hb, fun _ _ => rfl, hy, fun _ => trivial, fun z => absurd (nI_le c1 (by omega)) z⟩
    · have c1' : ¬ nI st.1 ≤ nI left := nI_ge (by omega) (by omega)
      have c2' : nI (zg_l mt).length ≤ nI p := nI_le hpl (by omega)
      rw [if_neg c1', if_neg c1, if_pos (nI_pos' (by omega)), if_pos c2']
      obtain ⟨k1, k2, k3⟩ := zc_keepTried h hl hA (fun i x hi => ht i x (by have := (List.getElem?_eq_some_iff.mp hi).1; omega) hi) hb hy (left := left)
      exact ⟨k1, fun i _ => k3 i, k2, fun _ => trivial, fun _ => ⟨fun _ => ⟨fun _ => trivial, fun z => absurd c2' z⟩, fun _ => trivial⟩⟩
  | rr + 1, n + 1, a, p, A, left, st, mem, ha, hd, hp, hn, hL, hLr, hs, hM, hA, ht, hb, hy => by
    have ha16 : a < 16 := by omega
    have hr := zc_rn_of h hy
    have hrange : List.range' a (rr + 1) = a :: List.range' (a + 1) rr := by rw [List.range'_succ]
    rw [hrange] at hd
    by_cases cm : mt a = true
    · rw [List.filter_cons_of_pos cm] at hd
      have hpl : p < (zg_l mt).length := by
        have h1 : ((zg_l mt).drop p).length = (((List.range' (a + 1) rr).filter mt).length) + 1 := by rw [hd]; rfl
        rw [List.length_drop] at h1
        omega
      have hd2 := List.drop_eq_getElem_cons hpl
      rw [hd] at hd2
      have hpa : (zg_l mt)[p]? = some a := by rw [List.getElem?_eq_getElem hpl, (List.cons.inj hd2).1]
      have hdn : (zg_l mt).drop (p + 1) = (List.range' (a + 1) rr).filter mt := (List.cons.inj hd2).2.symm
      have hp6 : p < 6 := by omega
      have hcl : (nI p).toNatClampNeg = p := nI_clamp (by omega)
      rw [mX9_tryGoals_s, qX9_tryGoals_s, hb.1, hr.2.2.1]
      by_cases c1 : st.1 ≤ left
      · rw [if_pos (nI_le c1 (by omega)), zg_cut c1]
        exact ⟨hb, fun _ _ => rfl, hy, fun _ => trivial, fun z => absurd (nI_le c1 (by omega)) z⟩
      · have c1' : ¬ nI st.1 ≤ nI left := nI_ge (by omega) (by omega)
        have c2' : ¬ nI (zg_l mt).length ≤ nI p := nI_ge hpl (by omega)
        have c0' : (0 : Int32) ≤ nI p := nI_pos' (by omega)
        have c3' : nI p < 6 := nI_lt (b := 6) hp6 (by decide)
        rw [if_neg c1', if_pos c0', if_neg c2', if_pos c3', zg_s, if_neg c1, if_pos cm, hcl, nI_1, nI_1]
        have hA5 := ((hA a ha16).2.1 cm).2 (Nat.le_refl _)
        have hstep : ∀ s (x : rj_M) (y : Nat × (Nat → Nat)), 0 ≤ s → s < 0 + 4 → (zc_bst x mt M0 y ∧ y.1 ≤ st.1 ∧ (∀ i, i < p → x.1 50 i = mem.1 50 i) ∧ zc_stay c x) → qX9_tryGoals_35 n (mX9_tryGoals n) (qX9_tryGoals n) mem (nI p) (nI left) s x ∧ (zc_bst (bX9_tryGoals_35 n (mX9_tryGoals n) mem (nI p) (nI left) s x) mt M0 (if zg_can S A a s = true then zg S mt rr (a + 1) (zg_up A a (s + 1)) left y else y) ∧ (if zg_can S A a s = true then zg S mt rr (a + 1) (zg_up A a (s + 1)) left y else y).1 ≤ st.1 ∧ (∀ i, i < p → (bX9_tryGoals_35 n (mX9_tryGoals n) mem (nI p) (nI left) s x).1 50 i = mem.1 50 i) ∧ zc_stay c (bX9_tryGoals_35 n (mX9_tryGoals n) mem (nI p) (nI left) s x)) := fun s x y _ hs4 ⟨x1, x2, x3, x4⟩ => by
          have hrm := zc_hasRoom (zc_rn_of h x4) hmt ok og hl hpa (show s < 4 by omega) (A := A) (fun k hk => ⟨(hA k hk).1, fun z => ((hA k hk).2.1 z).1, (hA k hk).2.2⟩) (fun i z hi hiz => by rw [x3 i hi]; exact ht i z hi hiz)
          unfold qX9_tryGoals_35 bX9_tryGoals_35
          rw [hrm, hcl, nI_1]
          by_cases cc : zg_can S A a s = true
          · rw [if_pos cc, if_neg (by decide), if_pos cc]
            have ih := zc_goals h hmt ok og hl (M0 := M0) rr n (a + 1) (p + 1) (zg_up A a (s + 1)) left y (rj_pi x 50 p (nI s)) (by omega) hdn (by omega) (by omega) hL (by omega) (by omega) (by omega) (zg_A_up hA cm (by omega) (by omega)) (fun i z hi hiz => by
              by_cases e : i = p
              · subst e
                rw [hpa] at hiz
                cases hiz
                rw [zm_pi_eq, zg_up_eq, nI_pred]
              · have hlt := zg_l_lt (show i < p by omega) hiz hpa
                rw [zm_pi_ne2 e, zg_up_ne (by omega), x3 i (by omega)]
                exact ht i z (by omega) hiz) ⟨by rw [zm_pi_ne (by decide)]; exact x1.1, fun z k hk => by rw [zm_pi_ne (by decide)]; exact x1.2.1 z k hk, fun k hk hm => by rw [zm_pi_ne (by decide)]; exact x1.2.2 k hk hm⟩ ⟨fun k h1 h2 h3 => (zm_pi_ne h3).trans (x4.1 k h1 h2 h3), fun i hi => by rw [zm_pi_ne (by decide)]; exact x4.2.1 i hi, x4.2.2⟩
            obtain ⟨i1, i2, i3, i4⟩ := ih
            exact ⟨⟨fun z => absurd z (by decide), fun _ => ⟨i4, trivial⟩⟩, i1, Nat.le_trans (zg_le rr (a + 1) _ left y).1 x2, fun i hi => by rw [i2 i (by omega), zm_pi_ne2 (by omega)]; exact x3 i hi, i3⟩
          · rw [if_neg cc, if_pos rfl, if_neg cc]
            exact ⟨⟨fun _ => trivial, fun z => absurd rfl z⟩, x1, x2, x3, x4⟩
        have h0 : zc_bst mem mt M0 st ∧ st.1 ≤ st.1 ∧ (∀ i, i < p → mem.1 50 i = mem.1 50 i) ∧ zc_stay c mem := ⟨hb, Nat.le_refl _, fun _ _ => rfl, hy⟩
        have hloop := zf_rel (f := bX9_tryGoals_35 n (mX9_tryGoals n) mem (nI p) (nI left)) (g := fun s st => if zg_can S A a s = true then zg S mt rr (a + 1) (zg_up A a (s + 1)) left st else st) (fun _ x y => zc_bst x mt M0 y ∧ y.1 ≤ st.1 ∧ (∀ i, i < p → x.1 50 i = mem.1 50 i) ∧ zc_stay c x) 4 0 mem st h0 (fun s x y h1 h2 hxy => (hstep s x y h1 h2 hxy).2)
        have hloopq := zf_q (q := qX9_tryGoals_35 n (mX9_tryGoals n) (qX9_tryGoals n) mem (nI p) (nI left)) (f := bX9_tryGoals_35 n (mX9_tryGoals n) mem (nI p) (nI left)) (fun _ x => ∃ y, zc_bst x mt M0 y ∧ y.1 ≤ st.1 ∧ (∀ i, i < p → x.1 50 i = mem.1 50 i) ∧ zc_stay c x) 4 0 mem ⟨st, h0⟩ (fun s x h1 h2 ⟨y, hy⟩ => ⟨(hstep s x y h1 h2 hy).1, _, (hstep s x y h1 h2 hy).2⟩)
        generalize rj_fo (fun s st => if zg_can S A a s = true then zg S mt rr (a + 1) (zg_up A a (s + 1)) left st else st) 4 0 st = y at hloop ⊢
        generalize rj_fo (bX9_tryGoals_35 n (mX9_tryGoals n) mem (nI p) (nI left)) 4 0 mem = x5 at hloop ⊢
        obtain ⟨l1, l2, l3, l4⟩ := hloop
        have ih := zc_goals h hmt ok og hl (M0 := M0) rr n (a + 1) (p + 1) (zg_up A a 5) (left + 1) y (rj_pi x5 50 p 4) (by omega) hdn (by omega) (by omega) (by omega) (by omega) (by omega) (by omega) (zg_A_up hA cm (by decide) (by decide)) (fun i z hi hiz => by
          by_cases e : i = p
          · subst e
            rw [hpa] at hiz
            cases hiz
            rw [zm_pi_eq, zg_up_eq]
            rfl
          · have hlt := zg_l_lt (show i < p by omega) hiz hpa
            rw [zm_pi_ne2 e, zg_up_ne (by omega), l3 i (by omega)]
            exact ht i z (by omega) hiz) ⟨by rw [zm_pi_ne (by decide)]; exact l1.1, fun z k hk => by rw [zm_pi_ne (by decide)]; exact l1.2.1 z k hk, fun k hk hm => by rw [zm_pi_ne (by decide)]; exact l1.2.2 k hk hm⟩ ⟨fun k h1 h2 h3 => (zm_pi_ne h3).trans (l4.1 k h1 h2 h3), fun i hi => by rw [zm_pi_ne (by decide)]; exact l4.2.1 i hi, l4.2.2⟩
        obtain ⟨i1, i2, i3, i4⟩ := ih
        exact ⟨i1, fun i hi => by rw [i2 i (by omega), zm_pi_ne2 (by omega)]; exact l3 i hi, i3, fun z => absurd z c1', fun _ => ⟨fun _ => ⟨fun z => absurd z c2', fun _ => ⟨fun _ => ⟨fun _ => ra_fo_i hloopq, i4, trivial⟩, fun z => absurd c3' z⟩⟩, fun z => absurd c0' z⟩⟩
    · have cm' : mt a = false := by simpa using cm
      rw [List.filter_cons_of_neg cm] at hd
      rw [zg_skip cm']
      exact zc_goals h hmt ok og hl rr (n + 1) (a + 1) p A left st mem (by omega) hd hp hn hL (by omega) hs hM (zg_A_s hA) ht hb hy
end zcRain3
