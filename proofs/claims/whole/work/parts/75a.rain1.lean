/-! RAIN: plans by trying, the same on both sides -/
def zg_up (A : Nat → Nat) (a v : Nat) : Nat → Nat := fun k => if k = a then v else A k
theorem zg_up_eq {A : Nat → Nat} {a v : Nat} : zg_up A a v a = v := if_pos rfl
theorem zg_up_ne {A : Nat → Nat} {a v k : Nat} (h : k ≠ a) : zg_up A a v k = A k := if_neg h
noncomputable def zg_met (S : Nat → Nat) (f t a : Nat) : Bool := zz (zp_has S a ∧ S (25 + 6 * a) < t ∧ f < S (25 + 6 * a) + S (26 + 6 * a) ∧ S (3 + S (24 + 6 * a)) = 1)
def zg_Can (S : Nat → Nat) (A : Nat → Nat) (a s : Nat) : Prop := S (3 + s) ≠ 1 ∧ ∀ k, k < 16 → k ≠ a → zp_has S k → zp_meet S k a → ¬ ((A k = 0 ∧ S (24 + 6 * k) = s) ∨ (A k ≠ 0 ∧ k < a ∧ A k = s + 1))
noncomputable def zg_can (S : Nat → Nat) (A : Nat → Nat) (a s : Nat) : Bool := zz (zg_Can S A a s)
theorem zg_can_up {S A A' : Nat → Nat} {a s : Nat} (h : ∀ k, k ≠ a → A' k = A k) : zg_can S A' a s = zg_can S A a s := by
  unfold zg_can zg_Can
  congr 1
  refine propext (and_congr_right (fun _ => forall_congr' (fun k => imp_congr_right (fun _ => forall_congr' (fun hk => ?_)))))
  rw [h k hk]
noncomputable def zg (S : Nat → Nat) (mt : Nat → Bool) : Nat → Nat → (Nat → Nat) → Nat → (Nat × (Nat → Nat)) → (Nat × (Nat → Nat))
  | 0, _, A, left, st => if st.1 ≤ left then st else (left, A)
  | r + 1, a, A, left, st => if st.1 ≤ left then st else if mt a = true then zg S mt r (a + 1) (zg_up A a 5) (left + 1) (rj_fo (fun s st => if zg_can S A a s = true then zg S mt r (a + 1) (zg_up A a (s + 1)) left st else st) 4 0 st) else zg S mt r (a + 1) A left st
theorem zg_0 {S : Nat → Nat} {mt : Nat → Bool} {a left : Nat} {A : Nat → Nat} {st : Nat × (Nat → Nat)} : zg S mt 0 a A left st = if st.1 ≤ left then st else (left, A) := rfl
theorem zg_s {S : Nat → Nat} {mt : Nat → Bool} {r a left : Nat} {A : Nat → Nat} {st : Nat × (Nat → Nat)} : zg S mt (r + 1) a A left st = if st.1 ≤ left then st else if mt a = true then zg S mt r (a + 1) (zg_up A a 5) (left + 1) (rj_fo (fun s st => if zg_can S A a s = true then zg S mt r (a + 1) (zg_up A a (s + 1)) left st else st) 4 0 st) else zg S mt r (a + 1) A left st := rfl
theorem zg_cut {S : Nat → Nat} {mt : Nat → Bool} {a left : Nat} {A : Nat → Nat} {st : Nat × (Nat → Nat)} (h : st.1 ≤ left) : ∀ r, zg S mt r a A left st = st
  | 0 => if_pos h
  | _ + 1 => if_pos h
theorem zg_skip {S : Nat → Nat} {mt : Nat → Bool} {r a left : Nat} {A : Nat → Nat} {st : Nat × (Nat → Nat)} (h : mt a = false) : zg S mt (r + 1) a A left st = zg S mt r (a + 1) A left st := by
  rw [zg_s]
  by_cases c : st.1 ≤ left
  · rw [if_pos c, zg_cut c]
  · rw [if_neg c, if_neg (by rw [h]; decide)]
/-- how many of r acts from a on are met -/
def zg_n (mt : Nat → Bool) : Nat → Nat → Nat
  | 0, _ => 0
  | r + 1, a => (if mt a = true then 1 else 0) + zg_n mt r (a + 1)
/-- the best only becomes better; it is at most what leaves out all -/
theorem zg_le {S : Nat → Nat} {mt : Nat → Bool} : ∀ r a A left st, (zg S mt r a A left st).1 ≤ st.1 ∧ (zg S mt r a A left st).1 ≤ left + zg_n mt r a
  | 0, a, A, left, st => by
    rw [zg_0]
    by_cases c : st.1 ≤ left
    · rw [if_pos c]
      exact ⟨Nat.le_refl _, by show st.1 ≤ left + 0; omega⟩
    · rw [if_neg c]
      exact ⟨by show left ≤ st.1; omega, Nat.le_refl _⟩
  | r + 1, a, A, left, st => by
    by_cases c : st.1 ≤ left
    · rw [zg_cut c]
      exact ⟨Nat.le_refl _, by omega⟩
    · by_cases cm : mt a = true
      · rw [zg_s, if_neg c, if_pos cm]
        have h4 := zf_inv (f := fun s st => if zg_can S A a s = true then zg S mt r (a + 1) (zg_up A a (s + 1)) left st else st) (fun _ x => x.1 ≤ st.1) 4 0 st (Nat.le_refl _) (fun s x _ _ hx => by
          show (if zg_can S A a s = true then zg S mt r (a + 1) (zg_up A a (s + 1)) left x else x).1 ≤ st.1
          split
          · exact Nat.le_trans (zg_le r (a + 1) _ left x).1 hx
          · exact hx)
        obtain ⟨e1, e2⟩ := zg_le (S := S) (mt := mt) r (a + 1) (zg_up A a 5) (left + 1) (rj_fo (fun s st => if zg_can S A a s = true then zg S mt r (a + 1) (zg_up A a (s + 1)) left st else st) 4 0 st)
        refine ⟨Nat.le_trans e1 h4, ?_⟩
        show _ ≤ left + ((if mt a = true then 1 else 0) + zg_n mt r (a + 1))
        rw [if_pos cm]
        omega
      · have cm' : mt a = false := by simpa using cm
        rw [zg_skip cm']
        obtain ⟨e1, e2⟩ := zg_le (S := S) (mt := mt) r (a + 1) A left st
        refine ⟨e1, ?_⟩
        show _ ≤ left + ((if mt a = true then 1 else 0) + zg_n mt r (a + 1))
        rw [if_neg cm]
        omega
/-- assignments: for each act that is met one of 1 to 5, for the others 0 -/
def zg_A (mt : Nat → Bool) (a : Nat) (A : Nat → Nat) : Prop := ∀ k, k < 16 → A k ≤ 5 ∧ (mt k = true → A k ≠ 0 ∧ (a ≤ k → A k = 5)) ∧ (mt k = false → A k = 0)
theorem zg_A_up {mt : Nat → Bool} {a v : Nat} {A : Nat → Nat} (h : zg_A mt a A) (hm : mt a = true) (h1 : 1 ≤ v) (h5 : v ≤ 5) : zg_A mt (a + 1) (zg_up A a v) := fun k hk => by
  by_cases e : k = a
  · subst e
    rw [zg_up_eq]
    refine ⟨h5, fun _ => ⟨by omega, fun z => by omega⟩, fun z => ?_⟩
    rw [hm] at z
    cases z
  · rw [zg_up_ne e]
    obtain ⟨x1, x2, x3⟩ := h k hk
    exact ⟨x1, fun z => ⟨(x2 z).1, fun y => (x2 z).2 (by omega)⟩, x3⟩
theorem zg_A_s {mt : Nat → Bool} {a : Nat} {A : Nat → Nat} (h : zg_A mt a A) : zg_A mt (a + 1) A := fun k hk => by
  obtain ⟨x1, x2, x3⟩ := h k hk
  exact ⟨x1, fun z => ⟨(x2 z).1, fun y => (x2 z).2 (by omega)⟩, x3⟩
theorem zg_pred {n : Nat} (h : n ≤ 5) : (nI n - 1 = -1 ↔ n = 0) ∧ ∀ s, s < 5 → (nI n - 1 = nI s ↔ n = s + 1) := by
  refine ⟨?_, fun s hs => ?_⟩
  · rcases (show n = 0 ∨ n = 1 ∨ n = 2 ∨ n = 3 ∨ n = 4 ∨ n = 5 by omega) with rfl | rfl | rfl | rfl | rfl | rfl <;> decide
  · rcases (show n = 0 ∨ n = 1 ∨ n = 2 ∨ n = 3 ∨ n = 4 ∨ n = 5 by omega) with rfl | rfl | rfl | rfl | rfl | rfl <;> rcases (show s = 0 ∨ s = 1 ∨ s = 2 ∨ s = 3 ∨ s = 4 by omega) with rfl | rfl | rfl | rfl | rfl <;> decide
/-! the reference's side -/
section zqRain
variable {S : Nat → Nat} {B : Nat → Int}
theorem zq_isMet {r : rj_M} {f t : Nat} (h : zr_row (r.1 396) S B) (ok : zo_prog S) (og : zo_grnd S) (hf : f < 5760) (ht : t ≤ 5760) {a : Nat} (ha : a < 16) : fX12_isMet r (nI a) (nI f) (nI t) = (if zg_met S f t a = true then 1 else 0) ∧ qX12_isMet r (nI a) (nI f) (nI t) := by
  obtain ⟨-, a1, a2, a3, -⟩ := ok.1 a ha
  have hop := og.1 _ a1
  have e3 : (3 + nI (S (24 + 6 * a))).toNatClampNeg = 3 + S (24 + 6 * a) := pk_cl _ (by rw [show (3 : Int32) = nI 3 from rfl, nI_add]) (by omega)
  unfold fX12_isMet qX12_isMet zg_met
  rw [zq_stage h ha, zq_begin h ha, zq_end h ha, e3, h.1 (3 + S (24 + 6 * a)) (by omega)]
  refine ⟨?_, fun _ => trivial, fun _ => ⟨by rw [show (3 : Int32) = nI 3 from rfl, nI_add]; exact vp_in_nI (by omega) (by decide), trivial⟩⟩
  rcases zq_isAct h ok ha with ⟨e, e2⟩ | ⟨e, e2⟩
  · rw [e2, if_neg (by decide)]
    by_cases c1 : S (3 + S (24 + 6 * a)) = 1
    · rw [if_pos (by rw [c1]; rfl)]
      by_cases c2 : S (25 + 6 * a) < t
      · rw [if_neg (nI_ge c2 (by omega))]
        by_cases c3 : f < S (25 + 6 * a) + S (26 + 6 * a)
        · rw [if_neg (nI_ge c3 (by omega)), if_pos (zz_t.mpr ⟨e, c2, c3, c1⟩)]
        · rw [if_pos (nI_le (by omega) (by omega)), if_neg (fun z => c3 (zz_t.mp z).2.2.1)]
      · rw [if_pos (nI_le (by omega) (by omega)), if_neg (fun z => c2 (zz_t.mp z).2.1)]
    · rw [if_neg (zn_ne (L := 1) (n := 1) rfl c1 (by omega) (by decide)), if_neg (fun z => c1 (zz_t.mp z).2.2.2)]
  · rw [e2, if_pos rfl, if_neg (fun z => e (zz_t.mp z).1)]
theorem zq_canGo {r : rj_M} {A : Nat → Nat} (h : zr_row (r.1 396) S B) (ok : zo_prog S) (og : zo_grnd S) {a s : Nat} (ha : a < 16) (hs : s < 4) (hA : ∀ k, k < 16 → A k ≤ 5) (ht : ∀ k, k < 16 → k ≠ a → r.1 436 k = nI (A k) - 1) : fX12_canGo r (nI a) (nI s) = if zg_can S A a s = true then 1 else 0 := by
  have hop := og.1 s hs
  have e3 : (3 + nI s).toNatClampNeg = 3 + s := pk_cl _ (by rw [show (3 : Int32) = nI 3 from rfl, nI_add]) (by omega)
  unfold fX12_canGo zg_can zg_Can
  rw [e3, h.1 (3 + s) (by omega)]
  by_cases c0 : S (3 + s) = 1
  · rw [if_pos (by rw [c0]; rfl), if_neg (fun z => (zz_t.mp z).1 c0)]
  · rw [if_neg (zn_ne (L := 1) (n := 1) rfl c0 (by omega) (by decide))]
    rcases zx_find (f := bX12_canGo_16 r (nI a) (nI s)) (fun k => k ≠ a ∧ zp_has S k ∧ zp_meet S k a ∧ ((A k = 0 ∧ S (24 + 6 * k) = s) ∨ (A k ≠ 0 ∧ k < a ∧ A k = s + 1))) (fun _ => ()) 16 0 (fun k _ hk => by
      have hk16 : k < 16 := by omega
      have hst := (ok.1 k hk16).2.1
      unfold bX12_canGo_16
      by_cases c1 : k = a
      · rw [if_pos (by rw [c1])]
        exact .inr ⟨fun z => z.1 c1, rfl⟩
      · rw [if_neg (fun z => c1 ((nI_eq (by omega) (by omega)).mp z)), nI_clamp (n := k) (by omega), ht k hk16 c1, zq_stage h hk16]
        rcases zq_isAct h ok hk16 with ⟨e, e2⟩ | ⟨e, e2⟩
        · rw [e2, if_neg (by decide)]
          rcases zq_meet h ok hk16 ha with ⟨g, g2⟩ | ⟨g, g2⟩
          · rw [g2, if_neg (by decide)]
            obtain ⟨p1, p2⟩ := zg_pred (hA k hk16)
            by_cases c2 : A k = 0
            · rw [if_pos (p1.mpr c2)]
              by_cases c3 : S (24 + 6 * k) = s
              · rw [if_pos (by rw [c3])]
                exact .inl ⟨⟨c1, e, g, .inl ⟨c2, c3⟩⟩, rfl⟩
              · rw [if_neg (fun z => c3 ((nI_eq (by omega) (by omega)).mp z))]
                refine .inr ⟨fun z => ?_, rfl⟩
                rcases z.2.2.2 with y | y
                · exact c3 y.2
                · exact y.1 c2
            · rw [if_neg (fun z => c2 (p1.mp z))]
              by_cases c3 : k < a
              · rw [if_neg (nI_ge c3 (by omega))]
                by_cases c4 : A k = s + 1
                · rw [if_pos ((p2 s (by omega)).mpr c4)]
                  exact .inl ⟨⟨c1, e, g, .inr ⟨c2, c3, c4⟩⟩, rfl⟩
                · rw [if_neg (fun z => c4 ((p2 s (by omega)).mp z))]
                  refine .inr ⟨fun z => ?_, rfl⟩
                  rcases z.2.2.2 with y | y
                  · exact c2 y.1
                  · exact c4 y.2.2
              · rw [if_pos (nI_le (by omega) (by omega))]
                refine .inr ⟨fun z => ?_, rfl⟩
                rcases z.2.2.2 with y | y
                · exact c2 y.1
                · exact c3 y.2.1
          · rw [g2, if_pos rfl]
            exact .inr ⟨fun z => g z.2.2.1, rfl⟩
        · rw [e2, if_pos rfl]
          exact .inr ⟨fun z => e z.2.1, rfl⟩) with ⟨k, k1, k2, k3, k4, k5⟩ | ⟨k1, k2⟩
    · rw [k5, if_neg (fun z => (zz_t.mp z).2 k (by omega) k3.1 k3.2.1 k3.2.2.1 k3.2.2.2)]
      rfl
    · rw [k2, if_pos (zz_t.mpr ⟨c0, fun k hk e1 e2 e3 e4 => k1 k (Nat.zero_le _) (by omega) ⟨e1, e2, e3, e4⟩⟩)]
      rfl
/-- the memory holds the best so far (its row only once it is better than M0) -/
def zq_bst (mem : rj_M) (M0 : Nat) (st : Nat × (Nat → Nat)) : Prop := mem.1 395 15 = nI st.1 ∧ (st.1 < M0 → ∀ k, k < 16 → mem.1 437 k = nI (st.2 k) - 1)
/-- what stays: all but the tried, the best, the fewest -/
def zq_stay (r mem : rj_M) : Prop := (∀ k, k ≠ 395 → k ≠ 436 → k ≠ 437 → mem.1 k = r.1 k) ∧ (∀ i, i ≠ 15 → mem.1 395 i = r.1 395 i) ∧ mem.2 = r.2
theorem zq_plans {r : rj_M} (hr : zr_row (r.1 396) S B) (ok : zo_prog S) (og : zo_grnd S) {mt : Nat → Bool} {M0 : Nat} : ∀ (rr n a : Nat) (A : Nat → Nat) (left : Nat) (st : Nat × (Nat → Nat)) (mem : rj_M), a + rr = 16 → rr < n → left ≤ a → st.1 ≤ 100 → st.1 ≤ M0 → zg_A mt a A → (∀ k, k < 16 → mem.1 436 k = nI (A k) - 1) → zq_bst mem M0 st → zq_stay r mem → (zq_bst (mX12_triesPlans n mem (nI a) (nI left)) M0 (zg S mt rr a A left st) ∧ (∀ k, k < 16 → (mX12_triesPlans n mem (nI a) (nI left)).1 436 k = nI (A k) - 1) ∧ zq_stay r (mX12_triesPlans n mem (nI a) (nI left)) ∧ qX12_triesPlans n mem (nI a) (nI left))
  | _, 0, _, _, _, _, _, _, h, _, _, _, _, _, _, _ => absurd h (Nat.not_lt_zero _)
  | 0, n + 1, a, A, left, st, mem, ha, hn, hl, hs, hM, hA, ht, hb, hy => by
    have e : a = 16 := by omega
    subst e
    rw [mX12_triesPlans_s, qX12_triesPlans_s, hb.1, zg_0]
    by_cases c : st.1 ≤ left
    · rw [if_neg (nI_nlt c (by omega)), if_pos c]
      exact ⟨hb, ht, hy, fun z => absurd z (nI_nlt c (by omega)), fun _ => trivial⟩
    · rw [if_pos (nI_lt (by omega) (by omega)), if_neg c, if_pos (show nI 16 = 16 from rfl), zm_cpy]
      refine ⟨⟨?_, fun _ k hk => ?_⟩, fun k hk => ?_, ⟨fun k h1 h2 h3 => ?_, fun i hi => ?_, hy.2.2⟩, fun _ => ⟨fun _ => trivial, fun z => absurd rfl z⟩, fun _ => trivial⟩
      · rw [zm_ri_ne (by decide), zm_pi_eq]
      · rw [zm_ri_at, if_pos hk, zm_pi_ne (by decide)]
        exact ht k hk
      · rw [zm_ri_ne (by decide), zm_pi_ne (by decide)]
        exact ht k hk
      · rw [zm_ri_ne h3, zm_pi_ne h1]
        exact hy.1 k h1 h2 h3
      · rw [zm_ri_ne (by decide), zm_pi_ne2 hi]
        exact hy.2.1 i hi
  | rr + 1, n + 1, a, A, left, st, mem, ha, hn, hl, hs, hM, hA, ht, hb, hy => by
    have ha16 : a < 16 := by omega
    have hne : ¬ nI a = 16 := zn_ne (n := 16) rfl (by omega) (by omega) (by decide)
    have hcl : (nI a).toNatClampNeg = a := nI_clamp (by omega)
    rw [mX12_triesPlans_s, qX12_triesPlans_s, hb.1]
    by_cases c : st.1 ≤ left
    · rw [if_neg (nI_nlt c (by omega)), zg_cut c]
      exact ⟨hb, ht, hy, fun z => absurd z (nI_nlt c (by omega)), fun _ => trivial⟩
    · rw [if_pos (nI_lt (by omega) (by omega)), if_neg hne, hcl, ht a ha16]
      obtain ⟨p1, -⟩ := zg_pred (hA a ha16).1
      by_cases cm : mt a = true
      · have hA5 := ((hA a ha16).2.1 cm).2 (Nat.le_refl _)
        have n1 : ¬ nI (A a) - 1 = -1 := fun z => by
          have := p1.mp z
          omega
        rw [if_neg n1, zg_s, if_neg c, if_pos cm]
        -- the stages
        have hstep : ∀ s (x : rj_M) (y : Nat × (Nat → Nat)), 0 ≤ s → s < 0 + 4 → (zq_bst x M0 y ∧ y.1 ≤ st.1 ∧ (∀ k, k < 16 → k ≠ a → x.1 436 k = nI (A k) - 1) ∧ zq_stay r x) → qX12_triesPlans_57 n (mX12_triesPlans n) (qX12_triesPlans n) mem (nI a) (nI left) s x ∧ (zq_bst (bX12_triesPlans_57 n (mX12_triesPlans n) mem (nI a) (nI left) s x) M0 (if zg_can S A a s = true then zg S mt rr (a + 1) (zg_up A a (s + 1)) left y else y) ∧ (if zg_can S A a s = true then zg S mt rr (a + 1) (zg_up A a (s + 1)) left y else y).1 ≤ st.1 ∧ (∀ k, k < 16 → k ≠ a → (bX12_triesPlans_57 n (mX12_triesPlans n) mem (nI a) (nI left) s x).1 436 k = nI (A k) - 1) ∧ zq_stay r (bX12_triesPlans_57 n (mX12_triesPlans n) mem (nI a) (nI left) s x)) := fun s x y _ hs4 ⟨x1, x2, x3, x4⟩ => by
          have hrx : zr_row (x.1 396) S B := by rw [x4.1 396 (by decide) (by decide) (by decide)]; exact hr
          have hcg := zq_canGo hrx ok og ha16 (show s < 4 by omega) (fun k hk => (hA k hk).1) x3
          unfold qX12_triesPlans_57 bX12_triesPlans_57
          rw [hcg, hcl, nI_1]
          by_cases cc : zg_can S A a s = true
          · rw [if_pos cc, if_neg (by decide), if_pos cc]
            have ih := zq_plans hr ok og (mt := mt) (M0 := M0) rr n (a + 1) (zg_up A a (s + 1)) left y (rj_pi x 436 a (nI s)) (by omega) (by omega) (by omega) (by omega) (by omega) (zg_A_up hA cm (by omega) (by omega)) (fun k hk => by
              by_cases e : k = a
              · rw [e, zm_pi_eq, zg_up_eq, nI_pred]
              · rw [zm_pi_ne2 e, zg_up_ne e]
                exact x3 k hk e) ⟨by rw [zm_pi_ne (by decide)]; exact x1.1, fun z k hk => by rw [zm_pi_ne (by decide)]; exact x1.2 z k hk⟩ ⟨fun k h1 h2 h3 => (zm_pi_ne h2).trans (x4.1 k h1 h2 h3), fun i hi => by rw [zm_pi_ne (by decide)]; exact x4.2.1 i hi, x4.2.2⟩
            obtain ⟨i1, i2, i3, i4⟩ := ih
            exact ⟨⟨fun z => absurd z (by decide), fun _ => ⟨i4, trivial⟩⟩, i1, Nat.le_trans (zg_le rr (a + 1) _ left y).1 x2, fun k hk e => by rw [i2 k hk, zg_up_ne e], i3⟩
          · rw [if_neg cc, if_pos rfl, if_neg cc]
            exact ⟨⟨fun _ => trivial, fun z => absurd rfl z⟩, x1, x2, x3, x4⟩
        have h0 : zq_bst mem M0 st ∧ st.1 ≤ st.1 ∧ (∀ k, k < 16 → k ≠ a → mem.1 436 k = nI (A k) - 1) ∧ zq_stay r mem := ⟨hb, Nat.le_refl _, fun k hk _ => ht k hk, hy⟩
        have hloop := zf_rel (f := bX12_triesPlans_57 n (mX12_triesPlans n) mem (nI a) (nI left)) (g := fun s st => if zg_can S A a s = true then zg S mt rr (a + 1) (zg_up A a (s + 1)) left st else st) (fun _ x y => zq_bst x M0 y ∧ y.1 ≤ st.1 ∧ (∀ k, k < 16 → k ≠ a → x.1 436 k = nI (A k) - 1) ∧ zq_stay r x) 4 0 mem st h0 (fun s x y h1 h2 hxy => (hstep s x y h1 h2 hxy).2)
        have hloopq := zf_q (q := qX12_triesPlans_57 n (mX12_triesPlans n) (qX12_triesPlans n) mem (nI a) (nI left)) (f := bX12_triesPlans_57 n (mX12_triesPlans n) mem (nI a) (nI left)) (fun _ x => ∃ y, zq_bst x M0 y ∧ y.1 ≤ st.1 ∧ (∀ k, k < 16 → k ≠ a → x.1 436 k = nI (A k) - 1) ∧ zq_stay r x) 4 0 mem ⟨st, h0⟩ (fun s x h1 h2 ⟨y, hy⟩ => ⟨(hstep s x y h1 h2 hy).1, _, (hstep s x y h1 h2 hy).2⟩)
        generalize rj_fo (fun s st => if zg_can S A a s = true then zg S mt rr (a + 1) (zg_up A a (s + 1)) left st else st) 4 0 st = y at hloop ⊢
        generalize rj_fo (bX12_triesPlans_57 n (mX12_triesPlans n) mem (nI a) (nI left)) 4 0 mem = x5 at hloop ⊢
        obtain ⟨l1, l2, l3, l4⟩ := hloop
        rw [nI_1, nI_1]
        have ih := zq_plans hr ok og (mt := mt) (M0 := M0) rr n (a + 1) (zg_up A a 5) (left + 1) y (rj_pi x5 436 a 4) (by omega) (by omega) (by omega) (by omega) (by omega) (zg_A_up hA cm (by decide) (by decide)) (fun k hk => by
          by_cases e : k = a
          · rw [e, zm_pi_eq, zg_up_eq]
            rfl
          · rw [zm_pi_ne2 e, zg_up_ne e]
            exact l3 k hk e) ⟨by rw [zm_pi_ne (by decide)]; exact l1.1, fun z k hk => by rw [zm_pi_ne (by decide)]; exact l1.2 z k hk⟩ ⟨fun k h1 h2 h3 => (zm_pi_ne h2).trans (l4.1 k h1 h2 h3), fun i hi => by rw [zm_pi_ne (by decide)]; exact l4.2.1 i hi, l4.2.2⟩
        obtain ⟨i1, i2, i3, i4⟩ := ih
        refine ⟨i1, fun k hk => ?_, i3, fun _ => ⟨fun z => absurd z hne, fun _ => ⟨fun z => absurd z n1, fun _ => ⟨fun _ => ra_fo_i hloopq, i4, trivial⟩⟩⟩, fun z => absurd (nI_lt (by omega) (by omega)) z⟩
        rw [i2 k hk]
        by_cases e : k = a
        · rw [e, zg_up_eq, hA5]
        · rw [zg_up_ne e]
      · have cm' : mt a = false := by simpa using cm
        have hA0 := (hA a ha16).2.2 cm'
        rw [if_pos (p1.mpr hA0), zg_skip cm', nI_1]
        have ih := zq_plans hr ok og (mt := mt) (M0 := M0) rr n (a + 1) A left st mem (by omega) (by omega) (by omega) hs hM (zg_A_s hA) ht hb hy
        obtain ⟨i1, i2, i3, i4⟩ := ih
        exact ⟨i1, i2, i3, fun _ => ⟨fun z => absurd z hne, fun _ => ⟨fun _ => ⟨i4, trivial⟩, fun z => absurd (p1.mpr hA0) z⟩⟩, fun z => absurd (nI_lt (by omega) (by omega)) z⟩
end zqRain
