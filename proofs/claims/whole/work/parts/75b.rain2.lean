/-! RAIN, the class's side -/
section zcRain
variable {S : Nat → Nat}
theorem zc_air {c : rj_M} (h : zr_grnd c 1 S) (og : zo_grnd S) {s : Nat} (hs : s < 4) : fX4_isInOpenAir c (nI s) = if S (3 + s) = 1 then 1 else 0 := by
  have hop := og.1 s hs
  have h4 : c.1 4 s = nI (S (3 + s)) := h.1 s hs
  unfold fX4_isInOpenAir
  rw [if_neg (nI_pos (by omega)), if_neg (show ¬ 4 ≤ nI s from nI_ge (b := 4) hs (by decide)), nI_clamp (n := s) (by omega), h4]
  rcases (show S (3 + s) = 0 ∨ S (3 + s) = 1 by omega) with e | e <;> rw [e] <;> decide
theorem zc_isMet {c : rj_M} (hp : zr_prog c 1 S) (hg : zr_grnd c 1 S) (ok : zo_prog S) (og : zo_grnd S) {f t : Nat} (hf : f < 5760) (ht : t ≤ 5760) {a : Nat} (ha : a < 16) : fX9_isMet c (nI a) (nI f) (nI t) = if zg_met S f t a = true then 1 else 0 := by
  obtain ⟨-, a1, a2, a3, -⟩ := ok.1 a ha
  unfold fX9_isMet zg_met
  rcases zc_has hp ok ha with ⟨e, e2⟩ | ⟨e, e2⟩
  · have hon : fX7_isOnIn c (nI a) (nI f) (nI t) = if S (25 + 6 * a) < t ∧ f < S (25 + 6 * a) + S (26 + 6 * a) then 1 else 0 := by
      have he := zc_endOf hp ok ha
      rw [if_pos e] at he
      unfold fX7_isOnIn
      rw [e2, if_neg (by decide), nI_clamp (n := a) (by omega), zc_begin hp ha, he]
      by_cases c2 : S (25 + 6 * a) < t
      · rw [if_neg (nI_ge c2 (by omega))]
        by_cases c3 : f < S (25 + 6 * a) + S (26 + 6 * a)
        · rw [if_neg (nI_ge c3 (by omega)), if_pos ⟨c2, c3⟩]
        · rw [if_pos (nI_le (by omega) (by omega)), if_neg (fun z => c3 z.2)]
      · rw [if_pos (nI_le (by omega) (by omega)), if_neg (fun z => c2 z.1)]
    rw [hon, zc_stage1 hp ok ha e, zc_air hg og a1]
    by_cases c2 : S (25 + 6 * a) < t ∧ f < S (25 + 6 * a) + S (26 + 6 * a)
    · rw [if_pos c2, if_neg (by decide)]
      by_cases c3 : S (3 + S (24 + 6 * a)) = 1
      · rw [if_pos c3, if_neg (by decide), if_pos (zz_t.mpr ⟨e, c2.1, c2.2, c3⟩)]
      · rw [if_neg c3, if_pos rfl, if_neg (fun z => c3 (zz_t.mp z).2.2.2)]
    · rw [if_neg c2, if_pos rfl, if_neg (fun z => c2 ⟨(zz_t.mp z).2.1, (zz_t.mp z).2.2.1⟩)]
  · have hon : fX7_isOnIn c (nI a) (nI f) (nI t) = 0 := by
      unfold fX7_isOnIn
      rw [e2]
      exact if_pos rfl
    rw [hon, if_pos rfl, if_neg (fun z => e (zz_t.mp z).1)]
/-- the acts that are met, in their order -/
noncomputable def zg_l (mt : Nat → Bool) : List Nat := (List.range 16).filter mt
theorem zg_l_at {mt : Nat → Bool} {i a : Nat} (h : (zg_l mt)[i]? = some a) : a < 16 ∧ mt a = true := by
  have h1 := List.mem_filter.mp (List.mem_of_getElem? h)
  exact ⟨List.mem_range.mp h1.1, h1.2⟩
theorem zg_l_sorted {mt : Nat → Bool} : (zg_l mt).Pairwise (· < ·) := List.Pairwise.filter _ List.pairwise_lt_range
theorem zg_l_lt {mt : Nat → Bool} {i j a b : Nat} (hij : i < j) (hi : (zg_l mt)[i]? = some a) (hj : (zg_l mt)[j]? = some b) : a < b := by
  have h1 := (List.getElem?_eq_some_iff.mp hi)
  have h2 := (List.getElem?_eq_some_iff.mp hj)
  obtain ⟨h1, e1⟩ := h1
  obtain ⟨h2, e2⟩ := h2
  rw [← e1, ← e2]
  exact List.pairwise_iff_getElem.mp zg_l_sorted i j h1 h2 hij
/-- the class in the midst of its search: L the acts met, p of them tried by A -/
def zc_rn (mem : rj_M) (S : Nat → Nat) (mt : Nat → Bool) : Prop := zr_prog mem 1 S ∧ zr_grnd mem 1 S ∧ mem.1 47 5 = nI (zg_l mt).length ∧ (∀ i a, (zg_l mt)[i]? = some a → mem.1 49 i = nI a)
def zc_bst (mem : rj_M) (mt : Nat → Bool) (M0 : Nat) (st : Nat × (Nat → Nat)) : Prop := mem.1 47 7 = nI st.1 ∧ (st.1 < M0 → ∀ k, k < 16 → mem.1 48 k = nI (st.2 k) - 1) ∧ ∀ k, k < 16 → mt k = false → mem.1 48 k = -1
def zc_stay (c mem : rj_M) : Prop := (∀ k, k ≠ 47 → k ≠ 48 → k ≠ 50 → mem.1 k = c.1 k) ∧ (∀ i, i ≠ 7 → mem.1 47 i = c.1 47 i) ∧ mem.2 = c.2
theorem zc_rn_of {c mem : rj_M} {mt : Nat → Bool} (h : zc_rn c S mt) (hs : zc_stay c mem) : zc_rn mem S mt := ⟨zr_prog_of h.1 (fun k h1 h2 => hs.1 k (by omega) (by omega) (by omega)), zr_grnd_of h.2.1 (fun k h1 h2 => hs.1 k (by omega) (by omega) (by omega)), (hs.2.1 5 (by decide)).trans h.2.2.1, fun i a hi => by rw [hs.1 49 (by decide) (by decide) (by decide)]; exact h.2.2.2 i a hi⟩
theorem zc_hasRoom {mem : rj_M} {mt : Nat → Bool} {A : Nat → Nat} {f t p a s : Nat} (h : zc_rn mem S mt) (hmt : ∀ k, k < 16 → mt k = zg_met S f t k) (ok : zo_prog S) (og : zo_grnd S) (hl : (zg_l mt).length ≤ 6) (hp : (zg_l mt)[p]? = some a) (hs : s < 4) (hA : ∀ k, k < 16 → A k ≤ 5 ∧ (mt k = true → A k ≠ 0) ∧ (mt k = false → A k = 0)) (ht : ∀ i x, i < p → (zg_l mt)[i]? = some x → mem.1 50 i = nI (A x) - 1) : fX9_hasRoom mem (nI s) (nI p) = if zg_can S A a s = true then 1 else 0 := by
  have ha := zg_l_at hp
  have hpl := (List.getElem?_eq_some_iff.mp hp).1
  have hma := zz_t.mp ((hmt a ha.1).symm.trans ha.2)
  have hoth : ∀ k, k < 16 → mt k = true → S (3 + S (24 + 6 * k)) = 1 ∧ zp_has S k := fun k hk hm => by
    have := zz_t.mp ((hmt k hk).symm.trans hm)
    exact ⟨this.2.2.2, this.1⟩
  have e49 : mem.1 49 (nI p).toNatClampNeg = nI a := by
    rw [nI_clamp (n := p) (by omega)]
    exact h.2.2.2 p a hp
  unfold fX9_hasRoom zg_can
  rw [zc_air h.2.1 og hs]
  by_cases c0 : S (3 + s) = 1
  · rw [if_pos c0, if_neg (by decide), if_neg (fun z => (zz_t.mp z).1 c0)]
  · rw [if_neg c0, if_pos rfl, if_neg (nI_pos (by omega)), if_pos (show nI p < 6 from nI_lt (b := 6) (by omega) (by decide)), zn_toN (by omega)]
    -- those that stand on the stage
    have r1 := zx_find (f := bX9_hasRoom_25 mem (nI s) (nI p)) (fun k => zp_has S k ∧ S (24 + 6 * k) = s ∧ zp_meet S a k) (fun _ => ()) 16 0 (fun k _ hk => by
      have hk16 : k < 16 := by omega
      have hst := (ok.1 k hk16).2.1
      unfold bX9_hasRoom_25
      rw [e49]
      by_cases e : zp_has S k
      · rw [zc_stage1 h.1 ok hk16 e]
        by_cases c1 : S (24 + 6 * k) = s
        · rw [if_pos (by rw [c1])]
          rcases zc_meet h.1 ok ha.1 hk16 with ⟨g, g2⟩ | ⟨g, g2⟩
          · rw [g2, if_neg (by decide)]
            exact .inl ⟨⟨e, c1, g.2.2⟩, rfl⟩
          · rw [g2, if_pos rfl]
            exact .inr ⟨fun z => g ⟨hma.1, z.1, z.2.2⟩, rfl⟩
        · rw [if_neg (fun z => c1 ((nI_eq (by omega) (by omega)).mp z))]
          exact .inr ⟨fun z => c1 z.2.1, rfl⟩
      · rw [zc_stage0 h.1 ok hk16 e, if_neg (fun z => by
          have h1 : ¬ nI s < 0 := nI_pos (by omega)
          rw [← z] at h1
          exact absurd (by decide) h1)]
        exact .inr ⟨fun z => e z.1, rfl⟩)
    have r2 := zx_find (f := bX9_hasRoom_70 mem (nI s) (nI p)) (fun i => ∃ x, (zg_l mt)[i]? = some x ∧ A x = s + 1 ∧ zp_meet S a x) (fun _ => ()) p 0 (fun i _ hi => by
      have hil : i < (zg_l mt).length := by omega
      have hx := List.getElem?_eq_getElem hil
      have hxm := zg_l_at hx
      have hxo := hoth _ hxm.1 hxm.2
      obtain ⟨-, p2⟩ := zg_pred (hA _ hxm.1).1
      have ei : (nI i).toNatClampNeg = i := nI_clamp (by omega)
      unfold bX9_hasRoom_70
      rw [e49, ei, ht i _ (by omega) hx, h.2.2.2 i _ hx]
      by_cases c1 : A (zg_l mt)[i] = s + 1
      · rw [if_pos ((p2 s (by omega)).mpr c1)]
        rcases zc_meet h.1 ok ha.1 hxm.1 with ⟨g, g2⟩ | ⟨g, g2⟩
        · rw [g2, if_neg (by decide)]
          exact .inl ⟨⟨_, hx, c1, g.2.2⟩, rfl⟩
        · rw [g2, if_pos rfl]
          refine .inr ⟨fun ⟨x, x1, x2, x3⟩ => ?_, rfl⟩
          rw [hx] at x1
          cases x1
          exact g ⟨hma.1, hxo.2, x3⟩
      · rw [if_neg (fun z => c1 ((p2 s (by omega)).mp z))]
        refine .inr ⟨fun ⟨x, x1, x2, x3⟩ => ?_, rfl⟩
        rw [hx] at x1
        cases x1
        exact c1 x2)
    have hex : zg_Can S A a s ↔ (∀ k, k < 16 → ¬ (zp_has S k ∧ S (24 + 6 * k) = s ∧ zp_meet S a k)) ∧ ∀ i, i < p → ¬ ∃ x, (zg_l mt)[i]? = some x ∧ A x = s + 1 ∧ zp_meet S a x := by
      constructor
      · rintro ⟨-, z⟩
        refine ⟨fun k hk ⟨k1, k2, k3⟩ => ?_, fun i hi ⟨x, x1, x2, x3⟩ => ?_⟩
        · have hka : k ≠ a := fun e => by
            subst e
            rw [k2] at hma
            exact c0 hma.2.2.2
          have hmk : mt k = false := by
            rcases hm : mt k with _ | _
            · rfl
            · have := (hoth k hk hm).1
              rw [k2] at this
              exact absurd this c0
          exact z k hk hka k1 (zp_meet_sym.mp k3) (.inl ⟨(hA k hk).2.2 hmk, k2⟩)
        · have hx := zg_l_at x1
          have hxo := hoth x hx.1 hx.2
          have hlt := zg_l_lt hi x1 hp
          exact z x hx.1 (by omega) hxo.2 (zp_meet_sym.mp x3) (.inr ⟨by omega, hlt, x2⟩)
      · rintro ⟨z1, z2⟩
        refine ⟨c0, fun k hk hka k1 k2 k3 => ?_⟩
        rcases k3 with ⟨y1, y2⟩ | ⟨y1, y2, y3⟩
        · exact z1 k hk ⟨k1, y2, zp_meet_sym.mp k2⟩
        · have hmk : mt k = true := by
            rcases hm : mt k with _ | _
            · exact absurd ((hA k hk).2.2 hm) y1
            · rfl
          have hmem : k ∈ zg_l mt := List.mem_filter.mpr ⟨List.mem_range.mpr hk, hmk⟩
          obtain ⟨i, hi⟩ := List.getElem?_of_mem hmem
          have hip : i < p := by
            rcases Nat.lt_or_ge i p with y | y
            · exact y
            · rcases Nat.lt_or_ge p i with y' | y'
              · have := zg_l_lt y' hp hi
                omega
              · have e : i = p := by omega
                subst e
                rw [hp] at hi
                exact absurd (Option.some.inj hi).symm hka
          exact z2 i hip ⟨k, hi, y3, zp_meet_sym.mp k2⟩
    rcases r1 with ⟨k, k1, k2, k3, k4, k5⟩ | ⟨k1, k2⟩
    · rw [k5, if_neg (fun z => (hex.mp (zz_t.mp z)).1 k (by omega) k3)]
      rfl
    · rcases r2 with ⟨i, i1, i2, i3, i4, i5⟩ | ⟨i1, i2⟩
      · rw [k2, i5, if_neg (fun z => (hex.mp (zz_t.mp z)).2 i (by omega) i3)]
        rfl
      · rw [k2, i2, if_pos (zz_t.mpr (hex.mpr ⟨fun k hk => k1 k (Nat.zero_le _) (by omega), fun i hi => i1 i (Nat.zero_le _) (by omega)⟩))]
        rfl
/-- the goals of the tried are kept -/
theorem zc_keepTried {c mem : rj_M} {mt : Nat → Bool} {A : Nat → Nat} {left M0 : Nat} {st : Nat × (Nat → Nat)} (h : zc_rn c S mt) (hl : (zg_l mt).length ≤ 6) (hA : zg_A mt 16 A) (ht : ∀ i x, (zg_l mt)[i]? = some x → mem.1 50 i = nI (A x) - 1) (hb : zc_bst mem mt M0 st) (hy : zc_stay c mem) : zc_bst (mX9_keepTried mem (nI left)) mt M0 (left, A) ∧ zc_stay c (mX9_keepTried mem (nI left)) ∧ ∀ i, (mX9_keepTried mem (nI left)).1 50 i = mem.1 50 i := by
  have h5 : ∀ t : rj_M, (∀ k, k ≠ 48 → t.1 k = (rj_pi mem 47 7 (nI left)).1 k) → t.1 47 5 = nI (zg_l mt).length := fun t ht' => by
    rw [ht' 47 (by decide), zm_pi_ne2 (by decide), hy.2.1 5 (by decide)]
    exact h.2.2.1
  have hm48 : ∀ t : rj_M, (∀ k, k ≠ 48 → t.1 k = (rj_pi mem 47 7 (nI left)).1 k) → ∀ i x, (zg_l mt)[i]? = some x → t.1 49 i = nI x ∧ t.1 50 i = nI (A x) - 1 := fun t ht' i x hi => by
    rw [ht' 49 (by decide), ht' 50 (by decide), zm_pi_ne (by decide), zm_pi_ne (by decide), hy.1 49 (by decide) (by decide) (by decide)]
    exact ⟨h.2.2.2 i x hi, ht i x hi⟩
  have hz := zb_inv (f := bX9_keepTried_7 mem (nI left)) (fun j t => (∀ k, k ≠ 48 → t.1 k = (rj_pi mem 47 7 (nI left)).1 k) ∧ t.2 = mem.2 ∧ (∀ i x, i < j → (zg_l mt)[i]? = some x → t.1 48 x = nI (A x) - 1) ∧ ∀ k, k < 16 → mt k = false → t.1 48 k = -1) (fun t => (∀ k, k ≠ 48 → t.1 k = (rj_pi mem 47 7 (nI left)).1 k) ∧ t.2 = mem.2 ∧ (∀ i x, (zg_l mt)[i]? = some x → t.1 48 x = nI (A x) - 1) ∧ ∀ k, k < 16 → mt k = false → t.1 48 k = -1) 6 0 (rj_pi mem 47 7 (nI left)) ⟨fun _ _ => rfl, rfl, fun i x hi => absurd hi (Nat.not_lt_zero _), fun k hk hm => by rw [zm_pi_ne (by decide)]; exact hb.2.2 k hk hm⟩ (fun j t _ hj ⟨t1, t2, t3, t4⟩ => by
    have e5 := h5 t t1
    unfold bX9_keepTried_7
    rw [e5]
    by_cases c1 : (zg_l mt).length ≤ j
    · rw [if_pos (nI_le c1 (by omega))]
      refine ⟨fun z hz => (by cases hz), fun w hw => ?_⟩
      cases hw
      exact ⟨t1, t2, fun i x hi => t3 i x (by have := (List.getElem?_eq_some_iff.mp hi).1; omega) hi, t4⟩
    · have hjl : j < (zg_l mt).length := by omega
      have hx := List.getElem?_eq_getElem hjl
      have hxm := zg_l_at hx
      obtain ⟨g1, g2⟩ := hm48 t t1 j _ hx
      rw [if_neg (nI_ge hjl (by omega)), nI_clamp (n := j) (by omega), g1, g2, (zm_rep (μ := t) (k := 48) (n := 16) (v := nI (A (zg_l mt)[j]) - 1) (j := (zg_l mt)[j]) rfl hxm.1 (by decide)).1]
      refine ⟨fun z hz => ?_, fun w hw => by cases hw⟩
      cases hz
      refine ⟨fun k hk => (zm_pi_ne hk).trans (t1 k hk), t2, fun i x hi hix => ?_, fun k hk hm => ?_⟩
      · by_cases e : x = (zg_l mt)[j]
        · rw [e, zm_pi_eq]
        · rw [zm_pi_ne2 e]
          by_cases e2 : i = j
          · subst e2
            rw [hx] at hix
            exact absurd (Option.some.inj hix).symm e
          · exact t3 i x (by omega) hix
      · rw [zm_pi_ne2 (fun e => by rw [e, hxm.2] at hm; cases hm)]
        exact t4 k hk hm) (fun t ⟨t1, t2, t3, t4⟩ => ⟨t1, t2, fun i x hi => t3 i x (by have := (List.getElem?_eq_some_iff.mp hi).1; omega) hi, t4⟩)
  obtain ⟨z1, z2, z3, z4⟩ := hz
  have hk : mX9_keepTried mem (nI left) = (rj_br (bX9_keepTried_7 mem (nI left)) 6 0 (rj_pi mem 47 7 (nI left))).2 := rfl
  rw [hk]
  generalize (rj_br (bX9_keepTried_7 mem (nI left)) 6 0 (rj_pi mem 47 7 (nI left))).2 = t at z1 z2 z3 z4 ⊢
  refine ⟨⟨by rw [z1 47 (by decide), zm_pi_eq], fun _ k hk => ?_, z4⟩, ⟨fun k h1 h2 h3 => by rw [z1 k h2, zm_pi_ne h1]; exact hy.1 k h1 h2 h3, fun i hi => by rw [z1 47 (by decide), zm_pi_ne2 hi]; exact hy.2.1 i hi, z2.trans hy.2.2⟩, fun i => by rw [z1 50 (by decide), zm_pi_ne (by decide)]⟩
  rcases hm : mt k with _ | _
  · rw [z4 k hk hm]
    show -1 = nI (A k) - 1
    rw [(hA k hk).2.2 hm]
    rfl
  · have hmem : k ∈ zg_l mt := List.mem_filter.mpr ⟨List.mem_range.mpr hk, hm⟩
    obtain ⟨i, hi⟩ := List.getElem?_of_mem hmem
    exact z3 i k hi
end zcRain
