/-! LINEUPS: both sides come to zl_best -/
theorem zr_prog_of {c t : rj_M} {b : Nat} {S : Nat → Nat} (h : zr_prog c b S) (e : ∀ k, b + 8 ≤ k → k ≤ b + 13 → t.1 k = c.1 k) : zr_prog t b S := by
  have e8 := e (b + 8) (by omega) (by omega)
  have e9 := e (b + 9) (by omega) (by omega)
  have e10 := e (b + 10) (by omega) (by omega)
  have e11 := e (b + 11) (by omega) (by omega)
  have e12 := e (b + 12) (by omega) (by omega)
  have e13 := e (b + 13) (by omega) (by omega)
  unfold zr_prog
  rw [e8, e9, e10, e11, e12, e13]
  exact h
theorem zb_of_s {p : Nat → Bool} {n : Nat} : zb_of p (n + 1) = if p n = true then zb_of p n + 2 ^ n else zb_of p n := by
  unfold zb_of
  rw [zf_last n 0 0, Nat.zero_add]
theorem zb_of_0 {p : Nat → Bool} : zb_of p 0 = 0 := rfl
noncomputable def zp_el (S : Nat → Nat) (a : Nat) : Bool := zz (zp_has S a)
noncomputable def zp_els (S : Nat → Nat) (st a : Nat) : Bool := zz (zp_has S a ∧ S (24 + 6 * a) = st)
noncomputable def zp_cl (S : Nat → Nat) (a b : Nat) : Bool := zz (zp_clash S a b)
noncomputable def zp_me (S : Nat → Nat) (a b : Nat) : Bool := zz (zp_meet S a b)
def zp_p (S : Nat → Nat) (a : Nat) : Nat := if a < 16 then zp_pl S a else 0
theorem zp_p_le {S : Nat → Nat} (ok : zo_prog S) (a : Nat) : zp_p S a ≤ 108 := by
  unfold zp_p
  by_cases h : a < 16
  · rw [if_pos h]
    exact zp_pl_le ok h
  · rw [if_neg h]
    exact Nat.zero_le _
noncomputable def zp_foe (S : Nat → Nat) (a : Nat) : Nat := zb_of (fun i => zz (i ≠ a ∧ zp_has S a ∧ zp_has S i ∧ zp_clash S a i)) 16
/-- who clashes with whom, how much each act pleases -/
theorem zc_look {c : rj_M} {S : Nat → Nat} (h : zr_prog c 1 S) (ok : zo_prog S) : (∀ k, k ≠ 15 → k ≠ 16 → (mX7_lookAtAll c).1 k = c.1 k) ∧ (mX7_lookAtAll c).2 = c.2 ∧ ∀ a, a < 16 → (mX7_lookAtAll c).1 15 a = nI (zp_foe S a) ∧ (mX7_lookAtAll c).1 16 a = nI (zp_p S a) := by
  unfold mX7_lookAtAll
  have hz := zf_inv (f := bX7_lookAtAll_2 c) (fun j s => (∀ k, k ≠ 15 → k ≠ 16 → s.1 k = c.1 k) ∧ s.2 = c.2 ∧ ∀ a, a < j → s.1 15 a = nI (zp_foe S a) ∧ s.1 16 a = nI (zp_p S a)) 16 0 c ⟨fun _ _ _ => rfl, rfl, fun a ha => absurd ha (Nat.not_lt_zero _)⟩ (fun j s _ hj hs => by
    obtain ⟨h1, h2, h3⟩ := hs
    have hj16 : j < 16 := by omega
    have hps : zr_prog s 1 S := zr_prog_of h (fun k a1 a2 => h1 k (by omega) (by omega))
    have hc : (nI j).toNatClampNeg = j := nI_clamp (by omega)
    unfold bX7_lookAtAll_2
    rw [hc, zc_pl hps ok hj16]
    have hi := zf_inv (f := bX7_lookAtAll_28 c j s) (fun i t => (∀ k, k ≠ 15 → k ≠ 16 → t.1 k = c.1 k) ∧ t.2 = c.2 ∧ (∀ a, a ≠ j → t.1 15 a = s.1 15 a ∧ t.1 16 a = s.1 16 a) ∧ t.1 16 j = nI (zp_p S j) ∧ t.1 15 j = nI (zb_of (fun i => zz (i ≠ j ∧ zp_has S j ∧ zp_has S i ∧ zp_clash S j i)) i)) 16 0 (rj_pi (rj_pi s 16 j (nI (zp_pl S j))) 15 j 0) ⟨fun k a1 a2 => by rw [zm_pi_ne a1, zm_pi_ne a2]; exact h1 k a1 a2, h2, fun a ha => ⟨by rw [zm_pi_ne2 ha, zm_pi_ne (by decide)], by rw [zm_pi_ne (by decide), zm_pi_ne2 ha]⟩, by rw [zm_pi_ne (by decide), zm_pi_eq]; unfold zp_p; rw [if_pos hj16], by rw [zm_pi_eq]; rfl⟩ (fun i t _ hi ht => by
      obtain ⟨g1, g2, g3, g4, g5⟩ := ht
      have hi16 : i < 16 := by omega
      have hpt : zr_prog t 1 S := zr_prog_of h (fun k a1 a2 => g1 k (by omega) (by omega))
      unfold bX7_lookAtAll_28
      rw [hc, zb_of_s]
      by_cases e : i = j
      · subst e
        rw [if_pos rfl, if_neg (fun z => (zz_t.mp z).1 rfl)]
        exact ⟨g1, g2, g3, g4, g5⟩
      · rw [if_neg (fun z => e ((nI_eq (by omega) (by omega)).mp z))]
        rcases zc_foes hpt ok hj16 hi16 with ⟨f1, f2⟩ | ⟨f1, f2⟩
        · rw [f2, if_neg (by decide), if_pos (zz_t.mpr ⟨e, f1⟩), g5, zn_set zb_of_at.1 (by omega)]
          exact ⟨fun k a1 a2 => by rw [zm_pi_ne a1]; exact g1 k a1 a2, g2, fun a ha => ⟨by rw [zm_pi_ne2 ha]; exact (g3 a ha).1, by rw [zm_pi_ne (by decide)]; exact (g3 a ha).2⟩, by rw [zm_pi_ne (by decide)]; exact g4, by rw [zm_pi_eq]⟩
        · rw [f2, if_pos rfl, if_neg (fun z => f1 (zz_t.mp z).2)]
          exact ⟨g1, g2, g3, g4, g5⟩)
    rw [Nat.zero_add] at hi
    obtain ⟨g1, g2, g3, g4, g5⟩ := hi
    refine ⟨g1, g2, fun a ha => ?_⟩
    by_cases e : a = j
    · subst e
      exact ⟨g5, g4⟩
    · rw [(g3 a e).1, (g3 a e).2]
      exact h3 a (by omega))
  rw [Nat.zero_add] at hz
  exact hz
theorem zc_numbers {c : rj_M} {S : Nat → Nat} (h : zr_prog c 1 S) (ok : zo_prog S) : fX7_numbers c = nI (zb_of (zp_el S) 16) := by
  unfold fX7_numbers
  have hz := zf_inv (f := bX7_numbers_4 c) (fun j s => s = nI (zb_of (zp_el S) j)) 16 0 (0 : Int32) rfl (fun j s _ hj hs => by
    unfold bX7_numbers_4
    rw [zb_of_s, hs]
    rcases zc_has h ok (a := j) (by omega) with ⟨e, e2⟩ | ⟨e, e2⟩
    · rw [e2, if_neg (by decide), if_pos (show zp_el S j = true from zz_t.mpr e), zn_set zb_of_at.1 (by omega)]
    · rw [e2, if_pos rfl, if_neg (show ¬ zp_el S j = true from fun z => e (zz_t.mp z))])
  exact hz
theorem zc_numbersOn {c : rj_M} {S : Nat → Nat} (h : zr_prog c 1 S) (ok : zo_prog S) {st : Nat} (hst : st < 4) : fX7_numbersOn c (nI st) = nI (zb_of (zp_els S st) 16) := by
  unfold fX7_numbersOn
  have hz := zf_inv (f := bX7_numbersOn_4 c (nI st)) (fun j s => s = nI (zb_of (zp_els S st) j)) 16 0 (0 : Int32) rfl (fun j s _ hj hs => by
    have hj16 : j < 16 := by omega
    have hs4 := (ok.1 j hj16).2.1
    unfold bX7_numbersOn_4
    rw [zb_of_s, hs]
    by_cases e : zp_has S j
    · rw [zc_stage1 h ok hj16 e]
      by_cases e2 : S (24 + 6 * j) = st
      · rw [if_pos (by rw [e2]), if_pos (show zp_els S st j = true from zz_t.mpr ⟨e, e2⟩), zn_set zb_of_at.1 (by omega)]
      · rw [if_neg (fun z => e2 ((nI_eq (by omega) (by omega)).mp z)), if_neg (show ¬ zp_els S st j = true from fun z => e2 (zz_t.mp z).2)]
    · rw [zc_stage0 h ok hj16 e, if_neg (fun z => by have := nI_pos (n := st) (by omega); rw [← z] at this; exact this (by decide)), if_neg (show ¬ zp_els S st j = true from fun z => e (zz_t.mp z).1)])
  exact hz
theorem zp_foe_lt {S : Nat → Nat} {a : Nat} : zp_foe S a < 2 ^ 16 := zb_of_at.1
/-- the class's best lineup -/
theorem zc_lineup {c : rj_M} {S : Nat → Nat} (h : zr_prog c 1 S) (ok : zo_prog S) : fX7_lineup c = nI (zl_best (zp_el S) (zp_cl S) (zp_p S) 16 0 0).2 ∧ qX7_lineup c := by
  obtain ⟨k1, k2, k3⟩ := zc_look h ok
  have hp : zr_prog (mX7_lookAtAll c) 1 S := zr_prog_of h (fun k a1 a2 => k1 k (by omega) (by omega))
  have hl := zl_c (c := mX7_lookAtAll c) (foe := zp_foe S) (p := zp_p S) (fun a ha => ⟨(k3 a ha).1, zp_foe_lt⟩) (fun a ha => (k3 a ha).2) (zp_p_le ok) 16 17 0 (zb_of (zp_el S) 16) rfl (by decide) zb_of_at.1
  have hb := zl_left_best (el := zp_el S) (cl := zp_cl S) (p := zp_p S) (foe := zp_foe S) (N := 16) (by decide) (fun k i hk hi e1 e2 => by
    unfold zp_foe zp_cl
    rw [zb_of_at.2 i, decide_eq_true hi, Bool.true_and]
    have a1 := zz_t.mp e1
    have a2 := zz_t.mp e2
    by_cases c1 : zp_clash S k i
    · rw [zz_t.mpr c1, Bool.true_and]
      by_cases c2 : i = k
      · rw [decide_eq_false (fun z => z c2), zz_f.mpr (fun z => z.1 c2)]
      · rw [decide_eq_true c2, zz_t.mpr ⟨c2, a1, a2, c1⟩]
    · rw [zz_f.mpr c1, Bool.false_and, zz_f.mpr (fun z => c1 z.2.2.2)]) (fun i k _ _ => by
    unfold zp_cl
    by_cases c1 : zp_clash S i k
    · rw [zz_t.mpr c1, zz_t.mpr (zp_clash_sym.mp c1)]
    · rw [zz_f.mpr c1, zz_f.mpr (fun z => c1 (zp_clash_sym.mp z))]) 16 0 (zb_of (zp_el S) 16) 0 rfl (by decide) (fun i hi => absurd hi (Nat.not_lt_zero _)) (fun i hi => absurd hi (Nat.not_lt_zero _)) (fun x _ hx => by
    rw [zb_of_at.2 x, decide_eq_true hx, Bool.true_and]
    exact ⟨fun z => ⟨z, fun i _ hi => by rw [Nat.zero_testBit] at hi; cases hi⟩, fun z => z.1⟩)
  have hle := zl_best_le (el := zp_el S) (cl := zp_cl S) (zp_p_le ok) 16 0 0
  rw [hb] at hl
  unfold fX7_lineup qX7_lineup
  rw [zc_numbers hp ok]
  refine ⟨?_, hl.2, trivial⟩
  have h1 := hl.1
  rw [show nI 0 = (0 : Int32) from rfl] at h1
  rw [h1, pk_andN (by omega) 16 (by decide)]
  have h2 : (zl_best (zp_el S) (zp_cl S) (zp_p S) 16 0 0).2 + 1 ≤ 65536 := hle.2
  generalize (zl_best (zp_el S) (zp_cl S) (zp_p S) 16 0 0).1 = X at *
  generalize (zl_best (zp_el S) (zp_cl S) (zp_p S) 16 0 0).2 = Y at *
  exact congrArg nI (show (X * 65536 + Y) % 2 ^ 16 = Y by omega)
/-- the sum of the best on each stage -/
noncomputable def zp_bound (S : Nat → Nat) : Nat := rj_fo (fun st s => s + (zl_best (zp_els S st) (zp_me S) (zp_p S) 16 0 0).1) 4 0 0
theorem zc_bound {c : rj_M} {S : Nat → Nat} (h : zr_prog c 1 S) (ok : zo_prog S) : fX7_bound c = nI (zp_bound S) ∧ qX7_bound c := by
  obtain ⟨k1, k2, k3⟩ := zc_look h ok
  have hp : zr_prog (mX7_lookAtAll c) 1 S := zr_prog_of h (fun k a1 a2 => k1 k (by omega) (by omega))
  have key : ∀ st, st < 4 → fX7_bestAmong 17 (mX7_lookAtAll c) (fX7_numbersOn (mX7_lookAtAll c) (nI st)) 0 >>> ((16 : Int32) &&& 31) = nI (zl_best (zp_els S st) (zp_me S) (zp_p S) 16 0 0).1 ∧ qX7_bestAmong 17 (mX7_lookAtAll c) (fX7_numbersOn (mX7_lookAtAll c) (nI st)) 0 := fun st hst => by
    have hl := zl_c (c := mX7_lookAtAll c) (foe := zp_foe S) (p := zp_p S) (fun a ha => ⟨(k3 a ha).1, zp_foe_lt⟩) (fun a ha => (k3 a ha).2) (zp_p_le ok) 16 17 0 (zb_of (zp_els S st) 16) rfl (by decide) zb_of_at.1
    have hb := zl_left_best (el := zp_els S st) (cl := zp_me S) (p := zp_p S) (foe := zp_foe S) (N := 16) (by decide) (fun k i hk hi e1 e2 => by
      unfold zp_foe zp_me
      rw [zb_of_at.2 i, decide_eq_true hi, Bool.true_and]
      have a1 := zz_t.mp e1
      have a2 := zz_t.mp e2
      by_cases c1 : zp_meet S k i
      · rw [zz_t.mpr c1, Bool.true_and]
        by_cases c2 : i = k
        · rw [decide_eq_false (fun z => z c2), zz_f.mpr (fun z => z.1 c2)]
        · rw [decide_eq_true c2, zz_t.mpr ⟨c2, a1.1, a2.1, c1, .inl (a1.2.trans a2.2.symm)⟩]
      · rw [zz_f.mpr c1, Bool.false_and, zz_f.mpr (fun z => c1 z.2.2.2.1)]) (fun i k _ _ => by
      unfold zp_me
      by_cases c1 : zp_meet S i k
      · rw [zz_t.mpr c1, zz_t.mpr (zp_meet_sym.mp c1)]
      · rw [zz_f.mpr c1, zz_f.mpr (fun z => c1 (zp_meet_sym.mp z))]) 16 0 (zb_of (zp_els S st) 16) 0 rfl (by decide) (fun i hi => absurd hi (Nat.not_lt_zero _)) (fun i hi => absurd hi (Nat.not_lt_zero _)) (fun x _ hx => by
      rw [zb_of_at.2 x, decide_eq_true hx, Bool.true_and]
      exact ⟨fun z => ⟨z, fun i _ hi => by rw [Nat.zero_testBit] at hi; cases hi⟩, fun z => z.1⟩)
    have hle := zl_best_le (el := zp_els S st) (cl := zp_me S) (zp_p_le ok) 16 0 0
    rw [hb] at hl
    rw [zc_numbersOn hp ok hst]
    refine ⟨?_, hl.2⟩
    have h1 := hl.1
    have h2 : (zl_best (zp_els S st) (zp_me S) (zp_p S) 16 0 0).2 + 1 ≤ 65536 := hle.2
    rw [show nI 0 = (0 : Int32) from rfl] at h1
    rw [h1, pk_shrN (by omega) _ 16 (by decide)]
    generalize (zl_best (zp_els S st) (zp_me S) (zp_p S) 16 0 0).1 = X at *
    generalize (zl_best (zp_els S st) (zp_me S) (zp_p S) 16 0 0).2 = Y at *
    exact congrArg nI (show (X * 65536 + Y) / 2 ^ 16 = X by omega)
  unfold fX7_bound qX7_bound zp_bound
  refine ⟨zf_rel (fun _ x y => x = nI y) 4 0 (0 : Int32) (0 : Nat) rfl (fun st x y _ hst hx => ?_), zf_q (fun _ _ => True) 4 0 0 trivial (fun st x _ hst _ => ⟨⟨(key st (by omega)).2, trivial⟩, trivial⟩), trivial⟩
  unfold bX7_bound_8
  rw [(key st (by omega)).1, hx, nI_add]
/-- the reference's test: may an act join a set -/
theorem zl_loop {f : Nat → Int32 → Int32 ⊕ (Nat × Int32)} {C : Nat → Int32} {cl : Nat → Nat → Bool} {k set : Nat} (hk : k ≤ 16) (hset : set < 2 ^ 31) (hf : ∀ j s, f j s = if s = 0 then .inr (j, s) else (if (nI set >>> (nI j &&& 31)) &&& 1 = 0 then .inl 1 else (if C j = 0 then .inl 1 else .inl 0))) (hC : ∀ j, j < k → (C j = 0 ↔ cl j k = false)) {x : Int32} (hx : x = 1 ∨ x = 0) : (rj_br f k 0 x).2 = 0 ↔ ¬ (x = 1 ∧ ∀ i, i < k → set.testBit i = true → cl i k = false) := by
  have h := zb_inv (f := f) (fun j s => (s = 1 ∧ x = 1 ∧ ∀ i, i < j → set.testBit i = true → cl i k = false) ∨ (s = 0 ∧ ¬ (x = 1 ∧ ∀ i, i < k → set.testBit i = true → cl i k = false))) (fun s => (s = 1 ∧ (x = 1 ∧ ∀ i, i < k → set.testBit i = true → cl i k = false)) ∨ (s = 0 ∧ ¬ (x = 1 ∧ ∀ i, i < k → set.testBit i = true → cl i k = false))) k 0 x (by
    rcases hx with e | e
    · exact .inl ⟨e, e, fun i hi => absurd hi (Nat.not_lt_zero _)⟩
    · exact .inr ⟨e, fun z => absurd (z.1.symm.trans e) (by decide)⟩) (fun j s _ hj hs => by
    rw [hf j s]
    rcases hs with ⟨s1, s2, s3⟩ | ⟨s1, s2⟩
    · subst s1
      rw [if_neg (by decide)]
      by_cases b : (nI set >>> (nI j &&& 31)) &&& 1 = 0
      · rw [if_pos b]
        refine ⟨fun z hz => ?_, fun w hw => by cases hw⟩
        cases hz
        refine .inl ⟨rfl, s2, fun i hi hb => ?_⟩
        by_cases e : i = j
        · subst e
          rw [(zn_bit0 hset (by omega)).mp b] at hb
          cases hb
        · exact s3 i (by omega) hb
      · rw [if_neg b]
        have hbt : set.testBit j = true := by
          rcases ht : set.testBit j with _ | _
          · exact absurd ((zn_bit0 hset (by omega)).mpr ht) b
          · rfl
        by_cases c : C j = 0
        · rw [if_pos c]
          refine ⟨fun z hz => ?_, fun w hw => by cases hw⟩
          cases hz
          refine .inl ⟨rfl, s2, fun i hi hb => ?_⟩
          by_cases e : i = j
          · subst e
            exact (hC i (by omega)).mp c
          · exact s3 i (by omega) hb
        · rw [if_neg c]
          refine ⟨fun z hz => ?_, fun w hw => by cases hw⟩
          cases hz
          exact .inr ⟨rfl, fun z => c ((hC j (by omega)).mpr (z.2 j (by omega) hbt))⟩
    · subst s1
      rw [if_pos rfl]
      refine ⟨fun z hz => (by cases hz), fun w hw => ?_⟩
      cases hw
      exact .inr ⟨rfl, s2⟩) (fun a ha => by
    rw [Nat.zero_add] at ha
    exact ha)
  rcases h with ⟨h1, h2⟩ | ⟨h1, h2⟩
  · rw [h1]
    exact ⟨fun z => absurd z (by decide), fun z => absurd h2 z⟩
  · rw [h1]
    exact ⟨fun _ => h2, fun _ => rfl⟩
theorem zm_over {μ : rj_M} {k i j : Nat} {a b c d : Int32} (hij : i ≠ j) : rj_pi (rj_pi (rj_pi (rj_pi μ k i a) k j b) k i c) k j d = rj_pi (rj_pi μ k i c) k j d := by
  have e : ∀ m : rj_M, ∀ f g : Nat → Nat → Int32, f = g → ((f, m.2) : rj_M) = (g, m.2) := fun m f g h => by rw [h]
  refine e μ _ _ ?_
  funext k' i'
  show (rj_pi (rj_pi (rj_pi (rj_pi μ k i a) k j b) k i c) k j d).1 k' i' = (rj_pi (rj_pi μ k i c) k j d).1 k' i'
  rw [zm_pi, zm_pi (μ := rj_pi μ k i c)]
  by_cases h1 : k' = k ∧ i' = j
  · rw [if_pos h1, if_pos h1]
  · rw [if_neg h1, if_neg h1, zm_pi, zm_pi (μ := μ)]
    by_cases h2 : k' = k ∧ i' = i
    · rw [if_pos h2, if_pos h2]
    · rw [if_neg h2, if_neg h2, zm_pi, if_neg h1, zm_pi, if_neg h2]
