/-! POWER: what each set of generators gives and costs; the cheapest plan from an hour on -/
def zw_sum (f : Nat → Nat) (set : Nat) : Nat := rj_fo (fun i s => if set.testBit i = true then s + f i else s) 4 0 0
theorem zw_sum_eq {f : Nat → Nat} {set : Nat} : zw_sum f set = (if set.testBit 0 = true then f 0 else 0) + (if set.testBit 1 = true then f 1 else 0) + (if set.testBit 2 = true then f 2 else 0) + (if set.testBit 3 = true then f 3 else 0) := by
  unfold zw_sum
  simp only [rj_fo, Nat.zero_add, Nat.reduceAdd]
  split <;> split <;> split <;> split <;> omega
theorem zw_sum_le {f : Nat → Nat} {set M : Nat} (h : ∀ g, g < 4 → f g ≤ M) : zw_sum f set ≤ 4 * M := by
  have h0 := h 0 (by decide)
  have h1 := h 1 (by decide)
  have h2 := h 2 (by decide)
  have h3 := h 3 (by decide)
  rw [zw_sum_eq]
  split <;> split <;> split <;> split <;> omega
def zw_W (S : Nat → Nat) (h b s x : Nat) : Nat := if S (412 + h) ≤ zw_sum (fun g => S (436 + 3 * g)) s then min 1000000 (zw_sum (fun g => S (438 + 3 * g)) s + zw_sum (fun g => S (437 + 3 * g)) (s &&& (b ^^^ 4294967295)) + x) else 1000000
theorem zw_W_le {S : Nat → Nat} {h b s x : Nat} : zw_W S h b s x ≤ 1000000 := by
  unfold zw_W
  split
  · exact Nat.min_le_left _ _
  · exact Nat.le_refl _
def zw_bp (w : Nat → Nat) (n : Nat) : Nat × Nat := rj_fo (fun s p => if p.2 ≤ w s then p else (s, w s)) n 0 (0, 1000000)
theorem zw_bp_s {w : Nat → Nat} {n : Nat} : zw_bp w (n + 1) = if (zw_bp w n).2 ≤ w n then zw_bp w n else (n, w n) := by
  unfold zw_bp
  rw [zf_last n 0, Nat.zero_add]
theorem zw_bp_f {w : Nat → Nat} : ∀ n, ((zw_bp w n).2 = 1000000 ∧ (zw_bp w n).1 = 0 ∧ ∀ s, s < n → 1000000 ≤ w s) ∨ ((zw_bp w n).2 < 1000000 ∧ (zw_bp w n).1 < n ∧ w (zw_bp w n).1 = (zw_bp w n).2 ∧ ∀ s, s < n → (zw_bp w n).2 ≤ w s)
  | 0 => .inl ⟨rfl, rfl, fun s h => absurd h (Nat.not_lt_zero _)⟩
  | n + 1 => by
    rw [zw_bp_s]
    rcases zw_bp_f (w := w) n with ⟨h1, h2, h3⟩ | ⟨h1, h2, h3, h4⟩
    · by_cases c : (zw_bp w n).2 ≤ w n
      · rw [if_pos c]
        refine .inl ⟨h1, h2, fun s hs => ?_⟩
        by_cases e : s = n
        · rw [e]
          omega
        · exact h3 s (by omega)
      · rw [if_neg c]
        refine .inr ⟨by show w n < 1000000; omega, Nat.lt_succ_self n, rfl, fun s hs => ?_⟩
        show w n ≤ w s
        by_cases e : s = n
        · rw [e]
          exact Nat.le_refl _
        · have := h3 s (by omega)
          omega
    · by_cases c : (zw_bp w n).2 ≤ w n
      · rw [if_pos c]
        refine .inr ⟨h1, by omega, h3, fun s hs => ?_⟩
        by_cases e : s = n
        · rw [e]
          exact c
        · exact h4 s (by omega)
      · rw [if_neg c]
        refine .inr ⟨by show w n < 1000000; omega, Nat.lt_succ_self n, rfl, fun s hs => ?_⟩
        show w n ≤ w s
        by_cases e : s = n
        · rw [e]
          exact Nat.le_refl _
        · have := h4 s (by omega)
          omega
theorem zw_bp_congr {w w' : Nat → Nat} {n : Nat} (h : ∀ s, s < n → w s = w' s) : zw_bp w n = zw_bp w' n := by
  unfold zw_bp
  exact zf_congr n 0 _ (fun i a _ hi => by rw [h i (by omega)])
def zw_V (S : Nat → Nat) : Nat → Nat → Nat
  | 0, _ => 0
  | n + 1, b => (zw_bp (fun s => zw_W S (23 - n) b s (zw_V S n s)) 16).2
theorem zw_V_s {S : Nat → Nat} {n b : Nat} : zw_V S (n + 1) b = (zw_bp (fun s => zw_W S (23 - n) b s (zw_V S n s)) 16).2 := rfl
def zw_bt (S : Nat → Nat) (h b : Nat) : Nat := (zw_bp (fun s => zw_W S h b s (zw_V S (23 - h) s)) 16).1
theorem zw_cost800 {S : Nat → Nat} (ok : zo_powr S) {s t : Nat} : zw_sum (fun g => S (438 + 3 * g)) s + zw_sum (fun g => S (437 + 3 * g)) t ≤ 800 := by
  have h1 := zw_sum_le (f := fun g => S (438 + 3 * g)) (set := s) (M := 100) (fun g hg => (ok.2 g hg).2.2)
  have h2 := zw_sum_le (f := fun g => S (437 + 3 * g)) (set := t) (M := 100) (fun g hg => (ok.2 g hg).2.1)
  omega
theorem zw_V_b {S : Nat → Nat} (ok : zo_powr S) : ∀ n b, zw_V S n b = 1000000 ∨ zw_V S n b ≤ 800 * n
  | 0, _ => .inr (Nat.zero_le _)
  | n + 1, b => by
    rw [zw_V_s]
    rcases zw_bp_f (w := fun s => zw_W S (23 - n) b s (zw_V S n s)) 16 with ⟨h1, -, -⟩ | ⟨h1, h2, h3, -⟩
    · exact .inl h1
    · refine .inr ?_
      rw [← h3] at h1 ⊢
      generalize (zw_bp (fun s => zw_W S (23 - n) b s (zw_V S n s)) 16).1 = s at *
      have h1 : zw_W S (23 - n) b s (zw_V S n s) < 1000000 := h1
      show zw_W S (23 - n) b s (zw_V S n s) ≤ 800 * (n + 1)
      have hc := zw_cost800 ok (s := s) (t := s &&& (b ^^^ 4294967295))
      have hi := zw_V_b ok n s
      unfold zw_W at h1 ⊢
      split at h1
      · rename_i hl
        rw [if_pos hl]
        omega
      · exact absurd h1 (Nat.lt_irrefl _)
theorem zw_V_le {S : Nat → Nat} (ok : zo_powr S) {n b : Nat} (hn : n ≤ 24) : zw_V S n b ≤ 1000000 := by
  rcases zw_V_b ok n b with h | h <;> omega
/-- the best one leads to a plan again -/
theorem zw_bt_next {S : Nat → Nat} {h b : Nat} (hh : h < 24) (hV : zw_V S (24 - h) b < 1000000) : zw_bt S h b < 16 ∧ zw_V S (23 - h) (zw_bt S h b) < 1000000 := by
  have e : 24 - h = (23 - h) + 1 := by omega
  have e2 : 23 - (23 - h) = h := by omega
  rw [e, zw_V_s, e2] at hV
  unfold zw_bt
  rcases zw_bp_f (w := fun s => zw_W S h b s (zw_V S (23 - h) s)) 16 with ⟨h1, -, -⟩ | ⟨h1, h2, h3, -⟩
  · omega
  · refine ⟨h2, ?_⟩
    rw [← h3] at h1
    generalize (zw_bp (fun s => zw_W S h b s (zw_V S (23 - h) s)) 16).1 = s at *
    have h1 : zw_W S h b s (zw_V S (23 - h) s) < 1000000 := h1
    unfold zw_W at h1
    split at h1
    · omega
    · exact absurd h1 (Nat.lt_irrefl _)
/-! the class's side -/
theorem zc_addUp {c : rj_M} {f : Nat → Nat} {k k2 : Nat} (hk : k ≠ k2) (hf : ∀ g, g < 4 → c.1 k g = nI (f g)) : (∀ s, s < 16 → (mX6_addUp c k 4 k2 16).1 k2 s = nI (zw_sum f s)) ∧ (∀ k', k' ≠ k2 → (mX6_addUp c k 4 k2 16).1 k' = c.1 k') ∧ (mX6_addUp c k 4 k2 16).2 = c.2 := by
  have hz := zf_inv (f := bX6_addUp_2 c k 4 k2 16) (fun j t => (∀ s, s < j → t.1 k2 s = nI (zw_sum f s)) ∧ (∀ k', k' ≠ k2 → t.1 k' = c.1 k') ∧ t.2 = c.2) 16 0 c ⟨fun s hs => absurd hs (Nat.not_lt_zero _), fun _ _ => rfl, rfl⟩ (fun j t _ hj ⟨t1, t2, t3⟩ => by
    have hjn : (nI j).toNatClampNeg = j := nI_clamp (by omega)
    have hin := zf_rel (f := bX6_addUp_14 c k 4 k2 16 j t) (g := fun i s => if j.testBit i = true then s + f i else s) (fun _ u x => u.1 k2 j = nI x ∧ (∀ s, s ≠ j → u.1 k2 s = t.1 k2 s) ∧ (∀ k', k' ≠ k2 → u.1 k' = t.1 k') ∧ u.2 = t.2) 4 0 (rj_pi t k2 j 0) (0 : Nat) ⟨zm_pi_eq, fun s hs => zm_pi_ne2 hs, fun k' hk' => zm_pi_ne hk', rfl⟩ (fun i u x _ hi ⟨u1, u2, u3, u4⟩ => by
      unfold bX6_addUp_14
      rw [hjn, nI_clamp (n := i) (by omega), u1, u3 k hk, t2 k hk, hf i (by omega), nI_add]
      by_cases cb : j.testBit i = true
      · rw [if_neg (fun z => by rw [(zn_bit0 (by omega) (by omega)).mp z] at cb; cases cb), if_pos cb]
        exact ⟨zm_pi_eq, fun s hs => (zm_pi_ne2 hs).trans (u2 s hs), fun k' hk' => (zm_pi_ne hk').trans (u3 k' hk'), u4⟩
      · rw [if_pos ((zn_bit0 (by omega) (by omega)).mpr (by simpa using cb)), if_neg cb]
        exact ⟨u1, u2, u3, u4⟩)
    obtain ⟨i1, i2, i3, i4⟩ := hin
    unfold bX6_addUp_2
    rw [hjn]
    refine ⟨fun s hs => ?_, fun k' hk' => (i3 k' hk').trans (t2 k' hk'), i4.trans t3⟩
    by_cases e : s = j
    · rw [e]
      exact i1
    · rw [i2 s e]
      exact t1 s (by omega))
  exact hz
/-- the class's table, from an hour on -/
def zc_tab (t : rj_M) (S : Nat → Nat) (h : Nat) : Prop := ∀ h' b, h ≤ h' → h' ≤ 24 → b < 16 → t.1 38 (16 * h' + b) = nI (zw_V S (24 - h') b)
def zc_pw (t : rj_M) (S : Nat → Nat) : Prop := (∀ h, h < 24 → t.1 31 h = nI (S (412 + h))) ∧ (∀ s, s < 16 → t.1 35 s = nI (zw_sum (fun g => S (436 + 3 * g)) s)) ∧ (∀ s, s < 16 → t.1 36 s = nI (zw_sum (fun g => S (437 + 3 * g)) s)) ∧ (∀ s, s < 16 → t.1 37 s = nI (zw_sum (fun g => S (438 + 3 * g)) s))
theorem zw_less16 {s b : Nat} (hs : s < 16) : s &&& (b ^^^ 4294967295) < 16 := Nat.lt_of_le_of_lt Nat.and_le_left hs
theorem zc_costBy {t : rj_M} {S : Nat → Nat} {h b s : Nat} (ok : zo_powr S) (hp : zc_pw t S) (ht : zc_tab t S (h + 1)) (hh : h < 24) (hb : b < 16) (hs : s < 16) : fX6_costBy t (nI h) (nI b) (nI s) = nI (zw_W S h b s (zw_V S (23 - h) s)) := by
  obtain ⟨p1, p2, p3, p4⟩ := hp
  have hc := zw_cost800 ok (s := s) (t := s &&& (b ^^^ 4294967295))
  have hV := zw_V_le ok (n := 23 - h) (b := s) (by omega)
  have h5 := zw_sum_le (f := fun g => S (436 + 3 * g)) (set := s) (M := 200) (fun g hg => (ok.2 g hg).1)
  have hl := ok.1 h hh
  have e1 : nI s &&& (nI b ^^^ (-1)) = nI (s &&& (b ^^^ 4294967295)) := zn_less (by omega) (by omega)
  have e2 : (((nI h + 1) * 16) + nI s).toNatClampNeg = 16 * (h + 1) + s := pk_cl _ (by rw [nI_1, show (16 : Int32) = nI 16 from rfl, pk_mul, nI_add]; congr 1; omega) (by omega)
  have e3 := ht (h + 1) s (Nat.le_refl _) (by omega) hs
  rw [show 24 - (h + 1) = 23 - h by omega] at e3
  unfold fX6_costBy zw_W
  rw [if_neg (nI_pos (by omega)), if_neg (show ¬ 24 ≤ nI h from nI_ge (a := h) (b := 24) hh (by decide)), if_neg (nI_pos (by omega)), if_neg (nI_pos (by omega)), if_neg (show ¬ 16 ≤ nI s from nI_ge (a := s) (b := 16) hs (by decide)), e1, e2, nI_clamp (n := h) (by omega), nI_clamp (n := s) (by omega), nI_clamp (n := s &&& (b ^^^ 4294967295)) (by have := zw_less16 (b := b) hs; omega), p1 h hh, p2 s hs, p3 _ (zw_less16 hs), p4 s hs, e3, nI_add, nI_add]
  by_cases c : S (412 + h) ≤ zw_sum (fun g => S (436 + 3 * g)) s
  · rw [if_pos (nI_le c (by omega)), if_pos c]
    by_cases c2 : 1000000 < zw_sum (fun g => S (438 + 3 * g)) s + zw_sum (fun g => S (437 + 3 * g)) (s &&& (b ^^^ 4294967295)) + zw_V S (23 - h) s
    · rw [if_pos (show (1000000 : Int32) < nI _ from nI_lt (a := 1000000) c2 (by omega)), Nat.min_eq_left (by omega)]
      rfl
    · rw [if_neg (show ¬ (1000000 : Int32) < nI (zw_sum (fun g => S (438 + 3 * g)) s + zw_sum (fun g => S (437 + 3 * g)) (s &&& (b ^^^ 4294967295)) + zw_V S (23 - h) s) from nI_nlt (a := 1000000) (Nat.le_of_not_lt c2) (by decide)), Nat.min_eq_right (by omega)]
  · rw [if_neg (nI_ge (by omega) (by omega)), if_neg c]
    rfl
theorem zc_bestAt {t : rj_M} {S : Nat → Nat} {h b : Nat} (ok : zo_powr S) (hp : zc_pw t S) (ht : zc_tab t S (h + 1)) (hh : h < 24) (hb : b < 16) : fX6_bestAt t (nI h) (nI b) = nI (zw_bt S h b) := by
  unfold fX6_bestAt zw_bt zw_bp
  have hz := zf_rel (f := bX6_bestAt_9 t (nI h) (nI b)) (g := fun s p => if p.2 ≤ zw_W S h b s (zw_V S (23 - h) s) then p else (s, zw_W S h b s (zw_V S (23 - h) s))) (fun _ x y => x = (nI y.1, nI y.2) ∧ y.2 ≤ 1000000) 16 0 ((0 : Int32), (1000000 : Int32)) ((0 : Nat), (1000000 : Nat)) ⟨rfl, Nat.le_refl _⟩ (fun j x y _ hj ⟨hx, hy⟩ => by
    subst hx
    have hW := zw_W_le (S := S) (h := h) (b := b) (s := j) (x := zw_V S (23 - h) j)
    unfold bX6_bestAt_9
    rw [zc_costBy ok hp ht hh hb (show j < 16 by omega)]
    by_cases c : y.2 ≤ zw_W S h b j (zw_V S (23 - h) j)
    · rw [if_pos (show nI y.2 ≤ nI _ from nI_le c (by omega)), if_pos c]
      exact ⟨rfl, hy⟩
    · rw [if_neg (show ¬ nI y.2 ≤ nI _ from nI_ge (by omega) (by omega)), if_neg c]
      exact ⟨rfl, hW⟩)
  rw [hz.1]
theorem zc_costs {c : rj_M} {S : Nat → Nat} (h : zr_powr c 1 S) (ok : zo_powr S) : zc_pw (mX6_planCosts c) S ∧ zc_tab (mX6_planCosts c) S 0 ∧ (∀ k, k ≠ 35 → k ≠ 36 → k ≠ 37 → k ≠ 38 → (mX6_planCosts c).1 k = c.1 k) ∧ (mX6_planCosts c).2 = c.2 := by
  obtain ⟨h1, h2⟩ := h
  obtain ⟨a1, a2, a3⟩ := zc_addUp (c := c) (f := fun g => S (436 + 3 * g)) (k := 32) (k2 := 35) (by decide) (fun g hg => (h2 g hg).1)
  obtain ⟨b1, b2, b3⟩ := zc_addUp (c := mX6_addUp c 32 4 35 16) (f := fun g => S (437 + 3 * g)) (k := 33) (k2 := 36) (by decide) (fun g hg => by rw [a2 33 (by decide)]; exact (h2 g hg).2.1)
  obtain ⟨c1, c2, c3⟩ := zc_addUp (c := mX6_addUp (mX6_addUp c 32 4 35 16) 33 4 36 16) (f := fun g => S (438 + 3 * g)) (k := 34) (k2 := 37) (by decide) (fun g hg => by rw [b2 34 (by decide), a2 34 (by decide)]; exact (h2 g hg).2.2)
  obtain ⟨d1, d2, d3⟩ := zm_fill (μ := mX6_addUp (mX6_addUp (mX6_addUp c 32 4 35 16) 33 4 36 16) 34 4 37 16) (k := 38) (n := 400) (v := 0) (by decide)
  have hp0 : zc_pw (mX11_fillRow (mX6_addUp (mX6_addUp (mX6_addUp c 32 4 35 16) 33 4 36 16) 34 4 37 16) 38 400 0) S := by
    refine ⟨fun g hg => ?_, fun s hs => ?_, fun s hs => ?_, fun s hs => ?_⟩
    · rw [d1 31 (by decide), c2 31 (by decide), b2 31 (by decide), a2 31 (by decide)]
      exact h1 g hg
    · rw [d1 35 (by decide), c2 35 (by decide), b2 35 (by decide)]
      exact a1 s hs
    · rw [d1 36 (by decide), c2 36 (by decide)]
      exact b1 s hs
    · rw [d1 37 (by decide)]
      exact c1 s hs
  have hz := zd_inv (f := bX6_planCosts_44 c) (fun g t => zc_pw t S ∧ zc_tab t S g ∧ (∀ k, k ≠ 38 → t.1 k = (mX11_fillRow (mX6_addUp (mX6_addUp (mX6_addUp c 32 4 35 16) 33 4 36 16) 34 4 37 16) 38 400 0).1 k) ∧ t.2 = c.2) 24 (mX11_fillRow (mX6_addUp (mX6_addUp (mX6_addUp c 32 4 35 16) 33 4 36 16) 34 4 37 16) 38 400 0) ⟨hp0, fun h' b e1 e2 hb => by
    have e : h' = 24 := by omega
    subst e
    rw [d2, if_pos (by omega)]
    rfl, fun _ _ => rfl, by rw [d3, c3, b3, a3]⟩ (fun g t hg ⟨t1, t2, t3, t4⟩ => by
    have hin := zf_inv (f := bX6_planCosts_50 c g t) (fun n u => zc_pw u S ∧ zc_tab u S (g + 1) ∧ (∀ b, b < n → u.1 38 (16 * g + b) = nI (zw_V S (24 - g) b)) ∧ (∀ k, k ≠ 38 → u.1 k = t.1 k) ∧ u.2 = t.2) 16 0 t ⟨t1, t2, fun b hb => absurd hb (Nat.not_lt_zero _), fun _ _ => rfl, rfl⟩ (fun n u _ hn ⟨u1, u2, u3, u4, u5⟩ => by
      have hn16 : n < 16 := by omega
      have hi : ((nI g * 16) + nI n).toNatClampNeg = 16 * g + n := pk_cl _ (by rw [show (16 : Int32) = nI 16 from rfl, pk_mul, nI_add, Nat.mul_comm g 16]) (by omega)
      have hbt : zw_bt S g n < 16 := by
        unfold zw_bt
        rcases zw_bp_f (w := fun s => zw_W S g n s (zw_V S (23 - g) s)) 16 with ⟨-, z, -⟩ | ⟨-, z, -⟩ <;> omega
      have hv : fX6_costBy u (nI g) (nI n) (fX6_bestAt u (nI g) (nI n)) = nI (zw_V S (24 - g) n) := by
        rw [zc_bestAt ok u1 u2 hg hn16, zc_costBy ok u1 u2 hg hn16 hbt, show 24 - g = (23 - g) + 1 by omega, zw_V_s, show 23 - (23 - g) = g by omega]
        unfold zw_bt
        refine congrArg nI ?_
        rcases zw_bp_f (w := fun s => zw_W S g n s (zw_V S (23 - g) s)) 16 with ⟨z1, z2, z3⟩ | ⟨-, -, z3, -⟩
        · have z4 := z3 0 (by decide)
          have z5 := zw_W_le (S := S) (h := g) (b := n) (s := 0) (x := zw_V S (23 - g) 0)
          rw [z1, z2]
          exact Nat.le_antisymm z5 z4
        · exact z3
      unfold bX6_planCosts_50
      rw [hv, hi]
      refine ⟨⟨fun a ha => ?_, fun s hs => ?_, fun s hs => ?_, fun s hs => ?_⟩, fun h' b e1 e2 hb => ?_, fun b hb => ?_, fun k hk => (zm_pi_ne hk).trans (u4 k hk), u5⟩
      · rw [zm_pi_ne (by decide)]
        exact u1.1 a ha
      · rw [zm_pi_ne (by decide)]
        exact u1.2.1 s hs
      · rw [zm_pi_ne (by decide)]
        exact u1.2.2.1 s hs
      · rw [zm_pi_ne (by decide)]
        exact u1.2.2.2 s hs
      · rw [zm_pi_ne2 (by omega)]
        exact u2 h' b e1 e2 hb
      · by_cases e : b = n
        · rw [e, zm_pi_eq]
        · rw [zm_pi_ne2 (by omega)]
          exact u3 b (by omega))
    obtain ⟨i1, i2, i3, i4, i5⟩ := hin
    unfold bX6_planCosts_44
    refine ⟨i1, fun h' b e1 e2 hb => ?_, fun k hk => (i4 k hk).trans (t3 k hk), i5.trans t4⟩
    by_cases e : h' = g
    · rw [e]
      exact i3 b (by omega)
    · exact i2 h' b (by omega) e2 hb)
  obtain ⟨z1, z2, z3, z4⟩ := hz
  unfold mX6_planCosts
  exact ⟨z1, z2, fun k k1 k2 k3 k4 => by rw [z3 k k4, d1 k k4, c2 k k3, b2 k k2, a2 k k1], z4⟩
theorem zc_leastCost {t : rj_M} {S : Nat → Nat} (ok : zo_powr S) (ht : zc_tab t S 0) : fX6_leastCost t = if zw_V S 24 0 = 1000000 then -1 else nI (zw_V S 24 0) := by
  have hV := zw_V_le ok (n := 24) (b := 0) (by decide)
  have e := ht 0 0 (by decide) (by decide) (by decide)
  unfold fX6_leastCost
  rw [show (0 : Int32).toNatClampNeg = 16 * 0 + 0 from by decide, e]
  by_cases c : zw_V S 24 0 = 1000000
  · rw [if_pos c, if_neg (show ¬ nI (zw_V S 24 0) < 1000000 from nI_nlt (a := zw_V S 24 0) (b := 1000000) (by omega) (by omega))]
  · rw [if_neg c, if_pos (show nI (zw_V S 24 0) < 1000000 from nI_lt (b := 1000000) (by omega) (by decide))]
/-- the sets of the plan -/
def zw_at (S : Nat → Nat) : Nat → Nat
  | 0 => 0
  | n + 1 => zw_bt S n (zw_at S n)
theorem zw_at_f {S : Nat → Nat} (hV : zw_V S 24 0 < 1000000) : ∀ n, n ≤ 24 → zw_at S n < 16 ∧ zw_V S (24 - n) (zw_at S n) < 1000000
  | 0, _ => ⟨(by show 0 < 16; decide), hV⟩
  | n + 1, hn => by
    obtain ⟨h1, h2⟩ := zw_at_f hV n (by omega)
    have h3 := zw_bt_next (S := S) (h := n) (b := zw_at S n) (by omega) h2
    rw [show 24 - (n + 1) = 23 - n by omega]
    exact h3
theorem zc_setAt {t : rj_M} {S : Nat → Nat} {g : Nat} (ok : zo_powr S) (hp : zc_pw t S) (ht : zc_tab t S 0) (hV : zw_V S 24 0 < 1000000) (hg : g < 24) : fX6_setAt t (nI g) = nI (zw_at S (g + 1)) := by
  unfold fX6_setAt
  have hb : ∀ j x, j < 24 → bX6_setAt_4 t (nI g) j (nI x) = if g < j then .inr (j, nI x) else .inl (fX6_bestAt t (nI j) (nI x)) := fun j x hj => by
    unfold bX6_setAt_4
    by_cases c : g < j
    · rw [if_pos (nI_lt c (by omega)), if_pos c]
    · rw [if_neg (nI_nlt (by omega) (by omega)), if_neg c]
  refine zb_inv (f := bX6_setAt_4 t (nI g)) (fun j x => x = nI (zw_at S (min j (g + 1)))) (fun x => x = nI (zw_at S (g + 1))) 24 0 (0 : Int32) (by rw [Nat.min_eq_left (by omega)]; rfl) (fun j x _ hj hx => ?_) (fun x hx => ?_)
  · have hj24 : j < 24 := by omega
    subst hx
    rw [hb j _ hj24]
    by_cases c : g < j
    · rw [if_pos c]
      refine ⟨fun z hz => (by cases hz), fun w hw => ?_⟩
      cases hw
      rw [Nat.min_eq_right (by omega)]
    · rw [if_neg c, Nat.min_eq_left (by omega)]
      refine ⟨fun z hz => ?_, fun w hw => by cases hw⟩
      cases hz
      obtain ⟨h1, h2⟩ := zw_at_f hV j (by omega)
      have ht' : zc_tab t S (j + 1) := fun h' b e1 e2 hb => ht h' b (Nat.zero_le _) e2 hb
      rw [zc_bestAt ok hp ht' hj24 h1, Nat.min_eq_left (by omega)]
      rfl
  · rw [hx, Nat.min_eq_right (by omega)]
/-! POWER, the reference's side -/
def zw_i (x : Nat) : Int32 := if x = 1000000 then -1 else nI x
theorem zw_i_no {x : Nat} (hx : x ≤ 1000000) : zw_i x = -1 ↔ x = 1000000 := by
  unfold zw_i
  by_cases e : x = 1000000
  · rw [if_pos e]
    exact ⟨fun _ => e, fun _ => rfl⟩
  · rw [if_neg e]
    refine ⟨fun z => ?_, fun z => absurd z e⟩
    have h1 : ¬ nI x < 0 := nI_pos (by omega)
    rw [z] at h1
    exact absurd (by decide) h1
theorem zw_i_is {x : Nat} (hx : x < 1000000) : zw_i x = nI x := if_neg (by omega)
section zqPower
variable {r : rj_M} {S : Nat → Nat} {B : Nat → Int}
/-- the rows of costs: where they are -/
def zq_ptr (r : rj_M) : Prop := ∀ h, h < 25 → r.2.2.2 409 h = 410 + h + 1
theorem zq_prow (hp : zq_ptr r) {h : Nat} (hh : h < 25) {x : Int32} (hx : x = nI h) : rj_row r 409 25 410 435 x ∧ r.2.2.2 409 x.toNatClampNeg - 1 = 410 + h := by
  subst hx
  unfold rj_row
  rw [nI_clamp (n := h) (by omega), hp h hh]
  exact ⟨⟨vp_in_nI hh (by decide), by omega, by omega⟩, by omega⟩
theorem zq_costOf (h : zr_row (r.1 396) S B) (ok : zo_powr S) {g b s : Nat} (hg : g < 24) (hb : b < 16) (hs : s < 16) : fX12_costOf r (nI g) (nI b) (nI s) = if S (412 + g) ≤ zw_sum (fun g => S (436 + 3 * g)) s then nI (zw_sum (fun g => S (438 + 3 * g)) s + zw_sum (fun g => S (437 + 3 * g)) (s &&& (b ^^^ 4294967295))) else -1 := by
  have hl := ok.1 g hg
  have hpw := zw_sum_le (f := fun g => S (436 + 3 * g)) (set := s) (M := 200) (fun g hg => (ok.2 g hg).1)
  have hf : rj_fo (bX12_costOf_9 r (nI g) (nI b) (nI s)) 4 0 ((0 : Int32), (0 : Int32)) = (nI (zw_sum (fun g => S (436 + 3 * g)) s), nI (zw_sum (fun g => S (438 + 3 * g)) s + zw_sum (fun g => S (437 + 3 * g)) (s &&& (b ^^^ 4294967295)))) := by
    have hz := zf_inv (f := bX12_costOf_9 r (nI g) (nI b) (nI s)) (fun j x => x = (nI (rj_fo (fun i a => if s.testBit i = true then a + S (436 + 3 * i) else a) j 0 0), nI (rj_fo (fun i a => if s.testBit i = true then a + S (438 + 3 * i) else a) j 0 0 + rj_fo (fun i a => if (s &&& (b ^^^ 4294967295)).testBit i = true then a + S (437 + 3 * i) else a) j 0 0))) 4 0 ((0 : Int32), (0 : Int32)) rfl (fun j x _ hj hx => by
      subst hx
      have e0 : (436 + 3 * nI j).toNatClampNeg = 436 + 3 * j := pk_cl _ (by rw [show (436 : Int32) = nI 436 from rfl, show (3 : Int32) = nI 3 from rfl, pk_mul, nI_add]) (by omega)
      have e1 : ((436 + 3 * nI j) + 1).toNatClampNeg = 437 + 3 * j := pk_cl _ (by rw [show (436 : Int32) = nI 436 from rfl, show (3 : Int32) = nI 3 from rfl, pk_mul, nI_add, nI_1]; congr 1; omega) (by omega)
      have e2 : ((436 + 3 * nI j) + 2).toNatClampNeg = 438 + 3 * j := pk_cl _ (by rw [show (436 : Int32) = nI 436 from rfl, show (3 : Int32) = nI 3 from rfl, show (2 : Int32) = nI 2 from rfl, pk_mul, nI_add, nI_add]; congr 1; omega) (by omega)
      have q0 := h.1 (436 + 3 * j) (by omega)
      have q1 := h.1 (437 + 3 * j) (by omega)
      have q2 := h.1 (438 + 3 * j) (by omega)
      rw [zf_last j 0, zf_last j 0, zf_last j 0, Nat.zero_add]
      unfold bX12_costOf_9
      rw [e0, e1, e2, q0, q1, q2, zb_sub (by omega)]
      by_cases cs : s.testBit j = true
      · rw [if_neg (fun z => by rw [(zn_bit0 (by omega) (by omega)).mp z] at cs; cases cs), if_pos cs, if_pos cs, cs, Bool.true_and]
        by_cases cb : b.testBit j = true
        · rw [if_neg (fun z => by rw [(zn_bit0 (by omega) (by omega)).mp z] at cb; cases cb), if_neg (by rw [cb]; decide)]
          refine Prod.ext (nI_add _ _) ?_
          show _ + (nI (S (438 + 3 * j)) + 0) = _
          rw [show (0 : Int32) = nI 0 from rfl, nI_add, nI_add]
          exact congrArg nI (by omega)
        · have cb' : b.testBit j = false := by simpa using cb
          rw [if_pos ((zn_bit0 (by omega) (by omega)).mpr cb'), if_pos (by rw [cb']; decide)]
          refine Prod.ext (nI_add _ _) ?_
          show _ + (nI (S (438 + 3 * j)) + nI (S (437 + 3 * j))) = _
          rw [nI_add, nI_add]
          exact congrArg nI (by omega)
      · have cs' : s.testBit j = false := by simpa using cs
        rw [if_pos ((zn_bit0 (by omega) (by omega)).mpr cs'), if_neg cs, if_neg cs, cs', Bool.false_and, if_neg (by decide)])
    exact hz
  have el : (412 + nI g).toNatClampNeg = 412 + g := pk_cl _ (by rw [show (412 : Int32) = nI 412 from rfl, nI_add]) (by omega)
  unfold fX12_costOf
  rw [hf, el, h.1 (412 + g) (by omega)]
  by_cases c : S (412 + g) ≤ zw_sum (fun g => S (436 + 3 * g)) s
  · rw [if_pos (show nI (S (412 + g)) ≤ nI _ from nI_le c (by omega)), if_pos c]
  · rw [if_neg (show ¬ nI (S (412 + g)) ≤ nI _ from nI_ge (by omega) (by omega)), if_neg c]
/-- the row of an hour is right -/
def zq_tab (t : rj_M) (S : Nat → Nat) (h : Nat) : Prop := ∀ b, b < 16 → t.1 (410 + h) b = zw_i (zw_V S (24 - h) b)
theorem zq_costWith (h : zr_row (r.1 396) S B) (ok : zo_powr S) (hp : zq_ptr r) {g b s : Nat} (hg : g < 24) (ht : zq_tab r S (g + 1)) (hb : b < 16) (hs : s < 16) : fX12_costWith r (nI g) (nI b) (nI s) = zw_i (zw_W S g b s (zw_V S (23 - g) s)) ∧ qX12_costWith r (nI g) (nI b) (nI s) := by
  have hc := zw_cost800 ok (s := s) (t := s &&& (b ^^^ 4294967295))
  obtain ⟨w1, w2⟩ := zq_prow hp (h := g + 1) (by omega) (nI_1 g)
  have e3 := ht s hs
  rw [show 24 - (g + 1) = 23 - g by omega] at e3
  have hV := zw_V_b ok (23 - g) s
  unfold fX12_costWith qX12_costWith
  rw [zq_costOf h ok hg hb hs, w2, nI_clamp (n := s) (by omega), e3]
  unfold zw_W
  by_cases c : S (412 + g) ≤ zw_sum (fun g => S (436 + 3 * g)) s
  · have n1 : ¬ nI (zw_sum (fun g => S (438 + 3 * g)) s + zw_sum (fun g => S (437 + 3 * g)) (s &&& (b ^^^ 4294967295))) = -1 := fun z => by
      have h1 : ¬ nI (zw_sum (fun g => S (438 + 3 * g)) s + zw_sum (fun g => S (437 + 3 * g)) (s &&& (b ^^^ 4294967295))) < 0 := nI_pos (by omega)
      rw [z] at h1
      exact absurd (by decide) h1
    rw [if_pos c, if_pos c, if_neg n1]
    refine ⟨?_, fun z => absurd z n1, fun _ => ⟨w1, fun _ => trivial, fun _ => ⟨w1, trivial⟩⟩⟩
    rcases hV with hV | hV
    · rw [hV, if_pos (show zw_i 1000000 = -1 from if_pos rfl), Nat.min_eq_left (by omega)]
      exact (if_pos rfl).symm
    · rw [zw_i_is (x := zw_V S (23 - g) s) (by omega), if_neg (fun z => by
        have h1 : ¬ nI (zw_V S (23 - g) s) < 0 := nI_pos (by omega)
        rw [z] at h1
        exact absurd (by decide) h1), nI_add, Nat.min_eq_right (by omega), zw_i_is (by omega)]
  · rw [if_neg c, if_neg c, if_pos rfl]
    exact ⟨(if_pos rfl).symm, fun _ => trivial, fun z => absurd rfl z⟩
theorem zq_cheapest (h : zr_row (r.1 396) S B) (ok : zo_powr S) (hp : zq_ptr r) {g b : Nat} (hg : g < 24) (ht : zq_tab r S (g + 1)) (hb : b < 16) : fX12_cheapest r (nI g) (nI b) = (if (zw_bp (fun s => zw_W S g b s (zw_V S (23 - g) s)) 16).2 = 1000000 then -1 else nI (zw_bt S g b)) ∧ qX12_cheapest r (nI g) (nI b) := by
  have hstep : ∀ j x, 0 ≤ j → j < 0 + 16 → (x = if (zw_bp (fun s => zw_W S g b s (zw_V S (23 - g) s)) j).2 = 1000000 then -1 else nI (zw_bp (fun s => zw_W S g b s (zw_V S (23 - g) s)) j).1) → qX12_cheapest_5 r (nI g) (nI b) j x ∧ bX12_cheapest_5 r (nI g) (nI b) j x = if (zw_bp (fun s => zw_W S g b s (zw_V S (23 - g) s)) (j + 1)).2 = 1000000 then -1 else nI (zw_bp (fun s => zw_W S g b s (zw_V S (23 - g) s)) (j + 1)).1 := fun j x _ hj hx => by
    obtain ⟨c1, c2⟩ := zq_costWith h ok hp hg ht hb (show j < 16 by omega)
    have hW := zw_W_le (S := S) (h := g) (b := b) (s := j) (x := zw_V S (23 - g) j)
    have hf := zw_bp_f (w := fun s => zw_W S g b s (zw_V S (23 - g) s)) j
    unfold qX12_cheapest_5 bX12_cheapest_5
    rw [c1, zw_bp_s]
    by_cases cw : zw_W S g b j (zw_V S (23 - g) j) = 1000000
    · rw [if_pos ((zw_i_no hW).mpr cw), if_pos (show (zw_bp (fun s => zw_W S g b s (zw_V S (23 - g) s)) j).2 ≤ zw_W S g b j (zw_V S (23 - g) j) by rcases hf with ⟨z, -⟩ | ⟨z, -⟩ <;> omega)]
      exact ⟨⟨c2, fun _ => trivial, fun z => absurd ((zw_i_no hW).mpr cw) z⟩, hx⟩
    · have nw : ¬ zw_i (zw_W S g b j (zw_V S (23 - g) j)) = -1 := fun z => cw ((zw_i_no hW).mp z)
      rw [if_neg nw]
      rcases hf with ⟨z1, z2, z3⟩ | ⟨z1, z2, z3, z4⟩
      · rw [if_pos z1] at hx
        subst hx
        rw [if_pos rfl, if_neg (show ¬ (zw_bp (fun s => zw_W S g b s (zw_V S (23 - g) s)) j).2 ≤ zw_W S g b j (zw_V S (23 - g) j) by omega), if_neg (show ¬ zw_W S g b j (zw_V S (23 - g) j) = 1000000 from cw)]
        exact ⟨⟨c2, fun z => absurd z nw, fun _ => ⟨fun _ => trivial, fun z => absurd rfl z⟩⟩, rfl⟩
      · rw [if_neg (by omega)] at hx
        obtain ⟨d1, d2⟩ := zq_costWith h ok hp hg ht hb (show (zw_bp (fun s => zw_W S g b s (zw_V S (23 - g) s)) j).1 < 16 by omega)
        have z3' : zw_W S g b (zw_bp (fun s => zw_W S g b s (zw_V S (23 - g) s)) j).1 (zw_V S (23 - g) (zw_bp (fun s => zw_W S g b s (zw_V S (23 - g) s)) j).1) = (zw_bp (fun s => zw_W S g b s (zw_V S (23 - g) s)) j).2 := z3
        have nx : ¬ x = -1 := fun z => by
          have h1 : ¬ nI (zw_bp (fun s => zw_W S g b s (zw_V S (23 - g) s)) j).1 < 0 := nI_pos (by omega)
          rw [← hx, z] at h1
          exact absurd (by decide) h1
        have hxin : vp_in x 16 := by
          rw [hx]
          exact vp_in_nI (by omega) (by decide)
        rw [if_neg nx]
        have d1' : fX12_costWith r (nI g) (nI b) x = nI (zw_bp (fun s => zw_W S g b s (zw_V S (23 - g) s)) j).2 := by
          rw [hx, d1, z3', zw_i_is z1]
        have d2' : qX12_costWith r (nI g) (nI b) x := by
          rw [hx]
          exact d2
        rw [d1', zw_i_is (x := zw_W S g b j (zw_V S (23 - g) j)) (by omega)]
        refine ⟨⟨c2, fun z => by rw [← zw_i_is (x := zw_W S g b j (zw_V S (23 - g) j)) (by omega)] at z; exact absurd z nw, fun _ => ⟨fun _ => trivial, fun _ => ⟨hxin, d2', trivial⟩⟩⟩, ?_⟩
        by_cases c : (zw_bp (fun s => zw_W S g b s (zw_V S (23 - g) s)) j).2 ≤ zw_W S g b j (zw_V S (23 - g) j)
        · rw [if_pos (nI_le c (by omega)), if_pos c, if_neg (by omega)]
          exact hx
        · rw [if_neg (nI_ge (by omega) (by omega)), if_neg c, if_neg (show ¬ zw_W S g b j (zw_V S (23 - g) j) = 1000000 from cw)]
  unfold fX12_cheapest qX12_cheapest zw_bt
  exact ⟨zf_inv (fun j x => x = if (zw_bp (fun s => zw_W S g b s (zw_V S (23 - g) s)) j).2 = 1000000 then -1 else nI (zw_bp (fun s => zw_W S g b s (zw_V S (23 - g) s)) j).1) 16 0 (-1) (if_pos rfl).symm (fun j x a1 a2 hx => (hstep j x a1 a2 hx).2), fun _ => ra_fo_i (zf_q (fun j x => x = if (zw_bp (fun s => zw_W S g b s (zw_V S (23 - g) s)) j).2 = 1000000 then -1 else nI (zw_bp (fun s => zw_W S g b s (zw_V S (23 - g) s)) j).1) 16 0 (-1) (if_pos rfl).symm hstep), trivial⟩
theorem zq_ptr_of {t : rj_M} (hp : zq_ptr r) (e : t.2.2.2 409 = r.2.2.2 409) : zq_ptr t := fun h hh => (congrFun e h).trans (hp h hh)
set_option maxRecDepth 100000 in
theorem zq_costNow (h : zr_row (r.1 396) S B) (ok : zo_powr S) (hp : zq_ptr r) : qX12_costNow r ∧ fX12_costNow r = zw_i (zw_V S 24 0) ∧ (∀ g, g ≤ 24 → zq_tab (mX12_costNow r) S g) ∧ (∀ k, k < 410 ∨ 435 ≤ k → (mX12_costNow r).1 k = r.1 k) ∧ (mX12_costNow r).2 = r.2 := by
  -- the last row
  have s1 : ∀ j t, 0 ≤ j → j < 0 + 16 → ((∀ b, b < j → t.1 434 b = 0) ∧ (∀ k, k ≠ 434 → t.1 k = r.1 k) ∧ t.2 = r.2) → qX12_costNow_2 r j t ∧ ((∀ b, b < j + 1 → (bX12_costNow_2 r j t).1 434 b = 0) ∧ (∀ k, k ≠ 434 → (bX12_costNow_2 r j t).1 k = r.1 k) ∧ (bX12_costNow_2 r j t).2 = r.2) := fun j t _ hj ⟨t1, t2, t3⟩ => by
    obtain ⟨w1, w2⟩ := zq_prow (zq_ptr_of (t := t) hp (by rw [t3])) (h := 24) (by decide) (x := 24) rfl
    unfold qX12_costNow_2 bX12_costNow_2
    rw [w2, nI_clamp (n := j) (by omega)]
    refine ⟨⟨w1, trivial⟩, fun b hb => ?_, fun k hk => (zm_pi_ne hk).trans (t2 k hk), t3⟩
    by_cases e : b = j
    · rw [e]
      exact zm_pi_eq
    · rw [zm_pi_ne2 e]
      exact t1 b (by omega)
  have i0 : (∀ b, b < 0 → r.1 434 b = 0) ∧ (∀ k, k ≠ 434 → r.1 k = r.1 k) ∧ r.2 = r.2 := ⟨fun b hb => absurd hb (Nat.not_lt_zero _), fun _ _ => rfl, rfl⟩
  have z1 := zf_inv (f := bX12_costNow_2 r) (fun j t => (∀ b, b < j → t.1 434 b = 0) ∧ (∀ k, k ≠ 434 → t.1 k = r.1 k) ∧ t.2 = r.2) 16 0 r i0 (fun j t a1 a2 ht => (s1 j t a1 a2 ht).2)
  have q1 := zf_q (q := qX12_costNow_2 r) (f := bX12_costNow_2 r) (fun j t => (∀ b, b < j → t.1 434 b = 0) ∧ (∀ k, k ≠ 434 → t.1 k = r.1 k) ∧ t.2 = r.2) 16 0 r i0 s1
  -- an hour
  have s2 : ∀ g t, g < 24 → ((∀ g', g < g' → g' ≤ 24 → zq_tab t S g') ∧ (∀ k, k < 410 ∨ 435 ≤ k → t.1 k = r.1 k) ∧ t.2 = r.2) → qX12_costNow_27 r g t ∧ ((∀ g', g ≤ g' → g' ≤ 24 → zq_tab (bX12_costNow_27 r g t) S g') ∧ (∀ k, k < 410 ∨ 435 ≤ k → (bX12_costNow_27 r g t).1 k = r.1 k) ∧ (bX12_costNow_27 r g t).2 = r.2) := fun g t hg ⟨t1, t2, t3⟩ => by
    have st : ∀ n u, 0 ≤ n → n < 0 + 16 → ((∀ b, b < n → u.1 (410 + g) b = zw_i (zw_V S (24 - g) b)) ∧ (∀ k, k ≠ 410 + g → u.1 k = t.1 k) ∧ u.2 = t.2) → qX12_costNow_33 r g t n u ∧ ((∀ b, b < n + 1 → (bX12_costNow_33 r g t n u).1 (410 + g) b = zw_i (zw_V S (24 - g) b)) ∧ (∀ k, k ≠ 410 + g → (bX12_costNow_33 r g t n u).1 k = t.1 k) ∧ (bX12_costNow_33 r g t n u).2 = t.2) := fun n u _ hn ⟨u1, u2, u3⟩ => by
      have hn16 : n < 16 := by omega
      have hpu : zq_ptr u := zq_ptr_of (t := u) hp (by rw [u3, t3])
      have hru : zr_row (u.1 396) S B := by rw [u2 396 (by omega), t2 396 (by omega)]; exact h
      have htu : zq_tab u S (g + 1) := fun b hb => by rw [u2 _ (by omega)]; exact t1 (g + 1) (by omega) (by omega) b hb
      obtain ⟨c1, c2⟩ := zq_cheapest hru ok hpu hg htu hn16
      obtain ⟨w1, w2⟩ := zq_prow hpu (h := g) (by omega) (x := nI g) rfl
      have e24 : 24 - g = (23 - g) + 1 := by omega
      have e23 : 23 - (23 - g) = g := by omega
      have fin : ∀ v, v = zw_i (zw_V S (24 - g) n) → ((∀ b, b < n + 1 → (rj_pi u (410 + g) n v).1 (410 + g) b = zw_i (zw_V S (24 - g) b)) ∧ (∀ k, k ≠ 410 + g → (rj_pi u (410 + g) n v).1 k = t.1 k) ∧ (rj_pi u (410 + g) n v).2 = t.2) := fun v hv => ⟨fun b hb => by
        by_cases e : b = n
        · rw [e, zm_pi_eq]
          exact hv
        · rw [zm_pi_ne2 e]
          exact u1 b (by omega), fun k hk => (zm_pi_ne hk).trans (u2 k hk), u3⟩
      unfold qX12_costNow_33 bX12_costNow_33
      rw [c1, w2, nI_clamp (n := n) (by omega)]
      by_cases c : (zw_bp (fun s => zw_W S g n s (zw_V S (23 - g) s)) 16).2 = 1000000
      · rw [if_pos c, if_pos rfl]
        refine ⟨⟨c2, w1, fun _ => trivial, fun z => absurd rfl z⟩, fin (-1) ?_⟩
        rw [e24, zw_V_s, e23, c]
        exact (if_pos rfl).symm
      · have hbt : zw_bt S g n < 16 ∧ zw_W S g n (zw_bt S g n) (zw_V S (23 - g) (zw_bt S g n)) = (zw_bp (fun s => zw_W S g n s (zw_V S (23 - g) s)) 16).2 := by
          unfold zw_bt
          rcases zw_bp_f (w := fun s => zw_W S g n s (zw_V S (23 - g) s)) 16 with ⟨z, -⟩ | ⟨-, z2, z3, -⟩
          · exact absurd z c
          · exact ⟨z2, z3⟩
        obtain ⟨d1, d2⟩ := zq_costWith hru ok hpu hg htu hn16 hbt.1
        have nb : ¬ nI (zw_bt S g n) = -1 := fun z => by
          have h1 : ¬ nI (zw_bt S g n) < 0 := nI_pos (by omega)
          rw [z] at h1
          exact absurd (by decide) h1
        rw [if_neg c, if_neg nb]
        refine ⟨⟨c2, w1, fun z => absurd z nb, fun _ => ⟨vp_in_nI hbt.1 (by decide), d2, trivial⟩⟩, fin _ ?_⟩
        rw [d1, hbt.2, e24, zw_V_s, e23]
    have j0 : (∀ b, b < 0 → t.1 (410 + g) b = zw_i (zw_V S (24 - g) b)) ∧ (∀ k, k ≠ 410 + g → t.1 k = t.1 k) ∧ t.2 = t.2 := ⟨fun b hb => absurd hb (Nat.not_lt_zero _), fun _ _ => rfl, rfl⟩
    obtain ⟨y1, y2, y3⟩ := zf_inv (f := bX12_costNow_33 r g t) (fun n u => (∀ b, b < n → u.1 (410 + g) b = zw_i (zw_V S (24 - g) b)) ∧ (∀ k, k ≠ 410 + g → u.1 k = t.1 k) ∧ u.2 = t.2) 16 0 t j0 (fun n u a1 a2 hu => (st n u a1 a2 hu).2)
    have y4 := zf_q (q := qX12_costNow_33 r g t) (f := bX12_costNow_33 r g t) (fun n u => (∀ b, b < n → u.1 (410 + g) b = zw_i (zw_V S (24 - g) b)) ∧ (∀ k, k ≠ 410 + g → u.1 k = t.1 k) ∧ u.2 = t.2) 16 0 t j0 st
    unfold qX12_costNow_27 bX12_costNow_27
    refine ⟨⟨fun _ => ra_fo_i y4, trivial⟩, fun g' e1 e2 b hb => ?_, fun k hk => (y2 k (by omega)).trans (t2 k hk), y3.trans t3⟩
    by_cases e : g' = g
    · rw [e]
      exact y1 b (by omega)
    · rw [y2 _ (by omega)]
      exact t1 g' (by omega) e2 b hb
  have k0 : (∀ g', 24 ≤ g' → g' ≤ 24 → zq_tab (rj_fo (bX12_costNow_2 r) 16 0 r) S g') ∧ (∀ k, k < 410 ∨ 435 ≤ k → (rj_fo (bX12_costNow_2 r) 16 0 r).1 k = r.1 k) ∧ (rj_fo (bX12_costNow_2 r) 16 0 r).2 = r.2 := ⟨fun g' e1 e2 b hb => by
    have e : g' = 24 := by omega
    subst e
    exact z1.1 b (by omega), fun k hk => z1.2.1 k (by omega), z1.2.2⟩
  obtain ⟨x1, x2, x3⟩ := zd_inv (f := bX12_costNow_27 r) (fun g t => (∀ g', g ≤ g' → g' ≤ 24 → zq_tab t S g') ∧ (∀ k, k < 410 ∨ 435 ≤ k → t.1 k = r.1 k) ∧ t.2 = r.2) 24 _ k0 (fun g t hg ht => (s2 g t hg ⟨fun g' a b => ht.1 g' a b, ht.2⟩).2)
  have qd : ∀ n t, n ≤ 24 → ((∀ g', n ≤ g' → g' ≤ 24 → zq_tab t S g') ∧ (∀ k, k < 410 ∨ 435 ≤ k → t.1 k = r.1 k) ∧ t.2 = r.2) → rq_do (qX12_costNow_27 r) (bX12_costNow_27 r) n t := fun n => by
    induction n with
    | zero => exact fun _ _ _ => trivial
    | succ n ih =>
      intro t hn ht
      obtain ⟨a1, a2⟩ := s2 n t (by omega) ⟨fun g' a b => ht.1 g' a b, ht.2⟩
      exact ⟨a1, ih _ (by omega) a2⟩
  obtain ⟨w1, w2⟩ := zq_prow (zq_ptr_of (t := rj_do (bX12_costNow_27 r) 24 (rj_fo (bX12_costNow_2 r) 16 0 r)) hp (by rw [x3])) (h := 0) (by decide) (x := 0) rfl
  have x10 := x1 0 (Nat.zero_le _) (Nat.zero_le _) 0 (by decide)
  rw [Nat.sub_zero] at x10
  unfold qX12_costNow fX12_costNow mX12_costNow
  rw [w2, show (0 : Int32).toNatClampNeg = 0 from by decide]
  exact ⟨⟨fun _ => ra_fo_i q1, fun _ => ra_do_i (qd 24 _ (Nat.le_refl _) k0), w1, trivial⟩, x10, fun g hg => x1 g (Nat.zero_le _) hg, x2, x3⟩
end zqPower
