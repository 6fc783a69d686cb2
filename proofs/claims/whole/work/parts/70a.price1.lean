/-! PRICES, the class's side -/
def ze_W (S : Nat → Nat) (v k : Nat) : Nat := if k < 16 then S (119 + 16 * v + k) else 0
def ze_B (S : Nat → Nat) (k : Nat) : Nat := S (25 + 6 * k)
def ze_end (S : Nat → Nat) (k : Nat) : Nat := S (25 + 6 * k) + S (26 + 6 * k)
def ze_day (S : Nat → Nat) (k : Nat) : Nat := S (25 + 6 * k) / 1440
def ze_st (S : Nat → Nat) (k : Nat) : Nat := S (24 + 6 * k)
/-- x can be reached behind k -/
def ze_rc (S : Nat → Nat) (x k : Nat) : Prop := zp_has S x ∧ zp_has S k ∧ ze_day S x = ze_day S k ∧ ze_end S k + zk_fw (zk_w S) (ze_st S k) (ze_st S x) ≤ ze_B S x
theorem ze_rB {S : Nat → Nat} (ok : zo_prog S) {x k : Nat} (hk : k < 16) (h : ze_rc S x k) : ze_B S k < ze_B S x := by
  have h1 := ((ok.1 k hk).2.2.2.2.2.2.2.2 h.2.1).1
  have h2 := h.2.2.2
  unfold ze_end at h2
  unfold ze_B at *
  omega
theorem ze_W9 {S : Nat → Nat} (ok : zo_prog S) {v : Nat} (hv : v < 12) (k : Nat) : ze_W S v k ≤ 9 := by
  unfold ze_W
  by_cases c : k < 16
  · rw [if_pos c]
    exact (ok.2 v k hv c).1
  · rw [if_neg c]
    exact Nat.zero_le _
theorem ze_W0 {S : Nat → Nat} (ok : zo_prog S) {v k : Nat} (hv : v < 12) (hk : k < 16) (h : ¬ zp_has S k) : ze_W S v k = 0 := by
  unfold ze_W
  rw [if_pos hk]
  exact (ok.2 v k hv hk).2 h
theorem zc_reached {c : rj_M} {S : Nat → Nat} (h : zr_prog c 1 S) (hg : zr_grnd c 1 S) (ok : zo_prog S) (og : zo_grnd S) {x k : Nat} (hx : x < 16) (hk : k < 16) (hh : zp_has S k) : (ze_rc S x k ∧ fX2_isReached c (nI x) (nI k) = 1) ∨ (¬ ze_rc S x k ∧ fX2_isReached c (nI x) (nI k) = 0) := by
  obtain ⟨-, k1, k2, k3, -⟩ := ok.1 k hk
  obtain ⟨-, x1, x2, -⟩ := ok.1 x hx
  unfold fX2_isReached
  rw [zc_dayOf h ok hx, zc_dayOf h ok hk, if_pos hh]
  by_cases e : zp_has S x
  · rw [if_pos e]
    by_cases d : ze_day S x = ze_day S k
    · rw [if_pos (show nI (S (25 + 6 * x) / 1440) = nI (S (25 + 6 * k) / 1440) from congrArg nI d), zc_beginOf h ok hx, zc_endOf h ok hk, if_pos e, if_pos hh, zc_stage1 h ok hk hh, zc_stage1 h ok hx e, zk_mb hg k1 x1, nI_add]
      have hw := zk_fw60 og k1 x1
      by_cases f : ze_end S k + zk_fw (zk_w S) (ze_st S k) (ze_st S x) ≤ ze_B S x
      · have f1 : S (25 + 6 * k) + S (26 + 6 * k) + zk_fw (zk_w S) (S (24 + 6 * k)) (S (24 + 6 * x)) ≤ S (25 + 6 * x) := f
        rw [if_neg (nI_nlt f1 (by omega))]
        exact .inl ⟨⟨e, hh, d, f⟩, rfl⟩
      · have f2 : S (25 + 6 * x) < S (25 + 6 * k) + S (26 + 6 * k) + zk_fw (zk_w S) (S (24 + 6 * k)) (S (24 + 6 * x)) := Nat.lt_of_not_le f
        rw [if_pos (nI_lt f2 (by omega))]
        exact .inr ⟨fun z => f z.2.2.2, rfl⟩
    · have d2 : ¬ nI (S (25 + 6 * x) / 1440) = nI (S (25 + 6 * k) / 1440) := fun z => d (show S (25 + 6 * x) / 1440 = S (25 + 6 * k) / 1440 from (nI_eq (by omega) (by omega)).mp z)
      rw [if_neg d2]
      exact .inr ⟨fun z => d z.2.2.1, rfl⟩
  · have d2 : ¬ (-1 : Int32) = nI (S (25 + 6 * k) / 1440) := fun z => by
      have h9 := nI_pos (n := S (25 + 6 * k) / 1440) (by omega)
      rw [← z] at h9
      exact h9 (by decide)
    rw [if_neg e, if_neg d2]
    exact .inr ⟨fun z => e z.1, rfl⟩
theorem zc_dearest {c : rj_M} {S P : Nat → Nat} (h : zr_prog c 1 S) (hg : zr_grnd c 1 S) (ok : zo_prog S) (og : zo_grnd S) (hP : ∀ k, k < 16 → c.1 46 k = nI (P k)) (hb : ∀ k, k < 16 → P k < 2 ^ 20) {k : Nat} (hk : k < 16) (hh : zp_has S k) : ∃ D, fX2_dearestBehind c (nI k) = nI D ∧ (∀ x, x < 16 → ze_rc S x k → P x ≤ D) ∧ (D = 0 ∨ ∃ x, x < 16 ∧ ze_rc S x k ∧ P x = D) := by
  unfold fX2_dearestBehind
  have hz := zf_inv (f := bX2_dearestBehind_4 c (nI k)) (fun j s => ∃ D, s = nI D ∧ D < 2 ^ 20 ∧ (∀ x, x < j → ze_rc S x k → P x ≤ D) ∧ (D = 0 ∨ ∃ x, x < 16 ∧ ze_rc S x k ∧ P x = D)) 16 0 (0 : Int32) ⟨0, rfl, by decide, fun x hx => absurd hx (Nat.not_lt_zero _), .inl rfl⟩ (fun j s _ hj ⟨D, d1, d2, d3, d4⟩ => by
    have hj16 : j < 16 := by omega
    have hpj := hb j hj16
    unfold bX2_dearestBehind_4
    rw [nI_clamp (n := j) (by omega), hP j hj16, d1]
    by_cases e : P j ≤ D
    · rw [if_pos (nI_le e (by omega))]
      refine ⟨D, rfl, d2, fun x hx hr => ?_, d4⟩
      by_cases e2 : x = j
      · subst e2
        exact e
      · exact d3 x (by omega) hr
    · rw [if_neg (nI_ge (Nat.lt_of_not_le e) (by omega))]
      rcases zc_reached h hg ok og hj16 hk hh with ⟨r1, r2⟩ | ⟨r1, r2⟩
      · rw [r2, if_neg (by decide)]
        refine ⟨P j, rfl, hpj, fun x hx hr => ?_, .inr ⟨j, hj16, r1, rfl⟩⟩
        by_cases e2 : x = j
        · subst e2
          exact Nat.le_refl _
        · have := d3 x (by omega) hr
          omega
      · rw [r2, if_pos rfl]
        refine ⟨D, rfl, d2, fun x hx hr => ?_, d4⟩
        by_cases e2 : x = j
        · subst e2
          exact absurd hr r1
        · exact d3 x (by omega) hr)
  obtain ⟨D, d1, -, d3, d4⟩ := hz
  exact ⟨D, d1, fun x hx hr => d3 x (by omega) hr, d4⟩
theorem zc_latest {c : rj_M} {S : Nat → Nat} (h : zr_prog c 1 S) (ok : zo_prog S) {dn : Nat} (hd : dn < 2 ^ 16) : (fX7_latestOutside c (nI dn) = -1 ∧ ∀ x, x < 16 → zp_has S x → dn.testBit x = true) ∨ ∃ a, a < 16 ∧ fX7_latestOutside c (nI dn) = nI a ∧ zp_has S a ∧ dn.testBit a = false ∧ ∀ x, x < 16 → zp_has S x → dn.testBit x = false → ze_B S x ≤ ze_B S a := by
  unfold fX7_latestOutside
  have hz := zf_inv (f := bX7_latestOutside_4 c (nI dn)) (fun j s => (s = -1 ∧ ∀ x, x < j → zp_has S x → dn.testBit x = true) ∨ ∃ a, a < j ∧ s = nI a ∧ zp_has S a ∧ dn.testBit a = false ∧ ∀ x, x < j → zp_has S x → dn.testBit x = false → ze_B S x ≤ ze_B S a) 16 0 (-1 : Int32) (.inl ⟨rfl, fun x hx => absurd hx (Nat.not_lt_zero _)⟩) (fun j s _ hj hs => by
    have hj16 : j < 16 := by omega
    have hbj := (ok.1 j hj16).2.2.1
    -- nothing new
    have hkeep : (zp_has S j → dn.testBit j = false → ∃ a, a < j ∧ s = nI a ∧ ze_B S j ≤ ze_B S a) → ((s = -1 ∧ ∀ x, x < j + 1 → zp_has S x → dn.testBit x = true) ∨ ∃ a, a < j + 1 ∧ s = nI a ∧ zp_has S a ∧ dn.testBit a = false ∧ ∀ x, x < j + 1 → zp_has S x → dn.testBit x = false → ze_B S x ≤ ze_B S a) := fun z => by
      rcases hs with ⟨s1, s2⟩ | ⟨a, a1, a2, a3, a4, a5⟩
      · refine .inl ⟨s1, fun x hx hh => ?_⟩
        by_cases e : x = j
        · subst e
          rcases hb : dn.testBit x with _ | _
          · obtain ⟨a, y1, y2, -⟩ := z hh hb
            have h9 := nI_pos (n := a) (by omega)
            rw [← y2, s1] at h9
            exact absurd (by decide) h9
          · rfl
        · exact s2 x (by omega) hh
      · refine .inr ⟨a, by omega, a2, a3, a4, fun x hx hh hb => ?_⟩
        by_cases e : x = j
        · subst e
          obtain ⟨a', y1, y2, y3⟩ := z hh hb
          have : a' = a := (nI_eq (by omega) (by omega)).mp (y2.symm.trans a2)
          rw [← this]
          exact y3
        · exact a5 x (by omega) hh hb
    unfold bX7_latestOutside_4
    rw [nI_clamp (n := j) (by omega), zc_begin h hj16]
    rcases zc_has h ok hj16 with ⟨e, e2⟩ | ⟨e, e2⟩
    · rw [e2, if_neg (by decide)]
      rcases hb : dn.testBit j with _ | _
      · rw [if_pos ((zn_bit0 (by omega) (by omega)).mpr hb)]
        -- against the one that is kept
        rcases hs with ⟨s1, s2⟩ | ⟨a, a1, a2, a3, a4, a5⟩
        · have hb1 : fX7_beginOf c s = -1 := by
            rw [s1]
            unfold fX7_beginOf
            rw [zc_no, if_pos rfl]
          have hn : ¬ nI (S (25 + 6 * j)) ≤ -1 := fun z => by
            have h9 := nI_pos (n := S (25 + 6 * j)) (by omega)
            exact h9 (Int32.lt_of_le_of_lt z (by decide))
          rw [hb1, if_neg hn]
          refine .inr ⟨j, Nat.lt_succ_self j, rfl, e, hb, fun x hx hh hbx => ?_⟩
          by_cases e3 : x = j
          · rw [e3]
            exact Nat.le_refl _
          · have := s2 x (by omega) hh
            rw [this] at hbx
            cases hbx
        · have ha16 : a < 16 := by omega
          have hba := (ok.1 a ha16).2.2.1
          rw [a2, zc_beginOf h ok ha16, if_pos a3]
          by_cases e3 : S (25 + 6 * j) ≤ S (25 + 6 * a)
          · rw [if_pos (nI_le e3 (by omega))]
            rw [a2] at hkeep
            exact hkeep (fun _ _ => ⟨a, a1, rfl, e3⟩)
          · rw [if_neg (nI_ge (Nat.lt_of_not_le e3) (by omega))]
            refine .inr ⟨j, Nat.lt_succ_self j, rfl, e, hb, fun x hx hh hbx => ?_⟩
            by_cases e4 : x = j
            · rw [e4]
              exact Nat.le_refl _
            · have := a5 x (by omega) hh hbx
              unfold ze_B at *
              omega
      · rw [if_neg (fun z => by rw [(zn_bit0 (by omega) (by omega)).mp z] at hb; cases hb)]
        exact hkeep (fun _ z => by rw [hb] at z; cases z)
    · rw [e2, if_pos rfl]
      exact hkeep (fun z => absurd z e))
  rcases hz with ⟨s1, s2⟩ | ⟨a, a1, a2, a3, a4, a5⟩
  · exact .inl ⟨s1, fun x hx => s2 x (by omega)⟩
  · exact .inr ⟨a, by omega, a2, a3, a4, fun x hx => a5 x (by omega)⟩
theorem zr_grnd_of {c t : rj_M} {b : Nat} {S : Nat → Nat} (h : zr_grnd c b S) (e : ∀ k, b + 3 ≤ k → k ≤ b + 6 → t.1 k = c.1 k) : zr_grnd t b S := by
  have e3 := e (b + 3) (by omega) (by omega)
  have e4 := e (b + 4) (by omega) (by omega)
  have e5 := e (b + 5) (by omega) (by omega)
  have e6 := e (b + 6) (by omega) (by omega)
  unfold zr_grnd
  rw [e3, e4, e5, e6]
  exact h
/-- what planFor leaves -/
theorem zc_plan {c : rj_M} {S : Nat → Nat} (h : zr_prog c 1 S) (hg : zr_grnd c 1 S) (ok : zo_prog S) (og : zo_grnd S) {v : Nat} (hv : v < 12) : ∃ P : Nat → Nat, (∀ k, k < 16 → (mX2_planFor c (nI v)).1 46 k = nI (P k)) ∧ (∀ k, k < 16 → zv_E (ze_W S v) (ze_rc S) P k) ∧ (∀ k, k < 16 → P k + 9 * ze_B S k ≤ 51840) ∧ (∀ k, k ≠ 45 → k ≠ 46 → (mX2_planFor c (nI v)).1 k = c.1 k) ∧ (mX2_planFor c (nI v)).1 45 = upd (c.1 45) 3 (nI v) ∧ (mX2_planFor c (nI v)).2 = c.2 := by
  obtain ⟨f1, f2, f3⟩ := zm_fill (μ := rj_pi c 45 3 (nI v)) (k := 46) (n := 16) (v := 0) (by decide)
  have hrB : ∀ x k, x < 16 → k < 16 → ze_rc S x k → ze_B S k < ze_B S x := fun x k _ hk hr => ze_rB ok hk hr
  -- what holds all the while
  let J : Nat → (Int32 × rj_M) → Prop := fun i s => ∃ (dn : Nat) (P : Nat → Nat), s.1 = nI dn ∧ dn < 2 ^ 16 ∧ (∀ k, k ≠ 45 → k ≠ 46 → s.2.1 k = c.1 k) ∧ s.2.1 45 = upd (c.1 45) 3 (nI v) ∧ s.2.2 = c.2 ∧ (∀ k, k < 16 → s.2.1 46 k = nI (P k)) ∧ (∀ k, k < 16 → dn.testBit k = true → zp_has S k ∧ zv_E (ze_W S v) (ze_rc S) P k ∧ P k + 9 * ze_B S k ≤ 51840 ∧ ∀ x, x < 16 → zp_has S x → dn.testBit x = false → ze_B S x ≤ ze_B S k) ∧ (∀ k, k < 16 → dn.testBit k = false → P k = 0) ∧ zc_n (fun k => !(dn.testBit k)) 16 + i ≤ 16
  let R : rj_M → Prop := fun m => ∃ P : Nat → Nat, (∀ k, k < 16 → m.1 46 k = nI (P k)) ∧ (∀ k, k < 16 → zv_E (ze_W S v) (ze_rc S) P k) ∧ (∀ k, k < 16 → P k + 9 * ze_B S k ≤ 51840) ∧ (∀ k, k ≠ 45 → k ≠ 46 → m.1 k = c.1 k) ∧ m.1 45 = upd (c.1 45) 3 (nI v) ∧ m.2 = c.2
  have hB : ∀ k, k < 16 → ze_B S k < 5760 := fun k hk => (ok.1 k hk).2.2.1
  have hend : ∀ i s, J i s → (∀ x, x < 16 → zp_has S x → (∀ dn : Nat, s.1 = nI dn → dn < 2 ^ 16 → dn.testBit x = true)) → R s.2 := fun i s ⟨dn, P, j1, j2, j3, j4, j5, j6, j7, j8, j9⟩ hall => by
    refine ⟨P, j6, fun k hk => ?_, fun k hk => ?_, j3, j4, j5⟩
    · by_cases e : zp_has S k
      · exact (j7 k hk (hall k hk e dn j1 j2)).2.1
      · have h0 : dn.testBit k = false := by
          rcases hb : dn.testBit k with _ | _
          · rfl
          · exact absurd (j7 k hk hb).1 e
        exact .inl ⟨ze_W0 ok hv hk e, j8 k hk h0⟩
    · rcases hb : dn.testBit k with _ | _
      · have := j8 k hk hb
        have := hB k hk
        omega
      · exact (j7 k hk hb).2.2.1
  have hrun := zx_inv (f := bX2_planFor_17 c (nI v)) J R 16 0 ((0 : Int32), mX11_fillRow (rj_pi c 45 3 (nI v)) 46 16 0) ⟨0, fun _ => 0, rfl, by decide, fun k k1 k2 => by rw [f1 k k2, zm_pi_ne k1], by rw [f1 45 (by decide), zm_pi_at], f3, fun k hk => by rw [f2 k, if_pos hk]; rfl, fun k _ hb => (by rw [Nat.zero_testBit] at hb; cases hb), fun _ _ _ => rfl, by have := zc_le (p := fun k => !((0 : Nat).testBit k)) 16; omega⟩ (fun i s _ hi hJ => by
    have hJ0 := hJ
    obtain ⟨dn, P, j1, j2, j3, j4, j5, j6, j7, j8, j9⟩ := hJ
    have hp : zr_prog s.2 1 S := zr_prog_of h (fun k a1 a2 => j3 k (by omega) (by omega))
    have hgr : zr_grnd s.2 1 S := zr_grnd_of hg (fun k a1 a2 => j3 k (by omega) (by omega))
    have hPb : ∀ k, k < 16 → P k < 2 ^ 20 := fun k hk => by
      rcases hb : dn.testBit k with _ | _
      · rw [j8 k hk hb]
        decide
      · have := (j7 k hk hb).2.2.1
        omega
    have hvis : s.2.1 45 3 = nI v := by
      rw [j4]
      exact if_pos rfl
    unfold bX2_planFor_17
    rw [j1, hvis]
    rcases zc_latest hp ok j2 with ⟨l1, l2⟩ | ⟨a, ha, l1, l2, l3, l4⟩
    · rw [if_pos l1]
      refine ⟨fun z hz => (by cases hz), fun w hw => ?_⟩
      cases hw
      exact hend i s hJ0 (fun x hx hh dn' e1 e2 => by
        have : dn' = dn := (nI_eq (by omega) (by omega)).mp (e1.symm.trans j1)
        rw [this]
        exact l2 x hx hh)
    · have hna : ¬ nI a = -1 := fun z => by
        have h9 := nI_pos (n := a) (by omega)
        rw [z] at h9
        exact h9 (by decide)
      have hBa := hB a ha
      -- the next state, whatever the price D is
      have hnext : ∀ D, (∀ x, x < 16 → ze_rc S x a → P x ≤ D) → (D = 0 ∨ ∃ x, x < 16 ∧ ze_rc S x a ∧ P x = D) → ∀ val : Nat, val = (if ze_W S v a = 0 then 0 else ze_W S v a + D) → J (i + 1) ((nI dn ||| (1 <<< (nI a &&& 31))), mX11_replace s.2 46 16 (nI a) (nI val)) := fun D hD1 hD2 val hval => by
        have hrep := (zm_rep (μ := s.2) (k := 46) (n := 16) (v := nI val) (a := nI a) rfl ha (by decide)).1
        have hor : nI dn ||| (1 <<< (nI a &&& 31)) = nI (dn ||| 2 ^ a) := by
          rw [zn_shl a (by omega), zn_or (by omega) (Nat.pow_lt_pow_right (by decide) (by omega))]
        have hbit : ∀ k, (dn ||| 2 ^ a).testBit k = (dn.testBit k || decide (a = k)) := fun k => by rw [Nat.testBit_or, Nat.testBit_two_pow]
        have hP' : ∀ k, (fun i => if i = a then (if ze_W S v a = 0 then 0 else ze_W S v a + D) else P i) k = if k = a then val else P k := fun k => by rw [hval]
        have hE := zv_add (W := ze_W S v) (B := ze_B S) (r := ze_rc S) (P := P) (dn := fun k => dn.testBit k = true) (a := a) (D := D) hrB ha (fun k hk hd => (j7 k hk hd).2.1) (fun k hk hd => (j7 k hk hd).2.2.2 a ha l2 l3) hD1 hD2
        have hvb : val + 9 * ze_B S a ≤ 51840 := by
          rw [hval]
          have hw9 := ze_W9 ok hv a
          by_cases w : ze_W S v a = 0
          · rw [if_pos w]
            omega
          · rw [if_neg w]
            rcases hD2 with z | ⟨x, z1, z2, z3⟩
            · omega
            · have h1 := hrB x a z1 ha z2
              have h2 : P x + 9 * ze_B S x ≤ 51840 := by
                rcases hb : dn.testBit x with _ | _
                · have h3 := l4 x z1 z2.1 hb
                  omega
                · exact (j7 x z1 hb).2.2.1
              omega
        refine ⟨dn ||| 2 ^ a, (fun i => if i = a then (if ze_W S v a = 0 then 0 else ze_W S v a + D) else P i), hor, Nat.or_lt_two_pow j2 (Nat.pow_lt_pow_right (by decide) ha), fun k k1 k2 => ?_, ?_, ?_, fun k hk => ?_, fun k hk hb => ?_, fun k hk hb => ?_, ?_⟩
        · show (mX11_replace s.2 46 16 (nI a) (nI val)).1 k = _
          rw [hrep, zm_pi_ne k2]
          exact j3 k k1 k2
        · show (mX11_replace s.2 46 16 (nI a) (nI val)).1 45 = _
          rw [hrep, zm_pi_ne (by decide)]
          exact j4
        · show (mX11_replace s.2 46 16 (nI a) (nI val)).2 = _
          rw [hrep]
          exact j5
        · show (mX11_replace s.2 46 16 (nI a) (nI val)).1 46 k = _
          rw [hrep, hP' k]
          by_cases e : k = a
          · rw [if_pos e, e, zm_pi_eq]
          · rw [if_neg e, zm_pi_ne2 e]
            exact j6 k hk
        · rw [hbit] at hb
          have hka : dn.testBit k = true ∨ k = a := by
            rcases hd : dn.testBit k with _ | _
            · rw [hd, Bool.false_or] at hb
              exact .inr (of_decide_eq_true hb).symm
            · exact .inl rfl
          refine ⟨?_, hE k hk hka, ?_, fun x hx hh hbx => ?_⟩
          · rcases hka with z | z
            · exact (j7 k hk z).1
            · rw [z]
              exact l2
          · rw [hP' k]
            by_cases e : k = a
            · rw [if_pos e, e]
              exact hvb
            · rw [if_neg e]
              rcases hka with z | z
              · exact (j7 k hk z).2.2.1
              · exact absurd z e
          · rw [hbit, Bool.or_eq_false_iff] at hbx
            rcases hka with z | z
            · exact (j7 k hk z).2.2.2 x hx hh hbx.1
            · rw [z]
              exact l4 x hx hh hbx.1
        · rw [hbit, Bool.or_eq_false_iff] at hb
          rw [hP' k, if_neg (fun z => (of_decide_eq_false hb.2) z.symm)]
          exact j8 k hk hb.1
        · have hlt := zc_lt (p := fun k => !((dn ||| 2 ^ a).testBit k)) (q := fun k => !(dn.testBit k)) (a := a) 16 ha (fun k _ hk => by
            rw [hbit] at hk
            rcases hd : dn.testBit k with _ | _
            · rfl
            · rw [hd] at hk
              exact hk) (by rw [hbit, decide_eq_true rfl, Bool.or_true]; rfl) (by rw [l3]; rfl)
          omega
      obtain ⟨D, d1, d2, d3⟩ := zc_dearest hp hgr ok og j6 hPb ha l2
      have hW : fX7_wishOf s.2 (nI v) (nI a) = nI (ze_W S v a) := by
        rw [zc_wish hp ok hv ha]
        unfold ze_W
        rw [if_pos ha]
      have hw9 := ze_W9 ok hv a
      rw [l1, if_neg hna, hW, d1, nI_add]
      by_cases w : ze_W S v a = 0
      · rw [w, if_pos (show nI 0 = 0 from rfl)]
        refine ⟨fun z hz => ?_, fun z hz => by cases hz⟩
        cases hz
        exact hnext D d2 d3 0 (by rw [if_pos w])
      · rw [if_neg (nI_ne0 (by omega) (by omega))]
        refine ⟨fun z hz => ?_, fun z hz => by cases hz⟩
        cases hz
        exact hnext D d2 d3 (ze_W S v a + D) (by rw [if_neg w]))
  unfold mX2_planFor
  rcases hrun with ⟨z, z1, z2⟩ | ⟨w, w1, w2⟩
  · rw [z1]
    show R z.2
    exact hend 16 z (by rw [Nat.zero_add] at z2; exact z2) (fun x hx _ dn e1 e2 => by
      obtain ⟨dn', P, j1, j2, -, -, -, -, -, -, j9⟩ := z2
      have : dn = dn' := (nI_eq (by omega) (by omega)).mp (e1.symm.trans j1)
      have h0 := zc_all 16 (show zc_n (fun k => !(dn'.testBit k)) 16 = 0 by omega) x hx
      rw [this]
      simpa using h0)
  · rw [w1]
    exact w2
