/-! QUERIES, both sides: counts, the first act, balances, the checksum -/
def zs (f : Nat → Nat) : Nat → Nat
  | 0 => 0
  | n + 1 => zs f n + f n
theorem zs_congr {f g : Nat → Nat} : ∀ n, (∀ k, k < n → f k = g k) → zs f n = zs g n
  | 0, _ => rfl
  | n + 1, h => by
    show zs f n + f n = zs g n + g n
    rw [zs_congr n (fun k hk => h k (by omega)), h n (by omega)]
theorem zs_add {f g : Nat → Nat} : ∀ n, zs (fun k => f k + g k) n = zs f n + zs g n
  | 0 => rfl
  | n + 1 => by
    show zs (fun k => f k + g k) n + (f n + g n) = zs f n + f n + (zs g n + g n)
    rw [zs_add n]
    omega
theorem zs_0 {f : Nat → Nat} : ∀ n, (∀ k, k < n → f k = 0) → zs f n = 0
  | 0, _ => rfl
  | n + 1, h => by
    show zs f n + f n = 0
    rw [zs_0 n (fun k hk => h k (by omega)), h n (by omega)]
/-- pairs counted by their lesser and by their greater -/
theorem zs_pairs {p : Nat → Nat → Nat} : ∀ N, zs (fun i => zs (fun j => if i < j then p i j else 0) N) N = zs (fun j => zs (fun i => p i j) j) N
  | 0 => rfl
  | N + 1 => by
    show zs (fun i => zs (fun j => if i < j then p i j else 0) (N + 1)) N + zs (fun j => if N < j then p N j else 0) (N + 1) = zs (fun j => zs (fun i => p i j) j) N + zs (fun i => p i N) N
    rw [zs_0 (f := fun j => if N < j then p N j else 0) (N + 1) (fun k hk => if_neg (by omega)), Nat.add_zero, ← zs_pairs N, ← zs_add]
    refine zs_congr N (fun i hi => ?_)
    show zs (fun j => if i < j then p i j else 0) N + (if i < N then p i N else 0) = _
    rw [if_pos hi]
theorem zf_zs {f : Nat → Int32 → Int32} {g : Nat → Nat} {x : Nat} : ∀ n, (∀ j y, j < n → f j (nI y) = nI (y + g j)) → rj_fo f n 0 (nI x) = nI (x + zs g n)
  | 0, _ => rfl
  | n + 1, h => by
    rw [zf_last n 0, zf_zs n (fun j y hj => h j y (by omega)), Nat.zero_add, h n _ (by omega), Nat.add_assoc]
    rfl
theorem zf_zs1 {f : Nat → Int32 → Int32} {g : Nat → Nat} {x i : Nat} : ∀ n, (∀ j y, i < j → j < i + 1 + n → f j (nI y) = nI (y + g j)) → rj_fo f n (i + 1) (nI x) = nI (x + zs (fun j => if i < j then g j else 0) (i + 1 + n))
  | 0, _ => by
    show nI x = nI (x + zs (fun j => if i < j then g j else 0) (i + 1))
    rw [zs_0 (i + 1) (fun k hk => if_neg (by omega))]
    rfl
  | n + 1, h => by
    rw [zf_last n (i + 1), zf_zs1 n (fun j y h1 h2 => h j y h1 (by omega)), h (i + 1 + n) _ (by omega) (by omega), Nat.add_assoc]
    show _ = nI (x + (zs (fun j => if i < j then g j else 0) (i + 1 + n) + (if i < i + 1 + n then g (i + 1 + n) else 0)))
    rw [if_pos (by omega)]
theorem zn_of64 {b : Int} (h1 : -2147483648 ≤ b) (h2 : b < 2147483648) : (Int32.ofInt b).toInt64 = Int64.ofInt b := by
  rw [← Int64.ofInt_int32ToInt, Int32.toInt_ofInt_of_le h1 h2]
section zqQuery3
variable {r c : rj_M} {S : Nat → Nat} {B : Nat → Int} {a0 a1 a2 : Int32}
theorem zo_acts (hc : zr_prog c 1 S) (hr : zr_row (r.1 396) S B) (ok : zo_prog S) : fX11_acts c = fX12_acts r ∧ fX11_acts c = nI (zs (fun a => S (23 + 6 * a)) 16) ∧ (mX12_acts r).1 395 0 = 0 ∧ zo_still r (mX12_acts r) := by
  have e1 : fX11_acts c = nI (zs (fun a => S (23 + 6 * a)) 16) := by
    unfold fX11_acts
    rw [zc_numbers hc ok, zk_bc (Nat.lt_of_lt_of_le zb_of_at.1 (by decide))]
    congr 1
    have key : ∀ n, n ≤ 16 → zk_pc (zb_of (zp_el S) 16) n = zs (fun a => S (23 + 6 * a)) n := fun n => by
      induction n with
      | zero => exact fun _ => rfl
      | succ n ih =>
        intro hn
        rw [zk_pc_s, ih (by omega), zb_of_at.2 n, decide_eq_true (by omega : n < 16), Bool.true_and]
        have h1 := (ok.1 n (by omega)).1
        show _ = zs (fun a => S (23 + 6 * a)) n + S (23 + 6 * n)
        by_cases e : zp_has S n
        · rw [if_pos (show zp_el S n = true from zz_t.mpr e), show S (23 + 6 * n) = 1 from e]
        · rw [if_neg (show ¬ zp_el S n = true from fun z => e (zz_t.mp z))]
          have : ¬ S (23 + 6 * n) = 1 := e
          omega
    exact key 16 (Nat.le_refl _)
  have e2 : fX12_acts r = nI (zs (fun a => S (23 + 6 * a)) 16) := by
    unfold fX12_acts fX12_actsNow
    generalize hm : rj_pi r 395 0 0 = m
    have hr' : zr_row (m.1 396) S B := by rw [← hm, zm_pi_ne (by decide)]; exact hr
    have := zf_zs (f := bX12_actsNow_4 m) (g := fun a => S (23 + 6 * a)) (x := 0) 16 (fun j y hj => by
      unfold bX12_actsNow_4
      rw [zq_its hr' (w := 0) (i := 0) hj (by decide) rfl, nI_add, Nat.add_zero])
    rw [Nat.zero_add] at this
    exact this
  exact ⟨e1.trans e2.symm, e1, zm_pi_eq, zo_still_t⟩
noncomputable def zp_foe1 (S : Nat → Nat) (a b : Nat) : Nat := if zz (zp_has S a ∧ zp_has S b ∧ zp_clash S a b) = true then 1 else 0
theorem zo_clashes (hc : zr_prog c 1 S) (hr : zr_row (r.1 396) S B) (ok : zo_prog S) : fX11_clashes c = fX12_clashes r ∧ (mX12_clashes r).1 395 0 = 0 ∧ zo_still r (mX12_clashes r) := by
  refine ⟨?_, zm_pi_eq, zo_still_t⟩
  have e1 : fX11_clashes c = nI (zs (fun i => zs (fun j => if i < j then zp_foe1 S i j else 0) 16) 16) := by
    unfold fX11_clashes fX7_countFoes
    have := zf_zs (f := bX7_countFoes_4 c) (g := fun i => zs (fun j => if i < j then zp_foe1 S i j else 0) 16) (x := 0) 16 (fun i y hi => by
      unfold bX7_countFoes_4
      have h1 := zf_zs1 (f := bX7_countFoes_14 c i (nI y)) (g := fun j => zp_foe1 S i j) (x := y) (i := i) (16 - (i + 1)) (fun j z h1 h2 => by
        unfold bX7_countFoes_14 zp_foe1
        rcases zc_foes hc ok hi (b := j) (by omega) with ⟨f1, f2⟩ | ⟨f1, f2⟩
        · rw [f2, if_neg (by decide), if_pos (zz_t.mpr f1), nI_succ]
        · rw [f2, if_pos rfl, if_neg (fun w => f1 (zz_t.mp w)), Nat.add_zero])
      rw [h1, show i + 1 + (16 - (i + 1)) = 16 by omega])
    rw [Nat.zero_add] at this
    exact this
  have e2 : fX12_clashes r = nI (zs (fun j => zs (fun i => zp_foe1 S i j) j) 16) := by
    unfold fX12_clashes
    have := zf_zs (f := bX12_clashes_9 r) (g := fun j => zs (fun i => zp_foe1 S i j) j) (x := 0) 16 (fun j y hj => by
      unfold bX12_clashes_9
      rw [zn_toN (by omega)]
      have h1 := zf_zs (f := bX12_clashes_17 r j (nI y)) (g := fun i => zp_foe1 S i j) (x := y) j (fun i z hi => by
        unfold bX12_clashes_17 zp_foe1
        generalize hm : rj_pi r 395 0 0 = m
        have hr' : zr_row (m.1 396) S B := by rw [← hm, zm_pi_ne (by decide)]; exact hr
        rcases zq_isAct hr' ok hj with ⟨g1, g2⟩ | ⟨g1, g2⟩
        · rw [g2, if_neg (by decide)]
          rcases zq_isAct hr' ok (a := i) (by omega) with ⟨g3, g4⟩ | ⟨g3, g4⟩
          · rw [g4, if_neg (by decide)]
            rcases zq_clash hr' ok hj (b := i) (by omega) with ⟨g5, g6⟩ | ⟨g5, g6⟩
            · rw [g6, if_neg (by decide), if_pos (zz_t.mpr ⟨g3, g1, zp_clash_sym.mp g5⟩), nI_succ]
            · rw [g6, if_pos rfl, if_neg (fun w => g5 (zp_clash_sym.mp (zz_t.mp w).2.2)), Int32.add_zero, Nat.add_zero]
          · rw [g4, if_pos rfl, if_neg (fun w => g3 (zz_t.mp w).1), Int32.add_zero, Nat.add_zero]
        · rw [g2, if_pos rfl, if_neg (fun w => g1 (zz_t.mp w).2.1), Int32.add_zero, Nat.add_zero])
      exact h1)
    rw [Nat.zero_add] at this
    exact this
  rw [e1, e2, zs_pairs]
theorem zo_firstIn (hc : zr_prog c 1 S) (hr : zr_row (r.1 396) S B) (ok : zo_prog S) : zo_out ["java/lang/IndexOutOfBoundsException", "java/lang/IllegalArgumentException"] (fX11_firstIn c a0 a1 a2) ((mX12_firstIn r a0 a1 a2).1 395 0) (fX12_firstIn r a0 a1 a2) ∧ zo_still r (mX12_firstIn r a0 a1 a2) := by
  unfold fX11_firstIn mX12_firstIn fX12_firstIn
  have hst : ∀ x, fX12_isStage r x = fX12_in r x 0 3 := fun _ => rfl
  rcases zn_p2 (μ := c) (ν := r) (a := a0) (c := 4) (d := 3) (n := 3) rfl rfl (by decide) with ⟨e1, e2, st, hx, rfl⟩ | ⟨e1, e2⟩
  · rw [hst, e1, e2, zm_lacks1.1, zm_lacks1.2, if_pos rfl, if_pos rfl]
    by_cases c1 : a2 < a1
    · rw [if_pos c1, if_pos c1, zm_F2]
      show zo_out _ (if a1 ≤ a2 then _ else _) _ _ ∧ _
      rw [if_neg (Int32.not_le.mpr c1)]
      exact ⟨zh_2 (by decide), zo_stillF2⟩
    · rw [if_neg c1, if_neg c1, zm_T]
      show zo_out _ (if a1 ≤ a2 then _ else _) _ _ ∧ _
      rw [if_pos (Int32.not_lt.mp c1)]
      refine ⟨⟨rfl, ?_⟩, zo_stillT⟩
      unfold fX7_earliest
      have hr' : zr_row ((mX12_lacksT r).1 396) S B := zr_T hr
      have step : ∀ j s, j < 16 → (s = -1 ∨ ∃ a, a < 16 ∧ zp_has S a ∧ s = nI a) → bX12_firstIn_37 r (nI st) a1 a2 j s = bX7_earliest_6 c (nI st) a1 a2 j s ∧ (bX7_earliest_6 c (nI st) a1 a2 j s = -1 ∨ ∃ a, a < 16 ∧ zp_has S a ∧ bX7_earliest_6 c (nI st) a1 a2 j s = nI a) := fun j s hj hs => by
        unfold bX12_firstIn_37 bX7_earliest_6
        rw [hst, e2, zm_lacks1.2]
        generalize mX12_lacksT r = m at hr'
        rw [nI_clamp (by omega), zc_begin hc hj, zq_begin hr' hj, zq_stage hr' hj]
        rcases zq_isAct hr' ok hj with ⟨g1, g2⟩ | ⟨g1, g2⟩
        · rw [g2, if_neg (by decide), zc_stage1 hc ok hj g1]
          by_cases c2 : nI (S (24 + 6 * j)) = nI st
          · rw [if_pos c2, if_pos c2]
            by_cases c3 : nI (S (25 + 6 * j)) < a1
            · rw [if_pos c3, if_pos c3]
              exact ⟨rfl, hs⟩
            · rw [if_neg c3, if_neg c3]
              by_cases c4 : nI (S (25 + 6 * j)) < a2
              · rw [if_pos c4, if_neg (Int32.not_le.mpr c4)]
                by_cases c5 : s = -1
                · rw [if_pos c5, if_pos c5]
                  exact ⟨rfl, .inr ⟨j, hj, g1, rfl⟩⟩
                · rw [if_neg c5, if_neg c5]
                  obtain ⟨a, ha, g3, rfl⟩ := hs.resolve_left c5
                  rw [zq_begin hr' ha, zc_beginOf hc ok ha, if_pos g3]
                  by_cases c6 : nI (S (25 + 6 * a)) ≤ nI (S (25 + 6 * j))
                  · rw [if_pos c6]
                    exact ⟨rfl, .inr ⟨a, ha, g3, rfl⟩⟩
                  · rw [if_neg c6]
                    exact ⟨rfl, .inr ⟨j, hj, g1, rfl⟩⟩
              · rw [if_neg c4, if_pos (Int32.not_lt.mp c4)]
                exact ⟨rfl, hs⟩
          · rw [if_neg c2, if_neg c2]
            exact ⟨rfl, hs⟩
        · rw [g2, if_pos rfl, zc_stage0 hc ok hj g1, if_neg (fun z => by
            have h1 : ¬ nI st < 0 := nI_pos (by omega)
            rw [← z] at h1
            exact h1 (by decide))]
          exact ⟨rfl, hs⟩
      exact (zf_rel (f := bX12_firstIn_37 r (nI st) a1 a2) (g := bX7_earliest_6 c (nI st) a1 a2) (fun _ x y => x = y ∧ (y = -1 ∨ ∃ a, a < 16 ∧ zp_has S a ∧ y = nI a)) 16 0 (-1) (-1) ⟨rfl, .inl rfl⟩ (fun j x y _ hj e => by
        obtain ⟨e, e'⟩ := e
        rw [e]
        exact step j y (by omega) e')).1
  · rw [hst, e1, e2, zm_lacks0.1, zm_lacks0.2, if_neg (show ¬ (1 : Int32) = 0 by decide), if_neg (show ¬ (1 : Int32) = 0 by decide), zm_F]
    exact ⟨zh_1, zo_stillF⟩
theorem zo_movedTo {G : Option (Nat → Nat)} (hc : zr_prog c 1 S) (hr : zr_row (r.1 396) S B) (ok : zo_prog S) (hg : zg_c c G) (hq : zg_q r G) : zo_out ["java/lang/IndexOutOfBoundsException"] (fX11_movedTo c a0) ((mX12_movedTo r a0).1 395 0) (fX12_movedTo r a0) ∧ zo_still r (mX12_movedTo r a0) := by
  unfold fX11_movedTo mX12_movedTo fX12_movedTo
  rcases zn_act (a0 := a0) hc hr ok with ⟨e1, e2, a, ha, g1, rfl⟩ | ⟨e1, e2⟩
  · have k11 : (mX12_lacksT r).1 395 11 = r.1 395 11 := zm_pi_ne2 (by decide)
    have k435 : (mX12_lacksT r).1 435 = r.1 435 := zm_pi_ne (by decide)
    rw [e1, e2, zm_lacks1.1, zm_lacks1.2, if_pos rfl, if_pos rfl, ite_self, zm_T, k11, k435, nI_clamp (by omega)]
    refine ⟨?_, zo_stillT⟩
    show zo_out _ (if c.1 47 2 = 0 then .inl (-1) else .inl (c.1 48 a)) _ _
    rcases hg with ⟨g2, g3⟩ | ⟨g, g2, g3, g4⟩
    · rcases hq with ⟨-, q3⟩ | ⟨g', q2, -⟩
      · rw [g3, q3, if_pos rfl, if_pos rfl]
        exact ⟨rfl, rfl⟩
      · rw [g2] at q2
        cases q2
    · rcases hq with ⟨q2, -⟩ | ⟨g', q2, q3, q4⟩
      · rw [g2] at q2
        cases q2
      · rw [g2] at q2
        cases q2
        rw [g3, q3, if_neg (by decide), if_neg (by decide), g4 a ha, q4 a ha]
        exact ⟨rfl, rfl⟩
  · rw [e1, e2, zm_lacks0.1, zm_lacks0.2, if_neg (show ¬ (1 : Int32) = 0 by decide), if_neg (show ¬ (1 : Int32) = 0 by decide), zm_F]
    exact ⟨zh_1, zo_stillF⟩
theorem zB_all {n : Nat} (ok : zo_purs S B n) (hn : n ≤ 100000) : ∀ k, k < 25 → -2147483648 ≤ B k ∧ B k < 2147483648 := by
  obtain ⟨-, -, h1, h2, h3⟩ := ok
  have v0 := h1 0 (by decide)
  have v1 := h1 1 (by decide)
  have v2 := h1 2 (by decide)
  have v3 := h1 3 (by decide)
  have v4 := h1 4 (by decide)
  have v5 := h1 5 (by decide)
  have v6 := h1 6 (by decide)
  have v7 := h1 7 (by decide)
  have v8 := h1 8 (by decide)
  have v9 := h1 9 (by decide)
  have v10 := h1 10 (by decide)
  have v11 := h1 11 (by decide)
  have v12 := h1 12 (by decide)
  have m0 := h2 0 (by decide)
  have m1 := h2 1 (by decide)
  have m2 := h2 2 (by decide)
  have m3 := h2 3 (by decide)
  have m4 := h2 4 (by decide)
  have m5 := h2 5 (by decide)
  have m6 := h2 6 (by decide)
  have m7 := h2 7 (by decide)
  have m8 := h2 8 (by decide)
  have m9 := h2 9 (by decide)
  have m10 := h2 10 (by decide)
  have m11 := h2 11 (by decide)
  simp only [Nat.add_zero, Nat.reduceAdd] at m0 m1 m2 m3 m4 m5 m6 m7 m8 m9 m10 m11
  intro k hk
  by_cases hk13 : k < 13
  · have := h1 k hk13
    omega
  · have h : k = 13 ∨ k = 14 ∨ k = 15 ∨ k = 16 ∨ k = 17 ∨ k = 18 ∨ k = 19 ∨ k = 20 ∨ k = 21 ∨ k = 22 ∨ k = 23 ∨ k = 24 := by omega
    rcases h with rfl | rfl | rfl | rfl | rfl | rfl | rfl | rfl | rfl | rfl | rfl | rfl <;> omega
theorem zm_no1 {m : rj_M} {x : Int32} : fX12_no m 1 x = 0 ∧ mX12_no m 1 x = m := by
  unfold fX12_no mX12_no
  exact ⟨if_neg (by decide), if_neg (by decide)⟩
theorem zm_no0 {m : rj_M} {x : Int32} : fX12_no m 0 x = 1 ∧ mX12_no m 0 x = rj_pi m 395 0 x := by
  unfold fX12_no mX12_no
  exact ⟨if_pos rfl, if_pos rfl⟩
theorem zo_balance {n : Nat} (hc : zr_purs c 1 S B) (hr : zr_row (r.1 396) S B) (ok : zo_purs S B n) (hn : n ≤ 100000) : zo_out ["java/lang/IllegalArgumentException", "java/lang/IndexOutOfBoundsException"] (fX11_balance c a0 a1) ((mX12_balance r a0 a1).1 395 0) (fX12_balance r a0 a1) ∧ zo_still r (mX12_balance r a0 a1) := by
  have hB := zB_all ok hn
  unfold fX11_balance mX12_balance fX12_balance
  rcases zn_r2 (μ := c) (ν := r) (a := a0) (c := 2) (n := 2) rfl (by decide) with ⟨e1, e2, x, hx, rfl⟩ | ⟨e1, e2⟩
  · rw [e1, e2, if_neg (show ¬ (1 : Int32) = 0 by decide), if_neg (show ¬ (1 : Int32) = 0 by decide)]
    show zo_out _ (if nI x = 0 then _ else _) _ _ ∧ _
    have h500 : ∀ k, k < 25 → (r.1 396 (500 + k)).toInt64 = Int64.ofInt (B k) := fun k hk => by
      rw [hr.2.2.1 k hk]
      exact zn_of64 (hB k hk).1 (hB k hk).2
    by_cases c0 : x = 0
    · subst c0
      have hz : ¬ (0 : Int32) < nI 0 := by decide
      rw [if_neg hz, if_neg hz, if_pos (show nI 0 = 0 from rfl)]
      by_cases c1 : a1 = 0
      · subst c1
        have e3 : fX12_in (mX12_lacksT r) 0 0 11 = 1 := rfl
        rw [if_pos rfl, if_pos rfl, e3, zm_no1.1, zm_no1.2, if_pos rfl, if_pos rfl, if_pos (show nI 0 = 0 from rfl), if_pos (show nI 0 = 0 from rfl), zm_T, zm_T396]
        exact ⟨⟨rfl, (h500 0 (by decide)).trans hc.2.2.1.symm⟩, zo_stillT⟩
      · rw [if_neg c1, if_neg c1, zm_F]
        have e3 : fX11_needRange c a1 0 0 = some "java/lang/IllegalArgumentException" := by
          unfold fX11_needRange
          by_cases c2 : a1 < 0
          · rw [if_pos c2]
          · rw [if_neg c2, if_neg (fun z => c1 (Int32.le_antisymm z (Int32.not_lt.mp c2)))]
        rw [e3]
        exact ⟨zh_1, zo_stillF⟩
    · have hz : (0 : Int32) < nI x := nI_lt (a := 0) (by omega) (by omega)
      have hx0 : ¬ nI x = 0 := nI_ne0 (by omega) (by omega)
      rw [if_pos hz, if_pos hz, if_neg hx0, if_neg hx0, if_neg hx0]
      rcases zn_p2 (μ := c) (ν := mX12_lacksT r) (a := a1) (c := 12) (d := 11) (n := 11) rfl rfl (by decide) with ⟨e3, e4, v, hv, rfl⟩ | ⟨e3, e4⟩
      · have e501 : (500 : Int32) + (1 + nI v) = nI (500 + (1 + v)) := by rw [show (1 : Int32) = nI 1 from rfl, show (500 : Int32) = nI 500 from rfl, nI_add, nI_add]
        have e513 : (500 : Int32) + (13 + nI v) = nI (500 + (13 + v)) := by rw [show (13 : Int32) = nI 13 from rfl, show (500 : Int32) = nI 500 from rfl, nI_add, nI_add]
        rw [e3, e4, zm_no1.1, zm_no1.2, if_pos rfl, if_pos rfl, ite_self, zm_T, zm_T396, e501, e513, nI_clamp (by omega), nI_clamp (by omega), nI_clamp (by omega), h500 (1 + v) (by omega), h500 (13 + v) (by omega)]
        refine ⟨?_, zo_stillT⟩
        have h1 : c.2.1 42 v = Int64.ofInt (B (1 + v)) := hc.2.2.2.1 v hv
        have h2 : c.2.1 43 v = Int64.ofInt (B (13 + v)) := hc.2.2.2.2 v hv
        by_cases c1 : nI x = 1
        · rw [if_pos c1, if_pos c1]
          exact ⟨rfl, h1.symm⟩
        · rw [if_neg c1, if_neg c1]
          exact ⟨rfl, h2.symm⟩
      · rw [e3, e4, zm_no0.1, zm_no0.2, if_neg (show ¬ (1 : Int32) = 0 by decide), if_neg (show ¬ (1 : Int32) = 0 by decide)]
        refine ⟨?_, zo_stillF2⟩
        show zo_out _ (if nI x = 1 then .inr "java/lang/IndexOutOfBoundsException" else .inr "java/lang/IndexOutOfBoundsException") ((mX12_noF (mX12_lacksT r) 2).1 395 0) _
        rw [zm_F2, ite_self]
        exact zh_2 (by decide)
  · rw [e1, e2, if_pos rfl, if_pos rfl, zm_F]
    exact ⟨zh_1, zo_stillF⟩
theorem zo_checksum {n : Nat} (hc : zr_prog c 1 S) (hu : zr_purs c 1 S B) (hr : zr_row (r.1 396) S B) (ok : zo_prog S) (okp : zo_purs S B n) (hn : n ≤ 100000) : fX11_checksum c = fX12_checksum r ∧ (mX12_checksum r).1 395 0 = 0 ∧ zo_still r (mX12_checksum r) := by
  refine ⟨?_, zm_pi_eq, zo_still_t⟩
  have hB := zB_all okp hn
  unfold fX11_checksum fX12_checksum fX7_sumUp
  have hr' : zr_row ((rj_pi r 395 0 0).1 396) S B := by
    rw [zm_pi_ne (by decide)]
    exact hr
  have s1 : ∀ j s, j < 16 → bX7_sumUp_5 c 7 j s = bX12_checksum_11 r j s := fun j s hj => by
    unfold bX7_sumUp_5 bX12_checksum_11
    generalize rj_pi r 395 0 0 = m at hr'
    rw [nI_clamp (by omega), zq_begin hr' hj, zq_stage hr' hj, (hc.1 j hj).1, (hc.1 j hj).2.1]
    rcases zc_has hc ok hj with ⟨g1, g2⟩ | ⟨g1, g2⟩
    · rcases zq_isAct hr' ok hj with ⟨-, g4⟩ | ⟨g3, -⟩
      · rw [g2, g4, if_neg (by decide)]
      · exact absurd g1 g3
    · rcases zq_isAct hr' ok hj with ⟨g3, -⟩ | ⟨-, g4⟩
      · exact absurd g3 g1
      · rw [g2, g4, if_pos rfl]
  have s2 : ∀ j s, j < 12 → bX11_checksum_16 c j s = bX12_checksum_59 r j s := fun j s hj => by
    unfold bX11_checksum_16 bX12_checksum_59
    generalize rj_pi r 395 0 0 = m at hr'
    have e501 : (501 : Int32) + nI j = nI (500 + (1 + j)) := by rw [show (501 : Int32) = nI 501 from rfl, nI_add]; congr 1; omega
    rw [e501, nI_clamp (by omega), nI_clamp (by omega), hr'.2.2.1 (1 + j) (by omega), zn_of64 (hB (1 + j) (by omega)).1 (hB (1 + j) (by omega)).2, show c.2.1 42 j = Int64.ofInt (B (1 + j)) from hu.2.2.2.1 j hj]
  have t1 : rj_fo (bX7_sumUp_5 c 7) 16 0 7 = rj_fo (bX12_checksum_11 r) 16 0 7 := zf_rel (f := bX7_sumUp_5 c 7) (g := bX12_checksum_11 r) (fun _ x y => x = y) 16 0 7 7 rfl (fun j x y _ hj e => by
    rw [e]
    exact s1 j y (by omega))
  rw [t1]
  generalize rj_fo (bX12_checksum_11 r) 16 0 7 = z
  exact zf_rel (f := bX11_checksum_16 c) (g := bX12_checksum_59 r) (fun _ x y => x = y) 12 0 z z rfl (fun j x y _ hj e => by
    rw [e]
    exact s2 j y (by omega))
end zqQuery3
/-- the class's cells for its own reckoning; the reference's likewise -/
def zo_scr (k : Nat) : Bool := k == 15 || k == 16 || k == 17 || k == 25 || k == 28 || k == 29 || k == 35 || k == 36 || k == 37 || k == 38 || k == 45 || k == 46 || k == 49 || k == 50
def zo_cst (c c' : rj_M) : Prop := (∀ k, zo_scr k = false → c'.1 k = c.1 k) ∧ c'.2 = c.2
def zo_rst (r r' : rj_M) : Prop := (∀ k, k ≠ 395 → (k < 406 ∨ k = 435) → r'.1 k = r.1 k) ∧ r'.1 395 3 = r.1 395 3 ∧ r'.1 395 11 = r.1 395 11 ∧ (∀ k, k < 440 → r'.2.1 k = r.2.1 k ∧ r'.2.2.1 k = r.2.2.1 k ∧ r'.2.2.2 k = r.2.2.2 k) ∧ (rj_cr r → rj_cr r')
theorem zo_rst_i {r r' : rj_M} (h1 : ∀ k, k ≠ 395 → (k < 406 ∨ k = 435) → r'.1 k = r.1 k) (h2 : r'.1 395 3 = r.1 395 3) (h3 : r'.1 395 11 = r.1 395 11) (h4 : r'.2 = r.2) : zo_rst r r' := ⟨h1, h2, h3, fun k _ => by rw [h4]; exact ⟨rfl, rfl, rfl⟩, fun h k i => by rw [h4]; exact h k i⟩
theorem zo_rst_of {r r' : rj_M} (h : zo_still r r') : zo_rst r r' := zo_rst_i (fun k hk _ => h.1 k hk) (h.2.1 3 (by decide)) (h.2.1 11 (by decide)) h.2.2
theorem zo_rst_trans {r r' r'' : rj_M} (h : zo_rst r r') (h' : zo_rst r' r'') : zo_rst r r'' := ⟨fun k hk e => (h'.1 k hk e).trans (h.1 k hk e), h'.2.1.trans h.2.1, h'.2.2.1.trans h.2.2.1, fun k hk => ⟨(h'.2.2.2.1 k hk).1.trans (h.2.2.2.1 k hk).1, (h'.2.2.2.1 k hk).2.1.trans (h.2.2.2.1 k hk).2.1, (h'.2.2.2.1 k hk).2.2.trans (h.2.2.2.1 k hk).2.2⟩, fun z => h'.2.2.2.2 (h.2.2.2.2 z)⟩
theorem zo_cst_trans {c c' c'' : rj_M} (h : zo_cst c c') (h' : zo_cst c' c'') : zo_cst c c'' := ⟨fun k hk => (h'.1 k hk).trans (h.1 k hk), h'.2.trans h.2⟩
theorem zo_rst_row {r r' : rj_M} {S : Nat → Nat} {B : Nat → Int} (h : zo_rst r r') (hr : zr_row (r.1 396) S B) : zr_row (r'.1 396) S B := by
  rw [h.1 396 (by decide) (.inl (by decide))]
  exact hr
theorem zo_rst_ptr {r r' : rj_M} (h : zo_rst r r') (hp : zq_ptr r) : zq_ptr r' := fun k hk => by
  rw [(h.2.2.2.1 409 (by decide)).2.2]
  exact hp k hk
