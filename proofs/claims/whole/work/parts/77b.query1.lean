/-! WHAT A CALL ANSWERS, both sides: the number that is thrown and the value -/
def zo_out {α : Type} (L : List String) (o : α ⊕ String) (t : Int32) (b : α) : Prop := match o with
  | .inl v => t = 0 ∧ b = v
  | .inr E => E ∈ L ∧ t = rj_hc L 1 E
def zo_still (r r' : rj_M) : Prop := (∀ k, k ≠ 395 → r'.1 k = r.1 k) ∧ (∀ i, i ≠ 0 → r'.1 395 i = r.1 395 i) ∧ r'.2 = r.2
theorem zo_still_t {r : rj_M} {x : Int32} : zo_still r (rj_pi r 395 0 x) := ⟨fun _ hk => zm_pi_ne hk, fun _ hi => zm_pi_ne2 hi, rfl⟩
theorem zn_r2 {μ ν : rj_M} {a c : Int32} {n : Nat} (hc : c = nI n) (hn : n + 1 < 2 ^ 31) : (fX11_needRange μ a 0 c = none ∧ fX12_in ν a 0 c = 1 ∧ ∃ j, j < n + 1 ∧ a = nI j) ∨ (fX11_needRange μ a 0 c = some "java/lang/IllegalArgumentException" ∧ fX12_in ν a 0 c = 0) := by
  rcases zn_range (μ := μ) (a := a) (l := 0) (c := c) with ⟨e1, e2⟩ | ⟨e1, e2⟩
  · rcases zn_in (μ := μ) (a := a) hc hn with ⟨e3, e4⟩ | ⟨e3, -⟩
    · exact .inl ⟨e1, e2, e4⟩
    · rw [e3] at e2
      exact absurd e2 (by decide)
  · exact .inr ⟨e1, e2⟩
theorem zn_p2 {μ ν : rj_M} {a c d : Int32} {n : Nat} (hc : c = nI (n + 1)) (hd : d = nI n) (hn : n + 1 < 2 ^ 31) : (fX11_needPlace μ a c = none ∧ fX12_in ν a 0 d = 1 ∧ ∃ j, j < n + 1 ∧ a = nI j) ∨ (fX11_needPlace μ a c = some "java/lang/IndexOutOfBoundsException" ∧ fX12_in ν a 0 d = 0) := by
  rcases zn_place (μ := μ) (a := a) hc hn with ⟨e1, j, h1, rfl⟩ | ⟨e1, h⟩
  · rcases zn_in (μ := ν) (a := nI j) hd hn with ⟨e3, e4⟩ | ⟨-, e | e⟩
    · exact .inl ⟨e1, e3, j, h1, rfl⟩
    · exact absurd e (nI_pos (by omega))
    · exact absurd e (nI_ge h1 hn)
  · rcases zn_in (μ := ν) (a := a) hd hn with ⟨e3, j, h1, rfl⟩ | ⟨e3, -⟩
    · rcases h with e | e
      · exact absurd e (nI_pos (by omega))
      · exact absurd e (nI_ge h1 hn)
    · exact .inr ⟨e1, e3⟩
theorem zm_T {r : rj_M} : (mX12_lacksT r).1 395 0 = 0 := zm_pi_eq
theorem zm_F {r : rj_M} : (mX12_lacksF r).1 395 0 = 1 := zm_pi_eq
theorem zm_T396 {r : rj_M} : (mX12_lacksT r).1 396 = r.1 396 := zm_pi_ne (by decide)
theorem zo_stillT {r : rj_M} : zo_still r (mX12_lacksT r) := zo_still_t
theorem zo_stillF {r : rj_M} : zo_still r (mX12_lacksF r) := ⟨fun k hk => (zm_pi_ne hk).trans (zm_pi_ne hk), fun _ hi => (zm_pi_ne2 hi).trans (zm_pi_ne2 hi), rfl⟩
section zqDate
variable {r c : rj_M} {S : Nat → Nat} {B : Nat → Int}
theorem zq_walkDate {a0 a1 : Int32} : ∀ k n (y m d : Nat), k < n → zk_isDate (y, m, d) → y + k < 10000 → rj_we (bX12_dateAt_64 r a0 a1) n (nI y, nI m, nI d, nI k) = (nI (zk_after k (y, m, d)).1, nI (zk_after k (y, m, d)).2.1, nI (zk_after k (y, m, d)).2.2, 0)
  | 0, n + 1, y, m, d, _, _, _ => by
    refine rj_we_r ?_
    unfold bX12_dateAt_64
    exact if_pos (Int32.le_refl _)
  | k + 1, n + 1, y, m, d, hk, h, hy => by
    obtain ⟨g1, g2, -⟩ := zk_next_ok h
    obtain ⟨h1, h2, h3, h4, h5⟩ := h
    simp only at h1 h2 h3 h4 h5 g2
    have hd := (zk_dim_le (y := y) (m := m)).2
    have ek : nI (k + 1) + (-1) = nI k := by
      rw [← Int32.sub_eq_add_neg]
      exact nI_pred k
    have step : bX12_dateAt_64 r a0 a1 (nI y, nI m, nI d, nI (k + 1)) = .inl (nI (zk_next (y, m, d)).1, nI (zk_next (y, m, d)).2.1, nI (zk_next (y, m, d)).2.2, nI k) := by
      unfold bX12_dateAt_64 zk_next
      simp only
      rw [if_neg (nI_nle (by omega) (by omega)), (zc_dim (by omega) (by omega)).2, ek, ← nI_succ, ← nI_succ, ← nI_succ]
      by_cases c1 : zk_dim y m < d + 1
      · rw [if_pos (nI_lt c1 (by omega)), if_pos c1]
        by_cases c2 : 12 < m + 1
        · rw [if_pos (show (12 : Int32) < nI (m + 1) from nI_lt (a := 12) c2 (by omega)), if_pos c2]
          rfl
        · rw [if_neg (show ¬ (12 : Int32) < nI (m + 1) from nI_nlt (a := 12) (b := m + 1) (by omega) (by decide)), if_neg c2]
          rfl
      · rw [if_neg (nI_nlt (by omega) (by omega)), if_neg c1]
    rw [rj_we_l step]
    have := zq_walkDate (a0 := a0) (a1 := a1) k n (zk_next (y, m, d)).1 (zk_next (y, m, d)).2.1 (zk_next (y, m, d)).2.2 (by omega) g1 (by omega)
    exact this
theorem zc_partOf (hc : zr_cal c 1 S) (ok : zo_cal S) {i : Nat} (hi : i ≤ 4) : fX1_partOf c (nI i) 0 = nI (zk_after i (S 0, S 1, S 2)).1 ∧ fX1_partOf c (nI i) 1 = nI (zk_after i (S 0, S 1, S 2)).2.1 ∧ fX1_partOf c (nI i) 2 = nI (zk_after i (S 0, S 1, S 2)).2.2 ∧ fX1_partOf c (nI i) 3 = nI (zk_abs (zk_after i (S 0, S 1, S 2)) % 7 + 1) := by
  have hw := zc_weekday hc ok hi
  have hz := (zk_after_ok i (zo_isDate ok)).2.2
  obtain ⟨c0, c1, c2⟩ := hc
  obtain ⟨h1, h2, h3, h4, h5⟩ := zo_isDate ok
  simp only at h1 h2 h3 h4 h5
  have hy : S 0 < 10000 := by have := ok.2.1; omega
  have hd := zk_dim_le (y := S 0) (m := S 1)
  rw [zk_after_eq i hi h3 h5] at hz ⊢
  unfold fX1_partOf
  rw [show c.1 2 0 = nI (S 0) from c0, show c.1 2 1 = nI (S 1) from c1, show c.1 2 2 = nI (S 2) from c2, (zc_dim hy (by omega)).1, nI_add, if_pos rfl, hw, ← hz]
  have n0 : ¬ (0 : Int32) = 3 := by decide
  have n1 : ¬ (1 : Int32) = 3 := by decide
  have n2 : ¬ (2 : Int32) = 3 := by decide
  rw [if_neg n0, if_neg n1, if_neg n2]
  by_cases cd : S 2 + i ≤ zk_dim (S 0) (S 1)
  · have A : nI (S 2 + i) ≤ nI (zk_dim (S 0) (S 1)) := nI_le cd (by omega)
    rw [if_pos cd]
    exact ⟨(if_pos A).trans rfl, (if_pos A).trans rfl, (if_pos A).trans rfl, rfl⟩
  · have A : ¬ nI (S 2 + i) ≤ nI (zk_dim (S 0) (S 1)) := nI_ge (by omega) (by omega)
    have e : nI (S 2 + i) - nI (zk_dim (S 0) (S 1)) = nI (S 2 + i - zk_dim (S 0) (S 1)) := pk_sub (by omega)
    rw [if_neg cd]
    by_cases cm : S 1 = 12
    · have M : nI (S 1) = 12 := by rw [cm]; rfl
      rw [if_pos cm]
      exact ⟨(if_neg A).trans ((if_pos M).trans (nI_succ _).symm), (if_neg A).trans ((if_pos M).trans rfl), (if_neg A).trans ((if_pos M).trans e), rfl⟩
    · have M : ¬ nI (S 1) = 12 := zn_ne (n := 12) rfl cm (by omega) (by decide)
      rw [if_neg cm]
      exact ⟨(if_neg A).trans ((if_neg M).trans rfl), (if_neg A).trans ((if_neg M).trans (nI_succ _).symm), (if_neg A).trans ((if_neg M).trans e), rfl⟩
theorem zo_dateAt {a0 a1 : Int32} (hc : zr_cal c 1 S) (hr : zr_row (r.1 396) S B) (ok : zo_cal S) : zo_out ["java/lang/IllegalArgumentException"] (fX11_dateAt c a0 a1) ((mX12_dateAt r a0 a1).1 395 0) (fX12_dateAt r a0 a1) ∧ zo_still r (mX12_dateAt r a0 a1) := by
  unfold fX11_dateAt mX12_dateAt fX12_dateAt
  rcases zn_r2 (μ := c) (ν := r) (a := a0) (c := 5759) (n := 5759) rfl (by decide) with ⟨e1, e2, t, ht, rfl⟩ | ⟨e1, e2⟩
  · rw [e1, e2, if_neg (show ¬ (1 : Int32) = 0 by decide), if_neg (show ¬ (1 : Int32) = 0 by decide)]
    rcases zn_r2 (μ := c) (ν := r) (a := a1) (c := 5) (n := 5) rfl (by decide) with ⟨e3, e4, p, hp, rfl⟩ | ⟨e3, e4⟩
    · rw [e3, e4, if_neg (show ¬ (1 : Int32) = 0 by decide), if_neg (show ¬ (1 : Int32) = 0 by decide)]
      have hmem : (if nI p = 0 then mX12_lacksT r else if nI p = 1 then mX12_lacksT r else if nI p = 2 then mX12_lacksT r else if nI p = 3 then mX12_lacksT r else if nI p = 4 then mX12_lacksT r else mX12_lacksT r) = mX12_lacksT r := by
        rw [ite_self, ite_self, ite_self, ite_self, ite_self]
      rw [hmem]
      refine ⟨?_, zo_stillT⟩
      show zo_out _ (if nI p = 4 then _ else _) _ _
      rw [zm_T]
      have hday : nI t / 1440 = nI (t / 1440) := pk_div (d := 1440) (by omega) (by decide) (by decide)
      have hi : t / 1440 ≤ 4 := by omega
      have hy : S 0 < 9991 := by have := ok.2.1; omega
      obtain ⟨q0, q1, q2, q3⟩ := zc_partOf hc ok hi
      have r0 : r.1 396 (0 : Int32).toNatClampNeg = nI (S 0) := hr.1 0 (by decide)
      have r1 : r.1 396 (1 : Int32).toNatClampNeg = nI (S 1) := hr.1 1 (by decide)
      have r2 : r.1 396 (2 : Int32).toNatClampNeg = nI (S 2) := hr.1 2 (by decide)
      rw [zm_T396, r0, r1, r2, hday, zq_walkDate (t / 1440) 5 (S 0) (S 1) (S 2) (by omega) (zo_isDate ok) (by omega)]
      simp only
      rw [zq_weekday (zk_after_ok _ (zo_isDate ok)).1 (by have := (zk_after_ok (t / 1440) (zo_isDate ok)).2.1; simp only at this; omega)]
      have h6 : p = 0 ∨ p = 1 ∨ p = 2 ∨ p = 3 ∨ p = 4 ∨ p = 5 := by omega
      rcases h6 with rfl | rfl | rfl | rfl | rfl | rfl
      · exact ⟨rfl, q0.symm⟩
      · exact ⟨rfl, q1.symm⟩
      · exact ⟨rfl, q2.symm⟩
      · exact ⟨rfl, q3.symm⟩
      · exact ⟨rfl, rfl⟩
      · exact ⟨rfl, rfl⟩
    · rw [e3, e4, if_pos rfl, if_pos rfl, zm_F]
      exact ⟨⟨List.mem_singleton.mpr rfl, rfl⟩, zo_stillF⟩
  · rw [e1, e2, if_pos rfl, if_pos rfl, zm_F]
    exact ⟨⟨List.mem_singleton.mpr rfl, rfl⟩, zo_stillF⟩
end zqDate
