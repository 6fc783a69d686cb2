/-! COPIES OF MOMENTS: what is kept, what comes back -/
/-- s is μ, but that the Moment at b holds the numbers of the one at o: those of D (a cell, from, to), longs of E -/
def zy_P (b o : Nat) (μ s : rj_M) (D E : List (Nat × Nat × Nat)) : Prop := (∀ k, k < b + 1 ∨ b + 42 < k → s.1 k = μ.1 k ∧ s.2.1 k = μ.2.1 k) ∧ s.2.2 = μ.2.2 ∧ (∀ e, e ∈ D → ∀ i, e.2.1 ≤ i → i < e.2.2 → s.1 (b + e.1) i = μ.1 (o + e.1) i) ∧ (∀ e, e ∈ E → ∀ i, e.2.1 ≤ i → i < e.2.2 → s.2.1 (b + e.1) i = μ.2.1 (o + e.1) i)
section zyCopy
variable {b o : Nat} {μ s : rj_M} {D E : List (Nat × Nat × Nat)}
theorem zy_o (hd : b + 43 ≤ o ∨ o + 43 ≤ b) (h : zy_P b o μ s D E) {k : Nat} (h1 : 1 ≤ k) (h2 : k ≤ 42) : s.1 (o + k) = μ.1 (o + k) ∧ s.2.1 (o + k) = μ.2.1 (o + k) := h.1 (o + k) (by omega)
theorem zy_row {k n : Nat} (hd : b + 43 ≤ o ∨ o + 43 ≤ b) (h1 : 1 ≤ k) (h2 : k ≤ 42) (h : zy_P b o μ s D E) : zy_P b o μ (mX11_copyRow s (o + k) n (b + k) n) ((k, 0, n) :: D) E := by
  have ho := (zy_o hd h h1 h2).1
  unfold mX11_copyRow
  rw [Nat.min_self, zm_cpy]
  refine ⟨fun k' hk' => ⟨(zm_ri_ne (by omega)).trans (h.1 k' hk').1, (h.1 k' hk').2⟩, h.2.1, fun e he i hi1 hi2 => ?_, h.2.2.2⟩
  by_cases hek : e.1 = k
  · rw [hek, zm_ri_at]
    by_cases hin : i < n
    · rw [if_pos hin, ho]
    · rw [if_neg hin]
      rcases List.mem_cons.mp he with rfl | he2
      · exact absurd hi2 hin
      · rw [← hek]
        exact h.2.2.1 e he2 i hi1 hi2
  · rw [zm_ri_ne (by omega)]
    rcases List.mem_cons.mp he with rfl | he2
    · exact absurd rfl hek
    · exact h.2.2.1 e he2 i hi1 hi2
theorem zy_rowL {k n : Nat} (hd : b + 43 ≤ o ∨ o + 43 ≤ b) (h1 : 1 ≤ k) (h2 : k ≤ 42) (h : zy_P b o μ s D E) : zy_P b o μ (mX11_copyRow_ s (o + k) n (b + k) n) D ((k, 0, n) :: E) := by
  have ho := (zy_o hd h h1 h2).2
  unfold mX11_copyRow_
  rw [Nat.min_self, zm_cpy]
  refine ⟨fun k' hk' => ⟨(h.1 k' hk').1, (zm_rl_ne (by omega)).trans (h.1 k' hk').2⟩, h.2.1, h.2.2.1, fun e he i hi1 hi2 => ?_⟩
  by_cases hek : e.1 = k
  · rw [hek, zm_rl_at]
    by_cases hin : i < n
    · rw [if_pos hin, ho]
    · rw [if_neg hin]
      rcases List.mem_cons.mp he with rfl | he2
      · exact absurd hi2 hin
      · rw [← hek]
        exact h.2.2.2 e he2 i hi1 hi2
  · rw [zm_rl_ne (by omega)]
    rcases List.mem_cons.mp he with rfl | he2
    · exact absurd rfl hek
    · exact h.2.2.2 e he2 i hi1 hi2
theorem zy_put {k j : Nat} {v : Int32} (h1 : 1 ≤ k) (h2 : k ≤ 42) (h : zy_P b o μ s D E) (hv : v = μ.1 (o + k) j) : zy_P b o μ (rj_pi s (b + k) j v) ((k, j, j + 1) :: D) E := by
  subst hv
  refine ⟨fun k' hk' => ⟨(zm_pi_ne (by omega)).trans (h.1 k' hk').1, (h.1 k' hk').2⟩, h.2.1, fun e he i hi1 hi2 => ?_, h.2.2.2⟩
  rw [zm_pi]
  by_cases hek : b + e.1 = b + k ∧ i = j
  · rw [if_pos hek, show e.1 = k by omega, hek.2]
  · rw [if_neg hek]
    rcases List.mem_cons.mp he with rfl | he2
    · exact absurd ⟨rfl, show i = j by have h1' : j ≤ i := hi1; have h2' : i < j + 1 := hi2; omega⟩ hek
    · exact h.2.2.1 e he2 i hi1 hi2
theorem zy_putL {k j : Nat} {v : Int64} (h1 : 1 ≤ k) (h2 : k ≤ 42) (h : zy_P b o μ s D E) (hv : v = μ.2.1 (o + k) j) : zy_P b o μ (rj_pl s (b + k) j v) D ((k, j, j + 1) :: E) := by
  subst hv
  refine ⟨fun k' hk' => ⟨(h.1 k' hk').1, (zm_pl_ne (by omega)).trans (h.1 k' hk').2⟩, h.2.1, h.2.2.1, fun e he i hi1 hi2 => ?_⟩
  rw [zm_pl]
  by_cases hek : b + e.1 = b + k ∧ i = j
  · rw [if_pos hek, show e.1 = k by omega, hek.2]
  · rw [if_neg hek]
    rcases List.mem_cons.mp he with rfl | he2
    · exact absurd ⟨rfl, show i = j by have h1' : j ≤ i := hi1; have h2' : i < j + 1 := hi2; omega⟩ hek
    · exact h.2.2.2 e he2 i hi1 hi2
theorem zy_bool {x : Int32} (h : x = 0 ∨ x = 1) : vp_nar .boolean x = x := by
  rcases h with rfl | rfl <;> decide
theorem zy_open (hd : b + 43 ≤ o ∨ o + 43 ≤ b) (hb : ∀ i, i < 4 → μ.1 (o + 3) i = 0 ∨ μ.1 (o + 3) i = 1) (h : zy_P b o μ s D E) : zy_P b o μ (rj_fo (bX4_copyFrom_2 s b o) 4 0 s) ((3, 0, 4) :: D) E := by
  have h0 : zy_P b o μ s ((3, 0, 0) :: D) E := ⟨h.1, h.2.1, fun e he i hi1 hi2 => by
    rcases List.mem_cons.mp he with rfl | he2
    · exact absurd hi2 (Nat.not_lt_zero _)
    · exact h.2.2.1 e he2 i hi1 hi2, h.2.2.2⟩
  have hz := zf_inv (f := bX4_copyFrom_2 s b o) (fun j t => zy_P b o μ t ((3, 0, j) :: D) E) 4 0 s h0 (fun j t _ hj ht => by
    have e3 := (zy_o (k := 3) hd ht (by decide) (by decide)).1
    have hjn : (nI j).toNatClampNeg = j := nI_clamp (by omega)
    unfold bX4_copyFrom_2
    rw [hjn, e3, zy_bool (hb j (by omega))]
    have hp := zy_put (k := 3) (j := j) (by decide) (by decide) ht rfl
    refine ⟨hp.1, hp.2.1, fun e he i hi1 hi2 => ?_, hp.2.2.2⟩
    rcases List.mem_cons.mp he with rfl | he2
    · by_cases hij : i = j
      · exact hp.2.2.1 (3, j, j + 1) List.mem_cons_self i (by show j ≤ i; omega) (by show i < j + 1; omega)
      · exact hp.2.2.1 (3, 0, j) (List.mem_cons_of_mem _ List.mem_cons_self) i (Nat.zero_le _) (by have h9 : i < j + 1 := hi2; show i < j; omega)
    · exact hp.2.2.1 e (List.mem_cons_of_mem _ (List.mem_cons_of_mem _ he2)) i hi1 hi2)
  exact hz
end zyCopy
def zy_D : List (Nat × Nat × Nat) := [(40, 0, 48), (39, 0, 4), (33, 0, 4), (32, 0, 4), (31, 0, 4), (30, 0, 24), (25, 1, 1 + 1), (26, 0, 24), (20, 6, 6 + 1), (20, 5, 5 + 1), (23, 0, 3), (22, 0, 12), (20, 1, 1 + 1), (21, 0, 12), (19, 0, 4), (18, 0, 12), (17, 0, 3), (13, 0, 192), (12, 0, 16), (11, 0, 16), (10, 0, 16), (9, 0, 16), (8, 0, 16), (6, 0, 100), (5, 0, 16), (4, 0, 16), (3, 0, 4), (1, 2, 2 + 1), (1, 1, 1 + 1), (1, 0, 0 + 1)]
def zy_E : List (Nat × Nat × Nat) := [(42, 0, 12), (41, 0, 12), (38, 2, 2 + 1)]
theorem zy_copy {b o : Nat} {μ : rj_M} (hd : b + 43 ≤ o ∨ o + 43 ≤ b) (hb : ∀ i, i < 4 → μ.1 (o + 3) i = 0 ∨ μ.1 (o + 3) i = 1) : zy_P b o μ (mX5_copyFrom μ b o) zy_D zy_E := by
  unfold mX5_copyFrom
  have h0 : zy_P b o μ μ [] [] := ⟨fun _ _ => ⟨rfl, rfl⟩, rfl, fun e he => absurd he List.not_mem_nil, fun e he => absurd he List.not_mem_nil⟩
  -- the calendar
  have h1 : zy_P b o μ (mX1_copyFrom μ b o) [(1, 2, 2 + 1), (1, 1, 1 + 1), (1, 0, 0 + 1)] [] := by
    unfold mX1_copyFrom mX1_startOnB
    exact zy_put (by decide) (by decide) (zy_put (by decide) (by decide) (zy_put (by decide) (by decide) h0 rfl) rfl) rfl
  generalize mX1_copyFrom μ b o = m1 at h1
  have h4 : zy_P b o μ (mX4_copyFrom m1 b o) [(6, 0, 100), (5, 0, 16), (4, 0, 16), (3, 0, 4), (1, 2, 2 + 1), (1, 1, 1 + 1), (1, 0, 0 + 1)] [] := by
    unfold mX4_copyFrom
    exact zy_row hd (by decide) (by decide) (zy_row hd (by decide) (by decide) (zy_row hd (by decide) (by decide) (zy_open hd hb h1)))
  have h7 : zy_P b o μ (mX7_copyFrom (mX4_copyFrom m1 b o) b o) [(13, 0, 192), (12, 0, 16), (11, 0, 16), (10, 0, 16), (9, 0, 16), (8, 0, 16), (6, 0, 100), (5, 0, 16), (4, 0, 16), (3, 0, 4), (1, 2, 2 + 1), (1, 1, 1 + 1), (1, 0, 0 + 1)] [] := by
    unfold mX7_copyFrom
    exact zy_row hd (by decide) (by decide) (zy_row hd (by decide) (by decide) (zy_row hd (by decide) (by decide) (zy_row hd (by decide) (by decide) (zy_row hd (by decide) (by decide) (zy_row hd (by decide) (by decide) h4)))))
  generalize mX7_copyFrom (mX4_copyFrom m1 b o) b o = m7 at h7
  have h3 : zy_P b o μ (mX3_copyFrom m7 b o) [(19, 0, 4), (18, 0, 12), (17, 0, 3), (13, 0, 192), (12, 0, 16), (11, 0, 16), (10, 0, 16), (9, 0, 16), (8, 0, 16), (6, 0, 100), (5, 0, 16), (4, 0, 16), (3, 0, 4), (1, 2, 2 + 1), (1, 1, 1 + 1), (1, 0, 0 + 1)] [] := by
    unfold mX3_copyFrom
    exact zy_row hd (by decide) (by decide) (zy_row hd (by decide) (by decide) (zy_row hd (by decide) (by decide) h7))
  generalize mX3_copyFrom m7 b o = m3 at h3
  have hx0 : zy_P b o μ (mX0_copyFrom m3 b o) [(20, 6, 6 + 1), (20, 5, 5 + 1), (23, 0, 3), (22, 0, 12), (20, 1, 1 + 1), (21, 0, 12), (19, 0, 4), (18, 0, 12), (17, 0, 3), (13, 0, 192), (12, 0, 16), (11, 0, 16), (10, 0, 16), (9, 0, 16), (8, 0, 16), (6, 0, 100), (5, 0, 16), (4, 0, 16), (3, 0, 4), (1, 2, 2 + 1), (1, 1, 1 + 1), (1, 0, 0 + 1)] [] := by
    unfold mX0_copyFrom
    have a1 := zy_row (k := 21) (n := 12) hd (by decide) (by decide) h3
    generalize mX11_copyRow m3 (o + 21) 12 (b + 21) 12 = n1 at a1
    have a2 := zy_put (k := 20) (j := 1) (by decide) (by decide) a1 (v := n1.1 (o + 20) 1) (by rw [(zy_o hd a1 (k := 20) (by decide) (by decide)).1])
    generalize rj_pi n1 (b + 20) 1 (n1.1 (o + 20) 1) = n2 at a2
    have a3 := zy_row (k := 23) (n := 3) hd (by decide) (by decide) (zy_row (k := 22) (n := 12) hd (by decide) (by decide) a2)
    generalize mX11_copyRow (mX11_copyRow n2 (o + 22) 12 (b + 22) 12) (o + 23) 3 (b + 23) 3 = n3 at a3
    have a4 := zy_put (k := 20) (j := 5) (by decide) (by decide) a3 (v := n3.1 (o + 20) 5) (by rw [(zy_o hd a3 (k := 20) (by decide) (by decide)).1])
    generalize rj_pi n3 (b + 20) 5 (n3.1 (o + 20) 5) = n4 at a4
    exact zy_put (by decide) (by decide) a4 (by rw [(zy_o hd a4 (k := 20) (by decide) (by decide)).1])
  generalize mX0_copyFrom m3 b o = m0 at hx0
  have h10 : zy_P b o μ (mX10_copyFrom m0 b o) [(25, 1, 1 + 1), (26, 0, 24), (20, 6, 6 + 1), (20, 5, 5 + 1), (23, 0, 3), (22, 0, 12), (20, 1, 1 + 1), (21, 0, 12), (19, 0, 4), (18, 0, 12), (17, 0, 3), (13, 0, 192), (12, 0, 16), (11, 0, 16), (10, 0, 16), (9, 0, 16), (8, 0, 16), (6, 0, 100), (5, 0, 16), (4, 0, 16), (3, 0, 4), (1, 2, 2 + 1), (1, 1, 1 + 1), (1, 0, 0 + 1)] [] := by
    unfold mX10_copyFrom
    have a1 := zy_row (k := 26) (n := 24) hd (by decide) (by decide) hx0
    exact zy_put (by decide) (by decide) a1 (by rw [(zy_o hd a1 (k := 25) (by decide) (by decide)).1])
  generalize mX10_copyFrom m0 b o = m10 at h10
  have h6 : zy_P b o μ (mX6_copyFrom m10 b o) [(33, 0, 4), (32, 0, 4), (31, 0, 4), (30, 0, 24), (25, 1, 1 + 1), (26, 0, 24), (20, 6, 6 + 1), (20, 5, 5 + 1), (23, 0, 3), (22, 0, 12), (20, 1, 1 + 1), (21, 0, 12), (19, 0, 4), (18, 0, 12), (17, 0, 3), (13, 0, 192), (12, 0, 16), (11, 0, 16), (10, 0, 16), (9, 0, 16), (8, 0, 16), (6, 0, 100), (5, 0, 16), (4, 0, 16), (3, 0, 4), (1, 2, 2 + 1), (1, 1, 1 + 1), (1, 0, 0 + 1)] [] := by
    unfold mX6_copyFrom
    exact zy_row hd (by decide) (by decide) (zy_row hd (by decide) (by decide) (zy_row hd (by decide) (by decide) (zy_row hd (by decide) (by decide) h10)))
  generalize mX6_copyFrom m10 b o = m6 at h6
  have h8 : zy_P b o μ (mX8_copyFrom m6 b o) zy_D zy_E := by
    unfold mX8_copyFrom zy_D zy_E
    have a1 := zy_row (k := 40) (n := 48) hd (by decide) (by decide) (zy_row (k := 39) (n := 4) hd (by decide) (by decide) h6)
    generalize mX11_copyRow (mX11_copyRow m6 (o + 39) 4 (b + 39) 4) (o + 40) 48 (b + 40) 48 = n1 at a1
    exact zy_rowL hd (by decide) (by decide) (zy_rowL hd (by decide) (by decide) (zy_putL (by decide) (by decide) a1 (by rw [(zy_o hd a1 (k := 38) (by decide) (by decide)).2])))
  exact h8
theorem zq_len : ∀ (n : Nat) (q : List Nat), q.Nodup → (∀ v, v ∈ q → v < n) → q.length ≤ n
  | 0, q, _, h => by
    cases q with
    | nil => exact Nat.le_refl _
    | cons a t => exact absurd (h a List.mem_cons_self) (Nat.not_lt_zero _)
  | n + 1, q, hn, h => by
    by_cases hm : n ∈ q
    · have h1 := zq_len n (q.erase n) (hn.erase n) (fun v hv => by
        have h2 := (List.Nodup.mem_erase_iff hn).mp hv
        have h3 := h v h2.2
        have h4 := h2.1
        omega)
      rw [List.length_erase_of_mem hm] at h1
      omega
    · have h1 := zq_len n q hn (fun v hv => by
        have h3 := h v hv
        have h4 : v ≠ n := fun e => hm (e ▸ hv)
        omega)
      omega
theorem zr_mom_cp {c t : rj_M} {b o : Nat} {S : Nat → Nat} {B : Nat → Int} (h : zr_mom c o S B) (e : zy_P b o c t zy_D zy_E) : zr_mom t b S B := by
  have g : ∀ k n, (k, 0, n) ∈ zy_D → ∀ i, i < n → t.1 (b + k) i = c.1 (o + k) i := fun k n hm i hi => e.2.2.1 (k, 0, n) hm i (Nat.zero_le _) hi
  have g1 : ∀ k j, (k, j, j + 1) ∈ zy_D → t.1 (b + k) j = c.1 (o + k) j := fun k j hm => e.2.2.1 (k, j, j + 1) hm j (Nat.le_refl _) (Nat.lt_succ_self _)
  have gl : ∀ k, (k, 0, 12) ∈ zy_E → ∀ i, i < 12 → t.2.1 (b + k) i = c.2.1 (o + k) i := fun k hm i hi => e.2.2.2 (k, 0, 12) hm i (Nat.zero_le _) hi
  obtain ⟨hc, hg, hp, hx, hb, hs, hw, hu⟩ := h
  refine ⟨?_, ?_, ?_, ?_, ?_, ?_, ?_, ?_⟩
  · exact ⟨(g1 1 0 (by decide)).trans hc.1, (g1 1 1 (by decide)).trans hc.2.1, (g1 1 2 (by decide)).trans hc.2.2⟩
  · exact ⟨fun k hk => (g 3 4 (by decide) k hk).trans (hg.1 k hk), fun p hp => (g 4 16 (by decide) p hp).trans (hg.2.1 p hp), fun i j hi hj => (g 5 16 (by decide) (4 * i + j) (by omega)).trans (hg.2.2.1 i j hi hj), fun k hk => (g 6 100 (by decide) k hk).trans (hg.2.2.2 k hk)⟩
  · exact ⟨fun a ha => ⟨(g 8 16 (by decide) a ha).trans (hp.1 a ha).1, (g 9 16 (by decide) a ha).trans (hp.1 a ha).2.1, (g 10 16 (by decide) a ha).trans (hp.1 a ha).2.2.1, (g 11 16 (by decide) a ha).trans (hp.1 a ha).2.2.2.1, (g 12 16 (by decide) a ha).trans (hp.1 a ha).2.2.2.2⟩, fun p h9 => (g 13 192 (by decide) p h9).trans (hp.2 p h9)⟩
  · exact ⟨fun k hk => (g 17 3 (by decide) k hk).trans (hx.1 k hk), fun p hp => (g 18 12 (by decide) p hp).trans (hx.2.1 p hp), fun k hk => (g 19 4 (by decide) k hk).trans (hx.2.2 k hk)⟩
  · obtain ⟨q, w, a0, a1, a2, a3, a4, a5, a6⟩ := hb
    have hl := zq_len 12 q a0.1 a0.2.1
    refine ⟨q, w, a0, (g1 20 1 (by decide)).trans a1, fun i hi => ?_, fun v hv => (g 22 12 (by decide) v hv).trans (a3 v hv), fun k hk => (g 23 3 (by decide) k hk).trans (a4 k hk), (g1 20 5 (by decide)).trans a5, (g1 20 6 (by decide)).trans a6⟩
    obtain ⟨v, hv1, hv2⟩ := a2 i hi
    exact ⟨v, hv1, (g 21 12 (by decide) i (by omega)).trans hv2⟩
  · exact ⟨(g1 25 1 (by decide)).trans hs.1, fun h9 hh => (g 26 24 (by decide) h9 hh).trans (hs.2 h9 hh)⟩
  · exact ⟨fun h9 hh => (g 30 24 (by decide) h9 hh).trans (hw.1 h9 hh), fun k hk => ⟨(g 31 4 (by decide) k hk).trans (hw.2 k hk).1, (g 32 4 (by decide) k hk).trans (hw.2 k hk).2.1, (g 33 4 (by decide) k hk).trans (hw.2 k hk).2.2⟩⟩
  · exact ⟨fun d hd => (g 39 4 (by decide) d hd).trans (hu.1 d hd), fun p hp => (g 40 48 (by decide) p hp).trans (hu.2.1 p hp), (e.2.2.2 (38, 2, 2 + 1) (by decide) 2 (by decide) (by decide)).trans hu.2.2.1, fun v hv => (gl 41 (by decide) v hv).trans (hu.2.2.2.1 v hv), fun m hm => (gl 42 (by decide) m hm).trans (hu.2.2.2.2 m hm)⟩
/-- a Moment stays, where its cells stay -/
theorem zr_mom_of {c t : rj_M} {b : Nat} {S : Nat → Nat} {B : Nat → Int} (h : zr_mom c b S B) (e : ∀ k, b + 1 ≤ k → k ≤ b + 42 → t.1 k = c.1 k ∧ t.2.1 k = c.2.1 k) : zr_mom t b S B := by
  have f : ∀ k, 1 ≤ k → k ≤ 42 → t.1 (b + k) = c.1 (b + k) := fun k h1 h2 => (e (b + k) (by omega) (by omega)).1
  have fl : ∀ k, 1 ≤ k → k ≤ 42 → t.2.1 (b + k) = c.2.1 (b + k) := fun k h1 h2 => (e (b + k) (by omega) (by omega)).2
  unfold zr_mom zr_cal zr_grnd zr_prog zr_exit zr_bars zr_shft zr_powr zr_purs at *
  rw [f 1 (by decide) (by decide), f 3 (by decide) (by decide), f 4 (by decide) (by decide), f 5 (by decide) (by decide), f 6 (by decide) (by decide), f 8 (by decide) (by decide), f 9 (by decide) (by decide), f 10 (by decide) (by decide), f 11 (by decide) (by decide), f 12 (by decide) (by decide), f 13 (by decide) (by decide), f 17 (by decide) (by decide), f 18 (by decide) (by decide), f 19 (by decide) (by decide), f 20 (by decide) (by decide), f 21 (by decide) (by decide), f 22 (by decide) (by decide), f 23 (by decide) (by decide), f 25 (by decide) (by decide), f 26 (by decide) (by decide), f 30 (by decide) (by decide), f 31 (by decide) (by decide), f 32 (by decide) (by decide), f 33 (by decide) (by decide), f 39 (by decide) (by decide), f 40 (by decide) (by decide), fl 38 (by decide) (by decide), fl 41 (by decide) (by decide), fl 42 (by decide) (by decide)]
  exact h
/-! THE CHANGES THAT CAN BE UNDONE: eight Moments, eight rows -/
theorem zr_row_of {s t : Nat → Int32} {S : Nat → Nat} {B : Nat → Int} (h : zr_row s S B) (e : ∀ i, i < 625 → t i = s i) : zr_row t S B :=
  ⟨fun k hk => (e k (by omega)).trans (h.1 k hk), fun k h1 h2 => (e k (by omega)).trans (h.2.1 k h1 h2), fun k hk => (e (500 + k) (by omega)).trans (h.2.2.1 k hk), fun k h1 h2 => (e k h2).trans (h.2.2.2 k h1 h2)⟩
def zK (t : rj_M) : rj_M := rj_pi (rj_pi (rj_ri t (t.2.2.2 397 (t.1 395 3).toNatClampNeg - 1) (va_cpy (t.1 396) (t.1 (t.2.2.2 397 (t.1 395 3).toNatClampNeg - 1)) 0 0 625)) 395 3 (((rj_ri t (t.2.2.2 397 (t.1 395 3).toNatClampNeg - 1) (va_cpy (t.1 396) (t.1 (t.2.2.2 397 (t.1 395 3).toNatClampNeg - 1)) 0 0 625)).1 395 3) + 1)) 395 11 0
def zX (μ : rj_M) : rj_M := rj_pq (rj_fo (bX12_keeps_18 μ) 7 1 μ) 397 (7 : Int32).toNatClampNeg ((μ.2.2.2 397 (0 : Int32).toNatClampNeg - 1) + 1)
theorem zK_eq (μ : rj_M) : mX12_keeps μ = if μ.1 395 3 = 8 then zK (rj_pi (zX μ) 395 3 ((zX μ).1 395 3 - 1)) else zK μ := rfl
theorem zK_f {t : rj_M} {u a : Nat} (hu : t.1 395 3 = nI u) (hu8 : u < 8) (ha : t.2.2.2 397 u = a + 1) (ha1 : 398 ≤ a) : (zK t).1 395 3 = nI (u + 1) ∧ (zK t).1 395 11 = 0 ∧ (∀ i, i ≠ 3 → i ≠ 11 → (zK t).1 395 i = t.1 395 i) ∧ (∀ k, k ≠ 395 → k ≠ a → (zK t).1 k = t.1 k) ∧ (∀ i, i < 625 → (zK t).1 a i = t.1 396 i) ∧ (zK t).2 = t.2 := by
  have hun : (t.1 395 3).toNatClampNeg = u := by
    rw [hu]
    exact nI_clamp (by omega)
  unfold zK
  rw [hun, ha, Nat.add_sub_cancel, zm_cpy]
  refine ⟨?_, zm_pi_eq, fun i h3 h11 => ?_, fun k hk hka => ?_, fun i hi => ?_, rfl⟩
  · rw [zm_pi_ne2 (by decide), zm_pi_eq, zm_ri_ne (by omega), hu, nI_1]
  · rw [zm_pi_ne2 h11, zm_pi_ne2 h3, zm_ri_ne (by omega)]
  · rw [zm_pi_ne hk, zm_pi_ne hk, zm_ri_ne hka]
  · rw [zm_pi_ne (by omega), zm_pi_ne (by omega), zm_ri_at, if_pos hi]
theorem zX_f {μ : rj_M} {A : Nat → Nat} (hA : ∀ j, j < 8 → μ.2.2.2 397 j = A j + 1) : (zX μ).1 = μ.1 ∧ (zX μ).2.1 = μ.2.1 ∧ (zX μ).2.2.1 = μ.2.2.1 ∧ (∀ k, k ≠ 397 → (zX μ).2.2.2 k = μ.2.2.2 k) ∧ (∀ j, j < 8 → (zX μ).2.2.2 397 j = (if j = 7 then A 0 else A (j + 1)) + 1) := by
  have hz := zf_inv (f := bX12_keeps_18 μ) (fun j s => s.1 = μ.1 ∧ s.2.1 = μ.2.1 ∧ s.2.2.1 = μ.2.2.1 ∧ (∀ k, k ≠ 397 → s.2.2.2 k = μ.2.2.2 k) ∧ (∀ i, i < 8 → s.2.2.2 397 i = (if i + 1 < j then A (i + 1) else A i) + 1)) 7 1 μ ⟨rfl, rfl, rfl, fun _ _ => rfl, fun i hi => by rw [if_neg (by omega), hA i hi]⟩ (fun j s h1 h2 h => by
    have e1 : ((nI j) - 1).toNatClampNeg = j - 1 := by
      rw [show (1 : Int32) = nI 1 from rfl, pk_sub (by omega)]
      exact nI_clamp (by omega)
    have e2 : (nI j).toNatClampNeg = j := nI_clamp (by omega)
    have e3 := h.2.2.2.2 j (by omega)
    rw [if_neg (by omega)] at e3
    unfold bX12_keeps_18
    rw [e1, e2, e3, Nat.add_sub_cancel]
    refine ⟨h.1, h.2.1, h.2.2.1, fun k hk => (zm_pq_ne hk).trans (h.2.2.2.1 k hk), fun i hi => ?_⟩
    rw [zm_pq_at]
    by_cases hij : i = j - 1
    · rw [hij, va_up_self, if_pos (by omega), show j - 1 + 1 = j by omega]
    · rw [va_up_ne _ _ hij, h.2.2.2.2 i hi]
      by_cases hlt : i + 1 < j
      · rw [if_pos hlt, if_pos (by omega)]
      · rw [if_neg hlt, if_neg (by omega)])
  obtain ⟨z1, z2, z3, z4, z5⟩ := hz
  have e7 : (7 : Int32).toNatClampNeg = 7 := by decide
  have e0 : (0 : Int32).toNatClampNeg = 0 := by decide
  unfold zX
  rw [e7, e0, hA 0 (by decide), Nat.add_sub_cancel]
  refine ⟨z1, z2, z3, fun k hk => (zm_pq_ne hk).trans (z4 k hk), fun j hj => ?_⟩
  rw [zm_pq_at]
  by_cases h7 : j = 7
  · rw [h7, va_up_self, if_pos rfl]
  · rw [va_up_ne _ _ h7, z5 j hj, if_pos (by omega), if_neg h7]
/-- the reference's rows of what was: L the latest first -/
def zu_q (μ : rj_M) (L : List ((Nat → Nat) × (Nat → Int))) : Prop := μ.1 395 3 = nI L.length ∧ L.length ≤ 8 ∧ ∃ A : Nat → Nat, (∀ j, j < 8 → μ.2.2.2 397 j = A j + 1 ∧ 398 ≤ A j ∧ A j < 406) ∧ (∀ i j, i < 8 → j < 8 → A i = A j → i = j) ∧ ∀ i S B, L[i]? = some (S, B) → zr_row (μ.1 (A (L.length - 1 - i))) S B
theorem zu_q_of {μ t : rj_M} {L : List ((Nat → Nat) × (Nat → Int))} (h : zu_q μ L) (h3 : t.1 395 3 = μ.1 395 3) (hp : t.2.2.2 397 = μ.2.2.2 397) (hr : ∀ k, 398 ≤ k → k < 406 → t.1 k = μ.1 k) : zu_q t L := by
  obtain ⟨a1, a2, A, a3, a4, a5⟩ := h
  refine ⟨h3.trans a1, a2, A, fun j hj => ⟨(congrFun hp j).trans (a3 j hj).1, (a3 j hj).2⟩, a4, fun i S B hi => ?_⟩
  have hl := (List.getElem?_eq_some_iff.mp hi).1
  have h9 := a3 (L.length - 1 - i) (by omega)
  rw [hr _ h9.2.1 h9.2.2]
  exact a5 i S B hi
theorem zq_keeps {μ : rj_M} {L : List ((Nat → Nat) × (Nat → Int))} {S : Nat → Nat} {B : Nat → Int} (h : zu_q μ L) (hr : zr_row (μ.1 396) S B) : qX12_keeps μ ∧ zu_q (mX12_keeps μ) (((S, B) :: L).take 8) ∧ (mX12_keeps μ).1 396 = μ.1 396 ∧ (mX12_keeps μ).1 395 11 = 0 ∧ (∀ i, i ≠ 3 → i ≠ 11 → (mX12_keeps μ).1 395 i = μ.1 395 i) ∧ (∀ k, k ≠ 395 → (k < 398 ∨ 406 ≤ k) → (mX12_keeps μ).1 k = μ.1 k) ∧ (mX12_keeps μ).2.1 = μ.2.1 ∧ (mX12_keeps μ).2.2.1 = μ.2.2.1 ∧ (∀ k, k ≠ 397 → (mX12_keeps μ).2.2.2 k = μ.2.2.2 k) ∧ ∀ j, j < 8 → 1 ≤ (mX12_keeps μ).2.2.2 397 j ∧ (mX12_keeps μ).2.2.2 397 j ≤ 406 := by
  obtain ⟨a1, a2, A, a3, a4, a5⟩ := h
  have hA : ∀ j, j < 8 → μ.2.2.2 397 j = A j + 1 := fun j hj => (a3 j hj).1
  have hrow : ∀ (t : rj_M) (j : Nat) (x : Int32), x = nI j → j < 8 → (398 < t.2.2.2 397 j ∧ t.2.2.2 397 j ≤ 406) → rj_row t 397 8 398 406 x := fun t j x hx hj ht => by
    subst hx
    unfold rj_row
    rw [nI_clamp (n := j) (by omega)]
    exact ⟨vp_in_nI hj (by decide), ht⟩
  rw [zK_eq]
  unfold qX12_keeps
  by_cases h8 : L.length = 8
  · have c8 : μ.1 395 3 = 8 := by
      rw [a1, h8]
      rfl
    obtain ⟨x1, x2, x3, x4, x5⟩ := zX_f hA
    have e3 : (zX μ).1 395 3 - 1 = nI 7 := by
      rw [x1, c8]
      decide
    rw [if_pos c8]
    have hz := zK_f (t := rj_pi (zX μ) 395 3 ((zX μ).1 395 3 - 1)) (u := 7) (a := A 0) (by rw [zm_pi_eq, e3]) (by decide) (by show (zX μ).2.2.2 397 7 = _; rw [x5 7 (by decide), if_pos rfl]) (a3 0 (by decide)).2.1
    obtain ⟨z1, z2, z3, z4, z5, z6⟩ := hz
    refine ⟨⟨fun _ => ?_, fun z => absurd c8 z⟩, ?_⟩
    · refine ⟨hrow μ 0 0 rfl (by decide) (by have := a3 0 (by decide); omega), fun _ => ra_fo_i ?_, ?_, trivial⟩
      · refine zf_q (fun j s => ∀ i, i < 8 → 398 < s.2.2.2 397 i ∧ s.2.2.2 397 i ≤ 406) 7 1 μ (fun i hi => by have := a3 i hi; omega) (fun j s h1 h2 hs => ?_)
        have hsj := hs j (by omega)
        have e1 : ((nI j) - 1).toNatClampNeg = j - 1 := by
          rw [show (1 : Int32) = nI 1 from rfl, pk_sub (by omega)]
          exact nI_clamp (by omega)
        have e2 : (nI j).toNatClampNeg = j := nI_clamp (by omega)
        refine ⟨⟨hrow s j _ rfl (by omega) hsj, ?_, trivial⟩, fun i hi => ?_⟩
        · rw [show (1 : Int32) = nI 1 from rfl, pk_sub (by omega)]
          exact vp_in_nI (by omega) (by decide)
        · unfold bX12_keeps_18
          rw [e1, e2, zm_pq_at]
          by_cases hij : i = j - 1
          · rw [hij, va_up_self]
            omega
          · rw [va_up_ne _ _ hij]
            exact hs i hi
      · have h7 : (zX μ).2.2.2 397 7 = A 0 + 1 := by
          rw [x5 7 (by decide), if_pos rfl]
        have b0 := a3 0 (by decide)
        exact hrow (rj_pi (zX μ) 395 3 ((zX μ).1 395 3 - 1)) 7 ((rj_pi (zX μ) 395 3 ((zX μ).1 395 3 - 1)).1 395 3) (by rw [zm_pi_eq, e3]) (by decide) (by show 398 < (zX μ).2.2.2 397 7 ∧ (zX μ).2.2.2 397 7 ≤ 406; rw [h7]; omega)
    · have hz2 : ∀ k, (zK (rj_pi (zX μ) 395 3 ((zX μ).1 395 3 - 1))).2.2.2 k = (zX μ).2.2.2 k := fun k => by
        rw [z6]
        rfl
      have hb0 := a3 0 (by decide)
      have hne : ∀ k, k ≠ 395 → k ≠ A 0 → (zK (rj_pi (zX μ) 395 3 ((zX μ).1 395 3 - 1))).1 k = μ.1 k := fun k h1 h2 => (z4 k h1 h2).trans ((zm_pi_ne h1).trans (congrFun x1 k))
      refine ⟨⟨?_, ?_, fun j => if j = 7 then A 0 else A (j + 1), fun j hj => ⟨?_, ?_⟩, fun i j hi hj hij => ?_, fun i S' B' hi => ?_⟩, ?_, z2, fun i h1 h2 => ?_, fun k h1 h2 => hne k h1 (by omega), ?_, ?_, fun k hk => (hz2 k).trans (x4 k hk), fun j hj => ?_⟩
      · rw [z1, List.length_take, List.length_cons, h8]
        rfl
      · rw [List.length_take]
        exact Nat.min_le_left _ _
      · rw [hz2, x5 j hj]
      · show 398 ≤ (if j = 7 then A 0 else A (j + 1)) ∧ (if j = 7 then A 0 else A (j + 1)) < 406
        by_cases h7 : j = 7
        · rw [if_pos h7]
          exact hb0.2
        · rw [if_neg h7]
          exact (a3 (j + 1) (by omega)).2
      · have hij : (if i = 7 then A 0 else A (i + 1)) = (if j = 7 then A 0 else A (j + 1)) := hij
        by_cases h1 : i = 7 <;> by_cases h2 : j = 7
        · omega
        · rw [if_pos h1, if_neg h2] at hij
          have := a4 0 (j + 1) (by decide) (by omega) hij
          omega
        · rw [if_neg h1, if_pos h2] at hij
          have := a4 (i + 1) 0 (by omega) (by decide) hij
          omega
        · rw [if_neg h1, if_neg h2] at hij
          have := a4 (i + 1) (j + 1) (by omega) (by omega) hij
          omega
      · have hlen : (((S, B) :: L).take 8).length = 8 := by
          rw [List.length_take, List.length_cons, h8]
          rfl
        have hi8 : i < 8 := by
          have := (List.getElem?_eq_some_iff.mp hi).1
          omega
        rw [List.getElem?_take, if_pos hi8] at hi
        rw [hlen]
        show zr_row ((zK (rj_pi (zX μ) 395 3 ((zX μ).1 395 3 - 1))).1 (if 8 - 1 - i = 7 then A 0 else A (8 - 1 - i + 1))) S' B'
        rcases i with _ | i
        · rw [List.getElem?_cons_zero] at hi
          cases hi
          rw [if_pos (by omega)]
          refine zr_row_of hr (fun i hi => (z5 i hi).trans ?_)
          rw [zm_pi_ne (by decide), x1]
        · rw [List.getElem?_cons_succ] at hi
          have h5 := a5 i S' B' hi
          have e : L.length - 1 - i = 8 - 1 - (i + 1) + 1 := by omega
          rw [e] at h5
          have h9 := a3 (8 - 1 - (i + 1) + 1) (by omega)
          rw [if_neg (by omega), hne _ (by omega) (fun z => by have := a4 (8 - 1 - (i + 1) + 1) 0 (by omega) (by decide) z; omega)]
          exact h5
      · exact hne 396 (by decide) (by omega)
      · rw [z3 i h1 h2, zm_pi_ne2 h1, x1]
      · have : (zK (rj_pi (zX μ) 395 3 ((zX μ).1 395 3 - 1))).2.1 = (zX μ).2.1 := by
          rw [z6]
          rfl
        exact this.trans x2
      · have : (zK (rj_pi (zX μ) 395 3 ((zX μ).1 395 3 - 1))).2.2.1 = (zX μ).2.2.1 := by
          rw [z6]
          rfl
        exact this.trans x3
      · rw [hz2, x5 j hj]
        by_cases h7 : j = 7
        · rw [if_pos h7]
          omega
        · rw [if_neg h7]
          have := a3 (j + 1) (by omega)
          omega
  · have hlt : L.length < 8 := by omega
    have c8 : ¬ μ.1 395 3 = 8 := by
      rw [a1]
      exact zn_ne (n := 8) rfl h8 (by omega) (by decide)
    have hb := a3 L.length hlt
    rw [if_neg c8]
    obtain ⟨z1, z2, z3, z4, z5, z6⟩ := zK_f a1 hlt hb.1 hb.2.1
    have hz2 : ∀ k, (zK μ).2.2.2 k = μ.2.2.2 k := fun k => by rw [z6]
    have hlen : (((S, B) :: L).take 8).length = L.length + 1 := by
      rw [List.length_take, List.length_cons]
      omega
    refine ⟨⟨fun z => absurd z c8, fun _ => ⟨hrow μ L.length _ a1 hlt (by omega), trivial⟩⟩, ⟨?_, ?_, A, fun j hj => ⟨?_, (a3 j hj).2⟩, a4, fun i S' B' hi => ?_⟩, z4 396 (by decide) (by omega), z2, z3, fun k h1 h2 => z4 k h1 (by omega), ?_, ?_, fun k _ => hz2 k, fun j hj => ?_⟩
    · rw [z1, hlen]
    · rw [hlen]
      exact hlt
    · rw [hz2]
      exact (a3 j hj).1
    · have hi9 : i < L.length + 1 := by
        have := (List.getElem?_eq_some_iff.mp hi).1
        omega
      rw [List.getElem?_take, if_pos (by omega)] at hi
      rw [hlen]
      rcases i with _ | i
      · rw [List.getElem?_cons_zero] at hi
        cases hi
        exact zr_row_of hr z5
      · rw [List.getElem?_cons_succ] at hi
        have h5 := a5 i S' B' hi
        have e : L.length - 1 - i = L.length + 1 - 1 - (i + 1) := by omega
        rw [e] at h5
        have h9 := a3 (L.length + 1 - 1 - (i + 1)) (by omega)
        rw [z4 _ (by omega) (fun z => by have := a4 (L.length + 1 - 1 - (i + 1)) L.length (by omega) hlt z; omega)]
        exact h5
    · rw [z6]
    · rw [z6]
    · rw [hz2, (a3 j hj).1]
      have := a3 j hj
      omega
/-! THE CLASS'S MOMENTS OF WHAT WAS -/
def zu_c (μ : rj_M) (L : List ((Nat → Nat) × (Nat → Int))) : Prop := μ.1 0 5 = nI L.length ∧ L.length ≤ 8 ∧ (∀ j, j < 8 → μ.2.2.2 44 j = 51 + 43 * j + 1) ∧ ∃ p, p < 8 ∧ μ.1 0 4 = nI p ∧ ∀ i S B, L[i]? = some (S, B) → zr_mom μ (51 + 43 * ((p + 7 - i) % 8)) S B
theorem zu_c_of {μ t : rj_M} {L : List ((Nat → Nat) × (Nat → Int))} (h : zu_c μ L) (h4 : t.1 0 4 = μ.1 0 4) (h5 : t.1 0 5 = μ.1 0 5) (hp : t.2.2.2 44 = μ.2.2.2 44) (hm : ∀ k, 51 ≤ k → k < 395 → t.1 k = μ.1 k ∧ t.2.1 k = μ.2.1 k) : zu_c t L := by
  obtain ⟨a1, a2, a3, p, a4, a5, a6⟩ := h
  exact ⟨h5.trans a1, a2, fun j hj => (congrFun hp j).trans (a3 j hj), p, a4, h4.trans a5, fun i S B hi => zr_mom_of (a6 i S B hi) (fun k h1 h2 => hm k (by omega) (by omega))⟩
def zS (t : rj_M) : rj_M := rj_pi (rj_pi t 0 4 (((t.1 0 4) + 1) - ((t.1 0 4) + 1) / 8 * 8)) 0 5 (if 8 < (((rj_pi t 0 4 (((t.1 0 4) + 1) - ((t.1 0 4) + 1) / 8 * 8)).1 0 5) + 1) then 8 else (((rj_pi t 0 4 (((t.1 0 4) + 1) - ((t.1 0 4) + 1) / 8 * 8)).1 0 5) + 1))
theorem zS_eq (μ : rj_M) : mX11_saveMoment μ = zS (mX5_copyFrom μ (μ.2.2.2 44 (μ.1 0 4).toNatClampNeg - 1) 1) := rfl
theorem zn_01 {n : Nat} (h : n ≤ 1) : nI n = 0 ∨ nI n = 1 := by
  rcases (show n = 0 ∨ n = 1 by omega) with rfl | rfl
  · exact .inl rfl
  · exact .inr rfl
/-- the cells of the class beside its Moments of what was, and all of the reference: they stay -/
def zb_fr (μ t : rj_M) : Prop := (∀ k, (1 ≤ k ∧ k < 51) ∨ 395 ≤ k → t.1 k = μ.1 k) ∧ (∀ k, k < 51 ∨ 395 ≤ k → t.2.1 k = μ.2.1 k) ∧ t.2.2 = μ.2.2
theorem zc_save {μ : rj_M} {L : List ((Nat → Nat) × (Nat → Int))} {S : Nat → Nat} {B : Nat → Int} (h : zu_c μ L) (hm : zr_mom μ 1 S B) (og : zo_grnd S) : qX11_saveMoment μ ∧ zu_c (mX11_saveMoment μ) (((S, B) :: L).take 8) ∧ zb_fr μ (mX11_saveMoment μ) := by
  obtain ⟨a1, a2, a3, p, a4, a5, a6⟩ := h
  have hpn : (μ.1 0 4).toNatClampNeg = p := by
    rw [a5]
    exact nI_clamp (by omega)
  have hcp := zy_copy (b := 51 + 43 * p) (o := 1) (μ := μ) (by omega) (fun i hi => by
    rw [show 1 + 3 = 4 from rfl]
    have h1 : μ.1 4 i = nI (S (3 + i)) := hm.2.1.1 i hi
    rw [h1]
    exact zn_01 (og.1 i hi))
  have hnew := zr_mom_cp hm hcp
  rw [zS_eq]
  unfold qX11_saveMoment rj_prow
  rw [hpn, a3 p a4, Nat.add_sub_cancel]
  generalize mX5_copyFrom μ (51 + 43 * p) 1 = t at hcp hnew ⊢
  have t04 : t.1 0 = μ.1 0 := (hcp.1 0 (by omega)).1
  have hv4 : ((t.1 0 4) + 1) - ((t.1 0 4) + 1) / 8 * 8 = nI ((p + 1) % 8) := by
    rw [t04, a5, nI_1, show (8 : Int32) = nI 8 from rfl]
    exact pk_rem (by omega) (by decide) (by decide)
  have hlen : (((S, B) :: L).take 8).length = min 8 (L.length + 1) := by rw [List.length_take, List.length_cons]
  have hv5 : (if 8 < (((rj_pi t 0 4 (nI ((p + 1) % 8))).1 0 5) + 1) then 8 else (((rj_pi t 0 4 (nI ((p + 1) % 8))).1 0 5) + 1)) = nI (min 8 (L.length + 1)) := by
    rw [zm_pi_ne2 (by decide), t04, a1, nI_1]
    by_cases h8 : 8 < L.length + 1
    · rw [if_pos (show (8 : Int32) < nI (L.length + 1) from nI_lt (a := 8) h8 (by omega)), Nat.min_eq_left (by omega)]
      rfl
    · rw [if_neg (show ¬ (8 : Int32) < nI (L.length + 1) from nI_nlt (a := 8) (by omega) (by decide)), Nat.min_eq_right (by omega)]
  unfold zS
  rw [hv4, hv5]
  refine ⟨⟨⟨by rw [a5]; exact vp_in_nI a4 (by decide), p, a4, rfl⟩, trivial⟩, ⟨?_, ?_, fun j hj => ?_, (p + 1) % 8, Nat.mod_lt _ (by decide), ?_, fun i S' B' hi => ?_⟩, fun k hk => ?_, fun k hk => ?_, ?_⟩
  · rw [zm_pi_eq, hlen]
  · rw [hlen]
    exact Nat.min_le_left _ _
  · show t.2.2.2 44 j = _
    rw [hcp.2.1]
    exact a3 j hj
  · rw [zm_pi_ne2 (by decide), zm_pi_eq]
  · have hi8 : i < 8 := by
      have h9 := (List.getElem?_eq_some_iff.mp hi).1
      omega
    rw [List.getElem?_take, if_pos hi8] at hi
    have hkeep : ∀ b S2 B2, 51 ≤ b → zr_mom t b S2 B2 → zr_mom (rj_pi (rj_pi t 0 4 (nI ((p + 1) % 8))) 0 5 (nI (min 8 (L.length + 1)))) b S2 B2 := fun b S2 B2 hb hz => zr_mom_of hz (fun k h1 h2 => ⟨(zm_pi_ne (by omega)).trans (zm_pi_ne (by omega)), rfl⟩)
    rcases i with _ | i
    · rw [List.getElem?_cons_zero] at hi
      cases hi
      rw [show ((p + 1) % 8 + 7 - 0) % 8 = p by omega]
      exact hkeep _ _ _ (by omega) hnew
    · rw [List.getElem?_cons_succ] at hi
      have h5 := a6 i S' B' hi
      rw [show ((p + 1) % 8 + 7 - (i + 1)) % 8 = (p + 7 - i) % 8 by omega]
      have hl := (List.getElem?_eq_some_iff.mp hi).1
      exact hkeep _ _ _ (by omega) (zr_mom_of h5 (fun k h1 h2 => hcp.1 k (by omega)))
  · rw [zm_pi_ne (by omega), zm_pi_ne (by omega)]
    exact (hcp.1 k (by omega)).1
  · exact (hcp.1 k (by omega)).2
  · exact hcp.2.1
theorem zc_beg {μ : rj_M} {L : List ((Nat → Nat) × (Nat → Int))} {S : Nat → Nat} {B : Nat → Int} (h : zu_c μ L) (hm : zr_mom μ 1 S B) (og : zo_grnd S) : qX11_beginChange μ ∧ zu_c (mX11_beginChange μ) (((S, B) :: L).take 8) ∧ zr_mom (mX11_beginChange μ) 1 S B ∧ (mX11_beginChange μ).1 47 2 = 0 ∧ (∀ k, (1 ≤ k ∧ k < 51) ∨ 395 ≤ k → k ≠ 47 → (mX11_beginChange μ).1 k = μ.1 k) ∧ (∀ k, k < 51 ∨ 395 ≤ k → (mX11_beginChange μ).2.1 k = μ.2.1 k) ∧ (mX11_beginChange μ).2.2 = μ.2.2 := by
  obtain ⟨h1, h2, h3, h4, h5⟩ := zc_save h hm og
  unfold mX11_beginChange mX9_forget qX11_beginChange
  generalize mX11_saveMoment μ = t at *
  refine ⟨⟨h1, trivial⟩, zu_c_of h2 (congrFun (zm_pi_ne (by decide)) 4) (congrFun (zm_pi_ne (by decide)) 5) rfl (fun k a b => ⟨zm_pi_ne (by omega), rfl⟩), zr_mom_of hm (fun k a b => ?_), zm_pi_eq, fun k hk hk2 => (zm_pi_ne hk2).trans (h3 k hk), h4, h5⟩
  by_cases e : k = 47
  · exact absurd e (by omega)
  · exact ⟨(zm_pi_ne e).trans (h3 k (by omega)), h4 k (by omega)⟩
/-! UNDO -/
theorem zn_fm {μ : rj_M} : ∀ p, p < 8 → fJ9_floorMod_7cf53 μ (nI p - 1) 8 = nI ((p + 7) % 8) := by
  have h : ∀ p, p < 8 → (if (0 : Int32) ≤ ((nI p - 1) ^^^ 8) then ((nI p - 1) - (nI p - 1) / 8 * 8) else (if ((nI p - 1) - (nI p - 1) / 8 * 8) = 0 then ((nI p - 1) - (nI p - 1) / 8 * 8) else (((nI p - 1) - (nI p - 1) / 8 * 8) + 8))) = nI ((p + 7) % 8) := by decide +kernel
  exact h
theorem zc_undo {μ : rj_M} {S S0 : Nat → Nat} {B B0 : Nat → Int} {L : List ((Nat → Nat) × (Nat → Int))} (h : zu_c μ ((S0, B0) :: L)) (og : zo_grnd S0) : qX11_undo μ ∧ fX11_undo μ = .inl (nI L.length) ∧ zu_c (mX11_undo μ) L ∧ zr_mom (mX11_undo μ) 1 S0 B0 ∧ (mX11_undo μ).1 47 2 = 0 ∧ (∀ k, (44 ≤ k ∧ k < 51) ∨ 395 ≤ k → k ≠ 47 → (mX11_undo μ).1 k = μ.1 k) ∧ (∀ k, k < 1 ∨ (44 ≤ k ∧ k < 51) ∨ 395 ≤ k → (mX11_undo μ).2.1 k = μ.2.1 k) ∧ (mX11_undo μ).2.2 = μ.2.2 := by
  obtain ⟨a1, a2, a3, p, a4, a5, a6⟩ := h
  rw [List.length_cons] at a1 a2
  have hu : ¬ μ.1 0 5 = 0 := by
    rw [a1]
    exact nI_ne0 (by omega) (by omega)
  have hp8 : (p + 7) % 8 < 8 := Nat.mod_lt _ (by decide)
  have hold := a6 0 S0 B0 rfl
  rw [Nat.sub_zero] at hold
  unfold qX11_undo fX11_undo mX11_undo rj_prow
  rw [if_neg hu, if_neg hu, if_neg hu, a5, zn_fm p a4, zm_pi_eq, nI_clamp (n := (p + 7) % 8) (by omega)]
  have e44 : (rj_pi μ 0 4 (nI ((p + 7) % 8))).2.2.2 44 ((p + 7) % 8) = 51 + 43 * ((p + 7) % 8) + 1 := a3 _ hp8
  rw [e44, Nat.add_sub_cancel]
  have hm0 : zr_mom (rj_pi μ 0 4 (nI ((p + 7) % 8))) (51 + 43 * ((p + 7) % 8)) S0 B0 := zr_mom_of hold (fun k h1 h2 => ⟨zm_pi_ne (by omega), rfl⟩)
  have hcp := zy_copy (b := 1) (o := 51 + 43 * ((p + 7) % 8)) (μ := rj_pi μ 0 4 (nI ((p + 7) % 8))) (by omega) (fun i hi => by
    rw [hm0.2.1.1 i hi]
    exact zn_01 (og.1 i hi))
  have hnew := zr_mom_cp hm0 hcp
  generalize mX5_copyFrom (rj_pi μ 0 4 (nI ((p + 7) % 8))) 1 (51 + 43 * ((p + 7) % 8)) = t at hcp hnew ⊢
  have t0 : t.1 0 = (rj_pi μ 0 4 (nI ((p + 7) % 8))).1 0 := (hcp.1 0 (by omega)).1
  have t05 : t.1 0 5 - 1 = nI L.length := by
    rw [t0, zm_pi_ne2 (by decide), a1]
    exact nI_pred _
  have t04 : t.1 0 4 = nI ((p + 7) % 8) := by
    rw [t0, zm_pi_eq]
  rw [t05]
  unfold mX9_forget
  refine ⟨⟨⟨by decide, trivial⟩, ⟨vp_in_nI hp8 (by decide), _, hp8, rfl⟩, trivial⟩, ?_, ⟨?_, by omega, fun j hj => ?_, (p + 7) % 8, hp8, ?_, fun i S' B' hi => ?_⟩, ?_, zm_pi_eq, fun k hk hk2 => ?_, fun k hk => ?_, ?_⟩
  · rw [zm_pi_ne (by decide), zm_pi_eq]
  · rw [zm_pi_ne (by decide), zm_pi_eq]
  · show t.2.2.2 44 j = _
    rw [hcp.2.1]
    exact a3 j hj
  · rw [zm_pi_ne (by decide), zm_pi_ne2 (by decide), t04]
  · have hl := (List.getElem?_eq_some_iff.mp hi).1
    have h5 := a6 (i + 1) S' B' (by rw [List.getElem?_cons_succ]; exact hi)
    rw [show ((p + 7) % 8 + 7 - i) % 8 = (p + 7 - (i + 1)) % 8 by omega]
    refine zr_mom_of h5 (fun k h1 h2 => ⟨?_, ?_⟩)
    · rw [zm_pi_ne (by omega), zm_pi_ne (by omega), (hcp.1 k (by omega)).1, zm_pi_ne (by omega)]
    · exact (hcp.1 k (by omega)).2
  · refine zr_mom_of hnew (fun k h1 h2 => ⟨?_, rfl⟩)
    rw [zm_pi_ne (by omega), zm_pi_ne (by omega)]
  · rw [zm_pi_ne hk2, zm_pi_ne (by omega), (hcp.1 k (by omega)).1, zm_pi_ne (by omega)]
  · exact (hcp.1 k (by omega)).2
  · exact hcp.2.1
theorem zc_undo0 {μ : rj_M} (h : zu_c μ []) : qX11_undo μ ∧ fX11_undo μ = .inr "java/lang/IllegalStateException" ∧ mX11_undo μ = μ := by
  have hu : μ.1 0 5 = 0 := h.1
  unfold qX11_undo fX11_undo mX11_undo
  rw [if_pos hu, if_pos hu, if_pos hu]
  exact ⟨trivial, rfl, rfl⟩
theorem zq_undo {μ : rj_M} {S0 : Nat → Nat} {B0 : Nat → Int} {L : List ((Nat → Nat) × (Nat → Int))} (h : zu_q μ ((S0, B0) :: L)) : qX12_undo μ ∧ fX12_undo μ = nI L.length ∧ (mX12_undo μ).1 395 0 = 0 ∧ zu_q (mX12_undo μ) L ∧ zr_row ((mX12_undo μ).1 396) S0 B0 ∧ (mX12_undo μ).1 395 11 = 0 ∧ (∀ k, k ≠ 395 → k ≠ 396 → (mX12_undo μ).1 k = μ.1 k) ∧ (mX12_undo μ).2 = μ.2 := by
  obtain ⟨a1, a2, A, a3, a4, a5⟩ := h
  rw [List.length_cons] at a1 a2 a5
  have hu : ¬ μ.1 395 3 ≤ 0 := by
    rw [a1]
    exact nI_nle (by omega) (by omega)
  have h9 := a3 L.length (by omega)
  have hv : (mX12_lacksT μ).1 395 3 - 1 = nI L.length := by
    unfold mX12_lacksT
    rw [zm_pi_ne2 (by decide), a1]
    exact nI_pred _
  unfold qX12_undo fX12_undo mX12_undo rj_row
  rw [if_neg hu, if_neg hu, hv]
  have e3 : (rj_pi (mX12_lacksT μ) 395 3 (nI L.length)).1 395 3 = nI L.length := zm_pi_eq
  rw [e3, nI_clamp (n := L.length) (by omega)]
  have e4 : (rj_pi (mX12_lacksT μ) 395 3 (nI L.length)).2.2.2 397 L.length = A L.length + 1 := h9.1
  rw [e4, Nat.add_sub_cancel, zm_cpy]
  have eA : (rj_pi (mX12_lacksT μ) 395 3 (nI L.length)).1 (A L.length) = μ.1 (A L.length) := by
    unfold mX12_lacksT
    rw [zm_pi_ne (by omega), zm_pi_ne (by omega)]
  rw [eA]
  refine ⟨⟨fun z => absurd z hu, fun _ => ⟨⟨vp_in_nI (by omega) (by decide), by omega, by omega⟩, trivial⟩⟩, ?_, ?_, ⟨?_, by omega, A, fun j hj => a3 j hj, a4, fun i S' B' hi => ?_⟩, ?_, zm_pi_eq, fun k h1 h2 => ?_, rfl⟩
  · rw [zm_pi_ne2 (by decide), zm_ri_ne (by decide), zm_pi_eq]
  · rw [zm_pi_ne2 (by decide), zm_ri_ne (by decide), zm_pi_ne2 (by decide)]
    unfold mX12_lacksT
    exact zm_pi_eq
  · rw [zm_pi_ne2 (by decide), zm_ri_ne (by decide), zm_pi_eq]
  · have hl := (List.getElem?_eq_some_iff.mp hi).1
    have h5 := a5 (i + 1) S' B' (by rw [List.getElem?_cons_succ]; exact hi)
    have e : L.length + 1 - 1 - (i + 1) = L.length - 1 - i := by omega
    rw [e] at h5
    have h8 := a3 (L.length - 1 - i) (by omega)
    unfold mX12_lacksT
    rw [zm_pi_ne (by omega), zm_ri_ne (by omega), zm_pi_ne (by omega), zm_pi_ne (by omega)]
    exact h5
  · have h5 := a5 0 S0 B0 rfl
    rw [show L.length + 1 - 1 - 0 = L.length by omega] at h5
    rw [zm_pi_ne (by decide), zm_ri_at]
    exact zr_row_of h5 (fun i hi => if_pos hi)
  · unfold mX12_lacksT
    rw [zm_pi_ne h1, zm_ri_ne h2, zm_pi_ne h1, zm_pi_ne h1]
theorem zq_undo0 {μ : rj_M} (h : zu_q μ []) : qX12_undo μ ∧ fX12_undo μ = 0 ∧ mX12_undo μ = mX12_lacksF μ := by
  have hu : μ.1 395 3 ≤ 0 := by
    rw [h.1]
    decide
  unfold qX12_undo fX12_undo mX12_undo
  rw [if_pos hu, if_pos hu]
  exact ⟨⟨fun _ => trivial, fun z => absurd hu z⟩, rfl, rfl⟩
