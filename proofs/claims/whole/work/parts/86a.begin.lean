/-! THE BEGINNING: what the constructors leave, and the state that it stands for -/
def zS0 (x : Nat) : Nat := if x = 0 then 2026 else if x = 1 then 6 else if x = 2 then 1 else if 7 ≤ x ∧ x < 23 then (if (x - 7) % 5 = 0 then 0 else 10) else if 314 ≤ x ∧ x < 326 then 10 else if x = 330 then 3 else if x = 411 then 8 else if 448 ≤ x ∧ x < 452 then 20 else 0
def zB0 (_ : Nat) : Int := 0
theorem zz_1e {μ : rj_M} {k : Nat} : (rj_z μ k).1 k = fun _ => 0 := va_up_self _ _ _
theorem zz_1n {μ : rj_M} {k j : Nat} (h : j ≠ k) : (rj_z μ k).1 j = μ.1 j := va_up_ne _ _ h
theorem zz_2e {μ : rj_M} {k : Nat} : (rj_z μ k).2.1 k = fun _ => 0 := va_up_self _ _ _
theorem zz_2n {μ : rj_M} {k j : Nat} (h : j ≠ k) : (rj_z μ k).2.1 j = μ.2.1 j := va_up_ne _ _ h
theorem zz_4e {μ : rj_M} {k : Nat} : (rj_z μ k).2.2.2 k = fun _ => 0 := va_up_self _ _ _
theorem zz_4n {μ : rj_M} {k j : Nat} (h : j ≠ k) : (rj_z μ k).2.2.2 j = μ.2.2.2 j := va_up_ne _ _ h
theorem zy_f1 {μ : rj_M} {k n j : Nat} {v : Int32} (hn : n < 2 ^ 31) (h : j ≠ k) : (mX11_fillRow μ k n v).1 j = μ.1 j := (zm_fill hn).1 j h
theorem zy_fe {μ : rj_M} {k n i : Nat} {v : Int32} (hn : n < 2 ^ 31) (h : i < n) : (mX11_fillRow μ k n v).1 k i = v := ((zm_fill hn).2.1 i).trans (if_pos h)
theorem zy_f2 {μ : rj_M} {k n : Nat} {v : Int32} (hn : n < 2 ^ 31) : (mX11_fillRow μ k n v).2 = μ.2 := (zm_fill hn).2.2
theorem zy_p2 {μ : rj_M} {k i : Nat} {v : Int32} : (rj_pi μ k i v).2 = μ.2 := rfl
theorem zy_q1 {μ : rj_M} {k i v : Nat} : (rj_pq μ k i v).1 = μ.1 := rfl
theorem zy_q2 {μ : rj_M} {k i v : Nat} : (rj_pq μ k i v).2.1 = μ.2.1 := rfl
/-- the ways of a new Grounds -/
def zy_w (j : Nat) : Int32 := if j % 5 = 0 then 0 else 10
theorem zy_step {μ s : rj_M} {b j : Nat} (hj : j < 16) : bX4_init_37 μ b j s = rj_pi (rj_pi s (b + 4) j (zy_w j)) (b + 5) j (zy_w j) := by
  have h := (show ∀ j, j < 16 → ((nI j / 4 = nI j - nI j / 4 * 4) ↔ j % 5 = 0) by decide +kernel) j hj
  unfold bX4_init_37 zy_w
  rw [nI_clamp (n := j) (by omega)]
  by_cases c : j % 5 = 0
  · rw [if_pos (h.mpr c), if_pos c, zm_pi_eq]
  · rw [if_neg (fun z => c (h.mp z)), if_neg c, zm_pi_eq]
theorem zy_ways {μ s : rj_M} {b : Nat} : (∀ k, k ≠ b + 4 → k ≠ b + 5 → (rj_fo (bX4_init_37 μ b) 16 0 s).1 k = s.1 k) ∧ (rj_fo (bX4_init_37 μ b) 16 0 s).2 = s.2 ∧ ∀ i, i < 16 → (rj_fo (bX4_init_37 μ b) 16 0 s).1 (b + 4) i = zy_w i ∧ (rj_fo (bX4_init_37 μ b) 16 0 s).1 (b + 5) i = zy_w i := by
  have hz := zf_inv (f := bX4_init_37 μ b) (fun n t => (∀ k, k ≠ b + 4 → k ≠ b + 5 → t.1 k = s.1 k) ∧ t.2 = s.2 ∧ ∀ i, i < n → t.1 (b + 4) i = zy_w i ∧ t.1 (b + 5) i = zy_w i) 16 0 s ⟨fun _ _ _ => rfl, rfl, fun i hi => absurd hi (Nat.not_lt_zero _)⟩ (fun j t _ hj ht => by
    obtain ⟨h1, h2, h3⟩ := ht
    rw [zy_step (j := j) (by omega)]
    refine ⟨fun k k1 k2 => (zm_pi_ne k2).trans ((zm_pi_ne k1).trans (h1 k k1 k2)), h2, fun i hi => ?_⟩
    by_cases e : i = j
    · subst e
      exact ⟨(congrFun (zm_pi_ne (by omega)) i).trans zm_pi_eq, zm_pi_eq⟩
    · obtain ⟨g1, g2⟩ := h3 i (by omega)
      exact ⟨(congrFun (zm_pi_ne (by omega)) i).trans ((zm_pi_ne2 e).trans g1), (zm_pi_ne2 e).trans ((congrFun (zm_pi_ne (by omega)) i).trans g2)⟩)
  exact hz
theorem zy_w1 {μ s : rj_M} {b k : Nat} (h : k ≠ b + 4) (h' : k ≠ b + 5) : (rj_fo (bX4_init_37 μ b) 16 0 s).1 k = s.1 k := zy_ways.1 k h h'
theorem zy_w2 {μ s : rj_M} {b : Nat} : (rj_fo (bX4_init_37 μ b) 16 0 s).2 = s.2 := zy_ways.2.1
set_option maxHeartbeats 4000000 in
/-- a new Moment writes its own cells alone -/
theorem zn_out {μ : rj_M} {b j : Nat} (h : j < b ∨ b + 43 ≤ j) : (mX5_init μ b).1 j = μ.1 j ∧ (mX5_init μ b).2.1 j = μ.2.1 j ∧ (mX5_init μ b).2.2.2 j = μ.2.2.2 j := by
  simp only [mX5_init, mX8_init, mtX8_init, mX6_init, mX10_init, mX0_init, mtX0_init, mX3_init, mtX3_init, mX7_init, mX4_init, mtX4_init, mX1_init]
  refine ⟨?_, ?_, ?_⟩
  · simp (disch := omega) only [zz_1n, zm_pi_ne, zy_f1, zy_w1, zm_pl_1]
  · simp (disch := omega) only [zz_2n, zy_p2, zy_f2, zy_w2, zm_pl_ne]
  · simp (disch := omega) only [zz_4n, zy_p2, zy_f2, zy_w2, zm_pl_2]
set_option maxHeartbeats 4000000 in
theorem zn_cal {μ : rj_M} {b : Nat} : zr_cal (mX5_init μ b) b zS0 := by
  unfold zr_cal
  simp only [mX5_init, mX8_init, mtX8_init, mX6_init, mX10_init, mX0_init, mtX0_init, mX3_init, mtX3_init, mX7_init, mX4_init, mtX4_init, mX1_init]
  simp (disch := omega) only [zz_1n, zm_pi_ne, zy_f1, zy_w1, zm_pl_1]
  refine ⟨?_, ?_, ?_⟩
  · rw [zm_pi_ne2 (by decide), zm_pi_ne2 (by decide), zm_pi_eq]
    rfl
  · rw [zm_pi_ne2 (by decide), zm_pi_eq]
    rfl
  · rw [zm_pi_eq]
    rfl
theorem zn_fw : ∀ i, i < 4 → ∀ j, j < 4 → zy_w (4 * i + j) = nI (zk_fw (fun x y => zS0 (7 + 4 * x + y)) i j) := by decide +kernel
theorem zn_ways : ∀ p, p < 16 → zy_w p = nI (zS0 (7 + p)) := by decide +kernel
set_option maxHeartbeats 4000000 in
theorem zn_grnd {μ : rj_M} {b : Nat} : zr_grnd (mX5_init μ b) b zS0 := by
  unfold zr_grnd
  simp only [mX5_init, mX8_init, mtX8_init, mX6_init, mX10_init, mX0_init, mtX0_init, mX3_init, mtX3_init, mX7_init, mX4_init, mtX4_init]
  simp (disch := omega) only [zz_1n, zm_pi_ne, zy_f1, zy_w1, zm_pl_1, zz_1e]
  refine ⟨fun k hk => ?_, fun p hp => ?_, fun i j hi hj => ?_, fun k hk => ?_⟩
  · exact (show ∀ k, k < 4 → (0 : Int32) = nI (zS0 (3 + k)) by decide +kernel) k hk
  · rw [(zy_ways.2.2 p hp).1]
    exact zn_ways p hp
  · rw [(zy_ways.2.2 (4 * i + j) (by omega)).2]
    exact zn_fw i hi j hj
  · rw [zy_fe (by decide) hk]
    exact (show ∀ k, k < 100 → (-1 : Int32) = nI (zS0 (525 + k)) - 1 by decide +kernel) k hk
set_option maxHeartbeats 4000000 in
theorem zn_prog {μ : rj_M} {b : Nat} : zr_prog (mX5_init μ b) b zS0 := by
  unfold zr_prog
  simp only [mX5_init, mX8_init, mtX8_init, mX6_init, mX10_init, mX0_init, mtX0_init, mX3_init, mtX3_init, mX7_init]
  simp (disch := omega) only [zz_1n, zm_pi_ne, zy_f1, zm_pl_1, zz_1e]
  refine ⟨fun a ha => ?_, fun p hp => ?_⟩
  · exact (show ∀ a, a < 16 → (0 : Int32) = nI (zS0 (24 + 6 * a)) ∧ (0 : Int32) = nI (zS0 (25 + 6 * a)) ∧ (0 : Int32) = nI (zS0 (26 + 6 * a)) ∧ (0 : Int32) = nI (zS0 (27 + 6 * a)) ∧ (0 : Int32) = nI (if zS0 (23 + 6 * a) = 1 then zS0 (28 + 6 * a) else 0) by decide +kernel) a ha
  · exact (show ∀ p, p < 192 → (0 : Int32) = nI (zS0 (119 + p)) by decide +kernel) p hp
set_option maxHeartbeats 4000000 in
theorem zn_exit {μ : rj_M} {b : Nat} : zr_exit (mX5_init μ b) b zS0 := by
  unfold zr_exit
  simp only [mX5_init, mX8_init, mtX8_init, mX6_init, mX10_init, mX0_init, mtX0_init, mX3_init, mtX3_init]
  simp (disch := omega) only [zz_1n, zm_pi_ne, zy_f1, zm_pl_1, zz_1e]
  refine ⟨fun k hk => ?_, fun p hp => ?_, fun k hk => ?_⟩
  · exact (show ∀ k, k < 3 → (0 : Int32) = nI (zS0 (311 + k)) by decide +kernel) k hk
  · rw [zy_fe (by decide) hp]
    exact (show ∀ p, p < 12 → (10 : Int32) = nI (zS0 (314 + p)) by decide +kernel) p hp
  · exact (show ∀ k, k < 4 → (0 : Int32) = nI (zS0 (326 + k)) by decide +kernel) k hk
set_option maxHeartbeats 4000000 in
theorem zn_bars {μ : rj_M} {b : Nat} : zr_bars (mX5_init μ b) b zS0 := by
  refine ⟨[], fun _ => 0, ⟨List.nodup_nil, fun v hv => absurd hv List.not_mem_nil, fun v _ => ⟨fun z => absurd z List.not_mem_nil, fun z => absurd rfl z⟩, fun v _ => Nat.zero_le _, fun b hb => ⟨(show ∀ b, b < 3 → zS0 (331 + 13 * b) = 0 by decide +kernel) b hb, fun k hk => absurd hk (Nat.not_lt_zero _)⟩, fun v hv => absurd hv List.not_mem_nil, List.Pairwise.nil⟩, ?_⟩
  simp only [mX5_init, mX8_init, mtX8_init, mX6_init, mX10_init, mX0_init, mtX0_init]
  simp (disch := omega) only [zz_1n, zm_pi_ne, zy_f1, zm_pl_1, zz_1e]
  refine ⟨?_, fun i hi => absurd hi (Nat.not_lt_zero _), fun v hv => ?_, fun k hk => ?_, ?_, ?_⟩
  · rw [zm_pi_ne2 (by decide), zm_pi_ne2 (by decide)]
    simp (disch := omega) only [zz_1n, zm_pi_eq]
    rfl
  · rw [zy_fe (by decide) hv]
    rfl
  · exact (show ∀ k, k < 3 → (0 : Int32) = nI (zS0 (370 + k)) by decide +kernel) k hk
  · rw [zm_pi_ne2 (by decide), zm_pi_eq]
    rfl
  · rw [zm_pi_eq]
    rfl
set_option maxHeartbeats 4000000 in
theorem zn_shft {μ : rj_M} {b : Nat} : zr_shft (mX5_init μ b) b zS0 := by
  unfold zr_shft
  simp only [mX5_init, mX8_init, mtX8_init, mX6_init, mX10_init]
  simp (disch := omega) only [zz_1n, zm_pi_ne, zy_f1, zm_pl_1, zz_1e]
  refine ⟨?_, fun h hh => ?_⟩
  · rw [zm_pi_eq]
    rfl
  · exact (show ∀ h, h < 24 → (0 : Int32) = nI (zS0 (387 + h)) by decide +kernel) h hh
set_option maxHeartbeats 4000000 in
theorem zn_powr {μ : rj_M} {b : Nat} : zr_powr (mX5_init μ b) b zS0 := by
  unfold zr_powr
  simp only [mX5_init, mX8_init, mtX8_init, mX6_init]
  simp (disch := omega) only [zz_1n, zm_pi_ne, zy_f1, zm_pl_1, zz_1e]
  refine ⟨fun h hh => ?_, fun q hq => ?_⟩
  · exact (show ∀ h, h < 24 → (0 : Int32) = nI (zS0 (412 + h)) by decide +kernel) h hh
  · exact (show ∀ q, q < 4 → (0 : Int32) = nI (zS0 (436 + 3 * q)) ∧ (0 : Int32) = nI (zS0 (437 + 3 * q)) ∧ (0 : Int32) = nI (zS0 (438 + 3 * q)) by decide +kernel) q hq
set_option maxHeartbeats 4000000 in
theorem zn_purs {μ : rj_M} {b : Nat} : zr_purs (mX5_init μ b) b zS0 zB0 := by
  unfold zr_purs
  simp only [mX5_init, mX8_init, mtX8_init]
  refine ⟨fun d hd => ?_, fun p hp => ?_, ?_, fun v hv => ?_, fun m hm => ?_⟩
  · simp (disch := omega) only [zz_1n, zy_f1, zm_pl_1]
    rw [zy_fe (by decide) hd]
    exact (show ∀ d, d < 4 → (20 : Int32) = nI (zS0 (448 + d)) by decide +kernel) d hd
  · rw [zy_fe (by decide) hp]
    exact (show ∀ p, p < 48 → (-1 : Int32) = nI (zS0 (452 + p)) - 1 by decide +kernel) p hp
  · simp (disch := omega) only [zz_2n, zy_f2, zm_pl_at]
    rfl
  · simp (disch := omega) only [zz_2n, zy_f2, zz_2e]
    rfl
  · simp (disch := omega) only [zz_2n, zy_f2, zz_2e]
    rfl
theorem zn_mom {μ : rj_M} {b : Nat} : zr_mom (mX5_init μ b) b zS0 zB0 := ⟨zn_cal, zn_grnd, zn_prog, zn_exit, zn_bars, zn_shft, zn_powr, zn_purs⟩
theorem zn_ok : zo_ok zS0 zB0 0 := by
  refine ⟨by unfold zo_cal; decide +kernel, ⟨by decide +kernel, fun i j hi hj => ?_, by decide +kernel, by decide +kernel⟩, ⟨by decide +kernel, fun v a hv ha => ?_⟩, by unfold zo_exit; decide +kernel, by unfold zo_bars; decide +kernel, by unfold zo_shft; decide +kernel, by unfold zo_powr; decide +kernel, ⟨by decide +kernel, by decide +kernel, fun v hv => ⟨show -(500 * ((0 : Nat) : Int)) ≤ (0 : Int) by decide, show (0 : Int) ≤ 500 * ((0 : Nat) : Int) by decide⟩, fun m hm => show (0 : Int) ≤ 0 by decide, by decide⟩⟩
  · exact (show ∀ i, i < 4 → ∀ j, j < 4 → zS0 (7 + 4 * i + j) ≤ 60 ∧ zS0 (7 + 4 * i + j) = zS0 (7 + 4 * j + i) by decide +kernel) i hi j hj
  · exact (show ∀ v, v < 12 → ∀ a, a < 16 → zS0 (119 + 16 * v + a) ≤ 9 ∧ (zS0 (23 + 6 * a) ≠ 1 → zS0 (119 + 16 * v + a) = 0) by decide +kernel) v hv a ha
