/-! THE BEGINNING: both objects made -/
theorem zz_m1 {μ : rj_M} {k N j : Nat} (h : j < k ∨ k + N < j) : (rj_mna μ k N).1 j = μ.1 j := (rj_mna_ne j h).1.symm
theorem zz_m2 {μ : rj_M} {k N j : Nat} (h : j < k ∨ k + N < j) : (rj_mna μ k N).2.1 j = μ.2.1 j := (rj_mna_ne j h).2.1.symm
theorem zz_m4 {μ : rj_M} {k N j : Nat} (h : j < k ∨ k + N < j) : (rj_mna μ k N).2.2.2 j = μ.2.2.2 j := (rj_mna_ne j h).2.2.2.symm
theorem zz_me {μ : rj_M} {k N i : Nat} (h : i < N) : (rj_mna μ k N).2.2.2 k i = k + 1 + i + 1 := (congrFun (if_pos rfl) i).trans (if_pos h)
/-- a row filled from a place on -/
theorem zy_F1 {b n : Nat} {v : Int32} {s : rj_M} {j : Nat} (h : j ≠ 396) : (rj_fo (fX12_fill b v) n 0 s).1 j = s.1 j := by
  have hz := zf_inv (f := fX12_fill b v) (fun _ t => t.1 j = s.1 j) n 0 s rfl (fun i t _ _ ht => (zm_pi_ne h).trans ht)
  exact hz
theorem zy_F2 {b n : Nat} {v : Int32} {s : rj_M} : (rj_fo (fX12_fill b v) n 0 s).2 = s.2 := rj_fo2 (f := fX12_fill b v) (fun _ _ => rfl) n 0 s
theorem zy_FV {b n : Nat} {v : Int32} {s : rj_M} {k : Nat} : (rj_fo (fX12_fill b v) n 0 s).1 396 k = if b ≤ k ∧ k < b + n then v else s.1 396 k := by
  have hz := zf_inv (f := fX12_fill b v) (fun m t => t.1 396 k = if b ≤ k ∧ k < b + m then v else s.1 396 k) n 0 s (if_neg (fun z => by omega)).symm (fun i t _ hi ht => by
    unfold fX12_fill
    by_cases e : k = b + i
    · subst e
      rw [zm_pi_eq, if_pos ⟨by omega, by omega⟩]
    · rw [zm_pi_ne2 e, ht]
      by_cases c : b ≤ k ∧ k < b + i
      · rw [if_pos c, if_pos ⟨c.1, by omega⟩]
      · rw [if_neg c, if_neg (fun z => c ⟨z.1, by omega⟩)])
  rw [Nat.zero_add] at hz
  exact hz
theorem zy_G1 {s : rj_M} {j : Nat} (h : j ≠ 396) : (rj_fo fX12_ways 16 0 s).1 j = s.1 j := by
  have hz := zf_inv (f := fX12_ways) (fun _ t => t.1 j = s.1 j) 16 0 s rfl (fun i t _ _ ht => (zm_pi_ne h).trans ht)
  exact hz
theorem zy_G2 {s : rj_M} : (rj_fo fX12_ways 16 0 s).2 = s.2 := rj_fo2 (f := fX12_ways) (fun _ _ => rfl) 16 0 s
theorem zy_GV {s : rj_M} {k : Nat} : (rj_fo fX12_ways 16 0 s).1 396 k = if 7 ≤ k ∧ k < 23 then (if (k - 7) % 5 = 0 then 0 else 10) else s.1 396 k := by
  have hz := zf_inv (f := fX12_ways) (fun m t => t.1 396 k = if 7 ≤ k ∧ k < 7 + m then (if (k - 7) % 5 = 0 then 0 else 10) else s.1 396 k) 16 0 s (if_neg (fun z => by omega)).symm (fun i t _ hi ht => by
    unfold fX12_ways
    by_cases e : k = 7 + i
    · subst e
      rw [zm_pi_eq, if_pos (show 7 ≤ 7 + i ∧ 7 + i < 7 + (i + 1) from ⟨by omega, by omega⟩), Nat.add_sub_cancel_left]
    · rw [zm_pi_ne2 e, ht]
      by_cases c : 7 ≤ k ∧ k < 7 + i
      · rw [if_pos c, if_pos (show 7 ≤ k ∧ k < 7 + (i + 1) from ⟨c.1, by omega⟩)]
      · rw [if_neg c, if_neg (fun z : 7 ≤ k ∧ k < 7 + (i + 1) => c ⟨z.1, by omega⟩)])
  exact hz
def zy_v (k : Nat) : Int32 := if 525 ≤ k ∧ k < 525 + 100 then -1 else if 452 ≤ k ∧ k < 452 + 48 then -1 else if 448 ≤ k ∧ k < 448 + 4 then 20 else if k = 411 then 8 else if k = 330 then 3 else if 314 ≤ k ∧ k < 314 + 12 then 10 else if 7 ≤ k ∧ k < 23 then (if (k - 7) % 5 = 0 then 0 else 10) else if k = 2 then 1 else if k = 1 then 6 else if k = 0 then 2026 else 0
theorem zy_pi {m : rj_M} {k i a : Nat} {v : Int32} : (rj_pi m k i v).1 k a = if a = i then v else m.1 k a := by
  by_cases e : a = i
  · subst e
    rw [zm_pi_eq, if_pos rfl]
  · rw [zm_pi_ne2 e, if_neg e]
theorem zy_rowE {μ : rj_M} (k : Nat) : (mX12_init μ).1 396 k = zy_v k := by
  have h0 : ∀ a, (mX12_a μ).1 396 a = 0 := fun a => by
    unfold mX12_a
    simp (disch := omega) only [zz_1n, zz_m1, zz_1e]
  unfold mX12_init mX12_b zy_v
  rw [zy_FV, zy_FV, zy_FV, zy_pi, zy_pi, zy_FV, zy_GV, zy_pi, zy_pi, zy_pi, h0]
theorem zy_other {μ : rj_M} {j : Nat} (h : j < 396) : (mX12_init μ).1 j = μ.1 j ∧ (mX12_init μ).2.1 j = μ.2.1 j ∧ (mX12_init μ).2.2.2 j = μ.2.2.2 j := by
  have e1 : (mX12_init μ).2 = (mX12_a μ).2 := by
    unfold mX12_init mX12_b
    rw [zy_F2, zy_F2, zy_F2, zy_p2, zy_p2, zy_F2, zy_G2, zy_p2, zy_p2, zy_p2]
  refine ⟨?_, ?_, ?_⟩
  · unfold mX12_init mX12_b mX12_a
    simp (disch := omega) only [zy_F1, zy_G1, zm_pi_ne, zz_1n, zz_m1]
  · rw [e1]
    unfold mX12_a
    simp (disch := omega) only [zz_2n, zz_m2]
  · rw [e1]
    unfold mX12_a
    simp (disch := omega) only [zz_4n, zz_m4]
theorem zy_ptr {μ : rj_M} : (∀ j, j < 8 → (mX12_init μ).2.2.2 397 j = 397 + 1 + j + 1) ∧ ∀ j, j < 25 → (mX12_init μ).2.2.2 409 j = 409 + 1 + j + 1 := by
  have e1 : (mX12_init μ).2 = (mX12_a μ).2 := by
    unfold mX12_init mX12_b
    rw [zy_F2, zy_F2, zy_F2, zy_p2, zy_p2, zy_F2, zy_G2, zy_p2, zy_p2, zy_p2]
  rw [e1]
  unfold mX12_a
  refine ⟨fun j hj => ?_, fun j hj => ?_⟩
  · simp (disch := omega) only [zz_4n, zz_m4]
    exact zz_me hj
  · simp (disch := omega) only [zz_4n]
    exact zz_me hj
/-- pointers within bounds -/
theorem zy_cz {μ : rj_M} {k : Nat} (h : rj_cr μ) : rj_cr (rj_z μ k) := fun a i => by
  by_cases e : a = k
  · subst e
    rw [zz_4e]
    exact Nat.zero_le _
  · rw [zz_4n e]
    exact h a i
theorem zy_c2 {μ μ' : rj_M} (h : rj_cr μ) (e : μ'.2 = μ.2) : rj_cr μ' := fun a i => by
  rw [e]
  exact h a i
theorem zy_cl {μ : rj_M} {k i : Nat} {v : Int64} (h : rj_cr μ) : rj_cr (rj_pl μ k i v) := fun a x => h a x
theorem zy_cm {μ : rj_M} {k N : Nat} (hk : k + N + 1 ≤ 440) (h : rj_cr μ) : rj_cr (rj_mna μ k N) := fun a i => by
  show (if a = k then (fun i => if i < N then k + 1 + i + 1 else 0) else if k < a ∧ a ≤ k + N then fun _ => 0 else μ.2.2.2 a) i ≤ 440
  by_cases e : a = k
  · rw [if_pos e]
    show (if i < N then k + 1 + i + 1 else 0) ≤ 440
    split <;> omega
  · rw [if_neg e]
    by_cases e2 : k < a ∧ a ≤ k + N
    · rw [if_pos e2]
      exact Nat.zero_le _
    · rw [if_neg e2]
      exact h a i
theorem zy_c5 {μ : rj_M} {b : Nat} (h : rj_cr μ) : rj_cr (mX5_init μ b) := by
  have p : ∀ {μ : rj_M} {k i : Nat} {v : Int32}, rj_cr μ → rj_cr (rj_pi μ k i v) := fun h => h
  have f : ∀ {μ : rj_M} {k n : Nat} {v : Int32}, n < 2 ^ 31 → rj_cr μ → rj_cr (mX11_fillRow μ k n v) := fun hn h => zy_c2 h (zy_f2 hn)
  have w : ∀ {μ s : rj_M} {b : Nat}, rj_cr s → rj_cr (rj_fo (bX4_init_37 μ b) 16 0 s) := fun h => zy_c2 h zy_w2
  have h1 : ∀ {μ : rj_M} {b : Nat}, rj_cr μ → rj_cr (mX1_init μ b) := fun h => p (p (p h))
  have h4 : ∀ {μ : rj_M} {b : Nat}, rj_cr μ → rj_cr (mX4_init μ b) := fun h => f (by decide) (w (zy_cz (zy_cz (zy_cz (zy_cz h)))))
  have h7 : ∀ {μ : rj_M} {b : Nat}, rj_cr μ → rj_cr (mX7_init μ b) := fun h => zy_cz (zy_cz (zy_cz (zy_cz (zy_cz (zy_cz (zy_cz (zy_cz h)))))))
  have h3 : ∀ {μ : rj_M} {b : Nat}, rj_cr μ → rj_cr (mX3_init μ b) := fun h => f (by decide) (zy_cz (zy_cz (zy_cz h)))
  have h0 : ∀ {μ : rj_M} {b : Nat}, rj_cr μ → rj_cr (mX0_init μ b) := fun h => f (by decide) (p (p (zy_cz (zy_cz (zy_cz (p (zy_cz h)))))))
  have h10 : ∀ {μ : rj_M} {b : Nat}, rj_cr μ → rj_cr (mX10_init μ b) := fun h => zy_cz (zy_cz (p (zy_cz h)))
  have h6 : ∀ {μ : rj_M} {b : Nat}, rj_cr μ → rj_cr (mX6_init μ b) := fun h => zy_cz (zy_cz (zy_cz (zy_cz (zy_cz (zy_cz (zy_cz (zy_cz h)))))))
  have h8 : ∀ {μ : rj_M} {b : Nat}, rj_cr μ → rj_cr (mX8_init μ b) := fun h => f (by decide) (f (by decide) (zy_cz (zy_cz (zy_cl (zy_cz (zy_cz h))))))
  exact h8 (zy_cz (h6 (zy_cz (h10 (zy_cz (h0 (zy_cz (h3 (zy_cz (h7 (zy_cz (h4 (zy_cz (h1 (zy_cz h)))))))))))))))
theorem zy_c12 {μ : rj_M} (h : rj_cr μ) : rj_cr (mX12_init μ) := by
  have e1 : (mX12_init μ).2 = (mX12_a μ).2 := by
    unfold mX12_init mX12_b
    rw [zy_F2, zy_F2, zy_F2, zy_p2, zy_p2, zy_F2, zy_G2, zy_p2, zy_p2, zy_p2]
  refine zy_c2 (μ := mX12_a μ) ?_ e1
  exact zy_cz (zy_cz (zy_cz (zy_cm (by decide) (zy_cz (zy_cz (zy_cz (zy_cm (by decide) (zy_cz h))))))))
def zy_m (μ : rj_M) : rj_M := rj_pi (rj_pi (mX9_init (rj_z (mX2_init (rj_z (rj_z (mX5_init (rj_z μ 1) 1) 44) 45)) 47)) 0 4 0) 0 5 0
theorem zy_m0 {μ : rj_M} : (∀ k, 1 ≤ k → k < 44 → (zy_m μ).1 k = (mX5_init (rj_z μ 1) 1).1 k ∧ (zy_m μ).2.1 k = (mX5_init (rj_z μ 1) 1).2.1 k) ∧ (zy_m μ).1 0 4 = 0 ∧ (zy_m μ).1 0 5 = 0 ∧ (zy_m μ).1 47 2 = 0 := by
  unfold zy_m mX9_init mX2_init
  refine ⟨fun k k1 k2 => ⟨?_, ?_⟩, ?_, ?_, ?_⟩
  · simp (disch := omega) only [zz_1n, zm_pi_ne]
  · simp (disch := omega) only [zz_2n, zy_p2]
  · rw [zm_pi_ne2 (by decide), zm_pi_eq]
  · rw [zm_pi_eq]
  · simp (disch := omega) only [zz_1n, zm_pi_ne]
    rw [zm_pi_ne2 (by decide)]
    simp (disch := omega) only [zz_1n, zm_pi_ne]
    rw [zm_pi_ne2 (by decide)]
    simp (disch := omega) only [zz_1n, zm_pi_ne]
    exact zm_pi_eq
theorem zy_mc {μ : rj_M} (h : rj_cr μ) : rj_cr (zy_m μ) := by
  have p : ∀ {μ : rj_M} {k i : Nat} {v : Int32}, rj_cr μ → rj_cr (rj_pi μ k i v) := fun h => h
  have h2 : ∀ {μ : rj_M}, rj_cr μ → rj_cr (mX2_init μ) := fun h => p (zy_cz h)
  have h9 : ∀ {μ : rj_M}, rj_cr μ → rj_cr (mX9_init μ) := fun h => p (zy_cz (p (zy_cz (zy_cz (p h)))))
  exact p (p (h9 (zy_cz (h2 (zy_cz (zy_cz (zy_c5 (zy_cz h))))))))
theorem zy_x11 {μ : rj_M} (h : rj_cr μ) : (∀ k, k < 51 → (mX11_init μ).1 k = (zy_m μ).1 k ∧ (mX11_init μ).2.1 k = (zy_m μ).2.1 k) ∧ (∀ j, j < 8 → (mX11_init μ).2.2.2 44 j = 51 + 43 * j + 1) ∧ rj_cr (mX11_init μ) := by
  have hz := zf_inv (f := bX11_init_86) (fun n t => (∀ k, k < 51 → t.1 k = (zy_m μ).1 k ∧ t.2.1 k = (zy_m μ).2.1 k) ∧ (∀ j, j < n → t.2.2.2 44 j = 51 + 43 * j + 1) ∧ rj_cr t) 8 0 (zy_m μ) ⟨fun _ _ => ⟨rfl, rfl⟩, fun j hj => absurd hj (Nat.not_lt_zero _), zy_mc h⟩ (fun j t _ hj ht => by
    obtain ⟨h1, h2, h3⟩ := ht
    have hj8 : j < 8 := by omega
    unfold bX11_init_86
    rw [nI_clamp (n := j) (by omega)]
    have ho := fun k (hk : k < 51) => zn_out (μ := rj_z t (51 + 43 * j)) (b := 51 + 43 * j) (j := k) (.inl (by omega))
    refine ⟨fun k hk => ⟨?_, ?_⟩, fun a ha => ?_, zi_cr_pq (zy_c5 (zy_cz h3)) (by omega)⟩
    · rw [zy_q1, (ho k hk).1, zz_1n (by omega)]
      exact (h1 k hk).1
    · rw [zy_q2, (ho k hk).2.1, zz_2n (by omega)]
      exact (h1 k hk).2
    · show va_up (mX5_init (rj_z t (51 + 43 * j)) (51 + 43 * j)).2.2.2 44 (va_up ((mX5_init (rj_z t (51 + 43 * j)) (51 + 43 * j)).2.2.2 44) j (51 + 43 * j + 1)) 44 a = _
      rw [va_up_self]
      by_cases e : a = j
      · subst e
        rw [va_up_self]
      · rw [va_up_ne _ _ e, (ho 44 (by decide)).2.2, zz_4n (by omega)]
        exact h2 a (by omega))
  have e : mX11_init μ = rj_fo bX11_init_86 8 0 (zy_m μ) := by
    unfold mX11_init zy_m
    rfl
  rw [e]
  exact hz
/-- the memory at the loop's beginning -/
def zy_M (μ : rj_M) : rj_M := rj_z (rj_z (mX12_init (rj_z (mX11_init μ) 395)) 438) 439
theorem zi_begin0 {μ : rj_M} (h : rj_cr μ) : zi_I 0 (zy_M μ) (zy_M μ) := by
  obtain ⟨a1, a2, a3⟩ := zy_x11 h
  obtain ⟨b1, b2, b3, b4⟩ := zy_m0 (μ := μ)
  have hk : ∀ k, k < 51 → (zy_M μ).1 k = (zy_m μ).1 k ∧ (zy_M μ).2.1 k = (zy_m μ).2.1 k ∧ (zy_M μ).2.2.2 k = (mX11_init μ).2.2.2 k := fun k hk => by
    obtain ⟨o1, o2, o3⟩ := zy_other (μ := rj_z (mX11_init μ) 395) (j := k) (by omega)
    unfold zy_M
    refine ⟨?_, ?_, ?_⟩
    · rw [zz_1n (by omega), zz_1n (by omega), o1, zz_1n (by omega)]
      exact (a1 k hk).1
    · rw [zz_2n (by omega), zz_2n (by omega), o2, zz_2n (by omega)]
      exact (a1 k hk).2
    · rw [zz_4n (by omega), zz_4n (by omega), o3, zz_4n (by omega)]
  have h395 : (zy_M μ).1 395 = fun _ => 0 := by
    unfold zy_M
    rw [zz_1n (by decide), zz_1n (by decide), (zy_other (by decide)).1, zz_1e]
  have h396 : ∀ k, (zy_M μ).1 396 k = zy_v k := fun k => by
    unfold zy_M
    rw [zz_1n (by decide), zz_1n (by decide)]
    exact zy_rowE k
  have h4 : ∀ k, k ≠ 438 → k ≠ 439 → (zy_M μ).2.2.2 k = (mX12_init (rj_z (mX11_init μ) 395)).2.2.2 k := fun k k1 k2 => by
    unfold zy_M
    rw [zz_4n k2, zz_4n k1]
  obtain ⟨p1, p2⟩ := zy_ptr (μ := rj_z (mX11_init μ) 395)
  refine ⟨(zS0, zB0), [], none, ⟨zr_mom_of (zn_mom (μ := rj_z μ 1) (b := 1)) (fun k k1 k2 => ?_), ⟨?_, Nat.zero_le _, fun j hj => ?_, 0, by decide, ?_, fun i S B hi => ?_⟩, .inl ⟨rfl, ?_⟩⟩, ⟨⟨fun k hk => ?_, fun k k1 k2 => ?_, fun k hk => ?_, fun k k1 k2 => ?_⟩, ⟨?_, Nat.zero_le _, fun j => 398 + j, fun j hj => ⟨?_, by show 398 ≤ 398 + j; omega, by show 398 + j < 406; omega⟩, fun i j hi hj (e : 398 + i = 398 + j) => by omega, fun i S B hi => ?_⟩, .inl ⟨rfl, congrFun h395 11⟩, fun x hx => ?_, zy_cz (zy_cz (zy_c12 (zy_cz a3)))⟩, zn_ok, fun t ht => absurd ht List.not_mem_nil, fun g hg => by cases hg⟩
  · obtain ⟨c1, c2, -⟩ := hk k (by omega)
    obtain ⟨d1, d2⟩ := b1 k (by omega) (by omega)
    exact ⟨c1.trans d1, c2.trans d2⟩
  · exact (congrFun (hk 0 (by decide)).1 5).trans b3
  · rw [(hk 44 (by decide)).2.2]
    exact a2 j hj
  · exact (congrFun (hk 0 (by decide)).1 4).trans b2
  · cases hi
  · exact (congrFun (hk 47 (by decide)).1 2).trans b4
  · rw [h396]
    exact (show ∀ k, k < 452 → zy_v k = nI (zS0 k) by decide +kernel) k hk
  · rw [h396]
    exact (show ∀ k, k < 500 → 452 ≤ k → zy_v k = nI (zS0 k) - 1 by decide +kernel) k k2 k1
  · rw [h396]
    exact (show ∀ k, k < 25 → zy_v (500 + k) = Int32.ofInt (zB0 k) by decide +kernel) k hk
  · rw [h396]
    exact (show ∀ k, k < 625 → 525 ≤ k → zy_v k = nI (zS0 k) - 1 by decide +kernel) k k2 k1
  · exact congrFun h395 3
  · rw [h4 397 (by decide) (by decide), p1 j hj]
  · cases hi
  · rw [h4 409 (by decide) (by decide), p2 x hx]
