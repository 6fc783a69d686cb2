/-! ONE MEMORY for both: what the one writes, the other doesn't read -/
section zsh
variable {m m' c' m1 m2 : rj_M} {s : zi_St} {L : List zi_St} {G : Option (Nat → Nat)} {n : Nat}
/-- the class's half is the same -/
def zi_hc (m m' : rj_M) : Prop := (∀ k, k < 395 → m'.1 k = m.1 k ∧ m'.2.1 k = m.2.1 k) ∧ m'.2.2.2 44 = m.2.2.2 44
/-- the reference's half is the same -/
def zi_hr (m m' : rj_M) : Prop := (∀ k, 395 ≤ k → m'.1 k = m.1 k) ∧ m'.2.2.2 = m.2.2.2
theorem zi_hc_fr (e : zi_fr m m') : zi_hc m m' := ⟨fun k hk => ⟨e.1 k hk, (e.2.1 k (by omega)).1⟩, e.2.2 44 (by decide) (by decide)⟩
theorem zi_hr_fc (e : zi_fc m m') : zi_hr m m' := ⟨fun k hk => (e.1 k hk).1, by rw [e.2]⟩
theorem zi_hc_pl {v : Int64} {i k : Nat} (h : 395 ≤ k) : zi_hc m (rj_pl m k i v) := ⟨fun j hj => ⟨rfl, zm_pl_ne (by omega)⟩, rfl⟩
theorem zi_hr_pl {v : Int64} {i k : Nat} : zi_hr m (rj_pl m k i v) := ⟨fun _ _ => rfl, rfl⟩
theorem zi_hc_rfl : zi_hc m m := ⟨fun _ _ => ⟨rfl, rfl⟩, rfl⟩
theorem zi_hr_rfl : zi_hr m m := ⟨fun _ _ => rfl, rfl⟩
theorem zi_hc_trans (h : zi_hc m m1) (h' : zi_hc m1 m2) : zi_hc m m2 := ⟨fun k hk => ⟨(h'.1 k hk).1.trans (h.1 k hk).1, (h'.1 k hk).2.trans (h.1 k hk).2⟩, h'.2.trans h.2⟩
theorem zi_hr_trans (h : zi_hr m m1) (h' : zi_hr m1 m2) : zi_hr m m2 := ⟨fun k hk => (h'.1 k hk).trans (h.1 k hk), h'.2.trans h.2⟩
theorem zi_c_h (h : zi_c m s L G) (e : zi_hc m m') : zi_c m' s L G := by
  obtain ⟨h1, h2, h3⟩ := h
  refine ⟨zr_mom_of h1 (fun k k1 k2 => e.1 k (by omega)), zu_c_of h2 (congrFun (e.1 0 (by decide)).1 4) (congrFun (e.1 0 (by decide)).1 5) e.2 (fun k k1 k2 => e.1 k k2), ?_⟩
  rcases h3 with ⟨g1, g2⟩ | ⟨g, g1, g2, g3⟩
  · exact .inl ⟨g1, (congrFun (e.1 47 (by decide)).1 2).trans g2⟩
  · refine .inr ⟨g, g1, (congrFun (e.1 47 (by decide)).1 2).trans g2, fun k hk => ?_⟩
    rw [(e.1 48 (by decide)).1]
    exact g3 k hk
theorem zi_r_h (h : zi_r m s L G) (e : zi_hr m m') : zi_r m' s L G := by
  obtain ⟨h1, h2, h3, h4, h5⟩ := h
  refine ⟨by rw [e.1 396 (by decide)]; exact h1, zu_q_of h2 (congrFun (e.1 395 (by decide)) 3) (by rw [e.2]) (fun k k1 k2 => e.1 k (by omega)), ?_, fun k hk => by rw [e.2]; exact h4 k hk, fun k i => by rw [e.2]; exact h5 k i⟩
  rcases h3 with ⟨g1, g2⟩ | ⟨g, g1, g2, g3⟩
  · exact .inl ⟨g1, (congrFun (e.1 395 (by decide)) 11).trans g2⟩
  · refine .inr ⟨g, g1, (congrFun (e.1 395 (by decide)) 11).trans g2, fun k hk => ?_⟩
    rw [e.1 435 (by decide)]
    exact g3 k hk
theorem zi_I_h {c r : rj_M} (h : zi_I n c r) (e : zi_hc c m) (e' : zi_hr r m') : zi_I n m m' := by
  obtain ⟨s, L, G, h1, h2, h3⟩ := h
  exact ⟨s, L, G, zi_c_h h1 e, zi_r_h h2 e', h3⟩
/-- a step of the law: the class's call, what it answers noted outside of both halves, the reference's call -/
theorem zi_step {F M : rj_M → rj_M} (op : ∀ c r, zi_I n c r → zi_op n c (F c) r (M r)) (h : zi_I n m m) (e1 : zi_hc (F m) m1) (e2 : zi_hr (F m) m1) : zi_I n m m1 ∧ zi_I (n + 1) (M m1) (M m1) ∧ zi_fr m1 (M m1) := by
  obtain ⟨-, a2, -⟩ := op m m h
  have h1 : zi_I n m m1 := zi_I_h h zi_hc_rfl (zi_hr_trans (zi_hr_fc a2) e2)
  obtain ⟨b1, -, b3⟩ := op m m1 h1
  exact ⟨h1, zi_I_h b1 (zi_hc_trans e1 (zi_hc_fr b3)) zi_hr_rfl, b3⟩
end zsh
