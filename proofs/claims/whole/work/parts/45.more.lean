/-! PRECONDITIONS OF LOOPS, loops that need not count, cells named by rows of references -/
def rq_fo {σ : Type} (q : Nat → σ → Prop) (f : Nat → σ → σ) : Nat → Nat → σ → Prop
  | 0, _, _ => True
  | r + 1, j, s => q j s ∧ rq_fo q f r (j + 1) (f j s)
theorem rq_fo_s {σ : Type} {q : Nat → σ → Prop} {f : Nat → σ → σ} {r j : Nat} {s : σ} : rq_fo q f (r + 1) j s = (q j s ∧ rq_fo q f r (j + 1) (f j s)) := rfl
def rq_ix {σ ρ : Type} (q : Nat → σ → Prop) (f : Nat → σ → σ ⊕ ρ) : Nat → Nat → σ → Prop
  | 0, _, _ => True
  | r + 1, j, s => q j s ∧ Sum.elim (fun z => rq_ix q f r (j + 1) z) (fun _ => True) (f j s)
theorem rq_ix_s {σ ρ : Type} {q : Nat → σ → Prop} {f : Nat → σ → σ ⊕ ρ} {r j : Nat} {s : σ} : rq_ix q f (r + 1) j s = (q j s ∧ Sum.elim (fun z => rq_ix q f r (j + 1) z) (fun _ => True) (f j s)) := rfl
def rq_mx {σ ρ : Type} (q : Nat → σ → Prop) (f : Nat → σ → (σ ⊕ σ) ⊕ ρ) : Nat → Nat → σ → Prop
  | 0, _, _ => True
  | r + 1, j, s => q j s ∧ Sum.elim (fun w => Sum.elim (fun z => rq_mx q f r (j + 1) z) (fun _ => True) w) (fun _ => True) (f j s)
theorem rq_mx_s {σ ρ : Type} {q : Nat → σ → Prop} {f : Nat → σ → (σ ⊕ σ) ⊕ ρ} {r j : Nat} {s : σ} : rq_mx q f (r + 1) j s = (q j s ∧ Sum.elim (fun w => Sum.elim (fun z => rq_mx q f r (j + 1) z) (fun _ => True) w) (fun _ => True) (f j s)) := rfl
def rq_do {σ : Type} (q : Nat → σ → Prop) (f : Nat → σ → σ) : Nat → σ → Prop
  | 0, _ => True
  | r + 1, s => q r s ∧ rq_do q f r (f r s)
theorem rq_do_s {σ : Type} {q : Nat → σ → Prop} {f : Nat → σ → σ} {r : Nat} {s : σ} : rq_do q f (r + 1) s = (q r s ∧ rq_do q f r (f r s)) := rfl
/-- a loop up to n rounds: where it left -/
def rj_we {σ : Type} (f : σ → σ ⊕ σ) : Nat → σ → σ
  | 0, s => s
  | n + 1, s => Sum.elim (fun z => rj_we f n z) id (f s)
theorem rj_we_l {σ : Type} {f : σ → σ ⊕ σ} {r : Nat} {s z : σ} (e : f s = .inl z) : rj_we f (r + 1) s = rj_we f r z := by
  simp [rj_we, e]
theorem rj_we_r {σ : Type} {f : σ → σ ⊕ σ} {r : Nat} {s z : σ} (e : f s = .inr z) : rj_we f (r + 1) s = z := by
  simp [rj_we, e]
def rq_we {σ : Type} (q : σ → Prop) (f : σ → σ ⊕ σ) : Nat → σ → Prop
  | 0, _ => False
  | n + 1, s => q s ∧ Sum.elim (fun z => rq_we q f n z) (fun _ => True) (f s)
theorem rq_we_s {σ : Type} {q : σ → Prop} {f : σ → σ ⊕ σ} {r : Nat} {s : σ} : rq_we q f (r + 1) s = (q s ∧ Sum.elim (fun z => rq_we q f r z) (fun _ => True) (f s)) := rfl
def rq_bx : Option String → Prop → Prop
  | none, k => k
  | some _, _ => True
/-- a row's cell, read out of a row of rows -/
def rj_row (μ : rj_M) (k n lo hi : Nat) (i : Int32) : Prop := vp_in i n ∧ lo < μ.2.2.2 k i.toNatClampNeg ∧ μ.2.2.2 k i.toNatClampNeg ≤ hi
theorem rj_rowlt {ω : rj_W} {μ : rj_M} {k n lo hi : Nat} {i : Int32} (h : rj_ok ω) (hr : rj_row μ k n lo hi i) (hh : Nat.ble hi 440 = true) : μ.2.2.2 k i.toNatClampNeg - 1 < ω.1 := by
  have h1 := hr.2.1
  have h2 := hr.2.2
  have h3 := h.1
  have h4 := Nat.le_of_ble_eq_true hh
  omega
theorem rj_rowsh409 {ω : rj_W} {μ : rj_M} {n : Nat} {i : Int32} (h : rj_ok ω) (hr : rj_row μ 409 n 410 435 i) : ω.2.1 (μ.2.2.2 409 i.toNatClampNeg - 1) = .inl (0, 16) := by
  have h1 := hr.2.1
  have h2 := hr.2.2
  have h3 := ly_costs (μ.2.2.2 409 i.toNatClampNeg - 1 - 410) (by omega)
  rw [h.2, show μ.2.2.2 409 i.toNatClampNeg - 1 = 410 + (μ.2.2.2 409 i.toNatClampNeg - 1 - 410) by omega]
  exact h3
theorem rj_rowsh397 {ω : rj_W} {μ : rj_M} {n : Nat} {i : Int32} (h : rj_ok ω) (hr : rj_row μ 397 n 398 406 i) : ω.2.1 (μ.2.2.2 397 i.toNatClampNeg - 1) = .inl (0, 625) := by
  have h1 := hr.2.1
  have h2 := hr.2.2
  have h3 := ly_ahead (μ.2.2.2 397 i.toNatClampNeg - 1 - 398) (by omega)
  rw [h.2, show μ.2.2.2 397 i.toNatClampNeg - 1 = 398 + (μ.2.2.2 397 i.toNatClampNeg - 1 - 398) by omega]
  exact h3
/-- a Moment's cells, from a base on -/
def rj_base (ω : rj_W) (b : Nat) : Prop := ∀ o, o < 43 → b + o < ω.1 ∧ ω.2.1 (b + o) = rj_lm b o
theorem rj_base.lt {ω : rj_W} {b o : Nat} (h : rj_base ω b) (ho : Nat.ble (o + 1) 43 = true) : b + o < ω.1 := (h o (Nat.le_of_ble_eq_true ho)).1
theorem rj_base.sh {ω : rj_W} {b o : Nat} {s : rj_Sh} (h : rj_base ω b) (ho : Nat.ble (o + 1) 43 = true) (e : rj_lm b o = s) : ω.2.1 (b + o) = s := (h o (Nat.le_of_ble_eq_true ho)).2.trans e
theorem rj_base1 {ω : rj_W} (h : rj_ok ω) : rj_base ω 1 := by
  intro o ho
  have h1 := h.1
  refine ⟨by omega, ?_⟩
  rw [h.2]
  unfold rj_lay
  rw [if_neg (by omega), if_pos (by omega)]
  congr 1
  omega
theorem rj_baseQ {ω : rj_W} (h : rj_ok ω) {j : Nat} (hj : j < 8) : rj_base ω (51 + 43 * j) := by
  intro o ho
  have h1 := h.1
  refine ⟨by omega, ?_⟩
  rw [h.2]
  exact ly_past j hj o ho
def rj_prow (μ : rj_M) (i : Int32) : Prop := vp_in i 8 ∧ ∃ j : Nat, j < 8 ∧ μ.2.2.2 44 i.toNatClampNeg = 51 + 43 * j + 1
theorem rj_baseP {ω : rj_W} {μ : rj_M} {i : Int32} (h : rj_ok ω) (hr : rj_prow μ i) : rj_base ω (μ.2.2.2 44 i.toNatClampNeg - 1) := by
  obtain ⟨-, j, hj, e⟩ := hr
  rw [e]
  exact rj_baseQ h hj
theorem rj_placein {μ : rj_M} {a c : Int32} {n : Nat} (h : fX11_needPlace μ a c = none) (hc : c.toInt = n) : vp_in a n := by
  unfold fX11_needPlace at h
  by_cases h1 : a < 0
  · rw [if_pos h1] at h; cases h
  · rw [if_neg h1] at h
    by_cases h2 : a < c
    · exact rj_in h1 (Int32.not_le.mpr h2) hc
    · rw [if_neg h2] at h; cases h
theorem rj_actin {μ : rj_M} {a : Int32} (h : fX11_needAct μ a = none) : vp_in a 16 := by
  unfold fX11_needAct at h
  by_cases h1 : (fX7_has μ a) = 0
  · rw [if_pos h1] at h; cases h
  · exact rj_hasin h1
theorem rj_vle {a : Int32} {n N : Nat} (h : vp_in a n) (hN : Nat.ble n N = true) : vp_in a N := by
  rw [vp_in_iff] at h ⊢
  have := Nat.le_of_ble_eq_true hN
  omega
theorem rj_vadd {a b : Int32} {n m N : Nat} (ha : vp_in a n) (hb : vp_in b m) (hN : Nat.beq (n + m) (N + 1) = true) (hl : Nat.ble (n + m) 1000000 = true) : vp_in (a + b) N := by
  have e := Nat.eq_of_beq_eq_true hN
  have hl := Nat.le_of_ble_eq_true hl
  obtain ⟨i, hi, rfl⟩ := vp_in_of ha (by omega)
  obtain ⟨j, hj, rfl⟩ := vp_in_of hb (by omega)
  rw [nI_add]
  exact vp_in_nI (by omega) (by omega)
theorem rj_vmul {a c : Int32} {k n N : Nat} (ha : vp_in a n) (hN : Nat.beq (k * (n - 1) + 1) N = true) (hc : c = nI k) (hl : Nat.ble (k * n + n) 1000000 = true := by rfl) : vp_in (c * a) N := by
  subst hc
  have e := Nat.eq_of_beq_eq_true hN
  have hl := Nat.le_of_ble_eq_true hl
  obtain ⟨i, hi, rfl⟩ := vp_in_of ha (by omega)
  have h1 : k * i ≤ k * (n - 1) := Nat.mul_le_mul_left k (by omega)
  have h2 : k * (n - 1) ≤ k * n := Nat.mul_le_mul_left k (by omega)
  rw [Int32.mul_comm, show (nI i * nI k : Int32) = nI (i * k) from pk_mul i k, Nat.mul_comm]
  exact vp_in_nI (by omega) (by omega)
theorem rj_vmulr {a c : Int32} {k n N : Nat} (ha : vp_in a n) (hN : Nat.beq (k * (n - 1) + 1) N = true) (hc : c = nI k) (hl : Nat.ble (k * n + n) 1000000 = true := by rfl) : vp_in (a * c) N := by
  rw [Int32.mul_comm]
  exact rj_vmul ha hN hc hl
section rjMore
variable {g : rj_G} {own : String} {cc : ByteArray} {nL : Nat} {ret : Option FieldType} {ws : List Cond} {hh : List (Nat × Nat × Nat × Nat)} {rm : Room} {F : rj_F} {u : Nat} {ω : rj_W} {μ : rj_M} {l : List (Nat × Value)} {pc q : Nat} {st : List Value}
theorem rj_qaldP {k : Nat} {i : Int32} (hd : decode cc pc = .ok (.aaload, 1)) (hq : pc + 1 = q) (hk : k < ω.1) (hs : ω.2.1 k = .inl (5, 8)) (h44 : k = 44) (hr : rj_prow μ i) (kk : rj_R g own cc nL ret ws hh rm F u ω μ l q (.ref (ω.2.2 (μ.2.2.2 44 i.toNatClampNeg - 1)) :: st)) : rj_R g own cc nL ret ws hh rm F u ω μ l pc (.int i :: .ref (ω.2.2 k) :: st) := by
  subst h44
  refine rj_qald hd hq hk hs hr.1 ?_
  obtain ⟨-, j, -, e⟩ := hr
  rw [e] at kk ⊢
  exact kk
/-- out of a row of rows of ints -/
theorem rj_qaldR {k n lo hi : Nat} {i : Int32} (hd : decode cc pc = .ok (.aaload, 1)) (hq : pc + 1 = q) (hk : k < ω.1) (hs : ω.2.1 k = .inl (4, n)) (hr : rj_row μ k n lo hi i) (kk : rj_R g own cc nL ret ws hh rm F u ω μ l q (.ref (ω.2.2 (μ.2.2.2 k i.toNatClampNeg - 1)) :: st)) : rj_R g own cc nL ret ws hh rm F u ω μ l pc (.int i :: .ref (ω.2.2 k) :: st) := by
  subst hq
  obtain ⟨hin, h1, -⟩ := hr
  obtain ⟨r, e⟩ : ∃ r, μ.2.2.2 k i.toNatClampNeg = r + 1 := ⟨μ.2.2.2 k i.toNatClampNeg - 1, by omega⟩
  rw [e] at kk
  have hlt : i.toNatClampNeg < n := Nat.not_le.mp fun q => hin (Or.inr q)
  intro p e0 s m args below meth c H locs A ls C S h
  exact W.aald (v := .ref (ω.2.2 r)) (ty := .array .int) C.1 C.2.1 (S.1.1 k _ (rj_at hk hs)) ((S.1.2.1.2 4 _ rfl).1 n (fun j => va_rf (rj_rf ω.2.2 (μ.2.2.2 k j)))) rfl (fun q => by cases q) (by show ¬ (i < 0 ∨ (arrV _ _ _).slots.size ≤ _); rw [arrV_size]; exact hin) (by show (arrV (g.2.2 4) n (fun j => va_rf (rj_rf ω.2.2 (μ.2.2.2 k j)))).slots[i.toNatClampNeg]? = _; rw [arrV_read _ _ hlt]; show some (va_rf (rj_rf ω.2.2 (μ.2.2.2 k i.toNatClampNeg))) = _; rw [e]; rfl) rfl rfl hd (kk p e0 s m args below meth c H locs A ls C S h)
/-- a row of ints into a row of rows -/
theorem rj_qastR {k n r m : Nat} {i : Int32} (hd : decode cc pc = .ok (.aastore, 1)) (hq : pc + 1 = q) (hk : k < ω.1) (hs : ω.2.1 k = .inl (4, n)) (hi : vp_in i n) (hkr : r < ω.1) (hsr : ω.2.1 r = .inl (0, m)) (kk : rj_R g own cc nL ret ws hh rm F u ω (rj_pq μ k i.toNatClampNeg (r + 1)) l q st) : rj_R g own cc nL ret ws hh rm F u ω μ l pc (.ref (ω.2.2 r) :: .int i :: .ref (ω.2.2 k) :: st) := by
  subst hq
  intro p e0 s mm args below meth c H locs A ls C S h
  have hlt : i.toNatClampNeg < n := Nat.not_le.mp fun q => hi (Or.inr q)
  have h0 : ¬ i < 0 := fun q => hi (Or.inl q)
  have ha := rj_at (g := g) (μ := μ) hk hs
  have g1 := S.1.1 r _ (rj_at hkr hsr)
  obtain ⟨comp, cA, kA, f1, -, f3, f4, f5⟩ := S.2.2.2.2.2.2.2.2.2.2.spec
  have e0' : s.vm.findClass (FieldType.array .int).toString = some (g.2.2 0) := (S.1.2.1.2 0 _ rfl).2
  have e4 : s.vm.findClass ("[" ++ (FieldType.array .int).toString) = some (g.2.2 4) := (S.1.2.1.2 4 _ rfl).2
  have c0 : g.2.2 0 = comp := Option.some.inj (e0'.symm.trans f1)
  have c4 : g.2.2 4 = cA := Option.some.inj (e4.symm.trans f5)
  subst c0
  subst c4
  obtain ⟨-, kv, q1, comp2, q2⟩ := (S.1.2.1.2 0 _ rfl).1 0 (fun _ => .int 0)
  have hf : (va_up (fun j => rj_rf ω.2.2 (μ.2.2.2 k j)) i.toNatClampNeg (some (ω.2.2 r))) = fun j => rj_rf ω.2.2 (va_up (μ.2.2.2 k) i.toNatClampNeg (r + 1) j) := by
    funext j
    by_cases hj : j = i.toNatClampNeg
    · subst hj
      simp [va_up, rj_rf]
    · simp [va_up, hj]
  have he : (Sum.inl (g.2.2 4, n, .inr (.inr (.inr (.inr (va_up (fun j => rj_rf ω.2.2 (μ.2.2.2 k j)) i.toNatClampNeg (some (ω.2.2 r))))))) : va_E) = rj_en g ω.2.2 (rj_pq μ k i.toNatClampNeg (r + 1)) k (ω.2.1 k) := by
    rw [hf, hs]
    simp [rj_en, rj_av, rj_pq, va_up_self]
  refine W.aast C.1 C.2.1 (S.1.1 k _ ha) (fun q h => by cases h) (fun h => by cases h) f3 f4 rfl q1 ⟨h0, by show _ < (arrV _ _ _).slots.size; rw [arrV_size]; exact hlt⟩ g1 (fun q h => by cases h) q1 (by show s.vm.assignable (g.2.2 0) (g.2.2 0) = true; unfold Vm.assignable Vm.assignableAux; simp) rfl rfl hd fun H1 e z oq => ?_
  have hP := S.1.1.set (e := .inl (g.2.2 4, n, .inr (.inr (.inr (.inr (va_up (fun j => rj_rf ω.2.2 (μ.2.2.2 k j)) i.toNatClampNeg (some (ω.2.2 r)))))))) S.1.2.2 ha ?_ oq
  · have hD := S.1.2.2.set (e := .inl (g.2.2 4, n, .inr (.inr (.inr (.inr (va_up (fun j => rj_rf ω.2.2 (μ.2.2.2 k j)) i.toNatClampNeg (some (ω.2.2 r)))))))) ha
    rw [rj_set (μ' := rj_pq μ k i.toNatClampNeg (r + 1)) hk he rj_pq_ne] at hP hD
    exact kk p e0 s mm args below meth c H1 _ A ls C ⟨⟨hP, S.1.2.1, hD⟩, S.2.1.put z oq (S.1.2.2.2 k _ ha), S.2.2⟩ h
  · show H1[ω.2.2 k]? = some (vp_cell _ _)
    rw [e]
    show some ((arrV (g.2.2 4) n (fun j => va_rf (rj_rf ω.2.2 (μ.2.2.2 k j)))).setSlot i.toNatClampNeg (.ref (ω.2.2 r))) = _
    rw [vp_cell_q, arrV_store]
    congr 2
    funext j
    by_cases hj : j = i.toNatClampNeg
    · subst hj
      simp [updV, va_up, va_rf]
    · simp [updV, va_up, hj]
end rjMore
section rjMore2
variable {g : rj_G} {own : String} {cc : ByteArray} {nL : Nat} {ret : Option FieldType} {ws : List Cond} {hh : List (Nat × Nat × Nat × Nat)} {rm : Room} {F : rj_F} {u : Nat} {ω : rj_W} {μ : rj_M} {l : List (Nat × Value)} {pc q : Nat} {st : List Value}
theorem rj_ldc2d {i : Nat} {v : UInt64} (hd : decode cc pc = .ok (.ldc2_w i, 3)) (hq : pc + 3 = q) (hc : Cond.constantDouble own i v ∈ ws) (k : rj_R g own cc nL ret ws hh rm F u ω μ l q (.double v :: st)) : rj_R g own cc nL ret ws hh rm F u ω μ l pc st := by
  subst hq
  exact fun p e s m args below meth c H locs A ls C S h => lv_ldc2d C.1 C.2.1 C.2.2.2.2.1 (C.2.2.2.2.2.1 _ hc) hd (k p e s m args below meth c H locs A ls C S h)
theorem rj_fconst0 (hd : decode cc pc = .ok (.fconst 0, 1)) (hq : pc + 1 = q) (k : rj_R g own cc nL ret ws hh rm F u ω μ l q (.float FP.fconst0 :: st)) : rj_R g own cc nL ret ws hh rm F u ω μ l pc st := by
  subst hq
  exact fun p e s m args below meth c H locs A ls C S h => lv_fconst0 C.1 C.2.1 hd (k p e s m args below meth c H locs A ls C S h)
theorem rj_dconst0 (hd : decode cc pc = .ok (.dconst 0, 1)) (hq : pc + 1 = q) (k : rj_R g own cc nL ret ws hh rm F u ω μ l q (.double FP.dconst0 :: st)) : rj_R g own cc nL ret ws hh rm F u ω μ l pc st := by
  subst hq
  exact fun p e s m args below meth c H locs A ls C S h => lv_dconst0 C.1 C.2.1 hd (k p e s m args below meth c H locs A ls C S h)
/-- two ways that meet -/
theorem rj_join {c : Prop} [Decidable c] {a b : Int32} {J : Nat} {st2 : List Value} (hb : (c → rj_R g own cc nL ret ws hh rm F u ω μ l J (.int a :: st2)) → (¬ c → rj_R g own cc nL ret ws hh rm F u ω μ l J (.int b :: st2)) → rj_R g own cc nL ret ws hh rm F u ω μ l pc st) (k : rj_R g own cc nL ret ws hh rm F u ω μ l J (.int (if c then a else b) :: st2)) : rj_R g own cc nL ret ws hh rm F u ω μ l pc st :=
  hb (fun h => by rw [if_pos h] at k; exact k) (fun h => by rw [if_neg h] at k; exact k)
end rjMore2
