/-! THE WORLD OF THE SYSTEM, BY NUMBERS: cell k lies at the address ω.2.2 k and has the shape ω.2.1 k; what it holds stands in the memory μ (ints by cell and place; longs; doubles; numbers of cells, 0 for null, n + 1 for the cell n). -/
abbrev rj_G : Type := Launch × va_G × (Nat → ClassId)
abbrev rj_M : Type := (Nat → Nat → Int32) × (Nat → Nat → Int64) × (Nat → Nat → UInt64) × (Nat → Nat → Nat)
abbrev rj_Sh : Type := (Nat × Nat) ⊕ (Nat × List (Option (Option Nat)))
abbrev rj_W : Type := Nat × (Nat → rj_Sh) × (Nat → Nat)
def rj_rf (ad : Nat → Nat) : Nat → Option Nat
  | 0 => none
  | n + 1 => some (ad n)
def rj_v (ad : Nat → Nat) (μ : rj_M) (k j : Nat) : Option (Option Nat) → Value
  | none => .int (μ.1 k j)
  | some none => .long (μ.2.1 k j)
  | some (some r) => va_rf (rj_rf ad r)
def rj_fv (ad : Nat → Nat) (μ : rj_M) (k : Nat) : Nat → List (Option (Option Nat)) → List Value
  | _, [] => []
  | j, t :: r => rj_v ad μ k j t :: rj_fv ad μ k (j + 1) r
def rj_av (ad : Nat → Nat) (μ : rj_M) (k n : Nat) : Nat → vp_A
  | 0 => (n, .inl (μ.1 k))
  | 1 => (n, .inl (μ.1 k))
  | 2 => (n, .inr (.inl (μ.2.1 k)))
  | 3 => (n, .inr (.inr (.inr (.inl (μ.2.2.1 k)))))
  | _ => (n, .inr (.inr (.inr (.inr (fun i => rj_rf ad (μ.2.2.2 k i))))))
def rj_en (g : rj_G) (ad : Nat → Nat) (μ : rj_M) (k : Nat) : rj_Sh → va_E
  | .inl q => .inl (g.2.2 q.1, rj_av ad μ k q.2 q.1)
  | .inr q => .inr (q.1, rj_fv ad μ k 0 q.2)
def rj_ws (g : rj_G) (ω : rj_W) (μ : rj_M) : va_W := (List.range ω.1).map fun k => (ω.2.2 k, rj_en g ω.2.2 μ k (ω.2.1 k))
def rj_ty (g : rj_G) : List (ClassId × FieldType) := [(g.2.2 0, .int), (g.2.2 1, .boolean), (g.2.2 2, .long), (g.2.2 3, .double), (g.2.2 4, .array .int), (g.2.2 5, .object RX5)]
/-- two memories hold the same in the cell k -/
def rj_sm (μ μ' : rj_M) (k : Nat) : Prop := μ.1 k = μ'.1 k ∧ μ.2.1 k = μ'.2.1 k ∧ μ.2.2.1 k = μ'.2.2.1 k ∧ μ.2.2.2 k = μ'.2.2.2 k
theorem rj_at {g : rj_G} {ω : rj_W} {μ : rj_M} {k : Nat} {sh : rj_Sh} (hk : k < ω.1) (hs : ω.2.1 k = sh) : (rj_ws g ω μ)[k]? = some (ω.2.2 k, rj_en g ω.2.2 μ k sh) := by
  subst hs
  simp [rj_ws, List.getElem?_range hk]
theorem rj_fv_get (ad : Nat → Nat) (μ : rj_M) (k : Nat) : ∀ (fs : List (Option (Option Nat))) (j i : Nat), (rj_fv ad μ k j fs)[i]? = (fs[i]?).map (rj_v ad μ k (j + i))
  | [], j, i => by simp [rj_fv]
  | t :: r, j, 0 => by simp [rj_fv]
  | t :: r, j, i + 1 => by
    simp only [rj_fv, List.getElem?_cons_succ]
    rw [rj_fv_get ad μ k r (j + 1) i, show j + 1 + i = j + (i + 1) by omega]
theorem rj_v_congr {ad : Nat → Nat} {μ μ' : rj_M} {k : Nat} (h1 : μ.1 k = μ'.1 k) (h2 : μ.2.1 k = μ'.2.1 k) (j : Nat) (t : Option (Option Nat)) : rj_v ad μ k j t = rj_v ad μ' k j t := by
  rcases t with _ | _ | r <;> simp [rj_v, h1, h2]
theorem rj_fv_congr {ad : Nat → Nat} {μ μ' : rj_M} {k : Nat} (h1 : μ.1 k = μ'.1 k) (h2 : μ.2.1 k = μ'.2.1 k) (j : Nat) (fs : List (Option (Option Nat))) : rj_fv ad μ k j fs = rj_fv ad μ' k j fs := by
  apply List.ext_getElem?
  intro i
  rw [rj_fv_get, rj_fv_get]
  congr 1
  funext t
  exact rj_v_congr h1 h2 _ t
theorem rj_en_congr {g : rj_G} {ad : Nat → Nat} {μ μ' : rj_M} {k : Nat} (h : rj_sm μ μ' k) (sh : rj_Sh) : rj_en g ad μ k sh = rj_en g ad μ' k sh := by
  obtain ⟨h1, h2, h3, h4⟩ := h
  rcases sh with ⟨kd, n⟩ | ⟨ci, fs⟩
  · simp only [rj_en]
    rcases kd with _ | _ | _ | _ | kd <;> simp [rj_av, h1, h2, h3, h4]
  · simp only [rj_en]
    rw [rj_fv_congr h1 h2]
theorem rj_set {g : rj_G} {ω : rj_W} {μ μ' : rj_M} {k : Nat} {e : va_E} (hk : k < ω.1) (he : e = rj_en g ω.2.2 μ' k (ω.2.1 k)) (ho : ∀ j, j ≠ k → rj_sm μ μ' j) : (rj_ws g ω μ).set k (ω.2.2 k, e) = rj_ws g ω μ' := by
  subst he
  apply List.ext_getElem?
  intro j
  by_cases hj : j = k
  · subst hj
    rw [List.getElem?_set_self (by simp [rj_ws, hk]), rj_at hk rfl]
  · rw [List.getElem?_set_ne (Ne.symm hj)]
    by_cases hl : j < ω.1
    · rw [rj_at hl rfl, rj_at hl rfl, rj_en_congr (ho j hj)]
    · simp [rj_ws, hl]
/-- stores: an int, a long, a double, a cell's number; a row of ints, of longs -/
def rj_pi (μ : rj_M) (k i : Nat) (v : Int32) : rj_M := (va_up μ.1 k (upd (μ.1 k) i v), μ.2)
def rj_pl (μ : rj_M) (k i : Nat) (v : Int64) : rj_M := (μ.1, va_up μ.2.1 k (vp_updL (μ.2.1 k) i v), μ.2.2)
def rj_pd (μ : rj_M) (k i : Nat) (v : UInt64) : rj_M := (μ.1, μ.2.1, va_up μ.2.2.1 k (vf_upd (μ.2.2.1 k) i v), μ.2.2.2)
def rj_pq (μ : rj_M) (k i : Nat) (v : Nat) : rj_M := (μ.1, μ.2.1, μ.2.2.1, va_up μ.2.2.2 k (va_up (μ.2.2.2 k) i v))
def rj_ri (μ : rj_M) (k : Nat) (f : Nat → Int32) : rj_M := (va_up μ.1 k f, μ.2)
def rj_rl (μ : rj_M) (k : Nat) (f : Nat → Int64) : rj_M := (μ.1, va_up μ.2.1 k f, μ.2.2)
theorem rj_pi_ne {μ : rj_M} {k i : Nat} {v : Int32} : ∀ j, j ≠ k → rj_sm μ (rj_pi μ k i v) j := fun j h => ⟨(va_up_ne _ _ h).symm, rfl, rfl, rfl⟩
theorem rj_pl_ne {μ : rj_M} {k i : Nat} {v : Int64} : ∀ j, j ≠ k → rj_sm μ (rj_pl μ k i v) j := fun j h => ⟨rfl, (va_up_ne _ _ h).symm, rfl, rfl⟩
theorem rj_pd_ne {μ : rj_M} {k i : Nat} {v : UInt64} : ∀ j, j ≠ k → rj_sm μ (rj_pd μ k i v) j := fun j h => ⟨rfl, rfl, (va_up_ne _ _ h).symm, rfl⟩
theorem rj_pq_ne {μ : rj_M} {k i : Nat} {v : Nat} : ∀ j, j ≠ k → rj_sm μ (rj_pq μ k i v) j := fun j h => ⟨rfl, rfl, rfl, (va_up_ne _ _ h).symm⟩
theorem rj_ri_ne {μ : rj_M} {k : Nat} {f : Nat → Int32} : ∀ j, j ≠ k → rj_sm μ (rj_ri μ k f) j := fun j h => ⟨(va_up_ne _ _ h).symm, rfl, rfl, rfl⟩
theorem rj_rl_ne {μ : rj_M} {k : Nat} {f : Nat → Int64} : ∀ j, j ≠ k → rj_sm μ (rj_rl μ k f) j := fun j h => ⟨rfl, (va_up_ne _ _ h).symm, rfl, rfl⟩
theorem rj_fv_pi {ad : Nat → Nat} {μ : rj_M} {k i : Nat} {v : Int32} {fs : List (Option (Option Nat))} (h : fs[i]? = some none) : (rj_fv ad μ k 0 fs).set i (.int v) = rj_fv ad (rj_pi μ k i v) k 0 fs := by
  apply List.ext_getElem?
  intro j
  have hl : i < (rj_fv ad μ k 0 fs).length := by
    have h1 := rj_fv_get ad μ k fs 0 i
    rw [h] at h1
    exact (List.getElem?_eq_some_iff.mp h1).1
  by_cases hj : j = i
  · subst hj
    rw [List.getElem?_set_self hl, rj_fv_get, h]
    simp [rj_v, rj_pi, va_up, upd]
  · rw [List.getElem?_set_ne (Ne.symm hj), rj_fv_get, rj_fv_get]
    congr 1
    funext t
    rcases t with _ | _ | r <;> simp [rj_v, rj_pi, va_up, upd, hj]
theorem rj_fv_pl {ad : Nat → Nat} {μ : rj_M} {k i : Nat} {v : Int64} {fs : List (Option (Option Nat))} (h : fs[i]? = some (some none)) : (rj_fv ad μ k 0 fs).set i (.long v) = rj_fv ad (rj_pl μ k i v) k 0 fs := by
  apply List.ext_getElem?
  intro j
  have hl : i < (rj_fv ad μ k 0 fs).length := by
    have h1 := rj_fv_get ad μ k fs 0 i
    rw [h] at h1
    exact (List.getElem?_eq_some_iff.mp h1).1
  by_cases hj : j = i
  · subst hj
    rw [List.getElem?_set_self hl, rj_fv_get, h]
    simp [rj_v, rj_pl, va_up, vp_updL]
  · rw [List.getElem?_set_ne (Ne.symm hj), rj_fv_get, rj_fv_get]
    congr 1
    funext t
    rcases t with _ | _ | r <;> simp [rj_v, rj_pl, va_up, vp_updL, hj]
/-- what the tables must say beside a method's words: links of private methods of nest mates, texts, casts, casts that fail, the two statics of Throwable -/
def rj_nw : List (String × Nat × MethodName × String) := [(RX11, 11, yX5_init, "Festivalgrounds"), (RX5, 9, yX1_init, "Festivalgrounds"), (RX4, 25, yX11_fillRow, "Festivalgrounds"), (RX5, 25, yX7_init, "Festivalgrounds"), (RX3, 21, yX11_fillRow, "Festivalgrounds"), (RX0, 34, yX11_fillRow, "Festivalgrounds"), (RX5, 46, yX10_init, "Festivalgrounds"), (RX5, 53, yX6_init, "Festivalgrounds"), (RX8, 29, yX11_fillRow, "Festivalgrounds"), (RX4, 29, yX11_copyRow, "Festivalgrounds"), (RX7, 36, yX11_copyRow, "Festivalgrounds"), (RX3, 25, yX11_copyRow, "Festivalgrounds"), (RX0, 38, yX11_copyRow, "Festivalgrounds"), (RX10, 25, yX11_copyRow, "Festivalgrounds"), (RX6, 36, yX11_copyRow, "Festivalgrounds"), (RX8, 33, yX11_copyRow, "Festivalgrounds"), (RX8, 37, yX11_copyRow_, "Festivalgrounds"), (RX3, 29, yX11_sumOf, "Festivalgrounds"), (RX10, 29, yX11_fillRow, "Festivalgrounds"), (RX6, 43, yX11_fillRow, "Festivalgrounds"), (RX2, 27, yX11_fillRow, "Festivalgrounds"), (RX2, 44, yX11_replace, "Festivalgrounds"), (RX10, 46, yX11_sumOf, "Festivalgrounds"), (RX4, 37, yX11_replace, "Festivalgrounds"), (RX7, 44, yX11_replace, "Festivalgrounds"), (RX0, 49, yX11_replace, "Festivalgrounds"), (RX9, 59, yX11_fillRow, "Festivalgrounds"), (RX9, 75, yX11_replace, "Festivalgrounds")]
def rj_tx : List (String × Nat × String) := [(RX11, 59, "there is no such date"), (RX11, 438, "there is no such number"), (RX11, 443, "both are the same"), (RX11, 441, "a number is out of range"), (RX11, 110, "there are 16 acts"), (RX11, 449, "there is no such act"), (RX11, 162, "the visitor is in a line"), (RX11, 170, "the visitor is in no line"), (RX11, 215, "no rain plan is kept"), (RX11, 456, "the visitor has a ticket for this day"), (RX11, 454, "the visitor has no ticket for this day"), (RX11, 269, "no such thing is lost"), (RX11, 272, "no change can be undone"), (RX11, 295, "from is greater than to"), (RX11, 322, "the evening has no such place"), (RX11, 342, "the line is empty"), (RX11, 369, "there is no plan of power"), (RX11, 377, "the rain meets more than 6 acts")]
def rj_ca : List (String × String) := [("java/lang/IllegalArgumentException", "java/lang/IllegalArgumentException"), ("java/lang/IndexOutOfBoundsException", "java/lang/IndexOutOfBoundsException"), ("java/lang/IllegalStateException", "java/lang/IllegalStateException"), ("java/util/NoSuchElementException", "java/util/NoSuchElementException")]
def rj_nc : List (String × String) := [("java/lang/IndexOutOfBoundsException", "java/lang/IllegalArgumentException"), ("java/lang/IllegalStateException", "java/lang/IllegalArgumentException"), ("java/util/NoSuchElementException", "java/lang/IllegalArgumentException"), ("java/lang/IllegalArgumentException", "java/lang/IndexOutOfBoundsException"), ("java/lang/IllegalStateException", "java/lang/IndexOutOfBoundsException"), ("java/util/NoSuchElementException", "java/lang/IndexOutOfBoundsException"), ("java/lang/IllegalArgumentException", "java/lang/IllegalStateException"), ("java/lang/IndexOutOfBoundsException", "java/lang/IllegalStateException"), ("java/util/NoSuchElementException", "java/lang/IllegalStateException"), ("java/lang/IllegalArgumentException", "java/util/NoSuchElementException"), ("java/lang/IndexOutOfBoundsException", "java/util/NoSuchElementException"), ("java/lang/IllegalStateException", "java/util/NoSuchElementException")]
def rj_AA (U : State) : Prop := (Cond.arrayOver (.array .int)).before #[] U = true
theorem rj_AA.spec {U : State} (h : rj_AA U) : ∃ comp c k, U.vm.findClass (FieldType.array .int).toString = some comp ∧ (U.vm.classes.findIdx? fun x => match x.kind with | .array component _ => component == comp | _ => false) = some c ∧ U.vm.classes[c]? = some k ∧ k.kind = .array comp (.array .int) ∧ U.vm.findClass ("[" ++ (FieldType.array .int).toString) = some c := by
  unfold rj_AA Cond.before at h
  simp only [Cond.holds, Cond.value, beq_iff_eq] at h
  cases hc : U.vm.findClass (FieldType.array .int).toString with
  | none => simp [hc] at h
  | some comp =>
    simp only [hc, Option.bind_some, Option.bind_eq_some_iff, Option.map_eq_some_iff] at h
    obtain ⟨c, hi, k, hk, hb⟩ := h
    obtain ⟨hlt, hp, -⟩ := Array.findIdx?_eq_some_iff_getElem.mp hi
    have hkk : U.vm.classes[c] = k := (Array.getElem?_eq_some_iff.mp hk).2
    rw [hkk] at hp
    cases hkind : k.kind with
    | array component ty =>
      rw [hkind] at hb hp
      simp at hb hp
      exact ⟨comp, c, k, rfl, hi, hk, by rw [hkind, hp, hb.1], hb.2⟩
    | _ => rw [hkind] at hb; simp at hb
theorem rj_AA.moved {u U : State} (hvm : u.vm.Alike U.vm) (h : rj_AA u) : rj_AA U := by
  obtain ⟨comp, c, k, h1, h2, h3, h4, h5⟩ := h.spec
  obtain ⟨k', hk', he⟩ := hvm.2.2 _ _ h3
  have hi : (U.vm.classes.findIdx? fun (x : Class) => match x.kind with | .array component _ => component == comp | _ => false) = some c := by
    have e1 := va_idx_bare U.vm comp
    have e2 := va_idx_bare u.vm comp
    have e3 : U.vm.bare = u.vm.bare := by first | exact hvm.bare_eq | exact hvm.bare_eq.symm
    rw [e3] at e1
    exact (e1.symm.trans e2).trans h2
  have hkind : k'.kind = .array comp (.array .int) := by rw [he]; exact h4
  have f1 : U.vm.findClass (FieldType.array .int).toString = some comp := by rw [hvm.findClass]; exact h1
  have f2 : U.vm.findClass ("[" ++ (FieldType.array .int).toString) = some c := by rw [hvm.findClass]; exact h5
  unfold rj_AA Cond.before Cond.holds
  simp only [Cond.value]
  rw [f1, Option.bind_some]
  refine (congrArg (fun o : Option Nat => (o.bind (fun c => (U.vm.classes[c]?).map fun (k : Class) => match k.kind with | .array _ ty => decide (ty = FieldType.array .int) && decide (U.vm.findClass ("[" ++ (FieldType.array .int).toString) = some c) | _ => false) == some true)) hi).trans ?_
  simp [hk', hkind, f2]
def rj_AB (U : State) : Prop := va_AO RX5 U ∧ rj_AA U
theorem rj_AB.moved {u U : State} (hvm : u.vm.Alike U.vm) (h : rj_AB u) : rj_AB U := ⟨h.1.moved hvm, h.2.moved hvm⟩
def rj_dc : List MethodName := [Bundle.initS "java/lang/RuntimeException", Bundle.initS "java/lang/Exception", Bundle.initS Bundle.tN]
def rj_N (U : State) : Prop := (∀ q ∈ rj_nw, va_Nw (.methodLinkNest q.1 q.2.1 q.2.2.1 q.2.2.2) U) ∧ (∀ q ∈ rj_tx, ∃ a : Nat, vk_R q.1 q.2.1 q.2.2 a U) ∧ (∀ q ∈ rj_ca, va_Nw (.castable q.1 q.2) U) ∧ (∀ q ∈ rj_nc, va_Nc q.1 q.2 U) ∧ (∀ x ∈ rj_dc, va_Nw (.declares x) U) ∧ rj_AB U
theorem rj_N.warm {s U : State} (hW : s.WarmedH U.vm) (h : rj_N s) : rj_N U := ⟨fun q hq => va_Nw.warmM hW (h.1 q hq), fun q hq => let ⟨a, ha⟩ := h.2.1 q hq; ⟨a, vk_R.warm hW ha⟩, fun q hq => va_Nw.warmC hW (h.2.2.1 q hq), fun q hq => va_Nc.moved hW.alike (h.2.2.2.1 q hq), fun x hx => va_Nw.warmD hW (h.2.2.2.2.1 x hx), h.2.2.2.2.2.moved hW.alike⟩
theorem rj_N.same {u U : State} (hv : U.vm = u.vm) (h : rj_N u) : rj_N U := ⟨fun q hq => va_Nw.same rfl hv.symm (h.1 q hq), fun q hq => let ⟨a, ha⟩ := h.2.1 q hq; ⟨a, vk_R.same hv ha⟩, fun q hq => va_Nw.same rfl hv.symm (h.2.2.1 q hq), fun q hq => va_Nc.moved (by rw [hv]; exact Vm.Alike.refl _) (h.2.2.2.1 q hq), fun x hx => va_Nw.same rfl hv.symm (h.2.2.2.2.1 x hx), h.2.2.2.2.2.moved (by rw [hv]; exact Vm.Alike.refl _)⟩
def rj_Z (A : Nat → Prop) (U : State) (H : Heap) : Prop := vx_Zq Bundle.tN "UNASSIGNED_STACK" Bundle.steD A U H ∧ vx_Zq Bundle.tN "SUPPRESSED_SENTINEL" Bundle.listD A U H
/-- the heap H holds the world ω with the memory μ -/
def rj_H (g : rj_G) (ω : rj_W) (μ : rj_M) (A : Nat → Prop) (s : State) (H : Heap) : Prop := va_P g.2.1 vwCl (rj_ws g ω μ) H ∧ va_K g.2.1 vwCl (rj_ty g) s ∧ va_D A (rj_ws g ω μ)
/-- a method's own facts: the machine, its code, its words -/
def rj_C (g : rj_G) (own : String) (cc : ByteArray) (nL : Nat) (ret : Option FieldType) (ws : List Cond) (hh : List (Nat × Nat × Nat × Nat)) (p : Program) (s : State) (m : MethodId) (args : Array Value) (meth : Method) (c : Code) : Prop := p.tables.exec = Jvm.exec ∧ c.code = cc ∧ meth.sig.returnType = ret ∧ c.maxLocals = nL ∧ s.vm.findClass own = some m.cls ∧ (∀ w ∈ ws, w.before args s = true) ∧ meth.locks = false ∧ g.1.stackTraces = false ∧ c.exceptionTable.toList = tableOf hh
/-- what a place in a method needs of the heap -/
def rj_S (g : rj_G) (ω : rj_W) (μ : rj_M) (A : Nat → Prop) (s : State) (H : Heap) (locs : List Loc) : Prop := rj_H g ω μ A s H ∧ va_S A s.heap H locs ∧ (∀ q : Nat, s.heap.size ≤ q → A q) ∧ rj_Z A s s.heap ∧ rj_N s
abbrev rj_F : Type := List Frame → Array Value → State → (Nat → Prop) → State → Prop
/-- THE JUDGEMENT: at pc, with the locals l and the stack st, u cells made so far, the world ω with μ: the machine comes to its end F -/
def rj_R (g : rj_G) (own : String) (cc : ByteArray) (nL : Nat) (ret : Option FieldType) (ws : List Cond) (hh : List (Nat × Nat × Nat × Nat)) (rm : Room) (F : rj_F) (u : Nat) (ω : rj_W) (μ : rj_M) (l : List (Nat × Value)) (pc : Nat) (st : List Value) : Prop :=
  ∀ (p : Program) (e : Env) (s : State) (m : MethodId) (args : Array Value) (below : List Frame) (meth : Method) (c : Code) (H : Heap) (locs : List Loc) (A : Nat → Prop) (ls : Array Slot),
    rj_C g own cc nL ret ws hh p s m args meth c → rj_S g ω μ A s H locs → lv_has ls nL l → W p g.1 e rm s m args below meth c H locs u (8 * u) (F below args s A) (F0 m pc ls st)
