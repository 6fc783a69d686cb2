/-! CONTRACTS: a method called on a world: what it answers (or throws), which world is there then -/
abbrev rj_P : Type := (Option Value ⊕ String) → rj_W → rj_M → Prop
def rj_Qc (g : rj_G) (A : Nat → Prop) (P : rj_P) : Array Value → State → Outcome → State → Prop := fun _ st oc t => (∃ (v : Option Value) (ω' : rj_W) (μ' : rj_M), oc = .returned v ∧ P (.inl v) ω' μ' ∧ rj_H g ω' μ' A t t.heap) ∧ va_F A st t
def rj_XC (g : rj_G) (A : Nat → Prop) (P : rj_P) : String → State → State → Prop := fun E st t => (∃ (ω' : rj_W) (μ' : rj_M), P (.inr E) ω' μ' ∧ rj_H g ω' μ' A st t.heap) ∧ va_F A st t
def rj_Pc (g : rj_G) (av : List Value) (ω : rj_W) (μ : rj_M) (sz : Nat) : Array Value → State → Prop := va_Pc av (fun U => U.heap.size = sz ∧ rj_H g ω μ (va_A (rj_ws g ω μ) sz) U U.heap ∧ rj_Z (va_A (rj_ws g ω μ) sz) U U.heap ∧ rj_N U)
def rj_Sp (g : rj_G) (y : MethodName) (ws : List Cond) (rm : Room) (av : List Value) (ω : rj_W) (μ : rj_M) (P : rj_P) : Prop := g.1.stackTraces = false → ∀ sz : Nat, vx_Met g.1 y ws rm (rj_Pc g av ω μ sz) (rj_Qc g (va_A (rj_ws g ω μ) sz) P) (rj_XC g (va_A (rj_ws g ω μ) sz) P) rm.cells rm.slots (va_A (rj_ws g ω μ) sz)
def rj_E (g : rj_G) (rm : Room) (P : rj_P) : rj_F := fun below args s A => vx_MQ below (rj_Qc g A P) (rj_XC g A P) args s rm.cells rm.slots A
theorem rj_H.moved {g : rj_G} {ω : rj_W} {μ : rj_M} {A : Nat → Prop} {u U : State} {H : Heap} (hvm : u.vm.Alike U.vm) (h : rj_H g ω μ A u H) : rj_H g ω μ A U H := ⟨h.1, h.2.1.moved hvm, h.2.2⟩
theorem rj_Z.moved {A : Nat → Prop} {u U : State} {H : Heap} (hvm : u.vm.Alike U.vm) (h : rj_Z A u H) : rj_Z A U H := ⟨h.1.moved hvm, h.2.moved hvm⟩
theorem rj_Z.kept {A : Nat → Prop} {U : State} {H H1 : Heap} (h : rj_Z A U H) (hq : ∀ a : Nat, a < H.size → ¬ A a → H1[a]? = H[a]?) : rj_Z A U H1 := ⟨h.1.kept hq, h.2.kept hq⟩
theorem rj_Z.narrow {A B : Nat → Prop} {U : State} {H : Heap} (h : rj_Z A U H) (hAB : ∀ q, B q → A q) : rj_Z B U H := ⟨h.1.narrow hAB, h.2.narrow hAB⟩
theorem rj_of {g : rj_G} {y : MethodName} {own : String} {cc : ByteArray} {nL : Nat} {ret : Option FieldType} {ws ws' : List Cond} {rm : Room} {av : List Value} {ω : rj_W} {μ : rj_M} {P : rj_P} (hy : plainName y.cls = true) (hown : y.cls = own) (hw : ws = Cond.code y cc nL ret :: ws') (hn : (lg_sl av).length ≤ nL) (K : rj_R g own cc nL ret ws [] rm (rj_E g rm P) 0 ω μ (lv_args 0 av) 0 []) : rj_Sp g y ws rm av ω μ P := by
  intro hl sz
  refine vx_ofW (cc := cc) (maxL := nL) (ret := ret) hy hw ?_
  intro p e s m args below meth c s₁ B hml hx hv
  obtain ⟨rfl, hsz, hH, hZ, hN⟩ := hv
  subst hsz
  have hts := atoms_spec (ws := ws) B.pre
  have hlv := lv_entry av (n := nL) hn
  rw [lg_entry_eq]
  exact K p e s m _ below meth c s.heap [] _ _ ⟨B.exec, B.bytes, B.returns, hml, by rw [← hown]; exact findClass_of_methodNamed B.named, hts, B.notSynchronized, hl, List.eq_nil_iff_forall_not_mem.mpr hx⟩ ⟨hH, va_S.rf, fun q h => Or.inr h, hZ, hN⟩ hlv
section rjCalls
variable {g : rj_G} {own : String} {cc : ByteArray} {nL : Nat} {ret : Option FieldType} {ws : List Cond} {hh : List (Nat × Nat × Nat × Nat)} {rm : Room} {F : rj_F} {P : rj_P} {u : Nat} {ω : rj_W} {μ : rj_M} {l : List (Nat × Value)} {pc q : Nat} {st : List Value}
theorem rj_iret {v : Int32} (hd : decode cc pc = .ok (.ireturn, 1)) (hr : ret = some .int) (hc : u ≤ rm.cells) (hs : 8 * u ≤ rm.slots) (k : P (.inl (some (.int v))) ω μ) : rj_R g own cc nL ret ws hh rm (rj_E g rm P) u ω μ l pc [.int v] := by
  subst hr
  exact fun p e s m args below meth c H locs A ls C S h => W.widen hc hs (vx_ret (W.iret C.1 C.2.1 C.2.2.1 (fun t ht hW => ⟨⟨_, ω, μ, rfl, k, by rw [ht]; exact S.1.moved hW.alike⟩, S.2.1.F ht⟩) S.2.1.2.2 hd C.2.2.2.2.2.2.1))
theorem rj_zret {v : Int32} (hd : decode cc pc = .ok (.ireturn, 1)) (hr : ret = some .boolean) (hn : narrow .boolean (.int v) = .int v) (hc : u ≤ rm.cells) (hs : 8 * u ≤ rm.slots) (k : P (.inl (some (.int v))) ω μ) : rj_R g own cc nL ret ws hh rm (rj_E g rm P) u ω μ l pc [.int v] := by
  subst hr
  exact fun p e s m args below meth c H locs A ls C S h => W.widen hc hs (vx_ret (W.zret C.1 C.2.1 C.2.2.1 hn (fun t ht hW => ⟨⟨_, ω, μ, rfl, k, by rw [ht]; exact S.1.moved hW.alike⟩, S.2.1.F ht⟩) S.2.1.2.2 hd C.2.2.2.2.2.2.1))
theorem rj_lret {v : Int64} (hd : decode cc pc = .ok (.lreturn, 1)) (hr : ret = some .long) (hc : u ≤ rm.cells) (hs : 8 * u ≤ rm.slots) (k : P (.inl (some (.long v))) ω μ) : rj_R g own cc nL ret ws hh rm (rj_E g rm P) u ω μ l pc [.long v] := by
  subst hr
  exact fun p e s m args below meth c H locs A ls C S h => W.widen hc hs (vx_ret (W.lret C.1 C.2.1 C.2.2.1 (fun t ht hW => ⟨⟨_, ω, μ, rfl, k, by rw [ht]; exact S.1.moved hW.alike⟩, S.2.1.F ht⟩) S.2.1.2.2 hd C.2.2.2.2.2.2.1))
theorem rj_dret {v : UInt64} (hd : decode cc pc = .ok (.dreturn, 1)) (hr : ret = some .double) (hc : u ≤ rm.cells) (hs : 8 * u ≤ rm.slots) (k : P (.inl (some (.double v))) ω μ) : rj_R g own cc nL ret ws hh rm (rj_E g rm P) u ω μ l pc [.double v] := by
  subst hr
  exact fun p e s m args below meth c H locs A ls C S h => W.widen hc hs (vx_ret (W.dret C.1 C.2.1 C.2.2.1 (fun t ht hW => ⟨⟨_, ω, μ, rfl, k, by rw [ht]; exact S.1.moved hW.alike⟩, S.2.1.F ht⟩) S.2.1.2.2 hd C.2.2.2.2.2.2.1))
theorem rj_fret {v : UInt32} (hd : decode cc pc = .ok (.freturn, 1)) (hr : ret = some .float) (hc : u ≤ rm.cells) (hs : 8 * u ≤ rm.slots) (k : P (.inl (some (.float v))) ω μ) : rj_R g own cc nL ret ws hh rm (rj_E g rm P) u ω μ l pc [.float v] := by
  subst hr
  exact fun p e s m args below meth c H locs A ls C S h => W.widen hc hs (vx_ret (W.fret C.1 C.2.1 C.2.2.1 (fun t ht hW => ⟨⟨_, ω, μ, rfl, k, by rw [ht]; exact S.1.moved hW.alike⟩, S.2.1.F ht⟩) S.2.1.2.2 hd C.2.2.2.2.2.2.1))
theorem rj_vret (hd : decode cc pc = .ok (.return_, 1)) (hr : ret = none) (hc : u ≤ rm.cells) (hs : 8 * u ≤ rm.slots) (k : P (.inl none) ω μ) : rj_R g own cc nL ret ws hh rm (rj_E g rm P) u ω μ l pc [] := by
  subst hr
  exact fun p e s m args below meth c H locs A ls C S h => W.widen hc hs (vx_ret (W.vret C.1 C.2.1 C.2.2.1 (fun t ht hW => ⟨⟨_, ω, μ, rfl, k, by rw [ht]; exact S.1.moved hW.alike⟩, S.2.1.F ht⟩) S.2.1.2.2 hd C.2.2.2.2.2.2.1))
theorem rj_blind {av : List Value} {sz : Nat} : FrameBlind (rj_Pc g av ω μ sz) := by
  intro a U gg mk h
  obtain ⟨h1, h2, h3, h4, h5⟩ := h
  exact ⟨h1, h2, h3.moved (U := U.calling gg mk a) (Vm.Alike.refl U.vm), h4.moved (U := U.calling gg mk a) (Vm.Alike.refl U.vm), h5.same (U := U.calling gg mk a) rfl⟩
theorem rj_pre {s U : State} {A : Nat → Prop} {H : Heap} {locs : List Loc} {av : List Value} (S : rj_S g ω μ A s H locs) (hU : U.heap = H) (hW : s.WarmedH U.vm) : rj_Pc g av ω μ H.size av.toArray U := by
  have hf : ∀ q, va_A (rj_ws g ω μ) H.size q → A q := by
    intro q h
    rcases h with ⟨k, e, h⟩ | h
    · exact S.1.2.2.2 k (q, e) h
    · exact S.2.2.1 q (Nat.le_trans S.2.1.1 h)
  refine ⟨rfl, by rw [hU], ?_, ?_, S.2.2.2.2.warm hW⟩
  · rw [hU]
    exact ⟨S.1.1, S.1.2.1.moved hW.alike, S.1.2.2.self⟩
  · rw [hU]
    exact ((S.2.2.2.1.moved hW.alike).kept (fun a h1 h2 => S.2.1.2.1 a h1 h2)).narrow hf
/-- behind a call: it returned, or its throw goes on to 'hx' -/
theorem rj_behind {P1 : rj_P} {rest : List Value} {mc n : Nat} {a : Array Value} {p : Program} {e : Env} {s : State} {m : MethodId} {args : Array Value} {below : List Frame} {meth : Method} {c : Code} {H : Heap} {locs : List Loc} {A : Nat → Prop} {ls : Array Slot} {st0 : List Value} {Q : State → Prop}
    (hr : vx_Run p g.1 e rm s m args below meth c H locs u (8 * u) mc n (F0 m pc ls st0) rest (rj_Qc g (va_A (rj_ws g ω μ) H.size) P1 a) (rj_XC g (va_A (rj_ws g ω μ) H.size) P1) (va_A (rj_ws g ω μ) H.size)) (hn : n = 8 * mc) (S : rj_S g ω μ A s H locs)
    (kx : ∀ (E : String) (ω' : rj_W) (μ' : rj_M) (H1 : Heap) (locs1 : List Loc) (ce : Cell) (q9 : Addr), P1 (.inr E) ω' μ' → rj_S g ω' μ' A s H1 locs1 → H1[q9]? = some ce → ce.vm = .none → s.vm.findClass E = some ce.cls → vx_W p g.1 e rm s m args below meth c H1 locs1 (u + mc) (8 * (u + mc)) Q (F0 m pc ls rest) q9)
    (kk : ∀ (v : Option Value) (ω' : rj_W) (μ' : rj_M) (H1 : Heap) (locs1 : List Loc), P1 (.inl v) ω' μ' → rj_S g ω' μ' A s H1 locs1 → W p g.1 e rm s m args below meth c H1 locs1 (u + mc) (8 * (u + mc)) Q (F0 m (pc + 3) ls (v.toList ++ rest))) : W p g.1 e rm s m args below meth c H locs u (8 * u) Q (F0 m pc ls st0) := by
  subst hn
  have e8 : 8 * u + 8 * mc = 8 * (u + mc) := by omega
  have hf : ∀ q, va_A (rj_ws g ω μ) H.size q → A q := by
    intro q h
    rcases h with ⟨k, e, h⟩ | h
    · exact S.1.2.2.2 k (q, e) h
    · exact S.2.2.1 q (Nat.le_trans S.2.1.1 h)
  intro T hT X
  rcases hr T hT X with ⟨v, st₀, t, T', L, h0, X', hL, e1, e2, ⟨⟨v', ω', μ', hv, hp, hb⟩, hF⟩, stp⟩ | ⟨q9, st₀, t, T', L, E, ce, h0, X', hL, e1, e2, ⟨⟨ω', μ', hp, hb⟩, hF⟩, hce, hcv, hcl, stp⟩
  · cases hv
    obtain ⟨k1, k2, k3⟩ := vx_keep h0 e1 S.2.1 (fun q _ z => hf q z) hf hL hF
    rw [e8] at X'
    have hS1 : rj_S g ω' μ' A s T'.heap (locs ++ L) := ⟨⟨by rw [e1]; exact hb.1, hb.2.1.moved (by rw [← e2]; exact X'.warmed.alike.symm), hb.2.2.weaken (fun _ q _ z => hf q.1 z)⟩, k3, S.2.2⟩
    obtain ⟨t2, a1, b1⟩ := kk v ω' μ' T'.heap (locs ++ L) hp hS1 T' rfl X'
    exact ⟨t2, stp t2 a1, b1⟩
  · obtain ⟨k1, k2, k3⟩ := vx_keep h0 e1 S.2.1 (fun q _ z => hf q z) hf hL hF
    rw [e8] at X'
    have hS1 : rj_S g ω' μ' A s T'.heap (locs ++ L) := ⟨⟨by rw [e1]; exact hb.1, S.1.2.1, hb.2.2.weaken (fun _ q _ z => hf q.1 z)⟩, k3, S.2.2⟩
    obtain ⟨t2, a1, b1⟩ := kx E ω' μ' T'.heap (locs ++ L) ce q9 hp hS1 (by rw [e1]; exact hce) hcv hcl T' rfl X'
    exact ⟨t2, stp.trans a1, b1⟩
/-- a static call whose callee doesn't throw -/
theorem rj_callS {y : MethodName} {bytes : ByteArray} {maxL idx n : Nat} {rt : Option FieldType} {wc wc' : List Cond} {rc : Room} {av rest : List Value} {P1 : rj_P} (hM : rj_Sp g y wc rc av ω μ P1) (hG : GoodIn ws (va_wsS own idx y wc)) (hw : wc = Cond.code y bytes maxL rt :: wc')
    (hdd : y.cls ≠ "java/lang/invoke/MethodHandle" ∧ y.cls ≠ "java/lang/invoke/VarHandle" ∧ (parseMethodDescriptor y.desc).map (fun d => d.parameters.length) = some n) (hR : rc.frames + 1 ≤ rm.frames ∧ 8 + (maxL + 11) + rc.locals ≤ rm.locals)
    (hn : av.length = n) (hst : st = av.reverse ++ rest) (hW : (rest.map fun v => v.category).sum ≤ 8) (hd : decode cc pc = .ok (.invokestatic idx, 3)) (hq : pc + 3 = q) (h8 : rc.slots = 8 * rc.cells) (hf : u + rc.cells ≤ rm.cells ∧ 8 * (u + rc.cells) ≤ rm.slots)
    (hx : ∀ (E : String) (ω' : rj_W) (μ' : rj_M), ¬ P1 (.inr E) ω' μ')
    (k : ∀ (v : Option Value) (ω' : rj_W) (μ' : rj_M), P1 (.inl v) ω' μ' → rj_R g own cc nL ret ws hh rm F (u + rc.cells) ω' μ' l q (v.toList ++ rest)) : rj_R g own cc nL ret ws hh rm F u ω μ l pc st := by
  subst hq
  subst hst
  intro p e s m args below meth c H locs A ls C S h
  refine rj_behind (vx_runS (As := av) (rest := rest) ⟨C.1, C.2.1, C.2.2.2.1, C.2.2.2.2.1, C.2.2.2.2.2.1⟩ (hM C.2.2.2.2.2.2.2.1 H.size) (va_cwS n C.2.2.2.2.2.1 hG hw rfl rfl hdd hR) ⟨rj_blind, fun U hU hWm => rj_pre S hU hWm⟩ rfl hn h.1 rfl (lv_room hW) hd ⟨hf.1, by omega⟩) h8 S (fun E ω' μ' H1 locs1 ce q9 hp _ _ _ _ => absurd hp (hx E ω' μ')) (fun v ω' μ' H1 locs1 hp hS1 => k v ω' μ' hp p e s m args below meth c H1 locs1 A ls C hS1 h)
/-- a virtual call (or of a private method of the class's own) whose callee doesn't throw -/
theorem rj_callV {y : MethodName} {bytes : ByteArray} {maxL idx n kr ci : Nat} {fs : List (Option (Option Nat))} {rt : Option FieldType} {wc wc' : List Cond} {rc : Room} {av rest : List Value} {P1 : rj_P} {vc : vw_C} (hM : rj_Sp g y wc rc (.ref (ω.2.2 kr) :: av) ω μ P1) (hk : kr < ω.1) (hs : ω.2.1 kr = .inr (ci, fs)) (hvc : vwCl[ci]? = some vc) (hG : GoodIn ws (wsV own idx vc.1 y wc)) (hw : wc = Cond.code y bytes maxL rt :: wc')
    (hdd : y.cls = vc.1 ∧ y.cls ≠ "java/lang/invoke/MethodHandle" ∧ y.cls ≠ "java/lang/invoke/VarHandle" ∧ (parseMethodDescriptor y.desc).map (fun d => d.parameters.length) = some n) (hR : rc.frames + 1 ≤ rm.frames ∧ 8 + (maxL + 11) + rc.locals ≤ rm.locals)
    (hn : av.length = n) (hst : st = av.reverse ++ .ref (ω.2.2 kr) :: rest) (hW : (rest.map fun v => v.category).sum ≤ 8) (hd : decode cc pc = .ok (.invokevirtual idx, 3)) (hq : pc + 3 = q) (h8 : rc.slots = 8 * rc.cells) (hf : u + rc.cells ≤ rm.cells ∧ 8 * (u + rc.cells) ≤ rm.slots)
    (hx : ∀ (E : String) (ω' : rj_W) (μ' : rj_M), ¬ P1 (.inr E) ω' μ')
    (k : ∀ (v : Option Value) (ω' : rj_W) (μ' : rj_M), P1 (.inl v) ω' μ' → rj_R g own cc nL ret ws hh rm F (u + rc.cells) ω' μ' l q (v.toList ++ rest)) : rj_R g own cc nL ret ws hh rm F u ω μ l pc st := by
  subst hq
  subst hst
  intro p e s m args below meth c H locs A ls C S h
  refine rj_behind (vx_runV (As := av) (rest := rest) ⟨C.1, C.2.1, C.2.2.2.1, C.2.2.2.2.1, C.2.2.2.2.2.1⟩ (hM C.2.2.2.2.2.2.2.1 H.size) (cwV n C.2.2.2.2.2.1 hG hw rfl rfl hdd hR) ⟨rj_blind, va_recv S.1.2.1 S.1.1 hvc (rj_at hk hs), fun U hU hWm => rj_pre S hU hWm⟩ rfl hn h.1 rfl (lv_room hW) hd ⟨hf.1, by omega⟩) h8 S (fun E ω' μ' H1 locs1 ce q9 hp _ _ _ _ => absurd hp (hx E ω' μ')) (fun v ω' μ' H1 locs1 hp hS1 => k v ω' μ' hp p e s m args below meth c H1 locs1 A ls C hS1 h)
/-- a static call of a nest mate's private method whose callee doesn't throw -/
theorem rj_callSN {y : MethodName} {host : String} {bytes : ByteArray} {maxL idx n : Nat} {rt : Option FieldType} {wc wc' : List Cond} {rc : Room} {av rest : List Value} {P1 : rj_P} (hM : rj_Sp g y wc rc av ω μ P1) (hG : GoodIn ws wc) (hi : Cond.initialized y.cls ∈ ws) (hs : Cond.static y ∈ ws) (hN : (own, idx, y, host) ∈ rj_nw) (hw : wc = Cond.code y bytes maxL rt :: wc')
    (hdd : y.cls ≠ "java/lang/invoke/MethodHandle" ∧ y.cls ≠ "java/lang/invoke/VarHandle" ∧ (parseMethodDescriptor y.desc).map (fun d => d.parameters.length) = some n) (hR : rc.frames + 1 ≤ rm.frames ∧ 8 + (maxL + 11) + rc.locals ≤ rm.locals)
    (hn : av.length = n) (hst : st = av.reverse ++ rest) (hW : (rest.map fun v => v.category).sum ≤ 8) (hd : decode cc pc = .ok (.invokestatic idx, 3)) (hq : pc + 3 = q) (h8 : rc.slots = 8 * rc.cells) (hf : u + rc.cells ≤ rm.cells ∧ 8 * (u + rc.cells) ≤ rm.slots)
    (hx : ∀ (E : String) (ω' : rj_W) (μ' : rj_M), ¬ P1 (.inr E) ω' μ')
    (k : ∀ (v : Option Value) (ω' : rj_W) (μ' : rj_M), P1 (.inl v) ω' μ' → rj_R g own cc nL ret ws hh rm F (u + rc.cells) ω' μ' l q (v.toList ++ rest)) : rj_R g own cc nL ret ws hh rm F u ω μ l pc st := by
  subst hq
  subst hst
  intro p e s m args below meth c H locs A ls C S h
  refine rj_behind (vx_runSN (As := av) (rest := rest) ⟨C.1, C.2.1, C.2.2.2.1, C.2.2.2.2.1, C.2.2.2.2.2.1⟩ (hM C.2.2.2.2.2.2.2.1 H.size) ⟨va_cnB n C.2.2.2.2.2.1 hG hw rfl rfl (S.2.2.2.2.1 _ hN) (C.2.2.2.2.2.1 _ hi) hdd hR, C.2.2.2.2.2.1 _ hs, trivial⟩ ⟨rj_blind, fun U hU hWm => rj_pre S hU hWm⟩ rfl hn h.1 rfl (lv_room hW) hd ⟨hf.1, by omega⟩) h8 S (fun E ω' μ' H1 locs1 ce q9 hp _ _ _ _ => absurd hp (hx E ω' μ')) (fun v ω' μ' H1 locs1 hp hS1 => k v ω' μ' hp p e s m args below meth c H1 locs1 A ls C hS1 h)
end rjCalls
