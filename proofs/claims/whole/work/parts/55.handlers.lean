/-! METHODS WITH HANDLERS OF THEIR OWN -/
theorem rj_ofH {g : rj_G} {y : MethodName} {own : String} {cc : ByteArray} {nL : Nat} {ret : Option FieldType} {hh : List (Nat × Nat × Nat × Nat)} {ws ws' : List Cond} {rm : Room} {av : List Value} {ω : rj_W} {μ : rj_M} {P : rj_P} {l0 : List (Nat × Value)} (hw : ws = Cond.codeWith y cc nL ret hh :: ws') (hy : plainName y.cls = true) (hown : y.cls = own) (hn : (lg_sl av).length ≤ nL) (hl : lv_args 0 av = l0) (K : rj_R g own cc nL ret ws hh rm (rj_E g rm P) 0 ω μ l0 0 []) : rj_Sp g y ws rm av ω μ P := by
  subst hl
  intro hl sz
  refine vx_ofWH (cc := cc) (maxL := nL) (ret := ret) (hh := hh) hy hw ?_
  intro p e s m args below meth c s₁ B hml hv
  obtain ⟨rfl, hsz, hH, hZ, hN⟩ := hv
  subst hsz
  have hts := atoms_spec (ws := ws) B.pre
  have hlv := lv_entry av (n := nL) hn
  rw [lg_entry_eq]
  exact K p e s m _ below meth c s.heap [] _ _ ⟨B.exec, B.bytes, B.returns, hml, by rw [← hown]; exact findClass_of_methodNamed B.named, hts, B.notSynchronized, hl, vx_table (x := y) B (hts _ (by rw [hw]; exact List.mem_cons_self))⟩ ⟨hH, va_S.rf, fun q h => Or.inr h, hZ, hN⟩ hlv
/-- a throw of E at pc finds its handler: the place of the handler -/
def rj_Hd (own : String) (ws : List Cond) (hh : List (Nat × Nat × Nat × Nat)) (pc : Nat) (E : String) (hp : Nat) : Prop :=
  ∃ (pre : List (Nat × Nat × Nat × Nat)) (x : Nat × Nat × Nat × Nat) (suf : List (Nat × Nat × Nat × Nat)) (nm : String), hh = pre ++ x :: suf ∧ (∀ z ∈ pre, z.2.2.2 ≠ 0 ∧ ∃ nm' : String, Cond.classLink own z.2.2.2 nm' ∈ ws ∧ (E, nm') ∈ rj_nc) ∧ x.1 ≤ pc ∧ pc < x.2.1 ∧ x.2.2.2 ≠ 0 ∧ Cond.classLink own x.2.2.2 nm ∈ ws ∧ (E, nm) ∈ rj_ca ∧ x.2.2.1 = hp
section rjHandlers
variable {g : rj_G} {own : String} {cc : ByteArray} {nL : Nat} {ret : Option FieldType} {ws : List Cond} {hh : List (Nat × Nat × Nat × Nat)} {d c : Nat} {F : rj_F} {u : Nat} {ω : rj_W} {μ μ1 : rj_M} {l : List (Nat × Value)} {pc q : Nat} {st : List Value}
theorem rj_cVh {y : MethodName} {bytes : ByteArray} {maxL idx n kr ci d' c' u' : Nat} {fs : List (Option (Option Nat))} {rt : Option FieldType} {wc wc' : List Cond} {av rest : List Value} {o : Option Value ⊕ String} {vc : vw_C} (hM : rj_Sp g y wc (rj_rm d' c') (.ref (ω.2.2 kr) :: av) ω μ (rj_D o ω μ1)) (hG : GoodIn ws (wsV own idx vc.1 y wc)) (hk : kr < ω.1) (hs : ω.2.1 kr = .inr (ci, fs)) (hvc : vwCl[ci]? = some vc) (hw : wc = Cond.code y bytes maxL rt :: wc')
    (hdd : y.cls = vc.1 ∧ y.cls ≠ "java/lang/invoke/MethodHandle" ∧ y.cls ≠ "java/lang/invoke/VarHandle" ∧ (parseMethodDescriptor y.desc).map (fun d => d.parameters.length) = some n) (hR : d' + 1 ≤ d ∧ 8 + (maxL + 11) + 64 * d' ≤ 64 * d)
    (hd : decode cc pc = .ok (.invokevirtual idx, 3)) (hq : pc + 3 = q) (hn : av.length = n) (hst : st = av.reverse ++ .ref (ω.2.2 kr) :: rest) (hW : (rest.map fun v => v.category).sum ≤ 8) (hu : u + c' = u') (hf : u' ≤ c)
    (kx : ∀ E : String, o = .inr E → ∃ hp : Nat, rj_Hd own ws hh pc E hp ∧ ∀ q9 : Nat, rj_R g own cc nL ret ws hh (rj_rm d c) F u' ω μ1 l hp [.ref q9]) (k : ∀ v : Option Value, o = .inl v → rj_R g own cc nL ret ws hh (rj_rm d c) F u' ω μ1 l q (v.toList ++ rest)) : rj_R g own cc nL ret ws hh (rj_rm d c) F u ω μ l pc st := by
  subst hu
  subst hq
  subst hst
  intro p e s m args below meth cd H locs A ls C S h
  refine rj_behind (vx_runV (As := av) (rest := rest) ⟨C.1, C.2.1, C.2.2.2.1, C.2.2.2.2.1, C.2.2.2.2.2.1⟩ (hM C.2.2.2.2.2.2.2.1 H.size) (cwV n C.2.2.2.2.2.1 hG hw rfl rfl hdd hR) ⟨rj_blind, va_recv S.1.2.1 S.1.1 hvc (rj_at hk hs), fun U hU hWm => rj_pre S hU hWm⟩ rfl hn h.1 rfl (lv_room hW) hd ⟨hf, by show 8 * u + 8 * c' ≤ 8 * c; omega⟩) rfl S ?_ ?_
  · rintro E ω' μ' H1 locs1 ce q9 ⟨h1, h2, h3⟩ hS1 hce hcv hcl
    subst h2
    subst h3
    obtain ⟨hp, ⟨pre, x, suf, nm, hsp, hpass, hp1, hp2, h0, hlk, hca, rfl⟩, kk⟩ := kx E h1.symm
    refine vx_catch (name := nm) C.2.2.2.2.1 (tableOf pre) ⟨x.1, x.2.1, x.2.2.1, x.2.2.2⟩ (tableOf suf) ?_ ?_ ?_ h0 (C.2.2.2.2.2.1 _ hlk) (va_Nw.use rfl (S.2.2.2.2.2.2.1 _ hca)) hce hcv hcl (kk q9 p e s m args below meth cd H1 locs1 A ls C hS1 h)
    · rw [C.2.2.2.2.2.2.2.2, hsp]
      simp [tableOf]
    · intro z hz
      obtain ⟨z0, hz0, rfl⟩ := List.mem_map.mp hz
      obtain ⟨e1, nm', e2, e3⟩ := hpass z0 hz0
      exact Or.inr ⟨e1, nm', C.2.2.2.2.2.1 _ e2, S.2.2.2.2.2.2.2.1 _ e3⟩
    · simp [covers, hp1, hp2]
  · rintro v ω' μ' H1 locs1 ⟨h1, h2, h3⟩ hS1
    subst h2
    subst h3
    exact k v h1.symm p e s m args below meth cd H1 locs1 A ls C hS1 h
end rjHandlers
/-! CALLS THAT MAKE A ROW MORE -/
def rj_DG (ω : rj_W) (o : Option Value) (μ1 : rj_M) : rj_P := fun o' ω' μ' => o' = .inl o ∧ rj_ok ω' ∧ (∀ j, j < 440 → ω'.2.2 j = ω.2.2 j) ∧ μ' = μ1
/-- no cell names one beyond the 440 -/
def rj_cr (μ : rj_M) : Prop := ∀ k i, μ.2.2.2 k i ≤ 440
theorem rj_cr.cl {ω : rj_W} {μ : rj_M} (h : rj_cr μ) (hω : rj_ok ω) : rj_cl ω μ := by
  intro k hk
  have h440 := hω.1
  rw [hω.2]
  have key : ∀ sh : rj_Sh, (∀ ci fs, sh = .inr (ci, fs) → ∀ r, some (some r) ∈ fs → r ≤ 440) → rj_cl1 ω.1 μ k sh := by
    intro sh hs
    rcases sh with q | ⟨ci, fs⟩
    · intro _ i
      exact Nat.le_trans (h k i) h440
    · intro r hr
      exact Nat.le_trans (hs ci fs rfl r hr) h440
  apply key
  by_cases hk2 : k < 440
  · have h2 : ∀ k : Nat, k < 440 → (match rj_lay k with | .inl _ => true | .inr q => q.2.all (fun t => match t with | some (some r) => Nat.ble r 440 | _ => true)) = true := by decide +kernel
    intro ci fs e r hr
    have h3 := h2 k hk2
    rw [e] at h3
    exact Nat.le_of_ble_eq_true (List.all_eq_true.mp h3 _ hr)
  · intro ci fs e
    unfold rj_lay rj_ly at e
    rw [if_neg (by omega), if_neg (by omega), if_neg (by omega), if_neg (by omega), if_neg (by omega), if_neg (by omega), if_neg (by omega), if_neg (by omega), if_neg (by omega), if_neg (by omega), if_neg (by omega), if_neg (by omega)] at e
    cases e
section rjGrow
variable {g : rj_G} {own : String} {cc : ByteArray} {nL : Nat} {ret : Option FieldType} {ws : List Cond} {hh : List (Nat × Nat × Nat × Nat)} {d c : Nat} {F : rj_F} {u : Nat} {ω : rj_W} {μ μ1 : rj_M} {pc q : Nat} {L : (Nat → Nat) → List (Nat × Value)} {ST : (Nat → Nat) → List Value}
theorem rj_cVg {y : MethodName} {bytes : ByteArray} {maxL idx n kr ci d' c' u' : Nat} {fs : List (Option (Option Nat))} {rt : Option FieldType} {wc wc' : List Cond} {av : List Value} {o : Option Value} {vc : vw_C} (hM : rj_Sp g y wc (rj_rm d' c') (.ref (ω.2.2 kr) :: av) ω μ (rj_DG ω o μ1)) (hG : GoodIn ws (wsV own idx vc.1 y wc)) (hk : kr < ω.1) (hs : ω.2.1 kr = .inr (ci, fs)) (hvc : vwCl[ci]? = some vc) (hw : wc = Cond.code y bytes maxL rt :: wc')
    (hdd : y.cls = vc.1 ∧ y.cls ≠ "java/lang/invoke/MethodHandle" ∧ y.cls ≠ "java/lang/invoke/VarHandle" ∧ (parseMethodDescriptor y.desc).map (fun d => d.parameters.length) = some n) (hR : d' + 1 ≤ d ∧ 8 + (maxL + 11) + 64 * d' ≤ 64 * d)
    (hd : decode cc pc = .ok (.invokevirtual idx, 3)) (hq : pc + 3 = q) (hn : av.length = n) (hW : ((ST ω.2.2).map fun v => v.category).sum ≤ 8) (hu : u + c' = u') (hf : u' ≤ c)
    (hl : ∀ ad : Nat → Nat, (∀ j, j < 440 → ad j = ω.2.2 j) → L ad = L ω.2.2) (hst : ∀ ad : Nat → Nat, (∀ j, j < 440 → ad j = ω.2.2 j) → ST ad = ST ω.2.2)
    (kk : ∀ ω1 : rj_W, rj_ok ω1 → (∀ j, j < 440 → ω1.2.2 j = ω.2.2 j) → rj_R g own cc nL ret ws hh (rj_rm d c) F u' ω1 μ1 (L ω1.2.2) q (o.toList ++ ST ω1.2.2)) : rj_R g own cc nL ret ws hh (rj_rm d c) F u ω μ (L ω.2.2) pc (av.reverse ++ .ref (ω.2.2 kr) :: ST ω.2.2) := by
  subst hu
  refine rj_callV (rest := ST ω.2.2) hM hk hs hvc hG hw hdd hR hn rfl hW hd hq rfl ⟨hf, by show 8 * (u + c') ≤ 8 * c; omega⟩ (fun E ω' μ' z => by cases z.1) ?_
  rintro v ω' μ' ⟨h1, h2, h3, h4⟩
  cases h1
  subst h4
  have hx := kk ω' h2 h3
  rw [hl _ h3, hst _ h3] at hx
  exact hx
end rjGrow
