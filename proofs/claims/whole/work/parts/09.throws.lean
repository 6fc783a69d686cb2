/-! THROWS: what leaves a method, and calls whose callee may throw -/
def rj_exn : List String := ["java/lang/RuntimeException", "java/lang/Exception"]
def rj_ov : Option String → Option Value ⊕ String
  | none => .inl none
  | some E => .inr E
section rjThrow
variable {g : rj_G} {own : String} {cc : ByteArray} {nL : Nat} {ret : Option FieldType} {ws : List Cond} {d c : Nat} {P : rj_P} {u : Nat} {ω : rj_W} {μ : rj_M} {l : List (Nat × Value)} {pc q : Nat} {st : List Value}
theorem rj_left {s t : State} {A : Nat → Prop} {H : Heap} {locs : List Loc} {E : String} (S : rj_S g ω μ A s H locs) (h1 : H.size ≤ t.heap.size) (h2 : ∀ q : Nat, q < H.size → t.heap[q]? = H[q]?) (k : P (.inr E) ω μ) : rj_XC g A P E s t := by
  refine ⟨⟨ω, μ, k, S.1.1.kept (fun k q hq => h2 q.1 (S.1.1 k q hq).lt), S.1.2.1, S.1.2.2⟩, Nat.le_trans S.2.1.1 h1, fun q hq hA => ?_⟩
  rw [h2 q (Nat.lt_of_lt_of_le hq S.2.1.1)]
  exact S.2.1.2.1 q hq hA
theorem rj_throwW {ik is ic q3 q4 q7 q10 : Nat} {cls text : String} (d0 : decode cc pc = .ok (.new ik, 3)) (p3 : pc + 3 = q3) (d3 : decode cc q3 = .ok (.dup, 1)) (p4 : pc + 4 = q4) (d4 : decode cc q4 = .ok (.ldc_w is, 3)) (p7 : pc + 7 = q7) (d7 : decode cc q7 = .ok (.invokespecial ic, 3)) (p10 : pc + 10 = q10) (d10 : decode cc q10 = .ok (.athrow, 1))
    (hcls : Bundle.fit cls = true) (hk : Cond.classLink own ik cls ∈ ws) (hini : Cond.initialized cls ∈ ws) (htx : (own, is, text) ∈ rj_tx) (hat : ∀ w ∈ (vx_atS own ic cls rj_exn).filter goodWord, w ∈ ws) (hbad : ∀ w ∈ (vx_atS own ic cls rj_exn).filter (fun w => !goodWord w), w ∈ Cond.castable cls cls :: rj_dc.map Cond.declares) (hca : (cls, cls) ∈ rj_ca)
    (hgood : ∀ w ∈ Cond.classLink own ik cls :: Cond.initialized cls :: vx_atS own ic cls rj_exn, vx_ot w = true) (hd : 6 ≤ d) (hW : (st.map fun v => v.category).sum ≤ 8) (hu : u + 1 ≤ c) (k : P (.inr cls) ω μ) : rj_R g own cc nL ret ws [] (rj_rm d c) (rj_E g (rj_rm d c) P) u ω μ l pc st := by
  subst p3
  subst p4
  subst p7
  subst p10
  intro p e s m args below meth c' H locs A ls C S h
  obtain ⟨sa, hsa⟩ := S.2.2.2.2.2.1 _ htx
  refine vx_throwSW (names := rj_exn) C.1 C.2.1 C.2.2.2.2.2.2.2.1 C.2.2.2.2.1 hcls (by decide) (C.2.2.2.2.2.1 _ hk) (C.2.2.2.2.2.1 _ hini) hsa ?_ hgood S.2.2.2.1.1 S.2.2.2.1.2 S.2.1 (h.1.trans C.2.2.2.1.symm) d0 d3 d4 d7 d10 ?_ (by show 2 + 3 < d; omega) (by show _ + (13 * 3 + 43) ≤ 64 * d; omega) (by show u + 1 ≤ c; omega) (by show 8 * u + 6 ≤ 8 * c; omega) C.2.2.2.2.2.2.1 (fun t _ h1 h2 => rj_left S h1 h2 k) S.2.1.2.2 (by show u + 1 ≤ c; omega) (by show 8 * u + 6 ≤ 8 * c; omega)
  · exact vx_hat (B := Cond.castable cls cls :: rj_dc.map Cond.declares) (fun w hw => C.2.2.2.2.2.1 w (hat w hw)) hbad (vx_c (va_Nw.use rfl (S.2.2.2.2.2.2.1 _ hca)) (fun w hw => by
      obtain ⟨x, hx, rfl⟩ := List.mem_map.mp hw
      exact va_Nw.use rfl (S.2.2.2.2.2.2.2.2.1 x hx)))
  · intro x hx
    rw [C.2.2.2.2.2.2.2.2] at hx
    exact absurd hx List.not_mem_nil
theorem rj_throwL {ik is ic q3 q4 q6 q9 : Nat} {cls text : String} (d0 : decode cc pc = .ok (.new ik, 3)) (p3 : pc + 3 = q3) (d3 : decode cc q3 = .ok (.dup, 1)) (p4 : pc + 4 = q4) (d4 : decode cc q4 = .ok (.ldc is, 2)) (p6 : pc + 6 = q6) (d6 : decode cc q6 = .ok (.invokespecial ic, 3)) (p9 : pc + 9 = q9) (d9 : decode cc q9 = .ok (.athrow, 1))
    (hcls : Bundle.fit cls = true) (hk : Cond.classLink own ik cls ∈ ws) (hini : Cond.initialized cls ∈ ws) (htx : (own, is, text) ∈ rj_tx) (hat : ∀ w ∈ (vx_atS own ic cls rj_exn).filter goodWord, w ∈ ws) (hbad : ∀ w ∈ (vx_atS own ic cls rj_exn).filter (fun w => !goodWord w), w ∈ Cond.castable cls cls :: rj_dc.map Cond.declares) (hca : (cls, cls) ∈ rj_ca)
    (hgood : ∀ w ∈ Cond.classLink own ik cls :: Cond.initialized cls :: vx_atS own ic cls rj_exn, vx_ot w = true) (hd : 6 ≤ d) (hW : (st.map fun v => v.category).sum ≤ 8) (hu : u + 1 ≤ c) (k : P (.inr cls) ω μ) : rj_R g own cc nL ret ws [] (rj_rm d c) (rj_E g (rj_rm d c) P) u ω μ l pc st := by
  subst p3
  subst p4
  subst p6
  subst p9
  intro p e s m args below meth c' H locs A ls C S h
  obtain ⟨sa, hsa⟩ := S.2.2.2.2.2.1 _ htx
  refine vx_throwS (names := rj_exn) C.1 C.2.1 C.2.2.2.2.2.2.2.1 C.2.2.2.2.1 hcls (by decide) (C.2.2.2.2.2.1 _ hk) (C.2.2.2.2.2.1 _ hini) hsa ?_ hgood S.2.2.2.1.1 S.2.2.2.1.2 S.2.1 (h.1.trans C.2.2.2.1.symm) d0 d3 d4 d6 d9 ?_ (by show 2 + 3 < d; omega) (by show _ + (13 * 3 + 43) ≤ 64 * d; omega) (by show u + 1 ≤ c; omega) (by show 8 * u + 6 ≤ 8 * c; omega) C.2.2.2.2.2.2.1 (fun t _ h1 h2 => rj_left S h1 h2 k) S.2.1.2.2 (by show u + 1 ≤ c; omega) (by show 8 * u + 6 ≤ 8 * c; omega)
  · exact vx_hat (B := Cond.castable cls cls :: rj_dc.map Cond.declares) (fun w hw => C.2.2.2.2.2.1 w (hat w hw)) hbad (vx_c (va_Nw.use rfl (S.2.2.2.2.2.2.1 _ hca)) (fun w hw => by
      obtain ⟨x, hx, rfl⟩ := List.mem_map.mp hw
      exact va_Nw.use rfl (S.2.2.2.2.2.2.2.2.1 x hx)))
  · intro x hx
    rw [C.2.2.2.2.2.2.2.2] at hx
    exact absurd hx List.not_mem_nil
/-- calls of methods that may throw, in a method without handlers: what they throw leaves it too -/
theorem rj_cSx {y : MethodName} {bytes : ByteArray} {maxL idx n d' c' u' : Nat} {rt : Option FieldType} {wc wc' : List Cond} {av rest : List Value} {x : Option String} (hM : rj_Sp g y wc (rj_rm d' c') av ω μ (rj_D (rj_ov x) ω μ)) (hG : GoodIn ws (va_wsS own idx y wc)) (hw : wc = Cond.code y bytes maxL rt :: wc')
    (hdd : y.cls ≠ "java/lang/invoke/MethodHandle" ∧ y.cls ≠ "java/lang/invoke/VarHandle" ∧ (parseMethodDescriptor y.desc).map (fun d => d.parameters.length) = some n) (hR : d' + 1 ≤ d ∧ 8 + (maxL + 11) + 64 * d' ≤ 64 * d)
    (hd : decode cc pc = .ok (.invokestatic idx, 3)) (hq : pc + 3 = q) (hn : av.length = n) (hst : st = av.reverse ++ rest) (hW : (rest.map fun v => v.category).sum ≤ 8) (hu : u + c' = u') (hf : u' ≤ c)
    (kx : ∀ E : String, x = some E → P (.inr E) ω μ) (k : x = none → rj_R g own cc nL ret ws [] (rj_rm d c) (rj_E g (rj_rm d c) P) u' ω μ l q rest) : rj_R g own cc nL ret ws [] (rj_rm d c) (rj_E g (rj_rm d c) P) u ω μ l pc st := by
  subst hu
  subst hq
  subst hst
  intro p e s m args below meth cd H locs A ls C S h
  refine rj_behind (vx_runS (As := av) (rest := rest) ⟨C.1, C.2.1, C.2.2.2.1, C.2.2.2.2.1, C.2.2.2.2.2.1⟩ (hM C.2.2.2.2.2.2.2.1 H.size) (va_cwS n C.2.2.2.2.2.1 hG hw rfl rfl hdd hR) ⟨rj_blind, fun U hU hWm => rj_pre S hU hWm⟩ rfl hn h.1 rfl (lv_room hW) hd ⟨hf, by show 8 * u + 8 * c' ≤ 8 * c; omega⟩) rfl S ?_ ?_
  · rintro E ω' μ' H1 locs1 ce q9 ⟨h1, h2, h3⟩ hS1 hce hcv hcl
    subst h2
    subst h3
    refine vx_outP C.2.2.2.2.1 C.2.2.2.2.2.2.1 ?_ hce hcv hcl (fun t ht _ => rj_left hS1 (by rw [ht]; exact Nat.le_refl _) (fun q _ => by rw [ht]) (kx E ?_)) hS1.2.1.2.2 hf (Nat.mul_le_mul_left 8 hf)
    · intro z hz
      rw [C.2.2.2.2.2.2.2.2] at hz
      exact absurd hz List.not_mem_nil
    · cases x with
      | none => cases h1
      | some E2 => cases h1; rfl
  · rintro v ω' μ' H1 locs1 ⟨h1, h2, h3⟩ hS1
    subst h2
    subst h3
    cases x with
    | none => cases h1; exact k rfl p e s m args below meth cd H1 locs1 A ls C hS1 h
    | some E2 => cases h1
theorem rj_cVx {y : MethodName} {bytes : ByteArray} {maxL idx n kr ci d' c' u' : Nat} {fs : List (Option (Option Nat))} {rt : Option FieldType} {wc wc' : List Cond} {av rest : List Value} {x : Option String} {vc : vw_C} (hM : rj_Sp g y wc (rj_rm d' c') (.ref (ω.2.2 kr) :: av) ω μ (rj_D (rj_ov x) ω μ)) (hG : GoodIn ws (wsV own idx vc.1 y wc)) (hk : kr < ω.1) (hs : ω.2.1 kr = .inr (ci, fs)) (hvc : vwCl[ci]? = some vc) (hw : wc = Cond.code y bytes maxL rt :: wc')
    (hdd : y.cls = vc.1 ∧ y.cls ≠ "java/lang/invoke/MethodHandle" ∧ y.cls ≠ "java/lang/invoke/VarHandle" ∧ (parseMethodDescriptor y.desc).map (fun d => d.parameters.length) = some n) (hR : d' + 1 ≤ d ∧ 8 + (maxL + 11) + 64 * d' ≤ 64 * d)
    (hd : decode cc pc = .ok (.invokevirtual idx, 3)) (hq : pc + 3 = q) (hn : av.length = n) (hst : st = av.reverse ++ .ref (ω.2.2 kr) :: rest) (hW : (rest.map fun v => v.category).sum ≤ 8) (hu : u + c' = u') (hf : u' ≤ c)
    (kx : ∀ E : String, x = some E → P (.inr E) ω μ) (k : x = none → rj_R g own cc nL ret ws [] (rj_rm d c) (rj_E g (rj_rm d c) P) u' ω μ l q rest) : rj_R g own cc nL ret ws [] (rj_rm d c) (rj_E g (rj_rm d c) P) u ω μ l pc st := by
  subst hu
  subst hq
  subst hst
  intro p e s m args below meth cd H locs A ls C S h
  refine rj_behind (vx_runV (As := av) (rest := rest) ⟨C.1, C.2.1, C.2.2.2.1, C.2.2.2.2.1, C.2.2.2.2.2.1⟩ (hM C.2.2.2.2.2.2.2.1 H.size) (cwV n C.2.2.2.2.2.1 hG hw rfl rfl hdd hR) ⟨rj_blind, va_recv S.1.2.1 S.1.1 hvc (rj_at hk hs), fun U hU hWm => rj_pre S hU hWm⟩ rfl hn h.1 rfl (lv_room hW) hd ⟨hf, by show 8 * u + 8 * c' ≤ 8 * c; omega⟩) rfl S ?_ ?_
  · rintro E ω' μ' H1 locs1 ce q9 ⟨h1, h2, h3⟩ hS1 hce hcv hcl
    subst h2
    subst h3
    refine vx_outP C.2.2.2.2.1 C.2.2.2.2.2.2.1 ?_ hce hcv hcl (fun t ht _ => rj_left hS1 (by rw [ht]; exact Nat.le_refl _) (fun q _ => by rw [ht]) (kx E ?_)) hS1.2.1.2.2 hf (Nat.mul_le_mul_left 8 hf)
    · intro z hz
      rw [C.2.2.2.2.2.2.2.2] at hz
      exact absurd hz List.not_mem_nil
    · cases x with
      | none => cases h1
      | some E2 => cases h1; rfl
  · rintro v ω' μ' H1 locs1 ⟨h1, h2, h3⟩ hS1
    subst h2
    subst h3
    cases x with
    | none => cases h1; exact k rfl p e s m args below meth cd H1 locs1 A ls C hS1 h
    | some E2 => cases h1
end rjThrow
