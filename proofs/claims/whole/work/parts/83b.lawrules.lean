/-! THE LAW'S OWN JUDGEMENT: its argument b, a row of L ints xs; its end -/
/-- what the law's start gives: its argument, the script's cell, and that only what is new may be written -/
def rl_f (b L : Nat) (xs : Nat → Int32) (args : Array Value) (s : State) (A : Nat → Prop) : Prop := args = #[Value.ref b] ∧ va_X b L xs s s.heap ∧ b < s.heap.size ∧ ∀ q, A q → s.heap.size ≤ q
def rl_F (b L : Nat) (xs : Nat → Int32) : rj_F := fun below args s A t => rl_f b L xs args s A → lw_Z below args s t
abbrev rl_R (g : rj_G) (hh : List (Nat × Nat × Nat × Nat)) (b L : Nat) (xs : Nat → Int32) (u : Nat) (ω : rj_W) (μ : rj_M) (l : List (Nat × Value)) (pc : Nat) (st : List Value) : Prop := rj_R g RL cL_law 10 ret lw_tbl hh room_1 (rl_F b L xs) u ω μ l pc st
section rlRules
variable {g : rj_G} {hh : List (Nat × Nat × Nat × Nat)} {b L : Nat} {xs : Nat → Int32} {u : Nat} {ω : rj_W} {μ μ1 : rj_M} {l : List (Nat × Value)} {pc q : Nat} {st : List Value}
theorem rl_sld {i : Int32} (hd : decode cL_law pc = .ok (.iaload, 1)) (hq : pc + 1 = q) (hi : vp_in i L) (k : rl_R g hh b L xs u ω μ l q (.int (xs i.toNatClampNeg) :: st)) : rl_R g hh b L xs u ω μ l pc (.int i :: .ref b :: st) := by
  subst hq
  intro p e s m args below meth c H locs A ls C S h
  by_cases hf : rl_f b L xs args s A
  · exact va_sld C.1 C.2.1 hf.2.1 hf.2.2.1 (fun hA => absurd (hf.2.2.2 _ hA) (Nat.not_le.mpr hf.2.2.1)) S.2.1 hi hd (k p e s m args below meth c H locs A ls C S h)
  · exact fun T hT X => ⟨_, Steps.refl _, fun z => absurd z hf⟩
theorem rl_slen (hd : decode cL_law pc = .ok (.arraylength, 1)) (hq : pc + 1 = q) (k : rl_R g hh b L xs u ω μ l q (.int (nI L) :: st)) : rl_R g hh b L xs u ω μ l pc (.ref b :: st) := by
  subst hq
  intro p e s m args below meth c H locs A ls C S h
  by_cases hf : rl_f b L xs args s A
  · exact va_slen C.1 C.2.1 hf.2.1 hf.2.2.1 (fun hA => absurd (hf.2.2.2 _ hA) (Nat.not_le.mpr hf.2.2.1)) S.2.1 hd (k p e s m args below meth c H locs A ls C S h)
  · exact fun T hT X => ⟨_, Steps.refl _, fun z => absurd z hf⟩
/-- the law's end, with 1 -/
theorem rl_end (hd : decode cL_law pc = .ok (.ireturn, 1)) (hu : u ≤ 600000) : rl_R g hh b L xs u ω μ l pc [.int 1] := by
  intro p e s m args below meth c H locs A ls C S h
  by_cases hf : rl_f b L xs args s A
  · have hf0 := hf
    obtain ⟨rfl, -, -, h4⟩ := hf0
    have K : W p g.1 e room_1 s m #[Value.ref b] below meth c H locs u (8 * u) (lw_Z below #[Value.ref b] s) (F0 m pc ls [.int 1]) := by
      refine va_forget (fun z hz => h4 _ (S.2.1.2.2 z hz)) ?_
      refine W.widen (k := 601024) (n := 7293034) (by omega) (by omega) ?_
      refine W.base ?_
      exact lw_ret (Drawn.sameBut.refl s.drawn lw_cs) C.1 C.2.1 C.2.2.1 C.2.2.2.2.2.2.1 hd
    intro T hT X
    obtain ⟨t, h1, h2⟩ := K T hT X
    exact ⟨t, h1, fun _ => h2⟩
  · exact fun T hT X => ⟨_, Steps.refl _, fun z => absurd z hf⟩
/-- a wrapper of the law's own: a static method with handlers, that returns an int -/
theorem rl_callW {y : MethodName} {bytes : ByteArray} {maxL idx n d' c' : Nat} {rt : Option FieldType} {h2 : List (Nat × Nat × Nat × Nat)} {wc wc' : List Cond} {av rest : List Value} {v : Value} (hM : rj_Sp g y wc (rj_rm d' c') av ω μ (rj_D (.inl (some v)) ω μ1)) (hG : GoodIn lw_tbl (va_wsS RL idx y wc)) (hw : wc = Cond.codeWith y bytes maxL rt h2 :: wc')
    (hdd : y.cls ≠ "java/lang/invoke/MethodHandle" ∧ y.cls ≠ "java/lang/invoke/VarHandle" ∧ (parseMethodDescriptor y.desc).map (fun d => d.parameters.length) = some n) (hR : d' + 1 ≤ 2048 ∧ 8 + (maxL + 11) + 64 * d' ≤ 84000) (hn : av.length = n) (hst : st = av.reverse ++ rest) (hW : (rest.map fun v => v.category).sum ≤ 8) (hd : decode cL_law pc = .ok (.invokestatic idx, 3)) (hq : pc + 3 = q) (hf : u + c' ≤ 600000)
    (k : rl_R g hh b L xs (u + c') ω μ1 l q (v :: rest)) : rl_R g hh b L xs u ω μ l pc st := by
  subst hq
  subst hst
  intro p e s m args below meth c H locs A ls C S h
  refine rj_behind (vx_runSX (As := av) (rest := rest) ⟨C.1, C.2.1, C.2.2.2.1, C.2.2.2.2.1, C.2.2.2.2.2.1⟩ (hM C.2.2.2.2.2.2.2.1 H.size) (vx_cwSW n C.2.2.2.2.2.1 hG hw rfl rfl hdd hR) ⟨rj_blind, fun U hU hWm => rj_pre S hU hWm⟩ rfl hn h.1 rfl (lv_room hW) hd ⟨by show u + c' ≤ 601024; omega, by show 8 * u + 8 * c' ≤ 7293034; omega⟩) rfl S (fun E ω' μ' H1 locs1 ce q9 hp _ _ _ _ => by cases hp.1) (fun v' ω' μ' H1 locs1 hp hS1 => ?_)
  obtain ⟨e1, e2, e3⟩ := hp
  cases e1
  subst e2
  subst e3
  exact k p e s m args below meth c H1 locs1 A ls C hS1 h
/-- a virtual method that returns a value -/
theorem rl_callV {y : MethodName} {bytes : ByteArray} {maxL idx n kr ci d' c' : Nat} {fs : List (Option (Option Nat))} {rt : Option FieldType} {wc wc' : List Cond} {av rest : List Value} {v : Value} {vc : vw_C} (hM : rj_Sp g y wc (rj_rm d' c') (.ref (ω.2.2 kr) :: av) ω μ (rj_D (.inl (some v)) ω μ1)) (hG : GoodIn lw_tbl (wsV RL idx vc.1 y wc)) (hk : kr < ω.1) (hs : ω.2.1 kr = .inr (ci, fs)) (hvc : vwCl[ci]? = some vc) (hw : wc = Cond.code y bytes maxL rt :: wc')
    (hdd : y.cls = vc.1 ∧ y.cls ≠ "java/lang/invoke/MethodHandle" ∧ y.cls ≠ "java/lang/invoke/VarHandle" ∧ (parseMethodDescriptor y.desc).map (fun d => d.parameters.length) = some n) (hR : d' + 1 ≤ 2048 ∧ 8 + (maxL + 11) + 64 * d' ≤ 84000) (hn : av.length = n) (hst : st = av.reverse ++ .ref (ω.2.2 kr) :: rest) (hW : (rest.map fun v => v.category).sum ≤ 8) (hd : decode cL_law pc = .ok (.invokevirtual idx, 3)) (hq : pc + 3 = q) (hf : u + c' ≤ 600000)
    (k : rl_R g hh b L xs (u + c') ω μ1 l q (v :: rest)) : rl_R g hh b L xs u ω μ l pc st := by
  refine rj_callV (rest := rest) hM hk hs hvc hG hw hdd hR hn hst hW hd hq rfl ⟨by show u + c' ≤ 601024; omega, by show 8 * (u + c') ≤ 7293034; omega⟩ (fun E ω' μ' z => by cases z.1) (fun v' ω' μ' hp => ?_)
  obtain ⟨e1, e2, e3⟩ := hp
  cases e1
  subst e2
  subst e3
  exact k
/-- a virtual method that returns a value and makes a row -/
theorem rl_callG {y : MethodName} {bytes : ByteArray} {maxL idx n kr ci d' c' : Nat} {fs : List (Option (Option Nat))} {rt : Option FieldType} {wc wc' : List Cond} {av rest : List Value} {v : Value} {vc : vw_C} (hM : rj_Sp g y wc (rj_rm d' c') (.ref (ω.2.2 kr) :: av) ω μ (rj_DG ω (some v) μ1)) (hG : GoodIn lw_tbl (wsV RL idx vc.1 y wc)) (hk : kr < ω.1) (hs : ω.2.1 kr = .inr (ci, fs)) (hvc : vwCl[ci]? = some vc) (hw : wc = Cond.code y bytes maxL rt :: wc')
    (hdd : y.cls = vc.1 ∧ y.cls ≠ "java/lang/invoke/MethodHandle" ∧ y.cls ≠ "java/lang/invoke/VarHandle" ∧ (parseMethodDescriptor y.desc).map (fun d => d.parameters.length) = some n) (hR : d' + 1 ≤ 2048 ∧ 8 + (maxL + 11) + 64 * d' ≤ 84000) (hn : av.length = n) (hst : st = av.reverse ++ .ref (ω.2.2 kr) :: rest) (hW : (rest.map fun v => v.category).sum ≤ 8) (hd : decode cL_law pc = .ok (.invokevirtual idx, 3)) (hq : pc + 3 = q) (hf : u + c' ≤ 600000)
    (k : ∀ ω' : rj_W, rj_ok ω' → (∀ j, j < 440 → ω'.2.2 j = ω.2.2 j) → rl_R g hh b L xs (u + c') ω' μ1 l q (v :: rest)) : rl_R g hh b L xs u ω μ l pc st := by
  refine rj_callV (rest := rest) hM hk hs hvc hG hw hdd hR hn hst hW hd hq rfl ⟨by show u + c' ≤ 601024; omega, by show 8 * (u + c') ≤ 7293034; omega⟩ (fun E ω' μ' z => by cases z.1) (fun v' ω' μ' hp => ?_)
  obtain ⟨e1, e2, e3, e4⟩ := hp
  cases e1
  subst e4
  exact k ω' e2 e3
/-- an argument: the int at i + kk -/
theorem rl_arg {i kk p1 p3 p4 p5 : Nat} {n : Int} (hL : L ≤ 3072) (hi : i + 6 ≤ L) (hk : kk < 6) (hv : Int32.ofInt n = nI kk) (j0 j5 : Nat) (h0 : l[j0]? = some (0, .ref b)) (h5 : l[j5]? = some (5, .int (nI i))) (d0 : decode cL_law pc = .ok (.aload_n 0, 1)) (e0 : pc + 1 = p1) (d1 : decode cL_law p1 = .ok (.iload 5, 2)) (e1 : p1 + 2 = p3) (d2 : decode cL_law p3 = .ok (.iconst n, 1)) (e2 : p3 + 1 = p4) (d3 : decode cL_law p4 = .ok (.iadd, 1)) (e3 : p4 + 1 = p5) (d4 : decode cL_law p5 = .ok (.iaload, 1)) (e4 : p5 + 1 = q)
    (k : rl_R g hh b L xs u ω μ l q (.int (xs (i + kk)) :: st)) : rl_R g hh b L xs u ω μ l pc st := by
  refine rj_aload_n j0 d0 e0 h0 ?_
  refine rj_iload j5 d1 e1 h5 ?_
  refine rj_iconst d2 e2 hv ?_
  refine rj_iadd d3 e3 ?_
  rw [nI_add]
  refine rl_sld d4 e4 (vp_in_nI (by omega) (by omega)) ?_
  rw [nI_clamp (n := i + kk) (by omega)]
  exact k
/-- an int as a boolean: 0 or 1 -/
def rl_b (x : Int32) : Int32 := if x = 0 then 0 else 1
theorem rl_b01 {x : Int32} : rl_b x = 0 ∨ rl_b x = 1 := by
  unfold rl_b
  split
  · exact .inl rfl
  · exact .inr rfl
theorem rl_bool {x : Int32} {o1 o2 : Int} {p3 p4 t1 t2 : Nat} (d0 : decode cL_law pc = .ok (.ifCond .eq o1, 3)) (e0 : (pc : Int) + o1 = (t1 : Int)) (e1 : pc + 3 = p3) (d1 : decode cL_law p3 = .ok (.iconst 1, 1)) (e2 : p3 + 1 = p4) (d2 : decode cL_law p4 = .ok (.goto o2, 3)) (e3 : (p4 : Int) + o2 = (t2 : Int)) (d3 : decode cL_law t1 = .ok (.iconst 0, 1)) (e4 : t1 + 1 = t2)
    (k : rl_R g hh b L xs u ω μ l t2 (.int (rl_b x) :: st)) : rl_R g hh b L xs u ω μ l pc (.int x :: st) := by
  refine rj_if_eq d0 e0 e1 (fun h => ?_) (fun h => ?_)
  · refine rj_iconst (v := 0) d3 e4 rfl ?_
    unfold rl_b at k
    rw [if_pos h] at k
    exact k
  · refine rj_iconst (v := 1) d1 e2 rfl ?_
    refine rj_goto d2 e3 ?_
    unfold rl_b at k
    rw [if_neg h] at k
    exact k
end rlRules
abbrev ll (b : Nat) (ad : Nat → Nat) (i : Nat) : List (Nat × Value) := [(0, .ref b), (1, .ref (ad 0)), (2, .ref (ad 395)), (3, .ref (ad 438)), (4, .ref (ad 439)), (5, .int (nI i))]
/-- what follows a case -/
def rl_K (g : rj_G) (hh : List (Nat × Nat × Nat × Nat)) (b L : Nat) (xs : Nat → Int32) (n u : Nat) (ω : rj_W) (i : Nat) : Prop := ∀ (u' : Nat) (ω' : rj_W) (μ' : rj_M), u' ≤ u + 80 → rj_ok ω' → (∀ j, j < 440 → ω'.2.2 j = ω.2.2 j) → zi_I (n + 1) μ' μ' → rl_R g hh b L xs u' ω' μ' (ll b ω'.2.2 i) 3595 []
theorem ll_same {b i : Nat} {ω ω' : rj_W} (h : ∀ j, j < 440 → ω'.2.2 j = ω.2.2 j) : ll b ω'.2.2 i = ll b ω.2.2 i := by
  show [_, _, _, _, _, _] = [_, _, _, _, _, _]
  rw [h 0 (by decide), h 395 (by decide), h 438 (by decide), h 439 (by decide)]
/-! WHAT A CASE COMPARES -/
theorem rj_hc_ne {E : String} : ∀ (Ls : List String) (k : Nat), 0 < k → k + Ls.length < 2 ^ 31 → E ∈ Ls → rj_hc Ls k E ≠ 0
  | [], _, _, _, h => absurd h List.not_mem_nil
  | x :: r, k, hk, hl, h => by
    rw [List.length_cons] at hl
    unfold rj_hc
    by_cases e : E = x
    · rw [if_pos e]
      intro z
      have := (nI_eq (a := k) (b := 0) (by omega) (by omega)).mp z
      omega
    · rw [if_neg e]
      rcases List.mem_cons.mp h with h | h
      · exact absurd h e
      · exact rj_hc_ne r (k + 1) (by omega) (by omega) h
section zlCase
variable {α : Type} {n : Nat} {μ : rj_M} {Ls : List String} {F : rj_M → α ⊕ String} {M R : rj_M → rj_M} {B : rj_M → α} {cv : α → Int64} {mL : rj_M} {kk : Int32}
/-- a call by a wrapper, and the reference's -/
theorem zl_A (op : ∀ c r, zi_I n c r → zo_out Ls (F c) ((R r).1 395 0) (B r) ∧ zi_op n c (M c) r (R r)) (hLs : Ls.length < 100) (I : zi_I n μ μ) (hm : mL = Sum.elim (fun v => rj_pl (M μ) 438 0 (cv v)) (fun _ => M μ) (F μ)) (hk : kk = Sum.elim (fun _ => 0) (rj_hc Ls 1) (F μ)) : (∀ E : String, F μ = .inr E → E ∈ Ls) ∧ zi_I n μ mL ∧ zi_I (n + 1) (R mL) (R mL) ∧ (R mL).1 395 0 = kk ∧ (kk = 0 → (R mL).2.1 438 0 = cv (B mL) ∧ F μ = .inl (B mL)) := by
  obtain ⟨a1, -⟩ := op μ μ I
  have hx : ∀ E : String, F μ = .inr E → E ∈ Ls := fun E hE => by
    rw [hE] at a1
    exact a1.1
  have hc : zi_hc (M μ) mL := by
    rw [hm]
    cases F μ with
    | inl v => exact zi_hc_pl (by decide)
    | inr E => exact zi_hc_rfl
  have hr : zi_hr (M μ) mL := by
    rw [hm]
    cases F μ with
    | inl v => exact zi_hr_pl
    | inr E => exact zi_hr_rfl
  obtain ⟨s1, s2, s3⟩ := zi_step (F := M) (M := R) (fun c r h => (op c r h).2) I hc hr
  have hI1 : zi_I n μ mL := by
    obtain ⟨-, q2, -⟩ := (op μ μ I).2
    exact zi_I_h I zi_hc_rfl (zi_hr_trans (zi_hr_fc q2) hr)
  obtain ⟨b1, -⟩ := op μ mL hI1
  refine ⟨hx, hI1, s2, ?_, fun h0 => ?_⟩
  · rw [hk]
    cases hF : F μ with
    | inl v =>
      rw [hF] at b1
      exact b1.1
    | inr E =>
      rw [hF] at b1
      exact b1.2
  · cases hF : F μ with
    | inl v =>
      rw [hF] at b1 hm
      have e : mL.2.1 438 0 = cv v := by
        rw [hm]
        show va_up (M μ).2.1 438 (vp_updL ((M μ).2.1 438) 0 (cv v)) 438 0 = cv v
        rw [va_up_self]
        simp [vp_updL]
      rw [(s3.2.1 438 (by decide)).1, e, b1.2]
      exact ⟨rfl, rfl⟩
    | inr E =>
      rw [hF] at hk
      have hE := hx E hF
      exact absurd (hk.symm.trans h0) (rj_hc_ne Ls 1 (by decide) (by omega) hE)
/-- a direct call, and the reference's -/
theorem zl_B {Fv Bv : rj_M → α} (op : ∀ c r, zi_I n c r → Fv c = Bv r ∧ zi_op n c (M c) r (R r)) (I : zi_I n μ μ) : zi_I n μ (M μ) ∧ zi_I (n + 1) (R (M μ)) (R (M μ)) ∧ Fv μ = Bv (M μ) := by
  obtain ⟨s1, s2, s3⟩ := zi_step (F := M) (M := R) (fun c r h => (op c r h).2) I zi_hc_rfl zi_hr_rfl
  have hI1 : zi_I n μ (M μ) := by
    obtain ⟨-, q2, -⟩ := (op μ μ I).2
    exact zi_I_h I zi_hc_rfl (zi_hr_fc q2)
  exact ⟨hI1, s2, (op μ (M μ) hI1).1⟩
end zlCase
theorem zi_more {n : Nat} {c r : rj_M} (h : zi_I n c r) : zi_I (n + 1) c r := (zi_query h zo_cst_rfl (zo_rst_of ⟨fun _ _ => rfl, fun _ _ => rfl, rfl⟩)).1
