/-! THE LAYOUT: the system's cells, numbered as they are made: 0 the Festivalgrounds, 1 to 43 its Moment 'now', 44 'past', 45 and 46 the Evenings, 47 to 50 the RainPlan, 51 + 43 j on the Moment of past[j], 395 to 437 the reference, 438 and 439 the law's rows, 440 a row of its own of waitsInOne -/
def rj_lm (b : Nat) : Nat → rj_Sh
  | 0 => .inr (5, [some (some ((b + 1) + 1)), some (some ((b + 2) + 1)), some (some ((b + 7) + 1)), some (some ((b + 16) + 1)), some (some ((b + 20) + 1)), some (some ((b + 25) + 1)), some (some ((b + 29) + 1)), some (some ((b + 38) + 1))])
  | 1 => .inr (1, [none, none, none])
  | 2 => .inr (4, [some (some ((b + 3) + 1)), some (some ((b + 4) + 1)), some (some ((b + 5) + 1)), some (some ((b + 6) + 1))])
  | 3 => .inl (1, 4)
  | 4 => .inl (0, 16)
  | 5 => .inl (0, 16)
  | 6 => .inl (0, 100)
  | 7 => .inr (7, [some (some ((b + 8) + 1)), some (some ((b + 9) + 1)), some (some ((b + 10) + 1)), some (some ((b + 11) + 1)), some (some ((b + 12) + 1)), some (some ((b + 13) + 1)), some (some ((b + 14) + 1)), some (some ((b + 15) + 1))])
  | 8 => .inl (0, 16)
  | 9 => .inl (0, 16)
  | 10 => .inl (0, 16)
  | 11 => .inl (0, 16)
  | 12 => .inl (0, 16)
  | 13 => .inl (0, 192)
  | 14 => .inl (0, 16)
  | 15 => .inl (0, 16)
  | 16 => .inr (3, [some (some ((b + 17) + 1)), some (some ((b + 18) + 1)), some (some ((b + 19) + 1))])
  | 17 => .inl (0, 3)
  | 18 => .inl (0, 12)
  | 19 => .inl (0, 4)
  | 20 => .inr (0, [some (some ((b + 21) + 1)), none, some (some ((b + 22) + 1)), some (some ((b + 23) + 1)), some (some ((b + 24) + 1)), none, none])
  | 21 => .inl (0, 12)
  | 22 => .inl (0, 12)
  | 23 => .inl (0, 3)
  | 24 => .inl (0, 3)
  | 25 => .inr (10, [some (some ((b + 26) + 1)), none, some (some ((b + 27) + 1)), some (some ((b + 28) + 1))])
  | 26 => .inl (0, 24)
  | 27 => .inl (0, 24)
  | 28 => .inl (0, 34)
  | 29 => .inr (6, [some (some ((b + 30) + 1)), some (some ((b + 31) + 1)), some (some ((b + 32) + 1)), some (some ((b + 33) + 1)), some (some ((b + 34) + 1)), some (some ((b + 35) + 1)), some (some ((b + 36) + 1)), some (some ((b + 37) + 1))])
  | 30 => .inl (0, 24)
  | 31 => .inl (0, 4)
  | 32 => .inl (0, 4)
  | 33 => .inl (0, 4)
  | 34 => .inl (0, 16)
  | 35 => .inl (0, 16)
  | 36 => .inl (0, 16)
  | 37 => .inl (0, 400)
  | 38 => .inr (8, [some (some ((b + 39) + 1)), some (some ((b + 40) + 1)), some none, some (some ((b + 41) + 1)), some (some ((b + 42) + 1))])
  | 39 => .inl (0, 4)
  | 40 => .inl (0, 48)
  | 41 => .inl (2, 12)
  | _ => .inl (2, 12)
def rj_lx : Nat → rj_Sh
  | 45 => .inr (2, [some (some 4), some (some 9), some (some 47), none])
  | 46 => .inl (0, 16)
  | 47 => .inr (9, [some (some 4), some (some 9), none, some (some 49), some (some 50), none, some (some 51), none])
  | 48 => .inl (0, 16)
  | 49 => .inl (0, 6)
  | 50 => .inl (0, 6)
  | _ => .inl (5, 8)
def rj_ly (k : Nat) : rj_Sh := if k = 395 then .inr (12, [none, some (some 397), some (some 398), none, none, none, some (some 407), some (some 408), none, some (some 409), some (some 410), none, some (some 436), some (some 437), some (some 438), none]) else if k = 397 then .inl (4, 8) else if k < 406 then .inl (0, 625) else if k = 409 then .inl (4, 25) else if k = 408 then .inl (0, 24) else if k < 438 then .inl (0, 16) else if k = 438 then .inl (2, 1) else if k = 439 then .inl (3, 1) else .inl (0, 3)
def rj_lay (k : Nat) : rj_Sh := if k = 0 then .inr (11, [some (some 2), some (some 45), some (some 46), some (some 48), none, none]) else if k < 44 then rj_lm 1 (k - 1) else if k < 51 then rj_lx k else if k < 395 then rj_lm (51 + (k - 51) / 43 * 43) ((k - 51) % 43) else rj_ly k
/-- a world of the system, made whole -/
def rj_ok (ω : rj_W) : Prop := 440 ≤ ω.1 ∧ ω.2.1 = rj_lay
theorem rj_lt {ω : rj_W} (h : rj_ok ω) {k : Nat} (hk : Nat.ble (k + 1) 440 = true) : k < ω.1 := Nat.lt_of_lt_of_le (Nat.le_of_ble_eq_true hk) h.1
theorem rj_sh {ω : rj_W} (h : rj_ok ω) {k : Nat} {s : rj_Sh} (e : rj_lay k = s) : ω.2.1 k = s := (congrFun h.2 k).trans e
theorem ly_0 : rj_lay 0 = .inr (11, [some (some 2), some (some 45), some (some 46), some (some 48), none, none]) := by decide +kernel
theorem ly_1 : rj_lay 1 = .inr (5, [some (some 3), some (some 4), some (some 9), some (some 18), some (some 22), some (some 27), some (some 31), some (some 40)]) := by decide +kernel
theorem ly_2 : rj_lay 2 = .inr (1, [none, none, none]) := by decide +kernel
theorem ly_3 : rj_lay 3 = .inr (4, [some (some 5), some (some 6), some (some 7), some (some 8)]) := by decide +kernel
theorem ly_4 : rj_lay 4 = .inl (1, 4) := by decide +kernel
theorem ly_5 : rj_lay 5 = .inl (0, 16) := by decide +kernel
theorem ly_6 : rj_lay 6 = .inl (0, 16) := by decide +kernel
theorem ly_7 : rj_lay 7 = .inl (0, 100) := by decide +kernel
theorem ly_8 : rj_lay 8 = .inr (7, [some (some 10), some (some 11), some (some 12), some (some 13), some (some 14), some (some 15), some (some 16), some (some 17)]) := by decide +kernel
theorem ly_9 : rj_lay 9 = .inl (0, 16) := by decide +kernel
theorem ly_10 : rj_lay 10 = .inl (0, 16) := by decide +kernel
theorem ly_11 : rj_lay 11 = .inl (0, 16) := by decide +kernel
theorem ly_12 : rj_lay 12 = .inl (0, 16) := by decide +kernel
theorem ly_13 : rj_lay 13 = .inl (0, 16) := by decide +kernel
theorem ly_14 : rj_lay 14 = .inl (0, 192) := by decide +kernel
theorem ly_15 : rj_lay 15 = .inl (0, 16) := by decide +kernel
theorem ly_16 : rj_lay 16 = .inl (0, 16) := by decide +kernel
theorem ly_17 : rj_lay 17 = .inr (3, [some (some 19), some (some 20), some (some 21)]) := by decide +kernel
theorem ly_18 : rj_lay 18 = .inl (0, 3) := by decide +kernel
theorem ly_19 : rj_lay 19 = .inl (0, 12) := by decide +kernel
theorem ly_20 : rj_lay 20 = .inl (0, 4) := by decide +kernel
theorem ly_21 : rj_lay 21 = .inr (0, [some (some 23), none, some (some 24), some (some 25), some (some 26), none, none]) := by decide +kernel
theorem ly_22 : rj_lay 22 = .inl (0, 12) := by decide +kernel
theorem ly_23 : rj_lay 23 = .inl (0, 12) := by decide +kernel
theorem ly_24 : rj_lay 24 = .inl (0, 3) := by decide +kernel
theorem ly_25 : rj_lay 25 = .inl (0, 3) := by decide +kernel
theorem ly_26 : rj_lay 26 = .inr (10, [some (some 28), none, some (some 29), some (some 30)]) := by decide +kernel
theorem ly_27 : rj_lay 27 = .inl (0, 24) := by decide +kernel
theorem ly_28 : rj_lay 28 = .inl (0, 24) := by decide +kernel
theorem ly_29 : rj_lay 29 = .inl (0, 34) := by decide +kernel
theorem ly_30 : rj_lay 30 = .inr (6, [some (some 32), some (some 33), some (some 34), some (some 35), some (some 36), some (some 37), some (some 38), some (some 39)]) := by decide +kernel
theorem ly_31 : rj_lay 31 = .inl (0, 24) := by decide +kernel
theorem ly_32 : rj_lay 32 = .inl (0, 4) := by decide +kernel
theorem ly_33 : rj_lay 33 = .inl (0, 4) := by decide +kernel
theorem ly_34 : rj_lay 34 = .inl (0, 4) := by decide +kernel
theorem ly_35 : rj_lay 35 = .inl (0, 16) := by decide +kernel
theorem ly_36 : rj_lay 36 = .inl (0, 16) := by decide +kernel
theorem ly_37 : rj_lay 37 = .inl (0, 16) := by decide +kernel
theorem ly_38 : rj_lay 38 = .inl (0, 400) := by decide +kernel
theorem ly_39 : rj_lay 39 = .inr (8, [some (some 41), some (some 42), some none, some (some 43), some (some 44)]) := by decide +kernel
theorem ly_40 : rj_lay 40 = .inl (0, 4) := by decide +kernel
theorem ly_41 : rj_lay 41 = .inl (0, 48) := by decide +kernel
theorem ly_42 : rj_lay 42 = .inl (2, 12) := by decide +kernel
theorem ly_43 : rj_lay 43 = .inl (2, 12) := by decide +kernel
theorem ly_44 : rj_lay 44 = .inl (5, 8) := by decide +kernel
theorem ly_45 : rj_lay 45 = .inr (2, [some (some 4), some (some 9), some (some 47), none]) := by decide +kernel
theorem ly_46 : rj_lay 46 = .inl (0, 16) := by decide +kernel
theorem ly_47 : rj_lay 47 = .inr (9, [some (some 4), some (some 9), none, some (some 49), some (some 50), none, some (some 51), none]) := by decide +kernel
theorem ly_48 : rj_lay 48 = .inl (0, 16) := by decide +kernel
theorem ly_49 : rj_lay 49 = .inl (0, 6) := by decide +kernel
theorem ly_50 : rj_lay 50 = .inl (0, 6) := by decide +kernel
theorem ly_395 : rj_lay 395 = .inr (12, [none, some (some 397), some (some 398), none, none, none, some (some 407), some (some 408), none, some (some 409), some (some 410), none, some (some 436), some (some 437), some (some 438), none]) := by decide +kernel
theorem ly_396 : rj_lay 396 = .inl (0, 625) := by decide +kernel
theorem ly_397 : rj_lay 397 = .inl (4, 8) := by decide +kernel
theorem ly_398 : rj_lay 398 = .inl (0, 625) := by decide +kernel
theorem ly_399 : rj_lay 399 = .inl (0, 625) := by decide +kernel
theorem ly_400 : rj_lay 400 = .inl (0, 625) := by decide +kernel
theorem ly_401 : rj_lay 401 = .inl (0, 625) := by decide +kernel
theorem ly_402 : rj_lay 402 = .inl (0, 625) := by decide +kernel
theorem ly_403 : rj_lay 403 = .inl (0, 625) := by decide +kernel
theorem ly_404 : rj_lay 404 = .inl (0, 625) := by decide +kernel
theorem ly_405 : rj_lay 405 = .inl (0, 625) := by decide +kernel
theorem ly_406 : rj_lay 406 = .inl (0, 16) := by decide +kernel
theorem ly_407 : rj_lay 407 = .inl (0, 16) := by decide +kernel
theorem ly_408 : rj_lay 408 = .inl (0, 24) := by decide +kernel
theorem ly_409 : rj_lay 409 = .inl (4, 25) := by decide +kernel
theorem ly_435 : rj_lay 435 = .inl (0, 16) := by decide +kernel
theorem ly_436 : rj_lay 436 = .inl (0, 16) := by decide +kernel
theorem ly_437 : rj_lay 437 = .inl (0, 16) := by decide +kernel
theorem ly_438 : rj_lay 438 = .inl (2, 1) := by decide +kernel
theorem ly_439 : rj_lay 439 = .inl (3, 1) := by decide +kernel
theorem ly_440 : rj_lay 440 = .inl (0, 3) := by decide +kernel
theorem ly_past (j : Nat) (hj : j < 8) (o : Nat) (ho : o < 43) : rj_lay (51 + 43 * j + o) = rj_lm (51 + 43 * j) o := by
  unfold rj_lay
  rw [if_neg (by omega), if_neg (by omega), if_neg (by omega), if_pos (by omega), show (51 + 43 * j + o - 51) / 43 * 43 = 43 * j by omega, show (51 + 43 * j + o - 51) % 43 = o by omega]
theorem ly_costs : ∀ r : Nat, r < 25 → rj_lay (410 + r) = .inl (0, 16) := by decide +kernel
theorem ly_ahead : ∀ r : Nat, r < 8 → rj_lay (398 + r) = .inl (0, 625) := by decide +kernel
/-- rooms: d calls deep, c cells -/
def rj_rm (d c : Nat) : Room := { frames := d, cells := c, slots := 8 * c, locals := 64 * d }
/-- one outcome, one world, one memory -/
abbrev rj_D (o : Option Value ⊕ String) (ω : rj_W) (μ : rj_M) : rj_P := fun o' ω' μ' => o' = o ∧ ω' = ω ∧ μ' = μ
theorem rj_D.no {o : Option Value} {ω : rj_W} {μ : rj_M} : ∀ (E : String) (ω' : rj_W) (μ' : rj_M), ¬ rj_D (.inl o) ω μ (.inr E) ω' μ' := fun _ _ _ h => nomatch h.1
section rjDet
variable {g : rj_G} {own : String} {cc : ByteArray} {nL : Nat} {ret : Option FieldType} {ws : List Cond} {hh : List (Nat × Nat × Nat × Nat)} {d c : Nat} {F : rj_F} {P : rj_P} {u : Nat} {ω ω1 : rj_W} {μ μ1 : rj_M} {l : List (Nat × Value)} {pc q : Nat} {st : List Value}
theorem rj_cS {y : MethodName} {bytes : ByteArray} {maxL idx n d' c' u' : Nat} {rt : Option FieldType} {wc wc' : List Cond} {av rest st' : List Value} {o : Option Value} (hM : rj_Sp g y wc (rj_rm d' c') av ω μ (rj_D (.inl o) ω1 μ1)) (hG : GoodIn ws (va_wsS own idx y wc)) (hw : wc = Cond.code y bytes maxL rt :: wc')
    (hdd : y.cls ≠ "java/lang/invoke/MethodHandle" ∧ y.cls ≠ "java/lang/invoke/VarHandle" ∧ (parseMethodDescriptor y.desc).map (fun d => d.parameters.length) = some n) (hR : d' + 1 ≤ d ∧ 8 + (maxL + 11) + 64 * d' ≤ 64 * d)
    (hd : decode cc pc = .ok (.invokestatic idx, 3)) (hq : pc + 3 = q) (hn : av.length = n) (hst : st = av.reverse ++ rest) (hW : (rest.map fun v => v.category).sum ≤ 8) (hu : u + c' = u') (hf : u' ≤ c) (hst' : o.toList ++ rest = st')
    (k : rj_R g own cc nL ret ws hh (rj_rm d c) F u' ω1 μ1 l q st') : rj_R g own cc nL ret ws hh (rj_rm d c) F u ω μ l pc st := by
  subst hu
  subst hst'
  refine rj_callS hM hG hw hdd hR hn hst hW hd hq rfl ⟨hf, by show 8 * (u + c') ≤ 8 * c; omega⟩ rj_D.no ?_
  rintro v ω' μ' ⟨h1, h2, h3⟩
  cases h1
  subst h2
  subst h3
  exact k
theorem rj_cSN {y : MethodName} {host : String} {bytes : ByteArray} {maxL idx n d' c' u' : Nat} {rt : Option FieldType} {wc wc' : List Cond} {av rest st' : List Value} {o : Option Value} (hM : rj_Sp g y wc (rj_rm d' c') av ω μ (rj_D (.inl o) ω1 μ1)) (hG : GoodIn ws wc) (hi : Cond.initialized y.cls ∈ ws) (hs : Cond.static y ∈ ws) (hN : (own, idx, y, host) ∈ rj_nw) (hw : wc = Cond.code y bytes maxL rt :: wc')
    (hdd : y.cls ≠ "java/lang/invoke/MethodHandle" ∧ y.cls ≠ "java/lang/invoke/VarHandle" ∧ (parseMethodDescriptor y.desc).map (fun d => d.parameters.length) = some n) (hR : d' + 1 ≤ d ∧ 8 + (maxL + 11) + 64 * d' ≤ 64 * d)
    (hd : decode cc pc = .ok (.invokestatic idx, 3)) (hq : pc + 3 = q) (hn : av.length = n) (hst : st = av.reverse ++ rest) (hW : (rest.map fun v => v.category).sum ≤ 8) (hu : u + c' = u') (hf : u' ≤ c) (hst' : o.toList ++ rest = st')
    (k : rj_R g own cc nL ret ws hh (rj_rm d c) F u' ω1 μ1 l q st') : rj_R g own cc nL ret ws hh (rj_rm d c) F u ω μ l pc st := by
  subst hu
  subst hst'
  refine rj_callSN hM hG hi hs hN hw hdd hR hn hst hW hd hq rfl ⟨hf, by show 8 * (u + c') ≤ 8 * c; omega⟩ rj_D.no ?_
  rintro v ω' μ' ⟨h1, h2, h3⟩
  cases h1
  subst h2
  subst h3
  exact k
theorem rj_cV {y : MethodName} {bytes : ByteArray} {maxL idx n kr ci d' c' u' : Nat} {fs : List (Option (Option Nat))} {rt : Option FieldType} {wc wc' : List Cond} {av rest st' : List Value} {o : Option Value} {vc : vw_C} (hM : rj_Sp g y wc (rj_rm d' c') (.ref (ω.2.2 kr) :: av) ω μ (rj_D (.inl o) ω1 μ1)) (hG : GoodIn ws (wsV own idx vc.1 y wc)) (hk : kr < ω.1) (hs : ω.2.1 kr = .inr (ci, fs)) (hvc : vwCl[ci]? = some vc) (hw : wc = Cond.code y bytes maxL rt :: wc')
    (hdd : y.cls = vc.1 ∧ y.cls ≠ "java/lang/invoke/MethodHandle" ∧ y.cls ≠ "java/lang/invoke/VarHandle" ∧ (parseMethodDescriptor y.desc).map (fun d => d.parameters.length) = some n) (hR : d' + 1 ≤ d ∧ 8 + (maxL + 11) + 64 * d' ≤ 64 * d)
    (hd : decode cc pc = .ok (.invokevirtual idx, 3)) (hq : pc + 3 = q) (hn : av.length = n) (hst : st = av.reverse ++ .ref (ω.2.2 kr) :: rest) (hW : (rest.map fun v => v.category).sum ≤ 8) (hu : u + c' = u') (hf : u' ≤ c) (hst' : o.toList ++ rest = st')
    (k : rj_R g own cc nL ret ws hh (rj_rm d c) F u' ω1 μ1 l q st') : rj_R g own cc nL ret ws hh (rj_rm d c) F u ω μ l pc st := by
  subst hu
  subst hst'
  refine rj_callV hM hk hs hvc hG hw hdd hR hn hst hW hd hq rfl ⟨hf, by show 8 * (u + c') ≤ 8 * c; omega⟩ rj_D.no ?_
  rintro v ω' μ' ⟨h1, h2, h3⟩
  cases h1
  subst h2
  subst h3
  exact k
end rjDet
/-- an index that was looked at -/
theorem rj_in {i c : Int32} {n : Nat} (h1 : ¬ i < 0) (h2 : ¬ c ≤ i) (hc : c.toInt = n) : vp_in i n := by
  rw [vp_in_iff]
  rw [Int32.lt_iff_toInt_lt] at h1
  rw [Int32.le_iff_toInt_le, hc] at h2
  have h0 : (0 : Int32).toInt = 0 := rfl
  omega
/-- entries -/
theorem rj_of' {g : rj_G} {y : MethodName} {own : String} {cc : ByteArray} {nL : Nat} {ret : Option FieldType} {ws ws' : List Cond} {rm : Room} {av : List Value} {ω : rj_W} {μ : rj_M} {P : rj_P} {l0 : List (Nat × Value)} (hw : ws = Cond.code y cc nL ret :: ws') (hy : plainName y.cls = true) (hown : y.cls = own) (hn : (lg_sl av).length ≤ nL) (hl : lv_args 0 av = l0) (K : rj_R g own cc nL ret ws [] rm (rj_E g rm P) 0 ω μ l0 0 []) : rj_Sp g y ws rm av ω μ P := by
  subst hl
  exact rj_of hy hown hw hn K
