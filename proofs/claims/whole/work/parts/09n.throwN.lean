/-! THE THROW OF A NoSuchElementException leaves a method -/
section rjThrowN
variable {g : rj_G} {cc : ByteArray} {nL : Nat} {ret : Option FieldType} {ws : List Cond} {d c : Nat} {P : rj_P} {u : Nat} {ω : rj_W} {μ : rj_M} {l : List (Nat × Value)} {pc q : Nat} {st : List Value}
theorem rj_throwN {ik is q3 q4 q7 q10 : Nat} {text : String} (d0 : decode cc pc = .ok (.new ik, 3)) (p3 : pc + 3 = q3) (d3 : decode cc q3 = .ok (.dup, 1)) (p4 : pc + 4 = q4) (d4 : decode cc q4 = .ok (.ldc_w is, 3)) (p7 : pc + 7 = q7) (d7 : decode cc q7 = .ok (.invokespecial 271, 3)) (p10 : pc + 10 = q10) (d10 : decode cc q10 = .ok (.athrow, 1))
    (_hcls : Bundle.fit vx_nse = true) (hk : Cond.classLink RX11 ik "java/util/NoSuchElementException" ∈ ws) (hini : Cond.initialized "java/util/NoSuchElementException" ∈ ws) (htx : (RX11, is, text) ∈ rj_tx) (hat : ∀ w ∈ vx_wdN.filter goodWord, w ∈ ws) (hbad : ∀ w ∈ vx_wdN.filter (fun w => !goodWord w), w ∈ Cond.castable "java/util/NoSuchElementException" "java/util/NoSuchElementException" :: rj_dc.map Cond.declares) (hca : ("java/util/NoSuchElementException", "java/util/NoSuchElementException") ∈ rj_ca)
    (hgood : ∀ w ∈ Cond.classLink RX11 ik "java/util/NoSuchElementException" :: Cond.initialized "java/util/NoSuchElementException" :: vx_wdN, vx_ot w = true) (hd : 6 ≤ d) (hW : (st.map fun v => v.category).sum ≤ 8) (hu : u + 1 ≤ c) (k : P (.inr "java/util/NoSuchElementException") ω μ) : rj_R g RX11 cc nL ret ws [] (rj_rm d c) (rj_E g (rj_rm d c) P) u ω μ l pc st := by
  subst p3
  subst p4
  subst p7
  subst p10
  intro p e s m args below meth c' H locs A ls C S h
  obtain ⟨sa, hsa⟩ := S.2.2.2.2.2.1 _ htx
  refine vx_throwN C.1 C.2.1 C.2.2.2.2.2.2.2.1 C.2.2.2.2.1 (C.2.2.2.2.2.1 _ hk) (C.2.2.2.2.2.1 _ hini) hsa ?_ hgood S.2.2.2.1.1 S.2.2.2.1.2 S.2.1 (h.1.trans C.2.2.2.1.symm) d0 d3 d4 d7 d10 ?_ (by show 5 < d; omega) (by show _ + 82 ≤ 64 * d; omega) (by show u + 1 ≤ c; omega) (by show 8 * u + 6 ≤ 8 * c; omega) C.2.2.2.2.2.2.1 (fun t _ h1 h2 => rj_left S h1 h2 k) S.2.1.2.2 (by show u + 1 ≤ c; omega) (by show 8 * u + 6 ≤ 8 * c; omega)
  · exact vx_hat (B := Cond.castable "java/util/NoSuchElementException" "java/util/NoSuchElementException" :: rj_dc.map Cond.declares) (fun w hw => C.2.2.2.2.2.1 w (hat w hw)) hbad (vx_c (va_Nw.use rfl (S.2.2.2.2.2.2.1 _ hca)) (fun w hw => by
      obtain ⟨x, hx, rfl⟩ := List.mem_map.mp hw
      exact va_Nw.use rfl (S.2.2.2.2.2.2.2.2.1 x hx)))
  · intro x hx
    rw [C.2.2.2.2.2.2.2.2] at hx
    exact absurd hx List.not_mem_nil
end rjThrowN
