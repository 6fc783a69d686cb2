/-! A BODY OF A CLASS WITHOUT ROWS OF ITS OWN (Math) -/
theorem vx_ofWF {l : Launch} {y : MethodName} {ws ws' : List Cond} {rm : Room} {Pc : Array Value → State → Prop} {Qc : Array Value → State → Outcome → State → Prop} {XC : String → State → State → Prop} {mc ms : Nat} {free : Addr → Prop} {cc : ByteArray} {maxL : Nat} {ret : Option FieldType}
    (hy : plainFor y = true) (hw : ws = Cond.code y cc maxL ret :: ws')
    (body : ∀ p e s m args below meth c s₁, BodyLoose p l y (headSpec ws rm) cc maxL ret e s m args below meth c s₁ → c.maxLocals = maxL → (∀ x ∈ c.exceptionTable.toList, False) → Pc args s →
      W p l e (headSpec ws rm).room s m args below meth c s.heap [] 0 0 (vx_MQ below Qc XC args s mc ms free) (entryFrame m args maxL)) : vx_Met l y ws rm Pc Qc XC mc ms free := by
  refine MetFree.of_bodySF (code := cc) (maxLocals := maxL) (ret := ret) hy ?_ ?_
  · intro args s m h hn
    obtain ⟨meth, c, h1, h2, h3, h4, h5, h6, -, -⟩ := Cond.code_spec hn (atoms_spec (ws := ws) h _ (by rw [hw]; exact List.mem_cons_self))
    exact ⟨meth, c, h1, h2, h3, h4, h5, h6⟩
  · intro p e s m args below meth c s₁ B hml hP _
    have hh0 : s₁.heap = s.heap := by rw [B.state]; rfl
    have ht : ∀ x ∈ c.exceptionTable.toList, False := by
      obtain ⟨meth9, c9, h1, h2, -, -, -, -, h7, -⟩ := Cond.code_spec B.named (atoms_spec (ws := ws) B.pre _ (by rw [hw]; exact List.mem_cons_self))
      cases Option.some.inj (h1.symm.trans B.method)
      cases Option.some.inj (h2.symm.trans (Stand.of_body B).code)
      intro x hx
      rw [Array.isEmpty_iff.mp h7] at hx
      cases hx
    obtain ⟨t, a1, o, b1, b2, b3⟩ := body p e s m args below meth c s₁ B hml ht hP s₁ hh0 (Stand.of_body B)
    exact ⟨t, o, a1, b1, b2, b3⟩
theorem rj_ofF {g : rj_G} {y : MethodName} {own : String} {cc : ByteArray} {nL : Nat} {ret : Option FieldType} {ws ws' : List Cond} {rm : Room} {av : List Value} {ω : rj_W} {μ : rj_M} {P : rj_P} (hy : plainFor y = true) (hown : y.cls = own) (hw : ws = Cond.code y cc nL ret :: ws') (hn : (lg_sl av).length ≤ nL) (K : rj_R g own cc nL ret ws [] rm (rj_E g rm P) 0 ω μ (lv_args 0 av) 0 []) : rj_Sp g y ws rm av ω μ P := by
  intro hl sz
  refine vx_ofWF (cc := cc) (maxL := nL) (ret := ret) hy hw ?_
  intro p e s m args below meth c s₁ B hml hx hv
  obtain ⟨rfl, hsz, hH, hZ, hN⟩ := hv
  subst hsz
  have hts := atoms_spec (ws := ws) B.pre
  have hlv := lv_entry av (n := nL) hn
  rw [lg_entry_eq]
  exact K p e s m _ below meth c s.heap [] _ _ ⟨B.exec, B.bytes, B.returns, hml, by rw [← hown]; exact findClass_of_methodNamed B.named, hts, B.notSynchronized, hl, List.eq_nil_iff_forall_not_mem.mpr hx⟩ ⟨hH, va_S.rf, fun q h => Or.inr h, hZ, hN⟩ hlv
theorem rj_ofF' {g : rj_G} {y : MethodName} {own : String} {cc : ByteArray} {nL : Nat} {ret : Option FieldType} {ws ws' : List Cond} {rm : Room} {av : List Value} {ω : rj_W} {μ : rj_M} {P : rj_P} {l0 : List (Nat × Value)} (hw : ws = Cond.code y cc nL ret :: ws') (hy : plainFor y = true) (hown : y.cls = own) (hn : (lg_sl av).length ≤ nL) (hl : lv_args 0 av = l0) (K : rj_R g own cc nL ret ws [] rm (rj_E g rm P) 0 ω μ l0 0 []) : rj_Sp g y ws rm av ω μ P := by
  subst hl
  exact rj_ofF hy hown hw hn K
theorem hSJ9_floorMod_7cf53 : yJ9_floorMod_7cf53.cls ≠ "java/lang/invoke/MethodHandle" ∧ yJ9_floorMod_7cf53.cls ≠ "java/lang/invoke/VarHandle" ∧ (parseMethodDescriptor yJ9_floorMod_7cf53.desc).map (fun d => d.parameters.length) = some 2 := by decide +kernel
theorem hVJ9_floorMod_7cf53 : yJ9_floorMod_7cf53.cls = RJ9 ∧ yJ9_floorMod_7cf53.cls ≠ "java/lang/invoke/MethodHandle" ∧ yJ9_floorMod_7cf53.cls ≠ "java/lang/invoke/VarHandle" ∧ (parseMethodDescriptor yJ9_floorMod_7cf53.desc).map (fun d => d.parameters.length) = some 2 := by decide +kernel
def fJ9_floorMod_7cf53 (μ : rj_M) (a0 : Int32) (a1 : Int32) : Int32 := (if 0 ≤ (a0 ^^^ a1) then (a0 - a0 / a1 * a1) else (if (a0 - a0 / a1 * a1) = 0 then (a0 - a0 / a1 * a1) else ((a0 - a0 / a1 * a1) + a1)))
def qJ9_floorMod_7cf53 (μ : rj_M) (a0 : Int32) (a1 : Int32) : Prop := (¬ a1 = 0 ∧ True)
set_option maxHeartbeats 40000000 in
set_option maxRecDepth 100000 in
theorem sJ9_floorMod_7cf53 {g : rj_G} {ω : rj_W} (μ : rj_M) (a0 : Int32) (a1 : Int32)   (hq : qJ9_floorMod_7cf53 μ a0 a1) : rj_Sp g yJ9_floorMod_7cf53 wsJ9_floorMod_7cf53 (rj_rm 0 0) [.int a0, .int a1] ω μ (rj_D (.inl (some (.int (fJ9_floorMod_7cf53 μ a0 a1)))) ω μ) := by
  have hqa := hq
  unfold qJ9_floorMod_7cf53 at hqa
  refine rj_ofF' (cc := cJ9_floorMod_7cf53) (nL := 3) (ret := (some .int)) (own := RJ9) (l0 := [(0, .int a0), (1, .int a1)]) rfl (by decide +kernel) rfl (Nat.le_of_ble_eq_true rfl) rfl ?_
  refine rj_iload_n 0 dJ9_floorMod_7cf53_0 rfl rfl ?_
  refine rj_iload_n 1 dJ9_floorMod_7cf53_1 rfl rfl ?_
  refine rj_irem dJ9_floorMod_7cf53_2 rfl (hqa).1 ?_
  refine rj_istore_n (l' := [(2, .int (a0 - a0 / a1 * a1)), (0, .int a0), (1, .int a1)]) dJ9_floorMod_7cf53_3 rfl (rj_bl rfl) rfl ?_
  refine rj_iload_n 1 dJ9_floorMod_7cf53_4 rfl rfl ?_
  refine rj_iload_n 2 dJ9_floorMod_7cf53_5 rfl rfl ?_
  refine rj_ixor dJ9_floorMod_7cf53_6 rfl ?_
  refine rj_if_ge dJ9_floorMod_7cf53_7 rfl rfl (fun h1 => ?_) (fun h1 => ?_)
  · skip
    refine rj_iload_n 0 dJ9_floorMod_7cf53_18 rfl rfl ?_
    exact rj_iret dJ9_floorMod_7cf53_19 rfl (Nat.le_of_ble_eq_true rfl) (Nat.le_of_ble_eq_true rfl) ⟨(by unfold fJ9_floorMod_7cf53; rw [if_pos h1]; try rfl), rfl, rfl⟩
  · skip
    refine rj_iload_n 0 dJ9_floorMod_7cf53_10 rfl rfl ?_
    refine rj_if_eq dJ9_floorMod_7cf53_11 rfl rfl (fun h2 => ?_) (fun h2 => ?_)
    · skip
      refine rj_iload_n 0 dJ9_floorMod_7cf53_18 rfl rfl ?_
      exact rj_iret dJ9_floorMod_7cf53_19 rfl (Nat.le_of_ble_eq_true rfl) (Nat.le_of_ble_eq_true rfl) ⟨(by unfold fJ9_floorMod_7cf53; rw [if_neg h1]; rw [if_pos h2]; try rfl), rfl, rfl⟩
    · skip
      refine rj_iload_n 0 dJ9_floorMod_7cf53_14 rfl rfl ?_
      refine rj_iload_n 2 dJ9_floorMod_7cf53_15 rfl rfl ?_
      refine rj_iadd dJ9_floorMod_7cf53_16 rfl ?_
      exact rj_iret dJ9_floorMod_7cf53_17 rfl (Nat.le_of_ble_eq_true rfl) (Nat.le_of_ble_eq_true rfl) ⟨(by unfold fJ9_floorMod_7cf53; rw [if_neg h1]; rw [if_neg h2]; try rfl), rfl, rfl⟩
theorem hSX11_undo : yX11_undo.cls ≠ "java/lang/invoke/MethodHandle" ∧ yX11_undo.cls ≠ "java/lang/invoke/VarHandle" ∧ (parseMethodDescriptor yX11_undo.desc).map (fun d => d.parameters.length) = some 0 := by decide +kernel
theorem hVX11_undo : yX11_undo.cls = RX11 ∧ yX11_undo.cls ≠ "java/lang/invoke/MethodHandle" ∧ yX11_undo.cls ≠ "java/lang/invoke/VarHandle" ∧ (parseMethodDescriptor yX11_undo.desc).map (fun d => d.parameters.length) = some 0 := by decide +kernel
theorem vX11_undo_11 : ∀ w ∈ u_ws RX11 TX11 6, w ∈ wsX11_undo := by decide +kernel
theorem kX11_undo_48 : Cond.fieldLink RX11 48 (TX11 5).1 (TX11 5).2.1 (TX11 5).2.2.1 ∈ wsX11_undo := by decide +kernel
theorem kX11_undo_44 : Cond.fieldLink RX11 44 (TX11 4).1 (TX11 4).2.1 (TX11 4).2.2.1 ∈ wsX11_undo := by decide +kernel
theorem kX11_undo_12 : Cond.fieldLink RX11 12 (TX11 0).1 (TX11 0).2.1 (TX11 0).2.2.1 ∈ wsX11_undo := by decide +kernel
theorem kX11_undo_16 : Cond.fieldLink RX11 16 (TX11 1).1 (TX11 1).2.1 (TX11 1).2.2.1 ∈ wsX11_undo := by decide +kernel
theorem kX11_undo_40 : Cond.fieldLink RX11 40 (TX11 3).1 (TX11 3).2.1 (TX11 3).2.2.1 ∈ wsX11_undo := by decide +kernel
theorem xkX11_undo_108 : Cond.classLink RX11 108 "java/lang/IllegalStateException" ∈ wsX11_undo := by decide +kernel
theorem xiX11_undo_108 : Cond.initialized "java/lang/IllegalStateException" ∈ wsX11_undo := by decide +kernel
theorem xaX11_undo_112 : ∀ w ∈ (vx_atS RX11 112 "java/lang/IllegalStateException" rj_exn).filter goodWord, w ∈ wsX11_undo := by decide +kernel
theorem xbX11_undo_112 : ∀ w ∈ (vx_atS RX11 112 "java/lang/IllegalStateException" rj_exn).filter (fun w => !goodWord w), w ∈ Cond.castable "java/lang/IllegalStateException" "java/lang/IllegalStateException" :: rj_dc.map Cond.declares := by decide +kernel
theorem xgX11_undo_112 : ∀ w ∈ Cond.classLink RX11 108 "java/lang/IllegalStateException" :: Cond.initialized "java/lang/IllegalStateException" :: vx_atS RX11 112 "java/lang/IllegalStateException" rj_exn, vx_ot w = true := by decide +kernel
def fX11_undo (μ : rj_M) : Int32 ⊕ String := (if (μ.1 0 5) = 0 then (.inr "java/lang/IllegalStateException") else (.inl ((mX9_forget (rj_pi (mX5_copyFrom (rj_pi μ 0 4 (fJ9_floorMod_7cf53 μ ((μ.1 0 4) - 1) 8)) 1 ((rj_pi μ 0 4 (fJ9_floorMod_7cf53 μ ((μ.1 0 4) - 1) 8)).2.2.2 44 ((rj_pi μ 0 4 (fJ9_floorMod_7cf53 μ ((μ.1 0 4) - 1) 8)).1 0 4).toNatClampNeg - 1)) 0 5 (((mX5_copyFrom (rj_pi μ 0 4 (fJ9_floorMod_7cf53 μ ((μ.1 0 4) - 1) 8)) 1 ((rj_pi μ 0 4 (fJ9_floorMod_7cf53 μ ((μ.1 0 4) - 1) 8)).2.2.2 44 ((rj_pi μ 0 4 (fJ9_floorMod_7cf53 μ ((μ.1 0 4) - 1) 8)).1 0 4).toNatClampNeg - 1)).1 0 5) - 1))).1 0 5)))
def mX11_undo (μ : rj_M) : rj_M := (if (μ.1 0 5) = 0 then μ else (mX9_forget (rj_pi (mX5_copyFrom (rj_pi μ 0 4 (fJ9_floorMod_7cf53 μ ((μ.1 0 4) - 1) 8)) 1 ((rj_pi μ 0 4 (fJ9_floorMod_7cf53 μ ((μ.1 0 4) - 1) 8)).2.2.2 44 ((rj_pi μ 0 4 (fJ9_floorMod_7cf53 μ ((μ.1 0 4) - 1) 8)).1 0 4).toNatClampNeg - 1)) 0 5 (((mX5_copyFrom (rj_pi μ 0 4 (fJ9_floorMod_7cf53 μ ((μ.1 0 4) - 1) 8)) 1 ((rj_pi μ 0 4 (fJ9_floorMod_7cf53 μ ((μ.1 0 4) - 1) 8)).2.2.2 44 ((rj_pi μ 0 4 (fJ9_floorMod_7cf53 μ ((μ.1 0 4) - 1) 8)).1 0 4).toNatClampNeg - 1)).1 0 5) - 1))))
def qX11_undo (μ : rj_M) : Prop := (if (μ.1 0 5) = 0 then True else (qJ9_floorMod_7cf53 μ ((μ.1 0 4) - 1) 8 ∧ rj_prow (rj_pi μ 0 4 (fJ9_floorMod_7cf53 μ ((μ.1 0 4) - 1) 8)) ((rj_pi μ 0 4 (fJ9_floorMod_7cf53 μ ((μ.1 0 4) - 1) 8)).1 0 4) ∧ True))
set_option maxHeartbeats 40000000 in
set_option maxRecDepth 100000 in
theorem sX11_undo {g : rj_G} {ω : rj_W} (hω : rj_ok ω) (μ : rj_M)   (hq : qX11_undo μ) : rj_Sp g yX11_undo wsX11_undo (rj_rm 6 1) [.ref (ω.2.2 0)] ω μ (rj_D (rj_oi (fX11_undo μ)) ω (mX11_undo μ)) := by
  have hqa := hq
  unfold qX11_undo at hqa
  refine rj_of' (cc := cX11_undo) (nL := 1) (ret := (some .int)) (own := RX11) (l0 := [(0, .ref (ω.2.2 0))]) rfl (by decide +kernel) rfl (Nat.le_of_ble_eq_true rfl) rfl ?_
  refine rj_aload_n 0 dX11_undo_0 rfl rfl ?_
  refine rj_getI (C0 := RX11) (T := TX11) (N := 6) (j := 5) dX11_undo_1 rfl vX11_undo_11 rfl (rj_lt hω (k := 0) rfl) (rj_sh hω ly_0) (by decide) kX11_undo_48 rfl ?_
  refine rj_if_ne dX11_undo_4 rfl rfl (fun h1 => ?_) (fun h1 => ?_)
  · have hq1 := hqa; rw [if_neg h1] at hq1
    refine rj_aload_n 0 dX11_undo_18 rfl rfl ?_
    refine rj_aload_n 0 dX11_undo_19 rfl rfl ?_
    refine rj_getI (C0 := RX11) (T := TX11) (N := 6) (j := 4) dX11_undo_20 rfl vX11_undo_11 rfl (rj_lt hω (k := 0) rfl) (rj_sh hω ly_0) (by decide) kX11_undo_44 rfl ?_
    refine rj_iconst (v := 1) dX11_undo_23 rfl (by decide) ?_
    refine rj_isub dX11_undo_24 rfl ?_
    refine rj_bipush (v := 8) dX11_undo_25 rfl (by decide) ?_
    refine rj_cS (rest := [.ref (ω.2.2 0)]) (sJ9_floorMod_7cf53 (g := g) (ω := ω) μ ((μ.1 0 4) - 1) 8   (hq1).1) gX11_undo_J9_floorMod_7cf53 rfl hSJ9_floorMod_7cf53 ⟨Nat.le_of_ble_eq_true rfl, Nat.le_of_ble_eq_true rfl⟩ dX11_undo_27 rfl rfl rfl (Nat.le_of_ble_eq_true rfl) rfl (Nat.le_of_ble_eq_true rfl) rfl ?_
    refine rj_putI (C0 := RX11) (T := TX11) (N := 6) (j := 4) dX11_undo_30 rfl vX11_undo_11 rfl (rj_lt hω (k := 0) rfl) (rj_sh hω ly_0) (by decide) kX11_undo_44 tyX11 tyX11_ok nmX11 rfl rfl rfl rfl ?_
    refine rj_aload_n 0 dX11_undo_33 rfl rfl ?_
    refine rj_getR (C0 := RX11) (T := TX11) (N := 6) (j := 0) (r := 1) dX11_undo_34 rfl vX11_undo_11 rfl (rj_lt hω (k := 0) rfl) (rj_sh hω ly_0) (by decide) kX11_undo_12 rfl ?_
    refine rj_aload_n 0 dX11_undo_37 rfl rfl ?_
    refine rj_getR (C0 := RX11) (T := TX11) (N := 6) (j := 1) (r := 44) dX11_undo_38 rfl vX11_undo_11 rfl (rj_lt hω (k := 0) rfl) (rj_sh hω ly_0) (by decide) kX11_undo_16 rfl ?_
    refine rj_aload_n 0 dX11_undo_41 rfl rfl ?_
    refine rj_getI (C0 := RX11) (T := TX11) (N := 6) (j := 4) dX11_undo_42 rfl vX11_undo_11 rfl (rj_lt hω (k := 0) rfl) (rj_sh hω ly_0) (by decide) kX11_undo_44 rfl ?_
    have hrow2 := ((hq1).2).1
    refine rj_qaldP dX11_undo_45 rfl (rj_lt hω (k := 44) rfl) (rj_sh hω ly_44) rfl hrow2 ?_
    refine rj_cV (rest := []) (sX5_copyFrom (g := g) (ω := ω) (rj_pi μ 0 4 (fJ9_floorMod_7cf53 μ ((μ.1 0 4) - 1) 8)) 1 ((rj_pi μ 0 4 (fJ9_floorMod_7cf53 μ ((μ.1 0 4) - 1) 8)).2.2.2 44 ((rj_pi μ 0 4 (fJ9_floorMod_7cf53 μ ((μ.1 0 4) - 1) 8)).1 0 4).toNatClampNeg - 1)  (rj_base1 hω) (rj_baseP hω hrow2) ) gX11_undo_X5_copyFrom (rj_lt hω (k := 1) rfl) (rj_sh hω ly_1) rfl rfl hVX5_copyFrom ⟨Nat.le_of_ble_eq_true rfl, Nat.le_of_ble_eq_true rfl⟩ dX11_undo_46 rfl rfl rfl (Nat.le_of_ble_eq_true rfl) rfl (Nat.le_of_ble_eq_true rfl) rfl ?_
    refine rj_aload_n 0 dX11_undo_49 rfl rfl ?_
    refine rj_dup dX11_undo_50 rfl rfl ?_
    refine rj_getI (C0 := RX11) (T := TX11) (N := 6) (j := 5) dX11_undo_51 rfl vX11_undo_11 rfl (rj_lt hω (k := 0) rfl) (rj_sh hω ly_0) (by decide) kX11_undo_48 rfl ?_
    refine rj_iconst (v := 1) dX11_undo_54 rfl (by decide) ?_
    refine rj_isub dX11_undo_55 rfl ?_
    refine rj_putI (C0 := RX11) (T := TX11) (N := 6) (j := 5) dX11_undo_56 rfl vX11_undo_11 rfl (rj_lt hω (k := 0) rfl) (rj_sh hω ly_0) (by decide) kX11_undo_48 tyX11 tyX11_ok nmX11 rfl rfl rfl rfl ?_
    refine rj_aload_n 0 dX11_undo_59 rfl rfl ?_
    refine rj_getR (C0 := RX11) (T := TX11) (N := 6) (j := 3) (r := 47) dX11_undo_60 rfl vX11_undo_11 rfl (rj_lt hω (k := 0) rfl) (rj_sh hω ly_0) (by decide) kX11_undo_40 rfl ?_
    refine rj_cV (rest := []) (sX9_forget (g := g) (ω := ω) hω (rj_pi (mX5_copyFrom (rj_pi μ 0 4 (fJ9_floorMod_7cf53 μ ((μ.1 0 4) - 1) 8)) 1 ((rj_pi μ 0 4 (fJ9_floorMod_7cf53 μ ((μ.1 0 4) - 1) 8)).2.2.2 44 ((rj_pi μ 0 4 (fJ9_floorMod_7cf53 μ ((μ.1 0 4) - 1) 8)).1 0 4).toNatClampNeg - 1)) 0 5 (((mX5_copyFrom (rj_pi μ 0 4 (fJ9_floorMod_7cf53 μ ((μ.1 0 4) - 1) 8)) 1 ((rj_pi μ 0 4 (fJ9_floorMod_7cf53 μ ((μ.1 0 4) - 1) 8)).2.2.2 44 ((rj_pi μ 0 4 (fJ9_floorMod_7cf53 μ ((μ.1 0 4) - 1) 8)).1 0 4).toNatClampNeg - 1)).1 0 5) - 1))   ) gX11_undo_X9_forget (rj_lt hω (k := 47) rfl) (rj_sh hω ly_47) rfl rfl hVX9_forget ⟨Nat.le_of_ble_eq_true rfl, Nat.le_of_ble_eq_true rfl⟩ dX11_undo_63 rfl rfl rfl (Nat.le_of_ble_eq_true rfl) rfl (Nat.le_of_ble_eq_true rfl) rfl ?_
    refine rj_aload_n 0 dX11_undo_66 rfl rfl ?_
    refine rj_getI (C0 := RX11) (T := TX11) (N := 6) (j := 5) dX11_undo_67 rfl vX11_undo_11 rfl (rj_lt hω (k := 0) rfl) (rj_sh hω ly_0) (by decide) kX11_undo_48 rfl ?_
    exact rj_iret dX11_undo_70 rfl (Nat.le_of_ble_eq_true rfl) (Nat.le_of_ble_eq_true rfl) ⟨(by unfold fX11_undo; rw [if_neg h1]; try rfl), rfl, (by unfold mX11_undo; rw [if_neg h1]; try rfl)⟩
  · have hq3 := hqa; rw [if_pos h1] at hq3
    exact rj_throwW (cls := "java/lang/IllegalStateException") (text := "no change can be undone") dX11_undo_7 rfl dX11_undo_10 rfl dX11_undo_11 rfl dX11_undo_14 rfl dX11_undo_17 (by decide +kernel) xkX11_undo_108 xiX11_undo_108 (by decide +kernel) xaX11_undo_112 xbX11_undo_112 (by decide) xgX11_undo_112 (Nat.le_of_ble_eq_true rfl) (Nat.le_of_ble_eq_true rfl) (Nat.le_of_ble_eq_true rfl) ⟨(by unfold fX11_undo; rw [if_pos h1]; try rfl), rfl, (by unfold mX11_undo; rw [if_pos h1]; try rfl)⟩
