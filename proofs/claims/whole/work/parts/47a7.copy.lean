theorem hSX11_saveMoment : yX11_saveMoment.cls ≠ "java/lang/invoke/MethodHandle" ∧ yX11_saveMoment.cls ≠ "java/lang/invoke/VarHandle" ∧ (parseMethodDescriptor yX11_saveMoment.desc).map (fun d => d.parameters.length) = some 0 := by decide +kernel
theorem hVX11_saveMoment : yX11_saveMoment.cls = RX11 ∧ yX11_saveMoment.cls ≠ "java/lang/invoke/MethodHandle" ∧ yX11_saveMoment.cls ≠ "java/lang/invoke/VarHandle" ∧ (parseMethodDescriptor yX11_saveMoment.desc).map (fun d => d.parameters.length) = some 0 := by decide +kernel
theorem vX11_saveMoment_11 : ∀ w ∈ u_ws RX11 TX11 6, w ∈ wsX11_saveMoment := by decide +kernel
theorem kX11_saveMoment_16 : Cond.fieldLink RX11 16 (TX11 1).1 (TX11 1).2.1 (TX11 1).2.2.1 ∈ wsX11_saveMoment := by decide +kernel
theorem kX11_saveMoment_44 : Cond.fieldLink RX11 44 (TX11 4).1 (TX11 4).2.1 (TX11 4).2.2.1 ∈ wsX11_saveMoment := by decide +kernel
theorem kX11_saveMoment_12 : Cond.fieldLink RX11 12 (TX11 0).1 (TX11 0).2.1 (TX11 0).2.2.1 ∈ wsX11_saveMoment := by decide +kernel
theorem kX11_saveMoment_48 : Cond.fieldLink RX11 48 (TX11 5).1 (TX11 5).2.1 (TX11 5).2.2.1 ∈ wsX11_saveMoment := by decide +kernel
theorem jX11_saveMoment_433_0 : Cond.methodLink RX11 433 Lib.Math.min.name ∈ wsX11_saveMoment := by decide +kernel
theorem jX11_saveMoment_433_1 : Cond.static Lib.Math.min.name ∈ wsX11_saveMoment := by decide +kernel
theorem jX11_saveMoment_433_2 : Cond.initialized "java/lang/Math" ∈ wsX11_saveMoment := by decide +kernel
theorem jX11_saveMoment_433_3 : Cond.code Lib.Math.min.name Lib.Math.min.code 2 (some .int) ∈ wsX11_saveMoment := by decide +kernel
def mX11_saveMoment (μ : rj_M) : rj_M := (rj_pi (rj_pi (mX5_copyFrom μ (μ.2.2.2 44 (μ.1 0 4).toNatClampNeg - 1) 1) 0 4 ((((mX5_copyFrom μ (μ.2.2.2 44 (μ.1 0 4).toNatClampNeg - 1) 1).1 0 4) + 1) - (((mX5_copyFrom μ (μ.2.2.2 44 (μ.1 0 4).toNatClampNeg - 1) 1).1 0 4) + 1) / 8 * 8)) 0 5 (if 8 < (((rj_pi (mX5_copyFrom μ (μ.2.2.2 44 (μ.1 0 4).toNatClampNeg - 1) 1) 0 4 ((((mX5_copyFrom μ (μ.2.2.2 44 (μ.1 0 4).toNatClampNeg - 1) 1).1 0 4) + 1) - (((mX5_copyFrom μ (μ.2.2.2 44 (μ.1 0 4).toNatClampNeg - 1) 1).1 0 4) + 1) / 8 * 8)).1 0 5) + 1) then 8 else (((rj_pi (mX5_copyFrom μ (μ.2.2.2 44 (μ.1 0 4).toNatClampNeg - 1) 1) 0 4 ((((mX5_copyFrom μ (μ.2.2.2 44 (μ.1 0 4).toNatClampNeg - 1) 1).1 0 4) + 1) - (((mX5_copyFrom μ (μ.2.2.2 44 (μ.1 0 4).toNatClampNeg - 1) 1).1 0 4) + 1) / 8 * 8)).1 0 5) + 1)))
def qX11_saveMoment (μ : rj_M) : Prop := (rj_prow μ (μ.1 0 4) ∧ True)
set_option maxHeartbeats 40000000 in
set_option maxRecDepth 100000 in
theorem sX11_saveMoment {g : rj_G} {ω : rj_W} (hω : rj_ok ω) (μ : rj_M)   (hq : qX11_saveMoment μ) : rj_Sp g yX11_saveMoment wsX11_saveMoment (rj_rm 4 0) [.ref (ω.2.2 0)] ω μ (rj_D (.inl none) ω (mX11_saveMoment μ)) := by
  have hqa := hq
  unfold qX11_saveMoment at hqa
  refine rj_of' (cc := cX11_saveMoment) (nL := 1) (ret := none) (own := RX11) (l0 := [(0, .ref (ω.2.2 0))]) rfl (by decide +kernel) rfl (Nat.le_of_ble_eq_true rfl) rfl ?_
  refine rj_aload_n 0 dX11_saveMoment_0 rfl rfl ?_
  refine rj_getR (C0 := RX11) (T := TX11) (N := 6) (j := 1) (r := 44) dX11_saveMoment_1 rfl vX11_saveMoment_11 rfl (rj_lt hω (k := 0) rfl) (rj_sh hω ly_0) (by decide) kX11_saveMoment_16 rfl ?_
  refine rj_aload_n 0 dX11_saveMoment_4 rfl rfl ?_
  refine rj_getI (C0 := RX11) (T := TX11) (N := 6) (j := 4) dX11_saveMoment_5 rfl vX11_saveMoment_11 rfl (rj_lt hω (k := 0) rfl) (rj_sh hω ly_0) (by decide) kX11_saveMoment_44 rfl ?_
  have hrow1 := (hqa).1
  refine rj_qaldP dX11_saveMoment_8 rfl (rj_lt hω (k := 44) rfl) (rj_sh hω ly_44) rfl hrow1 ?_
  refine rj_aload_n 0 dX11_saveMoment_9 rfl rfl ?_
  refine rj_getR (C0 := RX11) (T := TX11) (N := 6) (j := 0) (r := 1) dX11_saveMoment_10 rfl vX11_saveMoment_11 rfl (rj_lt hω (k := 0) rfl) (rj_sh hω ly_0) (by decide) kX11_saveMoment_12 rfl ?_
  refine rj_cV (rest := []) (sX5_copyFrom (g := g) (ω := ω) μ (μ.2.2.2 44 (μ.1 0 4).toNatClampNeg - 1) 1  (rj_baseP hω hrow1) (rj_base1 hω) ) gX11_saveMoment_X5_copyFrom ((rj_baseP hω hrow1).lt (o := 0) rfl) ((rj_baseP hω hrow1).sh (o := 0) rfl (lm_0 _)) rfl rfl hVX5_copyFrom ⟨Nat.le_of_ble_eq_true rfl, Nat.le_of_ble_eq_true rfl⟩ dX11_saveMoment_13 rfl rfl rfl (Nat.le_of_ble_eq_true rfl) rfl (Nat.le_of_ble_eq_true rfl) rfl ?_
  refine rj_aload_n 0 dX11_saveMoment_16 rfl rfl ?_
  refine rj_aload_n 0 dX11_saveMoment_17 rfl rfl ?_
  refine rj_getI (C0 := RX11) (T := TX11) (N := 6) (j := 4) dX11_saveMoment_18 rfl vX11_saveMoment_11 rfl (rj_lt hω (k := 0) rfl) (rj_sh hω ly_0) (by decide) kX11_saveMoment_44 rfl ?_
  refine rj_iconst (v := 1) dX11_saveMoment_21 rfl (by decide) ?_
  refine rj_iadd dX11_saveMoment_22 rfl ?_
  refine rj_bipush (v := 8) dX11_saveMoment_23 rfl (by decide) ?_
  refine rj_irem dX11_saveMoment_25 rfl (by decide) ?_
  refine rj_putI (C0 := RX11) (T := TX11) (N := 6) (j := 4) dX11_saveMoment_26 rfl vX11_saveMoment_11 rfl (rj_lt hω (k := 0) rfl) (rj_sh hω ly_0) (by decide) kX11_saveMoment_44 tyX11 tyX11_ok nmX11 rfl rfl rfl rfl ?_
  refine rj_aload_n 0 dX11_saveMoment_29 rfl rfl ?_
  refine rj_aload_n 0 dX11_saveMoment_30 rfl rfl ?_
  refine rj_getI (C0 := RX11) (T := TX11) (N := 6) (j := 5) dX11_saveMoment_31 rfl vX11_saveMoment_11 rfl (rj_lt hω (k := 0) rfl) (rj_sh hω ly_0) (by decide) kX11_saveMoment_48 rfl ?_
  refine rj_iconst (v := 1) dX11_saveMoment_34 rfl (by decide) ?_
  refine rj_iadd dX11_saveMoment_35 rfl ?_
  refine rj_bipush (v := 8) dX11_saveMoment_36 rfl (by decide) ?_
  refine rj_mmin dX11_saveMoment_38 rfl jX11_saveMoment_433_0 jX11_saveMoment_433_1 jX11_saveMoment_433_2 jX11_saveMoment_433_3 (Nat.le_of_ble_eq_true rfl) (Nat.le_of_ble_eq_true rfl) (Nat.le_of_ble_eq_true rfl) (Nat.le_of_ble_eq_true rfl) ?_
  refine rj_putI (C0 := RX11) (T := TX11) (N := 6) (j := 5) dX11_saveMoment_41 rfl vX11_saveMoment_11 rfl (rj_lt hω (k := 0) rfl) (rj_sh hω ly_0) (by decide) kX11_saveMoment_48 tyX11 tyX11_ok nmX11 rfl rfl rfl rfl ?_
  exact rj_vret dX11_saveMoment_44 rfl (Nat.le_of_ble_eq_true rfl) (Nat.le_of_ble_eq_true rfl) ⟨rfl, rfl, (by unfold mX11_saveMoment; rfl)⟩
theorem hSX11_beginChange : yX11_beginChange.cls ≠ "java/lang/invoke/MethodHandle" ∧ yX11_beginChange.cls ≠ "java/lang/invoke/VarHandle" ∧ (parseMethodDescriptor yX11_beginChange.desc).map (fun d => d.parameters.length) = some 0 := by decide +kernel
theorem hVX11_beginChange : yX11_beginChange.cls = RX11 ∧ yX11_beginChange.cls ≠ "java/lang/invoke/MethodHandle" ∧ yX11_beginChange.cls ≠ "java/lang/invoke/VarHandle" ∧ (parseMethodDescriptor yX11_beginChange.desc).map (fun d => d.parameters.length) = some 0 := by decide +kernel
theorem vX11_beginChange_11 : ∀ w ∈ u_ws RX11 TX11 6, w ∈ wsX11_beginChange := by decide +kernel
theorem kX11_beginChange_40 : Cond.fieldLink RX11 40 (TX11 3).1 (TX11 3).2.1 (TX11 3).2.2.1 ∈ wsX11_beginChange := by decide +kernel
def mX11_beginChange (μ : rj_M) : rj_M := (mX9_forget (mX11_saveMoment μ))
def qX11_beginChange (μ : rj_M) : Prop := (qX11_saveMoment μ ∧ True)
set_option maxHeartbeats 40000000 in
set_option maxRecDepth 100000 in
theorem sX11_beginChange {g : rj_G} {ω : rj_W} (hω : rj_ok ω) (μ : rj_M)   (hq : qX11_beginChange μ) : rj_Sp g yX11_beginChange wsX11_beginChange (rj_rm 5 0) [.ref (ω.2.2 0)] ω μ (rj_D (.inl none) ω (mX11_beginChange μ)) := by
  have hqa := hq
  unfold qX11_beginChange at hqa
  refine rj_of' (cc := cX11_beginChange) (nL := 1) (ret := none) (own := RX11) (l0 := [(0, .ref (ω.2.2 0))]) rfl (by decide +kernel) rfl (Nat.le_of_ble_eq_true rfl) rfl ?_
  refine rj_aload_n 0 dX11_beginChange_0 rfl rfl ?_
  refine rj_cV (rest := []) (sX11_saveMoment (g := g) (ω := ω) hω μ   (hqa).1) gX11_beginChange_X11_saveMoment (rj_lt hω (k := 0) rfl) (rj_sh hω ly_0) rfl rfl hVX11_saveMoment ⟨Nat.le_of_ble_eq_true rfl, Nat.le_of_ble_eq_true rfl⟩ dX11_beginChange_1 rfl rfl rfl (Nat.le_of_ble_eq_true rfl) rfl (Nat.le_of_ble_eq_true rfl) rfl ?_
  refine rj_aload_n 0 dX11_beginChange_4 rfl rfl ?_
  refine rj_getR (C0 := RX11) (T := TX11) (N := 6) (j := 3) (r := 47) dX11_beginChange_5 rfl vX11_beginChange_11 rfl (rj_lt hω (k := 0) rfl) (rj_sh hω ly_0) (by decide) kX11_beginChange_40 rfl ?_
  refine rj_cV (rest := []) (sX9_forget (g := g) (ω := ω) hω (mX11_saveMoment μ)   ) gX11_beginChange_X9_forget (rj_lt hω (k := 47) rfl) (rj_sh hω ly_47) rfl rfl hVX9_forget ⟨Nat.le_of_ble_eq_true rfl, Nat.le_of_ble_eq_true rfl⟩ dX11_beginChange_8 rfl rfl rfl (Nat.le_of_ble_eq_true rfl) rfl (Nat.le_of_ble_eq_true rfl) rfl ?_
  exact rj_vret dX11_beginChange_11 rfl (Nat.le_of_ble_eq_true rfl) (Nat.le_of_ble_eq_true rfl) ⟨rfl, rfl, (by unfold mX11_beginChange; rfl)⟩
