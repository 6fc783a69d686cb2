theorem hSX12_setServing : yX12_setServing.cls ≠ "java/lang/invoke/MethodHandle" ∧ yX12_setServing.cls ≠ "java/lang/invoke/VarHandle" ∧ (parseMethodDescriptor yX12_setServing.desc).map (fun d => d.parameters.length) = some 1 := by decide +kernel
theorem hVX12_setServing : yX12_setServing.cls = RX12 ∧ yX12_setServing.cls ≠ "java/lang/invoke/MethodHandle" ∧ yX12_setServing.cls ≠ "java/lang/invoke/VarHandle" ∧ (parseMethodDescriptor yX12_setServing.desc).map (fun d => d.parameters.length) = some 1 := by decide +kernel
noncomputable def fX12_setServing (μ : rj_M) (a0 : Int32) : Int32 := (if (fX12_lacks μ (fX12_in μ a0 1 10)) = 0 then (fX12_sets (mX12_lacks μ (fX12_in μ a0 1 10)) 330 a0) else 0)
noncomputable def mX12_setServing (μ : rj_M) (a0 : Int32) : rj_M := (if (fX12_lacks μ (fX12_in μ a0 1 10)) = 0 then (mX12_sets (mX12_lacks μ (fX12_in μ a0 1 10)) 330 a0) else (mX12_lacks μ (fX12_in μ a0 1 10)))
noncomputable def qX12_setServing (μ : rj_M) (a0 : Int32) : Prop := ((((fX12_lacks μ (fX12_in μ a0 1 10)) = 0) → (qX12_sets (mX12_lacks μ (fX12_in μ a0 1 10)) 330 a0 ∧ True)) ∧ ((¬ ((fX12_lacks μ (fX12_in μ a0 1 10)) = 0)) → True))
set_option maxHeartbeats 40000000 in
set_option maxRecDepth 100000 in
theorem sX12_setServing {g : rj_G} {ω : rj_W} (hω : rj_ok ω) (μ : rj_M) (a0 : Int32)   (hq : qX12_setServing μ a0) : rj_Sp g yX12_setServing wsX12_setServing (rj_rm 3 0) [.ref (ω.2.2 395), .int a0] ω μ (rj_D (.inl (some (.int (fX12_setServing μ a0)))) ω (mX12_setServing μ a0)) := by
  have hqa := hq
  unfold qX12_setServing at hqa
  refine rj_of' (cc := cX12_setServing) (nL := 2) (ret := (some .int)) (own := RX12) (l0 := [(0, .ref (ω.2.2 395)), (1, .int a0)]) rfl (by decide +kernel) rfl (Nat.le_of_ble_eq_true rfl) rfl ?_
  refine rj_aload_n 0 dX12_setServing_0 rfl rfl ?_
  refine rj_iload_n 1 dX12_setServing_1 rfl rfl ?_
  refine rj_iconst (v := 1) dX12_setServing_2 rfl (by decide) ?_
  refine rj_bipush (v := 10) dX12_setServing_3 rfl (by decide) ?_
  refine rj_cS (rest := [.ref (ω.2.2 395)]) (sX12_in (g := g) (ω := ω) hω μ a0 1 10   ) gX12_setServing_X12_in rfl hSX12_in ⟨Nat.le_of_ble_eq_true rfl, Nat.le_of_ble_eq_true rfl⟩ dX12_setServing_5 rfl rfl rfl (Nat.le_of_ble_eq_true rfl) rfl (Nat.le_of_ble_eq_true rfl) rfl ?_
  refine rj_cV (rest := []) (sX12_lacks (g := g) (ω := ω) hω μ (fX12_in μ a0 1 10)   ) gX12_setServing_X12_lacks (rj_lt hω (k := 395) rfl) (rj_sh hω ly_395) rfl rfl hVX12_lacks ⟨Nat.le_of_ble_eq_true rfl, Nat.le_of_ble_eq_true rfl⟩ dX12_setServing_8 rfl rfl rfl (Nat.le_of_ble_eq_true rfl) rfl (Nat.le_of_ble_eq_true rfl) rfl ?_
  refine rj_if_eq dX12_setServing_11 rfl rfl (fun h1 => ?_) (fun h1 => ?_)
  · have hq1 := (And.left hqa) h1
    refine rj_aload_n 0 dX12_setServing_18 rfl rfl ?_
    refine rj_sipush (v := 330) dX12_setServing_19 rfl (by decide) ?_
    refine rj_iload_n 1 dX12_setServing_22 rfl rfl ?_
    refine rj_cV (rest := []) (sX12_sets (g := g) (ω := ω) hω (mX12_lacks μ (fX12_in μ a0 1 10)) 330 a0  (vp_in_nI (n := 330) (rj_bl rfl) (rj_bl rfl)) (And.left hq1)) gX12_setServing_X12_sets (rj_lt hω (k := 395) rfl) (rj_sh hω ly_395) rfl rfl hVX12_sets ⟨Nat.le_of_ble_eq_true rfl, Nat.le_of_ble_eq_true rfl⟩ dX12_setServing_23 rfl rfl rfl (Nat.le_of_ble_eq_true rfl) rfl (Nat.le_of_ble_eq_true rfl) rfl ?_
    exact rj_iret dX12_setServing_26 rfl (Nat.le_of_ble_eq_true rfl) (Nat.le_of_ble_eq_true rfl) ⟨(by unfold fX12_setServing; rw [if_pos h1]; try rfl), rfl, (by unfold mX12_setServing; rw [if_pos h1]; try rfl)⟩
  · skip
    refine rj_iconst (v := 0) dX12_setServing_14 rfl (by decide) ?_
    refine rj_goto dX12_setServing_15 rfl ?_
    exact rj_iret dX12_setServing_26 rfl (Nat.le_of_ble_eq_true rfl) (Nat.le_of_ble_eq_true rfl) ⟨(by unfold fX12_setServing; rw [if_neg h1]; try rfl), rfl, (by unfold mX12_setServing; rw [if_neg h1]; try rfl)⟩
theorem hSX12_lineOf : yX12_lineOf.cls ≠ "java/lang/invoke/MethodHandle" ∧ yX12_lineOf.cls ≠ "java/lang/invoke/VarHandle" ∧ (parseMethodDescriptor yX12_lineOf.desc).map (fun d => d.parameters.length) = some 1 := by decide +kernel
theorem hVX12_lineOf : yX12_lineOf.cls = RX12 ∧ yX12_lineOf.cls ≠ "java/lang/invoke/MethodHandle" ∧ yX12_lineOf.cls ≠ "java/lang/invoke/VarHandle" ∧ (parseMethodDescriptor yX12_lineOf.desc).map (fun d => d.parameters.length) = some 1 := by decide +kernel
theorem vX12_lineOf_12 : ∀ w ∈ u_ws RX12 TX12 16, w ∈ wsX12_lineOf := by decide +kernel
theorem kX12_lineOf_9 : Cond.fieldLink RX12 9 (TX12 1).1 (TX12 1).2.1 (TX12 1).2.2.1 ∈ wsX12_lineOf := by decide +kernel
noncomputable def fX12_lineOf (μ : rj_M) (a0 : Int32) : Int32 := (μ.1 396 (331 + (13 * a0)).toNatClampNeg)
set_option maxHeartbeats 40000000 in
set_option maxRecDepth 100000 in
theorem sX12_lineOf {g : rj_G} {ω : rj_W} (hω : rj_ok ω) (μ : rj_M) (a0 : Int32)  (hp_a0 : vp_in a0 3)  : rj_Sp g yX12_lineOf wsX12_lineOf (rj_rm 0 0) [.ref (ω.2.2 395), .int a0] ω μ (rj_D (.inl (some (.int (fX12_lineOf μ a0)))) ω μ) := by
  refine rj_of' (cc := cX12_lineOf) (nL := 2) (ret := (some .int)) (own := RX12) (l0 := [(0, .ref (ω.2.2 395)), (1, .int a0)]) rfl (by decide +kernel) rfl (Nat.le_of_ble_eq_true rfl) rfl ?_
  refine rj_aload_n 0 dX12_lineOf_0 rfl rfl ?_
  refine rj_getR (C0 := RX12) (T := TX12) (N := 16) (j := 1) (r := 396) dX12_lineOf_1 rfl vX12_lineOf_12 rfl (rj_lt hω (k := 395) rfl) (rj_sh hω ly_395) (by decide) kX12_lineOf_9 rfl ?_
  refine rj_sipush (v := 331) dX12_lineOf_4 rfl (by decide) ?_
  refine rj_bipush (v := 13) dX12_lineOf_7 rfl (by decide) ?_
  refine rj_iload_n 1 dX12_lineOf_9 rfl rfl ?_
  refine rj_imul dX12_lineOf_10 rfl ?_
  refine rj_iadd dX12_lineOf_11 rfl ?_
  refine rj_iald dX12_lineOf_12 rfl (rj_lt hω (k := 396) rfl) (rj_sh hω ly_396) (rj_vle (rj_vadd (N := 358) (vp_in_nI (n := 331) (N := 332) (rj_bl rfl) (rj_bl rfl)) (rj_vmul (k := 13) (N := 27) hp_a0 rfl rfl) rfl rfl) rfl) ?_
  exact rj_iret dX12_lineOf_13 rfl (Nat.le_of_ble_eq_true rfl) (Nat.le_of_ble_eq_true rfl) ⟨(by unfold fX12_lineOf; rfl), rfl, rfl⟩
