theorem hSX12_waitAt : yX12_waitAt.cls ≠ "java/lang/invoke/MethodHandle" ∧ yX12_waitAt.cls ≠ "java/lang/invoke/VarHandle" ∧ (parseMethodDescriptor yX12_waitAt.desc).map (fun d => d.parameters.length) = some 2 := by decide +kernel
theorem hVX12_waitAt : yX12_waitAt.cls = RX12 ∧ yX12_waitAt.cls ≠ "java/lang/invoke/MethodHandle" ∧ yX12_waitAt.cls ≠ "java/lang/invoke/VarHandle" ∧ (parseMethodDescriptor yX12_waitAt.desc).map (fun d => d.parameters.length) = some 2 := by decide +kernel
theorem vX12_waitAt_12 : ∀ w ∈ u_ws RX12 TX12 16, w ∈ wsX12_waitAt := by decide +kernel
theorem kX12_waitAt_9 : Cond.fieldLink RX12 9 (TX12 1).1 (TX12 1).2.1 (TX12 1).2.2.1 ∈ wsX12_waitAt := by decide +kernel
noncomputable def fX12_waitAt (μ : rj_M) (a0 : Int32) (a1 : Int32) : Int32 := (if a1 = 0 then 0 else ((μ.1 396 (370 + a0).toNatClampNeg) + ((a1 - 1) * (μ.1 396 (330 : Int32).toNatClampNeg))))
set_option maxHeartbeats 40000000 in
set_option maxRecDepth 100000 in
theorem sX12_waitAt {g : rj_G} {ω : rj_W} (hω : rj_ok ω) (μ : rj_M) (a0 : Int32) (a1 : Int32)  (hp_a0 : vp_in a0 3)  : rj_Sp g yX12_waitAt wsX12_waitAt (rj_rm 0 0) [.ref (ω.2.2 395), .int a0, .int a1] ω μ (rj_D (.inl (some (.int (fX12_waitAt μ a0 a1)))) ω μ) := by
  refine rj_of' (cc := cX12_waitAt) (nL := 3) (ret := (some .int)) (own := RX12) (l0 := [(0, .ref (ω.2.2 395)), (1, .int a0), (2, .int a1)]) rfl (by decide +kernel) rfl (Nat.le_of_ble_eq_true rfl) rfl ?_
  refine rj_iload_n 2 dX12_waitAt_0 rfl rfl ?_
  refine rj_if_ne dX12_waitAt_1 rfl rfl (fun h1 => ?_) (fun h1 => ?_)
  · refine rj_aload_n 0 dX12_waitAt_8 rfl rfl ?_
    refine rj_getR (C0 := RX12) (T := TX12) (N := 16) (j := 1) (r := 396) dX12_waitAt_9 rfl vX12_waitAt_12 rfl (rj_lt hω (k := 395) rfl) (rj_sh hω ly_395) (by decide) kX12_waitAt_9 rfl ?_
    refine rj_sipush (v := 370) dX12_waitAt_12 rfl (by decide) ?_
    refine rj_iload_n 1 dX12_waitAt_15 rfl rfl ?_
    refine rj_iadd dX12_waitAt_16 rfl ?_
    refine rj_iald dX12_waitAt_17 rfl (rj_lt hω (k := 396) rfl) (rj_sh hω ly_396) (rj_vle (rj_vadd (N := 373) (vp_in_nI (n := 370) (N := 371) (rj_bl rfl) (rj_bl rfl)) hp_a0 rfl rfl) rfl) ?_
    refine rj_iload_n 2 dX12_waitAt_18 rfl rfl ?_
    refine rj_iconst (v := 1) dX12_waitAt_19 rfl (by decide) ?_
    refine rj_isub dX12_waitAt_20 rfl ?_
    refine rj_aload_n 0 dX12_waitAt_21 rfl rfl ?_
    refine rj_getR (C0 := RX12) (T := TX12) (N := 16) (j := 1) (r := 396) dX12_waitAt_22 rfl vX12_waitAt_12 rfl (rj_lt hω (k := 395) rfl) (rj_sh hω ly_395) (by decide) kX12_waitAt_9 rfl ?_
    refine rj_sipush (v := 330) dX12_waitAt_25 rfl (by decide) ?_
    refine rj_iald dX12_waitAt_28 rfl (rj_lt hω (k := 396) rfl) (rj_sh hω ly_396) (vp_in_nI (n := 330) (rj_bl rfl) (rj_bl rfl)) ?_
    refine rj_imul dX12_waitAt_29 rfl ?_
    refine rj_iadd dX12_waitAt_30 rfl ?_
    exact rj_iret dX12_waitAt_31 rfl (Nat.le_of_ble_eq_true rfl) (Nat.le_of_ble_eq_true rfl) ⟨(by unfold fX12_waitAt; rw [if_neg h1]; try rfl), rfl, rfl⟩
  · refine rj_iconst (v := 0) dX12_waitAt_4 rfl (by decide) ?_
    refine rj_goto dX12_waitAt_5 rfl ?_
    exact rj_iret dX12_waitAt_31 rfl (Nat.le_of_ble_eq_true rfl) (Nat.le_of_ble_eq_true rfl) ⟨(by unfold fX12_waitAt; rw [if_pos h1]; try rfl), rfl, rfl⟩
