theorem hSX12_served : yX12_served.cls ≠ "java/lang/invoke/MethodHandle" ∧ yX12_served.cls ≠ "java/lang/invoke/VarHandle" ∧ (parseMethodDescriptor yX12_served.desc).map (fun d => d.parameters.length) = some 0 := by decide +kernel
theorem hVX12_served : yX12_served.cls = RX12 ∧ yX12_served.cls ≠ "java/lang/invoke/MethodHandle" ∧ yX12_served.cls ≠ "java/lang/invoke/VarHandle" ∧ (parseMethodDescriptor yX12_served.desc).map (fun d => d.parameters.length) = some 0 := by decide +kernel
theorem vX12_served_12 : ∀ w ∈ u_ws RX12 TX12 16, w ∈ wsX12_served := by decide +kernel
theorem kX12_served_39 : Cond.fieldLink RX12 39 (TX12 0).1 (TX12 0).2.1 (TX12 0).2.2.1 ∈ wsX12_served := by decide +kernel
theorem kX12_served_9 : Cond.fieldLink RX12 9 (TX12 1).1 (TX12 1).2.1 (TX12 1).2.2.1 ∈ wsX12_served := by decide +kernel
noncomputable def fX12_served (μ : rj_M) : Int32 := ((rj_pi μ 395 0 0).1 396 (386 : Int32).toNatClampNeg)
noncomputable def mX12_served (μ : rj_M) : rj_M := (rj_pi μ 395 0 0)
set_option maxHeartbeats 40000000 in
set_option maxRecDepth 100000 in
theorem sX12_served {g : rj_G} {ω : rj_W} (hω : rj_ok ω) (μ : rj_M)   : rj_Sp g yX12_served wsX12_served (rj_rm 0 0) [.ref (ω.2.2 395)] ω μ (rj_D (.inl (some (.int (fX12_served μ)))) ω (mX12_served μ)) := by
  refine rj_of' (cc := cX12_served) (nL := 1) (ret := (some .int)) (own := RX12) (l0 := [(0, .ref (ω.2.2 395))]) rfl (by decide +kernel) rfl (Nat.le_of_ble_eq_true rfl) rfl ?_
  refine rj_aload_n 0 dX12_served_0 rfl rfl ?_
  refine rj_iconst (v := 0) dX12_served_1 rfl (by decide) ?_
  refine rj_putI (C0 := RX12) (T := TX12) (N := 16) (j := 0) dX12_served_2 rfl vX12_served_12 rfl (rj_lt hω (k := 395) rfl) (rj_sh hω ly_395) (by decide) kX12_served_39 tyX12 tyX12_ok nmX12 rfl rfl rfl rfl ?_
  refine rj_aload_n 0 dX12_served_5 rfl rfl ?_
  refine rj_getR (C0 := RX12) (T := TX12) (N := 16) (j := 1) (r := 396) dX12_served_6 rfl vX12_served_12 rfl (rj_lt hω (k := 395) rfl) (rj_sh hω ly_395) (by decide) kX12_served_9 rfl ?_
  refine rj_sipush (v := 386) dX12_served_9 rfl (by decide) ?_
  refine rj_iald dX12_served_12 rfl (rj_lt hω (k := 396) rfl) (rj_sh hω ly_396) (vp_in_nI (n := 386) (rj_bl rfl) (rj_bl rfl)) ?_
  exact rj_iret dX12_served_13 rfl (Nat.le_of_ble_eq_true rfl) (Nat.le_of_ble_eq_true rfl) ⟨(by unfold fX12_served; rfl), rfl, (by unfold mX12_served; rfl)⟩
