theorem hSX12_proofNow : yX12_proofNow.cls ≠ "java/lang/invoke/MethodHandle" ∧ yX12_proofNow.cls ≠ "java/lang/invoke/VarHandle" ∧ (parseMethodDescriptor yX12_proofNow.desc).map (fun d => d.parameters.length) = some 0 := by decide +kernel
theorem hVX12_proofNow : yX12_proofNow.cls = RX12 ∧ yX12_proofNow.cls ≠ "java/lang/invoke/MethodHandle" ∧ yX12_proofNow.cls ≠ "java/lang/invoke/VarHandle" ∧ (parseMethodDescriptor yX12_proofNow.desc).map (fun d => d.parameters.length) = some 0 := by decide +kernel
theorem vX12_proofNow_12 : ∀ w ∈ u_ws RX12 TX12 16, w ∈ wsX12_proofNow := by decide +kernel
theorem kX12_proofNow_124 : Cond.fieldLink RX12 124 (TX12 5).1 (TX12 5).2.1 (TX12 5).2.2.1 ∈ wsX12_proofNow := by decide +kernel
theorem kX12_proofNow_127 : Cond.fieldLink RX12 127 (TX12 4).1 (TX12 4).2.1 (TX12 4).2.2.1 ∈ wsX12_proofNow := by decide +kernel
noncomputable def fX12_proofNow (μ : rj_M) : Int32 := ((mX12_triesProofs rz25 (rj_pi μ 395 5 (-1)) 0 (-1) 0 0).1 395 4)
noncomputable def mX12_proofNow (μ : rj_M) : rj_M := (mX12_triesProofs rz25 (rj_pi μ 395 5 (-1)) 0 (-1) 0 0)
noncomputable def qX12_proofNow (μ : rj_M) : Prop := (qX12_triesProofs rz25 (rj_pi μ 395 5 (-1)) 0 (-1) 0 0 ∧ True)
set_option maxHeartbeats 40000000 in
set_option maxRecDepth 100000 in
theorem sX12_proofNow {g : rj_G} {ω : rj_W} (hω : rj_ok ω) (μ : rj_M)   (hq : qX12_proofNow μ) : rj_Sp g yX12_proofNow wsX12_proofNow (rj_rm 27 0) [.ref (ω.2.2 395)] ω μ (rj_D (.inl (some (.int (fX12_proofNow μ)))) ω (mX12_proofNow μ)) := by
  have hqa := hq
  unfold qX12_proofNow at hqa
  refine rj_of' (cc := cX12_proofNow) (nL := 1) (ret := (some .int)) (own := RX12) (l0 := [(0, .ref (ω.2.2 395))]) rfl (by decide +kernel) rfl (Nat.le_of_ble_eq_true rfl) rfl ?_
  refine rj_aload_n 0 dX12_proofNow_0 rfl rfl ?_
  refine rj_iconst (v := (-1)) dX12_proofNow_1 rfl (by decide) ?_
  refine rj_putI (C0 := RX12) (T := TX12) (N := 16) (j := 5) dX12_proofNow_2 rfl vX12_proofNow_12 rfl (rj_lt hω (k := 395) rfl) (rj_sh hω ly_395) (by decide) kX12_proofNow_124 tyX12 tyX12_ok nmX12 rfl rfl rfl rfl ?_
  refine rj_aload_n 0 dX12_proofNow_5 rfl rfl ?_
  refine rj_iconst (v := 0) dX12_proofNow_6 rfl (by decide) ?_
  refine rj_iconst (v := (-1)) dX12_proofNow_7 rfl (by decide) ?_
  refine rj_iconst (v := 0) dX12_proofNow_8 rfl (by decide) ?_
  refine rj_iconst (v := 0) dX12_proofNow_9 rfl (by decide) ?_
  refine rj_cV (rest := []) (sX12_triesProofsF (g := g) (ω := ω) hω (rj_pi μ 395 5 (-1)) 0 (-1) 0 0  (vp_in_nI (n := 0) (rj_bl rfl) (rj_bl rfl)) (And.left hqa)) gX12_proofNow_X12_triesProofs (rj_lt hω (k := 395) rfl) (rj_sh hω ly_395) rfl rfl hVX12_triesProofs ⟨Nat.le_of_ble_eq_true rfl, Nat.le_of_ble_eq_true rfl⟩ dX12_proofNow_10 rfl rfl rfl (Nat.le_of_ble_eq_true rfl) rfl (Nat.le_of_ble_eq_true rfl) rfl ?_
  refine rj_aload_n 0 dX12_proofNow_13 rfl rfl ?_
  refine rj_getI (C0 := RX12) (T := TX12) (N := 16) (j := 4) dX12_proofNow_14 rfl vX12_proofNow_12 rfl (rj_lt hω (k := 395) rfl) (rj_sh hω ly_395) (by decide) kX12_proofNow_127 rfl ?_
  exact rj_iret dX12_proofNow_17 rfl (Nat.le_of_ble_eq_true rfl) (Nat.le_of_ble_eq_true rfl) ⟨(by unfold fX12_proofNow; rfl), rfl, (by unfold mX12_proofNow; rfl)⟩
theorem hSX12_proof : yX12_proof.cls ≠ "java/lang/invoke/MethodHandle" ∧ yX12_proof.cls ≠ "java/lang/invoke/VarHandle" ∧ (parseMethodDescriptor yX12_proof.desc).map (fun d => d.parameters.length) = some 0 := by decide +kernel
theorem hVX12_proof : yX12_proof.cls = RX12 ∧ yX12_proof.cls ≠ "java/lang/invoke/MethodHandle" ∧ yX12_proof.cls ≠ "java/lang/invoke/VarHandle" ∧ (parseMethodDescriptor yX12_proof.desc).map (fun d => d.parameters.length) = some 0 := by decide +kernel
theorem vX12_proof_12 : ∀ w ∈ u_ws RX12 TX12 16, w ∈ wsX12_proof := by decide +kernel
theorem kX12_proof_39 : Cond.fieldLink RX12 39 (TX12 0).1 (TX12 0).2.1 (TX12 0).2.2.1 ∈ wsX12_proof := by decide +kernel
noncomputable def fX12_proof (μ : rj_M) : Int32 := (fX12_proofNow (rj_pi μ 395 0 0))
noncomputable def mX12_proof (μ : rj_M) : rj_M := (mX12_proofNow (rj_pi μ 395 0 0))
noncomputable def qX12_proof (μ : rj_M) : Prop := (qX12_proofNow (rj_pi μ 395 0 0) ∧ True)
set_option maxHeartbeats 40000000 in
set_option maxRecDepth 100000 in
theorem sX12_proof {g : rj_G} {ω : rj_W} (hω : rj_ok ω) (μ : rj_M)   (hq : qX12_proof μ) : rj_Sp g yX12_proof wsX12_proof (rj_rm 28 0) [.ref (ω.2.2 395)] ω μ (rj_D (.inl (some (.int (fX12_proof μ)))) ω (mX12_proof μ)) := by
  have hqa := hq
  unfold qX12_proof at hqa
  refine rj_of' (cc := cX12_proof) (nL := 1) (ret := (some .int)) (own := RX12) (l0 := [(0, .ref (ω.2.2 395))]) rfl (by decide +kernel) rfl (Nat.le_of_ble_eq_true rfl) rfl ?_
  refine rj_aload_n 0 dX12_proof_0 rfl rfl ?_
  refine rj_iconst (v := 0) dX12_proof_1 rfl (by decide) ?_
  refine rj_putI (C0 := RX12) (T := TX12) (N := 16) (j := 0) dX12_proof_2 rfl vX12_proof_12 rfl (rj_lt hω (k := 395) rfl) (rj_sh hω ly_395) (by decide) kX12_proof_39 tyX12 tyX12_ok nmX12 rfl rfl rfl rfl ?_
  refine rj_aload_n 0 dX12_proof_5 rfl rfl ?_
  refine rj_cV (rest := []) (sX12_proofNow (g := g) (ω := ω) hω (rj_pi μ 395 0 0)   (And.left hqa)) gX12_proof_X12_proofNow (rj_lt hω (k := 395) rfl) (rj_sh hω ly_395) rfl rfl hVX12_proofNow ⟨Nat.le_of_ble_eq_true rfl, Nat.le_of_ble_eq_true rfl⟩ dX12_proof_6 rfl rfl rfl (Nat.le_of_ble_eq_true rfl) rfl (Nat.le_of_ble_eq_true rfl) rfl ?_
  exact rj_iret dX12_proof_9 rfl (Nat.le_of_ble_eq_true rfl) (Nat.le_of_ble_eq_true rfl) ⟨(by unfold fX12_proof; rfl), rfl, (by unfold mX12_proof; rfl)⟩
