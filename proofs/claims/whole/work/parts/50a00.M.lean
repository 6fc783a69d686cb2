theorem hSX12_thrown : yX12_thrown.cls ≠ "java/lang/invoke/MethodHandle" ∧ yX12_thrown.cls ≠ "java/lang/invoke/VarHandle" ∧ (parseMethodDescriptor yX12_thrown.desc).map (fun d => d.parameters.length) = some 0 := by decide +kernel
theorem hVX12_thrown : yX12_thrown.cls = RX12 ∧ yX12_thrown.cls ≠ "java/lang/invoke/MethodHandle" ∧ yX12_thrown.cls ≠ "java/lang/invoke/VarHandle" ∧ (parseMethodDescriptor yX12_thrown.desc).map (fun d => d.parameters.length) = some 0 := by decide +kernel
theorem vX12_thrown_12 : ∀ w ∈ u_ws RX12 TX12 16, w ∈ wsX12_thrown := by decide +kernel
theorem kX12_thrown_39 : Cond.fieldLink RX12 39 (TX12 0).1 (TX12 0).2.1 (TX12 0).2.2.1 ∈ wsX12_thrown := by decide +kernel
def fX12_thrown (μ : rj_M) : Int32 := (μ.1 395 0)
set_option maxHeartbeats 40000000 in
set_option maxRecDepth 100000 in
theorem sX12_thrown {g : rj_G} {ω : rj_W} (hω : rj_ok ω) (μ : rj_M)   : rj_Sp g yX12_thrown wsX12_thrown (rj_rm 0 0) [.ref (ω.2.2 395)] ω μ (rj_D (.inl (some (.int (fX12_thrown μ)))) ω μ) := by
  refine rj_of' (cc := cX12_thrown) (nL := 1) (ret := (some .int)) (own := RX12) (l0 := [(0, .ref (ω.2.2 395))]) rfl (by decide +kernel) rfl (Nat.le_of_ble_eq_true rfl) rfl ?_
  refine rj_aload_n 0 dX12_thrown_0 rfl rfl ?_
  refine rj_getI (C0 := RX12) (T := TX12) (N := 16) (j := 0) dX12_thrown_1 rfl vX12_thrown_12 rfl (rj_lt hω (k := 395) rfl) (rj_sh hω ly_395) (by decide) kX12_thrown_39 rfl ?_
  exact rj_iret dX12_thrown_4 rfl (Nat.le_of_ble_eq_true rfl) (Nat.le_of_ble_eq_true rfl) ⟨(by unfold fX12_thrown; rfl), rfl, rfl⟩
set_option maxHeartbeats 40000000 in
set_option maxRecDepth 100000 in
theorem sX12_noT {g : rj_G} {ω : rj_W} (hω : rj_ok ω) (μ : rj_M) (a1 : Int32)   : rj_Sp g yX12_no wsX12_no (rj_rm 0 0) [.ref (ω.2.2 395), .int 1, .int a1] ω μ (rj_D (.inl (some (.int 0))) ω μ) := by
  refine rj_of' (cc := cX12_no) (nL := 3) (ret := (some .boolean)) (own := RX12) (l0 := [(0, .ref (ω.2.2 395)), (1, .int 1), (2, .int a1)]) rfl (by decide +kernel) rfl (Nat.le_of_ble_eq_true rfl) rfl ?_
  refine rj_iload_n 1 dX12_no_0 rfl rfl ?_
  refine rj_if_ne dX12_no_1 rfl rfl (fun h1 => ?_) (fun h1 => ?_)
  · refine rj_iload_n 1 dX12_no_9 rfl rfl ?_
    refine rj_if_ne dX12_no_10 rfl rfl (fun h2 => ?_) (fun h2 => ?_)
    · refine rj_iconst (v := 0) dX12_no_17 rfl (by decide) ?_
      exact rj_zret dX12_no_18 rfl rfl (Nat.le_of_ble_eq_true rfl) (Nat.le_of_ble_eq_true rfl) ⟨rfl, rfl, rfl⟩
    · exact absurd h2 (by decide)
  · exact absurd h1 (by decide)
