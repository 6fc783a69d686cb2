theorem hSX12_isStage : yX12_isStage.cls ≠ "java/lang/invoke/MethodHandle" ∧ yX12_isStage.cls ≠ "java/lang/invoke/VarHandle" ∧ (parseMethodDescriptor yX12_isStage.desc).map (fun d => d.parameters.length) = some 1 := by decide +kernel
theorem hVX12_isStage : yX12_isStage.cls = RX12 ∧ yX12_isStage.cls ≠ "java/lang/invoke/MethodHandle" ∧ yX12_isStage.cls ≠ "java/lang/invoke/VarHandle" ∧ (parseMethodDescriptor yX12_isStage.desc).map (fun d => d.parameters.length) = some 1 := by decide +kernel
def fX12_isStage (μ : rj_M) (a0 : Int32) : Int32 := (fX12_in μ a0 0 3)
set_option maxHeartbeats 40000000 in
set_option maxRecDepth 100000 in
theorem sX12_isStage {g : rj_G} {ω : rj_W} (hω : rj_ok ω) (μ : rj_M) (a0 : Int32)   : rj_Sp g yX12_isStage wsX12_isStage (rj_rm 1 0) [.int a0] ω μ (rj_D (.inl (some (.int (fX12_isStage μ a0)))) ω μ) := by
  refine rj_of' (cc := cX12_isStage) (nL := 1) (ret := (some .boolean)) (own := RX12) (l0 := [(0, .int a0)]) rfl (by decide +kernel) rfl (Nat.le_of_ble_eq_true rfl) rfl ?_
  refine rj_iload_n 0 dX12_isStage_0 rfl rfl ?_
  refine rj_iconst (v := 0) dX12_isStage_1 rfl (by decide) ?_
  refine rj_iconst (v := 3) dX12_isStage_2 rfl (by decide) ?_
  refine rj_cS (rest := []) (sX12_in (g := g) (ω := ω) hω μ a0 0 3   ) gX12_isStage_X12_in rfl hSX12_in ⟨Nat.le_of_ble_eq_true rfl, Nat.le_of_ble_eq_true rfl⟩ dX12_isStage_3 rfl rfl rfl (Nat.le_of_ble_eq_true rfl) rfl (Nat.le_of_ble_eq_true rfl) rfl ?_
  exact rj_zret dX12_isStage_6 rfl (nX12_in ..) (Nat.le_of_ble_eq_true rfl) (Nat.le_of_ble_eq_true rfl) ⟨(by unfold fX12_isStage; rfl), rfl, rfl⟩
theorem nX12_isStage (μ : rj_M) (a0 : Int32) : narrow .boolean (.int (fX12_isStage μ a0)) = .int (fX12_isStage μ a0) := by
  unfold fX12_isStage
  exact nX12_in ..
theorem hSX12_isDay : yX12_isDay.cls ≠ "java/lang/invoke/MethodHandle" ∧ yX12_isDay.cls ≠ "java/lang/invoke/VarHandle" ∧ (parseMethodDescriptor yX12_isDay.desc).map (fun d => d.parameters.length) = some 1 := by decide +kernel
theorem hVX12_isDay : yX12_isDay.cls = RX12 ∧ yX12_isDay.cls ≠ "java/lang/invoke/MethodHandle" ∧ yX12_isDay.cls ≠ "java/lang/invoke/VarHandle" ∧ (parseMethodDescriptor yX12_isDay.desc).map (fun d => d.parameters.length) = some 1 := by decide +kernel
def fX12_isDay (μ : rj_M) (a0 : Int32) : Int32 := (fX12_in μ a0 0 3)
set_option maxHeartbeats 40000000 in
set_option maxRecDepth 100000 in
theorem sX12_isDay {g : rj_G} {ω : rj_W} (hω : rj_ok ω) (μ : rj_M) (a0 : Int32)   : rj_Sp g yX12_isDay wsX12_isDay (rj_rm 1 0) [.int a0] ω μ (rj_D (.inl (some (.int (fX12_isDay μ a0)))) ω μ) := by
  refine rj_of' (cc := cX12_isDay) (nL := 1) (ret := (some .boolean)) (own := RX12) (l0 := [(0, .int a0)]) rfl (by decide +kernel) rfl (Nat.le_of_ble_eq_true rfl) rfl ?_
  refine rj_iload_n 0 dX12_isDay_0 rfl rfl ?_
  refine rj_iconst (v := 0) dX12_isDay_1 rfl (by decide) ?_
  refine rj_iconst (v := 3) dX12_isDay_2 rfl (by decide) ?_
  refine rj_cS (rest := []) (sX12_in (g := g) (ω := ω) hω μ a0 0 3   ) gX12_isDay_X12_in rfl hSX12_in ⟨Nat.le_of_ble_eq_true rfl, Nat.le_of_ble_eq_true rfl⟩ dX12_isDay_3 rfl rfl rfl (Nat.le_of_ble_eq_true rfl) rfl (Nat.le_of_ble_eq_true rfl) rfl ?_
  exact rj_zret dX12_isDay_6 rfl (nX12_in ..) (Nat.le_of_ble_eq_true rfl) (Nat.le_of_ble_eq_true rfl) ⟨(by unfold fX12_isDay; rfl), rfl, rfl⟩
theorem nX12_isDay (μ : rj_M) (a0 : Int32) : narrow .boolean (.int (fX12_isDay μ a0)) = .int (fX12_isDay μ a0) := by
  unfold fX12_isDay
  exact nX12_in ..
