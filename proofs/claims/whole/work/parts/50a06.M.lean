theorem hSX12_isHour : yX12_isHour.cls ≠ "java/lang/invoke/MethodHandle" ∧ yX12_isHour.cls ≠ "java/lang/invoke/VarHandle" ∧ (parseMethodDescriptor yX12_isHour.desc).map (fun d => d.parameters.length) = some 1 := by decide +kernel
theorem hVX12_isHour : yX12_isHour.cls = RX12 ∧ yX12_isHour.cls ≠ "java/lang/invoke/MethodHandle" ∧ yX12_isHour.cls ≠ "java/lang/invoke/VarHandle" ∧ (parseMethodDescriptor yX12_isHour.desc).map (fun d => d.parameters.length) = some 1 := by decide +kernel
def fX12_isHour (μ : rj_M) (a0 : Int32) : Int32 := (fX12_in μ a0 0 23)
set_option maxHeartbeats 40000000 in
set_option maxRecDepth 100000 in
theorem sX12_isHour {g : rj_G} {ω : rj_W} (hω : rj_ok ω) (μ : rj_M) (a0 : Int32)   : rj_Sp g yX12_isHour wsX12_isHour (rj_rm 1 0) [.int a0] ω μ (rj_D (.inl (some (.int (fX12_isHour μ a0)))) ω μ) := by
  refine rj_of' (cc := cX12_isHour) (nL := 1) (ret := (some .boolean)) (own := RX12) (l0 := [(0, .int a0)]) rfl (by decide +kernel) rfl (Nat.le_of_ble_eq_true rfl) rfl ?_
  refine rj_iload_n 0 dX12_isHour_0 rfl rfl ?_
  refine rj_iconst (v := 0) dX12_isHour_1 rfl (by decide) ?_
  refine rj_bipush (v := 23) dX12_isHour_2 rfl (by decide) ?_
  refine rj_cS (rest := []) (sX12_in (g := g) (ω := ω) hω μ a0 0 23   ) gX12_isHour_X12_in rfl hSX12_in ⟨Nat.le_of_ble_eq_true rfl, Nat.le_of_ble_eq_true rfl⟩ dX12_isHour_4 rfl rfl rfl (Nat.le_of_ble_eq_true rfl) rfl (Nat.le_of_ble_eq_true rfl) rfl ?_
  exact rj_zret dX12_isHour_7 rfl (nX12_in ..) (Nat.le_of_ble_eq_true rfl) (Nat.le_of_ble_eq_true rfl) ⟨(by unfold fX12_isHour; rfl), rfl, rfl⟩
theorem nX12_isHour (μ : rj_M) (a0 : Int32) : narrow .boolean (.int (fX12_isHour μ a0)) = .int (fX12_isHour μ a0) := by
  unfold fX12_isHour
  exact nX12_in ..
theorem hSX12_isGate : yX12_isGate.cls ≠ "java/lang/invoke/MethodHandle" ∧ yX12_isGate.cls ≠ "java/lang/invoke/VarHandle" ∧ (parseMethodDescriptor yX12_isGate.desc).map (fun d => d.parameters.length) = some 1 := by decide +kernel
theorem hVX12_isGate : yX12_isGate.cls = RX12 ∧ yX12_isGate.cls ≠ "java/lang/invoke/MethodHandle" ∧ yX12_isGate.cls ≠ "java/lang/invoke/VarHandle" ∧ (parseMethodDescriptor yX12_isGate.desc).map (fun d => d.parameters.length) = some 1 := by decide +kernel
def fX12_isGate (μ : rj_M) (a0 : Int32) : Int32 := (fX12_in μ a0 0 2)
set_option maxHeartbeats 40000000 in
set_option maxRecDepth 100000 in
theorem sX12_isGate {g : rj_G} {ω : rj_W} (hω : rj_ok ω) (μ : rj_M) (a0 : Int32)   : rj_Sp g yX12_isGate wsX12_isGate (rj_rm 1 0) [.int a0] ω μ (rj_D (.inl (some (.int (fX12_isGate μ a0)))) ω μ) := by
  refine rj_of' (cc := cX12_isGate) (nL := 1) (ret := (some .boolean)) (own := RX12) (l0 := [(0, .int a0)]) rfl (by decide +kernel) rfl (Nat.le_of_ble_eq_true rfl) rfl ?_
  refine rj_iload_n 0 dX12_isGate_0 rfl rfl ?_
  refine rj_iconst (v := 0) dX12_isGate_1 rfl (by decide) ?_
  refine rj_iconst (v := 2) dX12_isGate_2 rfl (by decide) ?_
  refine rj_cS (rest := []) (sX12_in (g := g) (ω := ω) hω μ a0 0 2   ) gX12_isGate_X12_in rfl hSX12_in ⟨Nat.le_of_ble_eq_true rfl, Nat.le_of_ble_eq_true rfl⟩ dX12_isGate_3 rfl rfl rfl (Nat.le_of_ble_eq_true rfl) rfl (Nat.le_of_ble_eq_true rfl) rfl ?_
  exact rj_zret dX12_isGate_6 rfl (nX12_in ..) (Nat.le_of_ble_eq_true rfl) (Nat.le_of_ble_eq_true rfl) ⟨(by unfold fX12_isGate; rfl), rfl, rfl⟩
theorem nX12_isGate (μ : rj_M) (a0 : Int32) : narrow .boolean (.int (fX12_isGate μ a0)) = .int (fX12_isGate μ a0) := by
  unfold fX12_isGate
  exact nX12_in ..
