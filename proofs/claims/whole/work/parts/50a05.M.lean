theorem hSX12_isVisitor : yX12_isVisitor.cls ≠ "java/lang/invoke/MethodHandle" ∧ yX12_isVisitor.cls ≠ "java/lang/invoke/VarHandle" ∧ (parseMethodDescriptor yX12_isVisitor.desc).map (fun d => d.parameters.length) = some 1 := by decide +kernel
theorem hVX12_isVisitor : yX12_isVisitor.cls = RX12 ∧ yX12_isVisitor.cls ≠ "java/lang/invoke/MethodHandle" ∧ yX12_isVisitor.cls ≠ "java/lang/invoke/VarHandle" ∧ (parseMethodDescriptor yX12_isVisitor.desc).map (fun d => d.parameters.length) = some 1 := by decide +kernel
def fX12_isVisitor (μ : rj_M) (a0 : Int32) : Int32 := (fX12_in μ a0 0 11)
set_option maxHeartbeats 40000000 in
set_option maxRecDepth 100000 in
theorem sX12_isVisitor {g : rj_G} {ω : rj_W} (hω : rj_ok ω) (μ : rj_M) (a0 : Int32)   : rj_Sp g yX12_isVisitor wsX12_isVisitor (rj_rm 1 0) [.int a0] ω μ (rj_D (.inl (some (.int (fX12_isVisitor μ a0)))) ω μ) := by
  refine rj_of' (cc := cX12_isVisitor) (nL := 1) (ret := (some .boolean)) (own := RX12) (l0 := [(0, .int a0)]) rfl (by decide +kernel) rfl (Nat.le_of_ble_eq_true rfl) rfl ?_
  refine rj_iload_n 0 dX12_isVisitor_0 rfl rfl ?_
  refine rj_iconst (v := 0) dX12_isVisitor_1 rfl (by decide) ?_
  refine rj_bipush (v := 11) dX12_isVisitor_2 rfl (by decide) ?_
  refine rj_cS (rest := []) (sX12_in (g := g) (ω := ω) hω μ a0 0 11   ) gX12_isVisitor_X12_in rfl hSX12_in ⟨Nat.le_of_ble_eq_true rfl, Nat.le_of_ble_eq_true rfl⟩ dX12_isVisitor_4 rfl rfl rfl (Nat.le_of_ble_eq_true rfl) rfl (Nat.le_of_ble_eq_true rfl) rfl ?_
  exact rj_zret dX12_isVisitor_7 rfl (nX12_in ..) (Nat.le_of_ble_eq_true rfl) (Nat.le_of_ble_eq_true rfl) ⟨(by unfold fX12_isVisitor; rfl), rfl, rfl⟩
theorem nX12_isVisitor (μ : rj_M) (a0 : Int32) : narrow .boolean (.int (fX12_isVisitor μ a0)) = .int (fX12_isVisitor μ a0) := by
  unfold fX12_isVisitor
  exact nX12_in ..
theorem hSX12_isBar : yX12_isBar.cls ≠ "java/lang/invoke/MethodHandle" ∧ yX12_isBar.cls ≠ "java/lang/invoke/VarHandle" ∧ (parseMethodDescriptor yX12_isBar.desc).map (fun d => d.parameters.length) = some 1 := by decide +kernel
theorem hVX12_isBar : yX12_isBar.cls = RX12 ∧ yX12_isBar.cls ≠ "java/lang/invoke/MethodHandle" ∧ yX12_isBar.cls ≠ "java/lang/invoke/VarHandle" ∧ (parseMethodDescriptor yX12_isBar.desc).map (fun d => d.parameters.length) = some 1 := by decide +kernel
def fX12_isBar (μ : rj_M) (a0 : Int32) : Int32 := (fX12_in μ a0 0 2)
set_option maxHeartbeats 40000000 in
set_option maxRecDepth 100000 in
theorem sX12_isBar {g : rj_G} {ω : rj_W} (hω : rj_ok ω) (μ : rj_M) (a0 : Int32)   : rj_Sp g yX12_isBar wsX12_isBar (rj_rm 1 0) [.int a0] ω μ (rj_D (.inl (some (.int (fX12_isBar μ a0)))) ω μ) := by
  refine rj_of' (cc := cX12_isBar) (nL := 1) (ret := (some .boolean)) (own := RX12) (l0 := [(0, .int a0)]) rfl (by decide +kernel) rfl (Nat.le_of_ble_eq_true rfl) rfl ?_
  refine rj_iload_n 0 dX12_isBar_0 rfl rfl ?_
  refine rj_iconst (v := 0) dX12_isBar_1 rfl (by decide) ?_
  refine rj_iconst (v := 2) dX12_isBar_2 rfl (by decide) ?_
  refine rj_cS (rest := []) (sX12_in (g := g) (ω := ω) hω μ a0 0 2   ) gX12_isBar_X12_in rfl hSX12_in ⟨Nat.le_of_ble_eq_true rfl, Nat.le_of_ble_eq_true rfl⟩ dX12_isBar_3 rfl rfl rfl (Nat.le_of_ble_eq_true rfl) rfl (Nat.le_of_ble_eq_true rfl) rfl ?_
  exact rj_zret dX12_isBar_6 rfl (nX12_in ..) (Nat.le_of_ble_eq_true rfl) (Nat.le_of_ble_eq_true rfl) ⟨(by unfold fX12_isBar; rfl), rfl, rfl⟩
theorem nX12_isBar (μ : rj_M) (a0 : Int32) : narrow .boolean (.int (fX12_isBar μ a0)) = .int (fX12_isBar μ a0) := by
  unfold fX12_isBar
  exact nX12_in ..
