theorem hSX12_lacks : yX12_lacks.cls ≠ "java/lang/invoke/MethodHandle" ∧ yX12_lacks.cls ≠ "java/lang/invoke/VarHandle" ∧ (parseMethodDescriptor yX12_lacks.desc).map (fun d => d.parameters.length) = some 1 := by decide +kernel
theorem hVX12_lacks : yX12_lacks.cls = RX12 ∧ yX12_lacks.cls ≠ "java/lang/invoke/MethodHandle" ∧ yX12_lacks.cls ≠ "java/lang/invoke/VarHandle" ∧ (parseMethodDescriptor yX12_lacks.desc).map (fun d => d.parameters.length) = some 1 := by decide +kernel
theorem vX12_lacks_12 : ∀ w ∈ u_ws RX12 TX12 16, w ∈ wsX12_lacks := by decide +kernel
theorem kX12_lacks_39 : Cond.fieldLink RX12 39 (TX12 0).1 (TX12 0).2.1 (TX12 0).2.2.1 ∈ wsX12_lacks := by decide +kernel
def fX12_lacks (μ : rj_M) (a0 : Int32) : Int32 := (fX12_no (rj_pi μ 395 0 0) a0 1)
def mX12_lacks (μ : rj_M) (a0 : Int32) : rj_M := (mX12_no (rj_pi μ 395 0 0) a0 1)
set_option maxHeartbeats 40000000 in
set_option maxRecDepth 100000 in
theorem sX12_lacks {g : rj_G} {ω : rj_W} (hω : rj_ok ω) (μ : rj_M) (a0 : Int32)   : rj_Sp g yX12_lacks wsX12_lacks (rj_rm 1 0) [.ref (ω.2.2 395), .int a0] ω μ (rj_D (.inl (some (.int (fX12_lacks μ a0)))) ω (mX12_lacks μ a0)) := by
  refine rj_of' (cc := cX12_lacks) (nL := 2) (ret := (some .boolean)) (own := RX12) (l0 := [(0, .ref (ω.2.2 395)), (1, .int a0)]) rfl (by decide +kernel) rfl (Nat.le_of_ble_eq_true rfl) rfl ?_
  refine rj_aload_n 0 dX12_lacks_0 rfl rfl ?_
  refine rj_iconst (v := 0) dX12_lacks_1 rfl (by decide) ?_
  refine rj_putI (C0 := RX12) (T := TX12) (N := 16) (j := 0) dX12_lacks_2 rfl vX12_lacks_12 rfl (rj_lt hω (k := 395) rfl) (rj_sh hω ly_395) (by decide) kX12_lacks_39 tyX12 tyX12_ok nmX12 rfl rfl rfl rfl ?_
  refine rj_aload_n 0 dX12_lacks_5 rfl rfl ?_
  refine rj_iload_n 1 dX12_lacks_6 rfl rfl ?_
  refine rj_iconst (v := 1) dX12_lacks_7 rfl (by decide) ?_
  refine rj_cV (rest := []) (sX12_no (g := g) (ω := ω) hω (rj_pi μ 395 0 0) a0 1   ) gX12_lacks_X12_no (rj_lt hω (k := 395) rfl) (rj_sh hω ly_395) rfl rfl hVX12_no ⟨Nat.le_of_ble_eq_true rfl, Nat.le_of_ble_eq_true rfl⟩ dX12_lacks_8 rfl rfl rfl (Nat.le_of_ble_eq_true rfl) rfl (Nat.le_of_ble_eq_true rfl) rfl ?_
  exact rj_zret dX12_lacks_11 rfl (nX12_no ..) (Nat.le_of_ble_eq_true rfl) (Nat.le_of_ble_eq_true rfl) ⟨(by unfold fX12_lacks; rfl), rfl, (by unfold mX12_lacks; rfl)⟩
theorem nX12_lacks (μ : rj_M) (a0 : Int32) : narrow .boolean (.int (fX12_lacks μ a0)) = .int (fX12_lacks μ a0) := by
  unfold fX12_lacks
  exact nX12_no ..
theorem hSX12_in : yX12_in.cls ≠ "java/lang/invoke/MethodHandle" ∧ yX12_in.cls ≠ "java/lang/invoke/VarHandle" ∧ (parseMethodDescriptor yX12_in.desc).map (fun d => d.parameters.length) = some 3 := by decide +kernel
theorem hVX12_in : yX12_in.cls = RX12 ∧ yX12_in.cls ≠ "java/lang/invoke/MethodHandle" ∧ yX12_in.cls ≠ "java/lang/invoke/VarHandle" ∧ (parseMethodDescriptor yX12_in.desc).map (fun d => d.parameters.length) = some 3 := by decide +kernel
def fX12_in (μ : rj_M) (a0 : Int32) (a1 : Int32) (a2 : Int32) : Int32 := (if a0 < a1 then 0 else (if a2 < a0 then 0 else 1))
set_option maxHeartbeats 40000000 in
set_option maxRecDepth 100000 in
theorem sX12_in {g : rj_G} {ω : rj_W} (hω : rj_ok ω) (μ : rj_M) (a0 : Int32) (a1 : Int32) (a2 : Int32)   : rj_Sp g yX12_in wsX12_in (rj_rm 0 0) [.int a0, .int a1, .int a2] ω μ (rj_D (.inl (some (.int (fX12_in μ a0 a1 a2)))) ω μ) := by
  refine rj_of' (cc := cX12_in) (nL := 3) (ret := (some .boolean)) (own := RX12) (l0 := [(0, .int a0), (1, .int a1), (2, .int a2)]) rfl (by decide +kernel) rfl (Nat.le_of_ble_eq_true rfl) rfl ?_
  refine rj_iload_n 0 dX12_in_0 rfl rfl ?_
  refine rj_iload_n 1 dX12_in_1 rfl rfl ?_
  refine rj_icmp_lt dX12_in_2 rfl rfl (fun h1 => ?_) (fun h1 => ?_)
  · refine rj_iconst (v := 0) dX12_in_14 rfl (by decide) ?_
    exact rj_zret dX12_in_15 rfl rfl (Nat.le_of_ble_eq_true rfl) (Nat.le_of_ble_eq_true rfl) ⟨(by unfold fX12_in; rw [if_pos h1]; try rfl), rfl, rfl⟩
  · refine rj_iload_n 0 dX12_in_5 rfl rfl ?_
    refine rj_iload_n 2 dX12_in_6 rfl rfl ?_
    refine rj_icmp_gt dX12_in_7 rfl rfl (fun h2 => ?_) (fun h2 => ?_)
    · refine rj_iconst (v := 0) dX12_in_14 rfl (by decide) ?_
      exact rj_zret dX12_in_15 rfl rfl (Nat.le_of_ble_eq_true rfl) (Nat.le_of_ble_eq_true rfl) ⟨(by unfold fX12_in; rw [if_neg h1]; rw [if_pos h2]; try rfl), rfl, rfl⟩
    · refine rj_iconst (v := 1) dX12_in_10 rfl (by decide) ?_
      refine rj_goto dX12_in_11 rfl ?_
      exact rj_zret dX12_in_15 rfl rfl (Nat.le_of_ble_eq_true rfl) (Nat.le_of_ble_eq_true rfl) ⟨(by unfold fX12_in; rw [if_neg h1]; rw [if_neg h2]; try rfl), rfl, rfl⟩
theorem nX12_in (μ : rj_M) (a0 : Int32) (a1 : Int32) (a2 : Int32) : narrow .boolean (.int (fX12_in μ a0 a1 a2)) = .int (fX12_in μ a0 a1 a2) := by
  unfold fX12_in
  split
  · rfl
  · split
    · rfl
    · rfl
