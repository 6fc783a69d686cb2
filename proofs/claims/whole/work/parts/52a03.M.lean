theorem hSX12_outBy : yX12_outBy.cls ≠ "java/lang/invoke/MethodHandle" ∧ yX12_outBy.cls ≠ "java/lang/invoke/VarHandle" ∧ (parseMethodDescriptor yX12_outBy.desc).map (fun d => d.parameters.length) = some 0 := by decide +kernel
theorem hVX12_outBy : yX12_outBy.cls = RX12 ∧ yX12_outBy.cls ≠ "java/lang/invoke/MethodHandle" ∧ yX12_outBy.cls ≠ "java/lang/invoke/VarHandle" ∧ (parseMethodDescriptor yX12_outBy.desc).map (fun d => d.parameters.length) = some 0 := by decide +kernel
theorem vX12_outBy_12 : ∀ w ∈ u_ws RX12 TX12 16, w ∈ wsX12_outBy := by decide +kernel
theorem kX12_outBy_39 : Cond.fieldLink RX12 39 (TX12 0).1 (TX12 0).2.1 (TX12 0).2.2.1 ∈ wsX12_outBy := by decide +kernel
noncomputable def fX12_outBy (μ : rj_M) : Int32 := (fX12_outByNow (rj_pi μ 395 0 0))
noncomputable def mX12_outBy (μ : rj_M) : rj_M := (rj_pi μ 395 0 0)
noncomputable def qX12_outBy (μ : rj_M) : Prop := (qX12_outByNow (rj_pi μ 395 0 0) ∧ True)
set_option maxHeartbeats 40000000 in
set_option maxRecDepth 100000 in
theorem sX12_outBy {g : rj_G} {ω : rj_W} (hω : rj_ok ω) (μ : rj_M)   (hq : qX12_outBy μ) : rj_Sp g yX12_outBy wsX12_outBy (rj_rm 4 0) [.ref (ω.2.2 395)] ω μ (rj_D (.inl (some (.int (fX12_outBy μ)))) ω (mX12_outBy μ)) := by
  have hqa := hq
  unfold qX12_outBy at hqa
  refine rj_of' (cc := cX12_outBy) (nL := 1) (ret := (some .int)) (own := RX12) (l0 := [(0, .ref (ω.2.2 395))]) rfl (by decide +kernel) rfl (Nat.le_of_ble_eq_true rfl) rfl ?_
  refine rj_aload_n 0 dX12_outBy_0 rfl rfl ?_
  refine rj_iconst (v := 0) dX12_outBy_1 rfl (by decide) ?_
  refine rj_putI (C0 := RX12) (T := TX12) (N := 16) (j := 0) dX12_outBy_2 rfl vX12_outBy_12 rfl (rj_lt hω (k := 395) rfl) (rj_sh hω ly_395) (by decide) kX12_outBy_39 tyX12 tyX12_ok nmX12 rfl rfl rfl rfl ?_
  refine rj_aload_n 0 dX12_outBy_5 rfl rfl ?_
  refine rj_cV (rest := []) (sX12_outByNow (g := g) (ω := ω) hω (rj_pi μ 395 0 0)   (And.left hqa)) gX12_outBy_X12_outByNow (rj_lt hω (k := 395) rfl) (rj_sh hω ly_395) rfl rfl hVX12_outByNow ⟨Nat.le_of_ble_eq_true rfl, Nat.le_of_ble_eq_true rfl⟩ dX12_outBy_6 rfl rfl rfl (Nat.le_of_ble_eq_true rfl) rfl (Nat.le_of_ble_eq_true rfl) rfl ?_
  exact rj_iret dX12_outBy_9 rfl (Nat.le_of_ble_eq_true rfl) (Nat.le_of_ble_eq_true rfl) ⟨(by unfold fX12_outBy; rfl), rfl, (by unfold mX12_outBy; rfl)⟩
theorem hSX12_cut : yX12_cut.cls ≠ "java/lang/invoke/MethodHandle" ∧ yX12_cut.cls ≠ "java/lang/invoke/VarHandle" ∧ (parseMethodDescriptor yX12_cut.desc).map (fun d => d.parameters.length) = some 0 := by decide +kernel
theorem hVX12_cut : yX12_cut.cls = RX12 ∧ yX12_cut.cls ≠ "java/lang/invoke/MethodHandle" ∧ yX12_cut.cls ≠ "java/lang/invoke/VarHandle" ∧ (parseMethodDescriptor yX12_cut.desc).map (fun d => d.parameters.length) = some 0 := by decide +kernel
theorem vX12_cut_12 : ∀ w ∈ u_ws RX12 TX12 16, w ∈ wsX12_cut := by decide +kernel
theorem kX12_cut_39 : Cond.fieldLink RX12 39 (TX12 0).1 (TX12 0).2.1 (TX12 0).2.2.1 ∈ wsX12_cut := by decide +kernel
noncomputable def fX12_cut (μ : rj_M) : Int32 := (if (fX12_outByNow (rj_pi μ 395 0 0)) ≤ 0 then 0 else (fX12_tooMany (rj_pi μ 395 0 0) ((fX12_outByNow (rj_pi μ 395 0 0)) - 1)))
noncomputable def mX12_cut (μ : rj_M) : rj_M := (if (fX12_outByNow (rj_pi μ 395 0 0)) ≤ 0 then (rj_pi μ 395 0 0) else (rj_pi μ 395 0 0))
noncomputable def qX12_cut (μ : rj_M) : Prop := (qX12_outByNow (rj_pi μ 395 0 0) ∧ True)
set_option maxHeartbeats 40000000 in
set_option maxRecDepth 100000 in
theorem sX12_cut {g : rj_G} {ω : rj_W} (hω : rj_ok ω) (μ : rj_M)   (hq : qX12_cut μ) : rj_Sp g yX12_cut wsX12_cut (rj_rm 4 0) [.ref (ω.2.2 395)] ω μ (rj_D (.inl (some (.int (fX12_cut μ)))) ω (mX12_cut μ)) := by
  have hqa := hq
  unfold qX12_cut at hqa
  refine rj_of' (cc := cX12_cut) (nL := 2) (ret := (some .int)) (own := RX12) (l0 := [(0, .ref (ω.2.2 395))]) rfl (by decide +kernel) rfl (Nat.le_of_ble_eq_true rfl) rfl ?_
  refine rj_aload_n 0 dX12_cut_0 rfl rfl ?_
  refine rj_iconst (v := 0) dX12_cut_1 rfl (by decide) ?_
  refine rj_putI (C0 := RX12) (T := TX12) (N := 16) (j := 0) dX12_cut_2 rfl vX12_cut_12 rfl (rj_lt hω (k := 395) rfl) (rj_sh hω ly_395) (by decide) kX12_cut_39 tyX12 tyX12_ok nmX12 rfl rfl rfl rfl ?_
  refine rj_aload_n 0 dX12_cut_5 rfl rfl ?_
  refine rj_cV (rest := []) (sX12_outByNow (g := g) (ω := ω) hω (rj_pi μ 395 0 0)   (And.left hqa)) gX12_cut_X12_outByNow (rj_lt hω (k := 395) rfl) (rj_sh hω ly_395) rfl rfl hVX12_outByNow ⟨Nat.le_of_ble_eq_true rfl, Nat.le_of_ble_eq_true rfl⟩ dX12_cut_6 rfl rfl rfl (Nat.le_of_ble_eq_true rfl) rfl (Nat.le_of_ble_eq_true rfl) rfl ?_
  refine rj_istore_n (l' := [(1, .int (fX12_outByNow (rj_pi μ 395 0 0))), (0, .ref (ω.2.2 395))]) dX12_cut_9 rfl (rj_bl rfl) rfl ?_
  refine rj_iload_n 0 dX12_cut_10 rfl rfl ?_
  refine rj_if_le dX12_cut_11 rfl rfl (fun h1 => ?_) (fun h1 => ?_)
  · skip
    refine rj_iconst (v := 0) dX12_cut_24 rfl (by decide) ?_
    exact rj_iret dX12_cut_25 rfl (Nat.le_of_ble_eq_true rfl) (Nat.le_of_ble_eq_true rfl) ⟨(by unfold fX12_cut; rw [if_pos h1]; try rfl), rfl, (by unfold mX12_cut; rw [if_pos h1]; try rfl)⟩
  · skip
    refine rj_aload_n 1 dX12_cut_14 rfl rfl ?_
    refine rj_iload_n 0 dX12_cut_15 rfl rfl ?_
    refine rj_iconst (v := 1) dX12_cut_16 rfl (by decide) ?_
    refine rj_isub dX12_cut_17 rfl ?_
    refine rj_cV (rest := []) (sX12_tooMany (g := g) (ω := ω) hω (rj_pi μ 395 0 0) ((fX12_outByNow (rj_pi μ 395 0 0)) - 1)   ) gX12_cut_X12_tooMany (rj_lt hω (k := 395) rfl) (rj_sh hω ly_395) rfl rfl hVX12_tooMany ⟨Nat.le_of_ble_eq_true rfl, Nat.le_of_ble_eq_true rfl⟩ dX12_cut_18 rfl rfl rfl (Nat.le_of_ble_eq_true rfl) rfl (Nat.le_of_ble_eq_true rfl) rfl ?_
    refine rj_goto dX12_cut_21 rfl ?_
    exact rj_iret dX12_cut_25 rfl (Nat.le_of_ble_eq_true rfl) (Nat.le_of_ble_eq_true rfl) ⟨(by unfold fX12_cut; rw [if_neg h1]; try rfl), rfl, (by unfold mX12_cut; rw [if_neg h1]; try rfl)⟩
