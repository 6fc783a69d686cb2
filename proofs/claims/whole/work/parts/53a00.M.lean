noncomputable def rz25 : Nat := Classical.choose (Exists.intro 25 rfl : ∃ n : Nat, n = 25)
theorem rz25_eq : rz25 = 25 := Classical.choose_spec (Exists.intro 25 rfl : ∃ n : Nat, n = 25)
theorem hSX12_setNeed : yX12_setNeed.cls ≠ "java/lang/invoke/MethodHandle" ∧ yX12_setNeed.cls ≠ "java/lang/invoke/VarHandle" ∧ (parseMethodDescriptor yX12_setNeed.desc).map (fun d => d.parameters.length) = some 2 := by decide +kernel
theorem hVX12_setNeed : yX12_setNeed.cls = RX12 ∧ yX12_setNeed.cls ≠ "java/lang/invoke/MethodHandle" ∧ yX12_setNeed.cls ≠ "java/lang/invoke/VarHandle" ∧ (parseMethodDescriptor yX12_setNeed.desc).map (fun d => d.parameters.length) = some 2 := by decide +kernel
noncomputable def fX12_setNeed (μ : rj_M) (a0 : Int32) (a1 : Int32) : Int32 := (if (fX12_lacks μ (fX12_isHour μ a0)) = 0 then (if (fX12_no (mX12_lacks μ (fX12_isHour μ a0)) (fX12_in (mX12_lacks μ (fX12_isHour μ a0)) a1 0 9) 2) = 0 then (fX12_sets (mX12_no (mX12_lacks μ (fX12_isHour μ a0)) (fX12_in (mX12_lacks μ (fX12_isHour μ a0)) a1 0 9) 2) (387 + a0) a1) else 0) else 0)
noncomputable def mX12_setNeed (μ : rj_M) (a0 : Int32) (a1 : Int32) : rj_M := (if (fX12_lacks μ (fX12_isHour μ a0)) = 0 then (if (fX12_no (mX12_lacks μ (fX12_isHour μ a0)) (fX12_in (mX12_lacks μ (fX12_isHour μ a0)) a1 0 9) 2) = 0 then (mX12_sets (mX12_no (mX12_lacks μ (fX12_isHour μ a0)) (fX12_in (mX12_lacks μ (fX12_isHour μ a0)) a1 0 9) 2) (387 + a0) a1) else (mX12_no (mX12_lacks μ (fX12_isHour μ a0)) (fX12_in (mX12_lacks μ (fX12_isHour μ a0)) a1 0 9) 2)) else (mX12_lacks μ (fX12_isHour μ a0)))
noncomputable def qX12_setNeed (μ : rj_M) (a0 : Int32) (a1 : Int32) : Prop := ((((fX12_lacks μ (fX12_isHour μ a0)) = 0) → ((((fX12_no (mX12_lacks μ (fX12_isHour μ a0)) (fX12_in (mX12_lacks μ (fX12_isHour μ a0)) a1 0 9) 2) = 0) → (vp_in (387 + a0) 625 ∧ qX12_sets (mX12_no (mX12_lacks μ (fX12_isHour μ a0)) (fX12_in (mX12_lacks μ (fX12_isHour μ a0)) a1 0 9) 2) (387 + a0) a1 ∧ True)) ∧ ((¬ ((fX12_no (mX12_lacks μ (fX12_isHour μ a0)) (fX12_in (mX12_lacks μ (fX12_isHour μ a0)) a1 0 9) 2) = 0)) → True))) ∧ ((¬ ((fX12_lacks μ (fX12_isHour μ a0)) = 0)) → True))
set_option maxHeartbeats 40000000 in
set_option maxRecDepth 100000 in
theorem sX12_setNeed {g : rj_G} {ω : rj_W} (hω : rj_ok ω) (μ : rj_M) (a0 : Int32) (a1 : Int32)   (hq : qX12_setNeed μ a0 a1) : rj_Sp g yX12_setNeed wsX12_setNeed (rj_rm 3 0) [.ref (ω.2.2 395), .int a0, .int a1] ω μ (rj_D (.inl (some (.int (fX12_setNeed μ a0 a1)))) ω (mX12_setNeed μ a0 a1)) := by
  have hqa := hq
  unfold qX12_setNeed at hqa
  refine rj_of' (cc := cX12_setNeed) (nL := 3) (ret := (some .int)) (own := RX12) (l0 := [(0, .ref (ω.2.2 395)), (1, .int a0), (2, .int a1)]) rfl (by decide +kernel) rfl (Nat.le_of_ble_eq_true rfl) rfl ?_
  refine rj_aload_n 0 dX12_setNeed_0 rfl rfl ?_
  refine rj_iload_n 1 dX12_setNeed_1 rfl rfl ?_
  refine rj_cS (rest := [.ref (ω.2.2 395)]) (sX12_isHour (g := g) (ω := ω) hω μ a0   ) gX12_setNeed_X12_isHour rfl hSX12_isHour ⟨Nat.le_of_ble_eq_true rfl, Nat.le_of_ble_eq_true rfl⟩ dX12_setNeed_2 rfl rfl rfl (Nat.le_of_ble_eq_true rfl) rfl (Nat.le_of_ble_eq_true rfl) rfl ?_
  refine rj_cV (rest := []) (sX12_lacks (g := g) (ω := ω) hω μ (fX12_isHour μ a0)   ) gX12_setNeed_X12_lacks (rj_lt hω (k := 395) rfl) (rj_sh hω ly_395) rfl rfl hVX12_lacks ⟨Nat.le_of_ble_eq_true rfl, Nat.le_of_ble_eq_true rfl⟩ dX12_setNeed_5 rfl rfl rfl (Nat.le_of_ble_eq_true rfl) rfl (Nat.le_of_ble_eq_true rfl) rfl ?_
  refine rj_if_ne dX12_setNeed_8 rfl rfl (fun h1 => ?_) (fun h1 => ?_)
  · skip
    refine rj_iconst (v := 0) dX12_setNeed_26 rfl (by decide) ?_
    refine rj_goto dX12_setNeed_27 rfl ?_
    exact rj_iret dX12_setNeed_40 rfl (Nat.le_of_ble_eq_true rfl) (Nat.le_of_ble_eq_true rfl) ⟨(by unfold fX12_setNeed; rw [if_neg h1]; try rfl), rfl, (by unfold mX12_setNeed; rw [if_neg h1]; try rfl)⟩
  · have hq2 := (And.left hqa) h1
    refine rj_aload_n 0 dX12_setNeed_11 rfl rfl ?_
    refine rj_iload_n 2 dX12_setNeed_12 rfl rfl ?_
    refine rj_iconst (v := 0) dX12_setNeed_13 rfl (by decide) ?_
    refine rj_bipush (v := 9) dX12_setNeed_14 rfl (by decide) ?_
    refine rj_cS (rest := [.ref (ω.2.2 395)]) (sX12_in (g := g) (ω := ω) hω (mX12_lacks μ (fX12_isHour μ a0)) a1 0 9   ) gX12_setNeed_X12_in rfl hSX12_in ⟨Nat.le_of_ble_eq_true rfl, Nat.le_of_ble_eq_true rfl⟩ dX12_setNeed_16 rfl rfl rfl (Nat.le_of_ble_eq_true rfl) rfl (Nat.le_of_ble_eq_true rfl) rfl ?_
    refine rj_iconst (v := 2) dX12_setNeed_19 rfl (by decide) ?_
    refine rj_cV (rest := []) (sX12_no (g := g) (ω := ω) hω (mX12_lacks μ (fX12_isHour μ a0)) (fX12_in (mX12_lacks μ (fX12_isHour μ a0)) a1 0 9) 2   ) gX12_setNeed_X12_no (rj_lt hω (k := 395) rfl) (rj_sh hω ly_395) rfl rfl hVX12_no ⟨Nat.le_of_ble_eq_true rfl, Nat.le_of_ble_eq_true rfl⟩ dX12_setNeed_20 rfl rfl rfl (Nat.le_of_ble_eq_true rfl) rfl (Nat.le_of_ble_eq_true rfl) rfl ?_
    refine rj_if_eq dX12_setNeed_23 rfl rfl (fun h2 => ?_) (fun h2 => ?_)
    · have hq3 := (And.left hq2) h2
      refine rj_aload_n 0 dX12_setNeed_30 rfl rfl ?_
      refine rj_sipush (v := 387) dX12_setNeed_31 rfl (by decide) ?_
      refine rj_iload_n 1 dX12_setNeed_34 rfl rfl ?_
      refine rj_iadd dX12_setNeed_35 rfl ?_
      refine rj_iload_n 2 dX12_setNeed_36 rfl rfl ?_
      refine rj_cV (rest := []) (sX12_sets (g := g) (ω := ω) hω (mX12_no (mX12_lacks μ (fX12_isHour μ a0)) (fX12_in (mX12_lacks μ (fX12_isHour μ a0)) a1 0 9) 2) (387 + a0) a1  (And.left hq3) (And.left (And.right hq3))) gX12_setNeed_X12_sets (rj_lt hω (k := 395) rfl) (rj_sh hω ly_395) rfl rfl hVX12_sets ⟨Nat.le_of_ble_eq_true rfl, Nat.le_of_ble_eq_true rfl⟩ dX12_setNeed_37 rfl rfl rfl (Nat.le_of_ble_eq_true rfl) rfl (Nat.le_of_ble_eq_true rfl) rfl ?_
      exact rj_iret dX12_setNeed_40 rfl (Nat.le_of_ble_eq_true rfl) (Nat.le_of_ble_eq_true rfl) ⟨(by unfold fX12_setNeed; rw [if_pos h1]; rw [if_pos h2]; try rfl), rfl, (by unfold mX12_setNeed; rw [if_pos h1]; rw [if_pos h2]; try rfl)⟩
    · skip
      refine rj_iconst (v := 0) dX12_setNeed_26 rfl (by decide) ?_
      refine rj_goto dX12_setNeed_27 rfl ?_
      exact rj_iret dX12_setNeed_40 rfl (Nat.le_of_ble_eq_true rfl) (Nat.le_of_ble_eq_true rfl) ⟨(by unfold fX12_setNeed; rw [if_pos h1]; rw [if_neg h2]; try rfl), rfl, (by unfold mX12_setNeed; rw [if_pos h1]; rw [if_neg h2]; try rfl)⟩
theorem hSX12_setShift : yX12_setShift.cls ≠ "java/lang/invoke/MethodHandle" ∧ yX12_setShift.cls ≠ "java/lang/invoke/VarHandle" ∧ (parseMethodDescriptor yX12_setShift.desc).map (fun d => d.parameters.length) = some 1 := by decide +kernel
theorem hVX12_setShift : yX12_setShift.cls = RX12 ∧ yX12_setShift.cls ≠ "java/lang/invoke/MethodHandle" ∧ yX12_setShift.cls ≠ "java/lang/invoke/VarHandle" ∧ (parseMethodDescriptor yX12_setShift.desc).map (fun d => d.parameters.length) = some 1 := by decide +kernel
noncomputable def fX12_setShift (μ : rj_M) (a0 : Int32) : Int32 := (if (fX12_lacks μ (fX12_in μ a0 2 10)) = 0 then (fX12_sets (mX12_lacks μ (fX12_in μ a0 2 10)) 411 a0) else 0)
noncomputable def mX12_setShift (μ : rj_M) (a0 : Int32) : rj_M := (if (fX12_lacks μ (fX12_in μ a0 2 10)) = 0 then (mX12_sets (mX12_lacks μ (fX12_in μ a0 2 10)) 411 a0) else (mX12_lacks μ (fX12_in μ a0 2 10)))
noncomputable def qX12_setShift (μ : rj_M) (a0 : Int32) : Prop := ((((fX12_lacks μ (fX12_in μ a0 2 10)) = 0) → (qX12_sets (mX12_lacks μ (fX12_in μ a0 2 10)) 411 a0 ∧ True)) ∧ ((¬ ((fX12_lacks μ (fX12_in μ a0 2 10)) = 0)) → True))
set_option maxHeartbeats 40000000 in
set_option maxRecDepth 100000 in
theorem sX12_setShift {g : rj_G} {ω : rj_W} (hω : rj_ok ω) (μ : rj_M) (a0 : Int32)   (hq : qX12_setShift μ a0) : rj_Sp g yX12_setShift wsX12_setShift (rj_rm 3 0) [.ref (ω.2.2 395), .int a0] ω μ (rj_D (.inl (some (.int (fX12_setShift μ a0)))) ω (mX12_setShift μ a0)) := by
  have hqa := hq
  unfold qX12_setShift at hqa
  refine rj_of' (cc := cX12_setShift) (nL := 2) (ret := (some .int)) (own := RX12) (l0 := [(0, .ref (ω.2.2 395)), (1, .int a0)]) rfl (by decide +kernel) rfl (Nat.le_of_ble_eq_true rfl) rfl ?_
  refine rj_aload_n 0 dX12_setShift_0 rfl rfl ?_
  refine rj_iload_n 1 dX12_setShift_1 rfl rfl ?_
  refine rj_iconst (v := 2) dX12_setShift_2 rfl (by decide) ?_
  refine rj_bipush (v := 10) dX12_setShift_3 rfl (by decide) ?_
  refine rj_cS (rest := [.ref (ω.2.2 395)]) (sX12_in (g := g) (ω := ω) hω μ a0 2 10   ) gX12_setShift_X12_in rfl hSX12_in ⟨Nat.le_of_ble_eq_true rfl, Nat.le_of_ble_eq_true rfl⟩ dX12_setShift_5 rfl rfl rfl (Nat.le_of_ble_eq_true rfl) rfl (Nat.le_of_ble_eq_true rfl) rfl ?_
  refine rj_cV (rest := []) (sX12_lacks (g := g) (ω := ω) hω μ (fX12_in μ a0 2 10)   ) gX12_setShift_X12_lacks (rj_lt hω (k := 395) rfl) (rj_sh hω ly_395) rfl rfl hVX12_lacks ⟨Nat.le_of_ble_eq_true rfl, Nat.le_of_ble_eq_true rfl⟩ dX12_setShift_8 rfl rfl rfl (Nat.le_of_ble_eq_true rfl) rfl (Nat.le_of_ble_eq_true rfl) rfl ?_
  refine rj_if_eq dX12_setShift_11 rfl rfl (fun h1 => ?_) (fun h1 => ?_)
  · have hq1 := (And.left hqa) h1
    refine rj_aload_n 0 dX12_setShift_18 rfl rfl ?_
    refine rj_sipush (v := 411) dX12_setShift_19 rfl (by decide) ?_
    refine rj_iload_n 1 dX12_setShift_22 rfl rfl ?_
    refine rj_cV (rest := []) (sX12_sets (g := g) (ω := ω) hω (mX12_lacks μ (fX12_in μ a0 2 10)) 411 a0  (vp_in_nI (n := 411) (rj_bl rfl) (rj_bl rfl)) (And.left hq1)) gX12_setShift_X12_sets (rj_lt hω (k := 395) rfl) (rj_sh hω ly_395) rfl rfl hVX12_sets ⟨Nat.le_of_ble_eq_true rfl, Nat.le_of_ble_eq_true rfl⟩ dX12_setShift_23 rfl rfl rfl (Nat.le_of_ble_eq_true rfl) rfl (Nat.le_of_ble_eq_true rfl) rfl ?_
    exact rj_iret dX12_setShift_26 rfl (Nat.le_of_ble_eq_true rfl) (Nat.le_of_ble_eq_true rfl) ⟨(by unfold fX12_setShift; rw [if_pos h1]; try rfl), rfl, (by unfold mX12_setShift; rw [if_pos h1]; try rfl)⟩
  · skip
    refine rj_iconst (v := 0) dX12_setShift_14 rfl (by decide) ?_
    refine rj_goto dX12_setShift_15 rfl ?_
    exact rj_iret dX12_setShift_26 rfl (Nat.le_of_ble_eq_true rfl) (Nat.le_of_ble_eq_true rfl) ⟨(by unfold fX12_setShift; rw [if_neg h1]; try rfl), rfl, (by unfold mX12_setShift; rw [if_neg h1]; try rfl)⟩
