theorem hSX12_isLeap : yX12_isLeap.cls ≠ "java/lang/invoke/MethodHandle" ∧ yX12_isLeap.cls ≠ "java/lang/invoke/VarHandle" ∧ (parseMethodDescriptor yX12_isLeap.desc).map (fun d => d.parameters.length) = some 1 := by decide +kernel
theorem hVX12_isLeap : yX12_isLeap.cls = RX12 ∧ yX12_isLeap.cls ≠ "java/lang/invoke/MethodHandle" ∧ yX12_isLeap.cls ≠ "java/lang/invoke/VarHandle" ∧ (parseMethodDescriptor yX12_isLeap.desc).map (fun d => d.parameters.length) = some 1 := by decide +kernel
def fX12_isLeap (μ : rj_M) (a0 : Int32) : Int32 := (if (a0 - a0 / 4 * 4) = 0 then (if (a0 - a0 / 100 * 100) = 0 then (if (a0 - a0 / 400 * 400) = 0 then 1 else 0) else 1) else (if (a0 - a0 / 400 * 400) = 0 then 1 else 0))
set_option maxHeartbeats 40000000 in
set_option maxRecDepth 100000 in
theorem sX12_isLeap {g : rj_G} {ω : rj_W} (hω : rj_ok ω) (μ : rj_M) (a0 : Int32)   : rj_Sp g yX12_isLeap wsX12_isLeap (rj_rm 0 0) [.int a0] ω μ (rj_D (.inl (some (.int (fX12_isLeap μ a0)))) ω μ) := by
  refine rj_of' (cc := cX12_isLeap) (nL := 1) (ret := (some .boolean)) (own := RX12) (l0 := [(0, .int a0)]) rfl (by decide +kernel) rfl (Nat.le_of_ble_eq_true rfl) rfl ?_
  refine rj_iload_n 0 dX12_isLeap_0 rfl rfl ?_
  refine rj_iconst (v := 4) dX12_isLeap_1 rfl (by decide) ?_
  refine rj_irem dX12_isLeap_2 rfl (by decide) ?_
  refine rj_if_ne dX12_isLeap_3 rfl rfl (fun h1 => ?_) (fun h1 => ?_)
  · refine rj_iload_n 0 dX12_isLeap_13 rfl rfl ?_
    refine rj_sipush (v := 400) dX12_isLeap_14 rfl (by decide) ?_
    refine rj_irem dX12_isLeap_17 rfl (by decide) ?_
    refine rj_if_ne dX12_isLeap_18 rfl rfl (fun h2 => ?_) (fun h2 => ?_)
    · refine rj_iconst (v := 0) dX12_isLeap_25 rfl (by decide) ?_
      exact rj_zret dX12_isLeap_26 rfl rfl (Nat.le_of_ble_eq_true rfl) (Nat.le_of_ble_eq_true rfl) ⟨(by unfold fX12_isLeap; rw [if_neg h1]; rw [if_neg h2]; try rfl), rfl, rfl⟩
    · refine rj_iconst (v := 1) dX12_isLeap_21 rfl (by decide) ?_
      refine rj_goto dX12_isLeap_22 rfl ?_
      exact rj_zret dX12_isLeap_26 rfl rfl (Nat.le_of_ble_eq_true rfl) (Nat.le_of_ble_eq_true rfl) ⟨(by unfold fX12_isLeap; rw [if_neg h1]; rw [if_pos h2]; try rfl), rfl, rfl⟩
  · refine rj_iload_n 0 dX12_isLeap_6 rfl rfl ?_
    refine rj_bipush (v := 100) dX12_isLeap_7 rfl (by decide) ?_
    refine rj_irem dX12_isLeap_9 rfl (by decide) ?_
    refine rj_if_ne dX12_isLeap_10 rfl rfl (fun h3 => ?_) (fun h3 => ?_)
    · refine rj_iconst (v := 1) dX12_isLeap_21 rfl (by decide) ?_
      refine rj_goto dX12_isLeap_22 rfl ?_
      exact rj_zret dX12_isLeap_26 rfl rfl (Nat.le_of_ble_eq_true rfl) (Nat.le_of_ble_eq_true rfl) ⟨(by unfold fX12_isLeap; rw [if_pos h1]; rw [if_neg h3]; try rfl), rfl, rfl⟩
    · refine rj_iload_n 0 dX12_isLeap_13 rfl rfl ?_
      refine rj_sipush (v := 400) dX12_isLeap_14 rfl (by decide) ?_
      refine rj_irem dX12_isLeap_17 rfl (by decide) ?_
      refine rj_if_ne dX12_isLeap_18 rfl rfl (fun h4 => ?_) (fun h4 => ?_)
      · refine rj_iconst (v := 0) dX12_isLeap_25 rfl (by decide) ?_
        exact rj_zret dX12_isLeap_26 rfl rfl (Nat.le_of_ble_eq_true rfl) (Nat.le_of_ble_eq_true rfl) ⟨(by unfold fX12_isLeap; rw [if_pos h1]; rw [if_pos h3]; rw [if_neg h4]; try rfl), rfl, rfl⟩
      · refine rj_iconst (v := 1) dX12_isLeap_21 rfl (by decide) ?_
        refine rj_goto dX12_isLeap_22 rfl ?_
        exact rj_zret dX12_isLeap_26 rfl rfl (Nat.le_of_ble_eq_true rfl) (Nat.le_of_ble_eq_true rfl) ⟨(by unfold fX12_isLeap; rw [if_pos h1]; rw [if_pos h3]; rw [if_pos h4]; try rfl), rfl, rfl⟩
theorem nX12_isLeap (μ : rj_M) (a0 : Int32) : narrow .boolean (.int (fX12_isLeap μ a0)) = .int (fX12_isLeap μ a0) := by
  unfold fX12_isLeap
  split
  · split
    · split
      · rfl
      · rfl
    · rfl
  · split
    · rfl
    · rfl
theorem hSX12_daysOf : yX12_daysOf.cls ≠ "java/lang/invoke/MethodHandle" ∧ yX12_daysOf.cls ≠ "java/lang/invoke/VarHandle" ∧ (parseMethodDescriptor yX12_daysOf.desc).map (fun d => d.parameters.length) = some 2 := by decide +kernel
theorem hVX12_daysOf : yX12_daysOf.cls = RX12 ∧ yX12_daysOf.cls ≠ "java/lang/invoke/MethodHandle" ∧ yX12_daysOf.cls ≠ "java/lang/invoke/VarHandle" ∧ (parseMethodDescriptor yX12_daysOf.desc).map (fun d => d.parameters.length) = some 2 := by decide +kernel
def fX12_daysOf (μ : rj_M) (a0 : Int32) (a1 : Int32) : Int32 := (if a1 = 2 then (if (fX12_isLeap μ a0) = 0 then 28 else 29) else (if a1 = 4 then 30 else (if a1 = 6 then 30 else (if a1 = 9 then 30 else (if a1 = 11 then 30 else 31)))))
set_option maxHeartbeats 40000000 in
set_option maxRecDepth 100000 in
theorem sX12_daysOf {g : rj_G} {ω : rj_W} (hω : rj_ok ω) (μ : rj_M) (a0 : Int32) (a1 : Int32)   : rj_Sp g yX12_daysOf wsX12_daysOf (rj_rm 1 0) [.int a0, .int a1] ω μ (rj_D (.inl (some (.int (fX12_daysOf μ a0 a1)))) ω μ) := by
  refine rj_of' (cc := cX12_daysOf) (nL := 2) (ret := (some .int)) (own := RX12) (l0 := [(0, .int a0), (1, .int a1)]) rfl (by decide +kernel) rfl (Nat.le_of_ble_eq_true rfl) rfl ?_
  refine rj_iload_n 1 dX12_daysOf_0 rfl rfl ?_
  refine rj_iconst (v := 2) dX12_daysOf_1 rfl (by decide) ?_
  refine rj_icmp_ne dX12_daysOf_2 rfl rfl (fun h1 => ?_) (fun h1 => ?_)
  · refine rj_iload_n 1 dX12_daysOf_22 rfl rfl ?_
    refine rj_iconst (v := 4) dX12_daysOf_23 rfl (by decide) ?_
    refine rj_icmp_eq dX12_daysOf_24 rfl rfl (fun h2 => ?_) (fun h2 => ?_)
    · refine rj_bipush (v := 30) dX12_daysOf_45 rfl (by decide) ?_
      refine rj_goto dX12_daysOf_47 rfl ?_
      exact rj_iret dX12_daysOf_52 rfl (Nat.le_of_ble_eq_true rfl) (Nat.le_of_ble_eq_true rfl) ⟨(by unfold fX12_daysOf; rw [if_neg h1]; rw [if_pos h2]; try rfl), rfl, rfl⟩
    · refine rj_iload_n 1 dX12_daysOf_27 rfl rfl ?_
      refine rj_bipush (v := 6) dX12_daysOf_28 rfl (by decide) ?_
      refine rj_icmp_eq dX12_daysOf_30 rfl rfl (fun h3 => ?_) (fun h3 => ?_)
      · refine rj_bipush (v := 30) dX12_daysOf_45 rfl (by decide) ?_
        refine rj_goto dX12_daysOf_47 rfl ?_
        exact rj_iret dX12_daysOf_52 rfl (Nat.le_of_ble_eq_true rfl) (Nat.le_of_ble_eq_true rfl) ⟨(by unfold fX12_daysOf; rw [if_neg h1]; rw [if_neg h2]; rw [if_pos h3]; try rfl), rfl, rfl⟩
      · refine rj_iload_n 1 dX12_daysOf_33 rfl rfl ?_
        refine rj_bipush (v := 9) dX12_daysOf_34 rfl (by decide) ?_
        refine rj_icmp_eq dX12_daysOf_36 rfl rfl (fun h4 => ?_) (fun h4 => ?_)
        · refine rj_bipush (v := 30) dX12_daysOf_45 rfl (by decide) ?_
          refine rj_goto dX12_daysOf_47 rfl ?_
          exact rj_iret dX12_daysOf_52 rfl (Nat.le_of_ble_eq_true rfl) (Nat.le_of_ble_eq_true rfl) ⟨(by unfold fX12_daysOf; rw [if_neg h1]; rw [if_neg h2]; rw [if_neg h3]; rw [if_pos h4]; try rfl), rfl, rfl⟩
        · refine rj_iload_n 1 dX12_daysOf_39 rfl rfl ?_
          refine rj_bipush (v := 11) dX12_daysOf_40 rfl (by decide) ?_
          refine rj_icmp_ne dX12_daysOf_42 rfl rfl (fun h5 => ?_) (fun h5 => ?_)
          · refine rj_bipush (v := 31) dX12_daysOf_50 rfl (by decide) ?_
            exact rj_iret dX12_daysOf_52 rfl (Nat.le_of_ble_eq_true rfl) (Nat.le_of_ble_eq_true rfl) ⟨(by unfold fX12_daysOf; rw [if_neg h1]; rw [if_neg h2]; rw [if_neg h3]; rw [if_neg h4]; rw [if_neg h5]; try rfl), rfl, rfl⟩
          · refine rj_bipush (v := 30) dX12_daysOf_45 rfl (by decide) ?_
            refine rj_goto dX12_daysOf_47 rfl ?_
            exact rj_iret dX12_daysOf_52 rfl (Nat.le_of_ble_eq_true rfl) (Nat.le_of_ble_eq_true rfl) ⟨(by unfold fX12_daysOf; rw [if_neg h1]; rw [if_neg h2]; rw [if_neg h3]; rw [if_neg h4]; rw [if_pos h5]; try rfl), rfl, rfl⟩
  · refine rj_iload_n 0 dX12_daysOf_5 rfl rfl ?_
    refine rj_cS (rest := []) (sX12_isLeap (g := g) (ω := ω) hω μ a0   ) gX12_daysOf_X12_isLeap rfl hSX12_isLeap ⟨Nat.le_of_ble_eq_true rfl, Nat.le_of_ble_eq_true rfl⟩ dX12_daysOf_6 rfl rfl rfl (Nat.le_of_ble_eq_true rfl) rfl (Nat.le_of_ble_eq_true rfl) rfl ?_
    refine rj_if_eq dX12_daysOf_9 rfl rfl (fun h6 => ?_) (fun h6 => ?_)
    · refine rj_bipush (v := 28) dX12_daysOf_17 rfl (by decide) ?_
      refine rj_goto dX12_daysOf_19 rfl ?_
      exact rj_iret dX12_daysOf_52 rfl (Nat.le_of_ble_eq_true rfl) (Nat.le_of_ble_eq_true rfl) ⟨(by unfold fX12_daysOf; rw [if_pos h1]; rw [if_pos h6]; try rfl), rfl, rfl⟩
    · refine rj_bipush (v := 29) dX12_daysOf_12 rfl (by decide) ?_
      refine rj_goto dX12_daysOf_14 rfl ?_
      exact rj_iret dX12_daysOf_52 rfl (Nat.le_of_ble_eq_true rfl) (Nat.le_of_ble_eq_true rfl) ⟨(by unfold fX12_daysOf; rw [if_pos h1]; rw [if_neg h6]; try rfl), rfl, rfl⟩
