theorem hSX1_isLeap : yX1_isLeap.cls ≠ "java/lang/invoke/MethodHandle" ∧ yX1_isLeap.cls ≠ "java/lang/invoke/VarHandle" ∧ (parseMethodDescriptor yX1_isLeap.desc).map (fun d => d.parameters.length) = some 1 := by decide +kernel
theorem hVX1_isLeap : yX1_isLeap.cls = RX1 ∧ yX1_isLeap.cls ≠ "java/lang/invoke/MethodHandle" ∧ yX1_isLeap.cls ≠ "java/lang/invoke/VarHandle" ∧ (parseMethodDescriptor yX1_isLeap.desc).map (fun d => d.parameters.length) = some 1 := by decide +kernel
def fX1_isLeap (μ : rj_M) (a0 : Int32) : Int32 := (if (a0 - a0 / 4 * 4) = 0 then (if (a0 - a0 / 100 * 100) = 0 then (if (a0 - a0 / 400 * 400) = 0 then 1 else 0) else 1) else 0)
set_option maxHeartbeats 4000000 in
set_option maxRecDepth 100000 in
theorem sX1_isLeap {g : rj_G} {ω : rj_W} (hω : rj_ok ω) (μ : rj_M) (a0 : Int32)   : rj_Sp g yX1_isLeap wsX1_isLeap (rj_rm 0 0) [.int a0] ω μ (rj_D (.inl (some (.int (fX1_isLeap μ a0)))) ω μ) := by
  refine rj_of' (cc := cX1_isLeap) (nL := 1) (ret := (some .boolean)) (own := RX1) (l0 := [(0, .int a0)]) rfl (by decide +kernel) rfl (Nat.le_of_ble_eq_true rfl) rfl ?_
  refine rj_iload_n 0 dX1_isLeap_0 rfl rfl ?_
  refine rj_iconst (v := 4) dX1_isLeap_1 rfl (by decide) ?_
  refine rj_irem dX1_isLeap_2 rfl (by decide) ?_
  refine rj_if_ne dX1_isLeap_3 rfl rfl (fun h1 => ?_) (fun h1 => ?_)
  · refine rj_iconst (v := 0) dX1_isLeap_25 rfl (by decide) ?_
    exact rj_zret dX1_isLeap_26 rfl rfl (Nat.le_of_ble_eq_true rfl) (Nat.le_of_ble_eq_true rfl) ⟨(by unfold fX1_isLeap; rw [if_neg h1]; try rfl), rfl, rfl⟩
  · refine rj_iload_n 0 dX1_isLeap_6 rfl rfl ?_
    refine rj_bipush (v := 100) dX1_isLeap_7 rfl (by decide) ?_
    refine rj_irem dX1_isLeap_9 rfl (by decide) ?_
    refine rj_if_ne dX1_isLeap_10 rfl rfl (fun h2 => ?_) (fun h2 => ?_)
    · refine rj_iconst (v := 1) dX1_isLeap_21 rfl (by decide) ?_
      refine rj_goto dX1_isLeap_22 rfl ?_
      exact rj_zret dX1_isLeap_26 rfl rfl (Nat.le_of_ble_eq_true rfl) (Nat.le_of_ble_eq_true rfl) ⟨(by unfold fX1_isLeap; rw [if_pos h1]; rw [if_neg h2]; try rfl), rfl, rfl⟩
    · refine rj_iload_n 0 dX1_isLeap_13 rfl rfl ?_
      refine rj_sipush (v := 400) dX1_isLeap_14 rfl (by decide) ?_
      refine rj_irem dX1_isLeap_17 rfl (by decide) ?_
      refine rj_if_ne dX1_isLeap_18 rfl rfl (fun h3 => ?_) (fun h3 => ?_)
      · refine rj_iconst (v := 0) dX1_isLeap_25 rfl (by decide) ?_
        exact rj_zret dX1_isLeap_26 rfl rfl (Nat.le_of_ble_eq_true rfl) (Nat.le_of_ble_eq_true rfl) ⟨(by unfold fX1_isLeap; rw [if_pos h1]; rw [if_pos h2]; rw [if_neg h3]; try rfl), rfl, rfl⟩
      · refine rj_iconst (v := 1) dX1_isLeap_21 rfl (by decide) ?_
        refine rj_goto dX1_isLeap_22 rfl ?_
        exact rj_zret dX1_isLeap_26 rfl rfl (Nat.le_of_ble_eq_true rfl) (Nat.le_of_ble_eq_true rfl) ⟨(by unfold fX1_isLeap; rw [if_pos h1]; rw [if_pos h2]; rw [if_pos h3]; try rfl), rfl, rfl⟩
theorem nX1_isLeap (μ : rj_M) (a0 : Int32) : narrow .boolean (.int (fX1_isLeap μ a0)) = .int (fX1_isLeap μ a0) := by
  unfold fX1_isLeap
  (repeat (first | rfl | split))
theorem hSX1_daysIn : yX1_daysIn.cls ≠ "java/lang/invoke/MethodHandle" ∧ yX1_daysIn.cls ≠ "java/lang/invoke/VarHandle" ∧ (parseMethodDescriptor yX1_daysIn.desc).map (fun d => d.parameters.length) = some 2 := by decide +kernel
theorem hVX1_daysIn : yX1_daysIn.cls = RX1 ∧ yX1_daysIn.cls ≠ "java/lang/invoke/MethodHandle" ∧ yX1_daysIn.cls ≠ "java/lang/invoke/VarHandle" ∧ (parseMethodDescriptor yX1_daysIn.desc).map (fun d => d.parameters.length) = some 2 := by decide +kernel
def fX1_daysIn (μ : rj_M) (a0 : Int32) (a1 : Int32) : Int32 := (if a1 = 2 then (if (fX1_isLeap μ a0) = 0 then 28 else 29) else (if a1 = 4 then 30 else (if a1 = 6 then 30 else (if a1 = 9 then 30 else (if a1 = 11 then 30 else 31)))))
set_option maxHeartbeats 4000000 in
set_option maxRecDepth 100000 in
theorem sX1_daysIn {g : rj_G} {ω : rj_W} (hω : rj_ok ω) (μ : rj_M) (a0 : Int32) (a1 : Int32)   : rj_Sp g yX1_daysIn wsX1_daysIn (rj_rm 1 0) [.int a0, .int a1] ω μ (rj_D (.inl (some (.int (fX1_daysIn μ a0 a1)))) ω μ) := by
  refine rj_of' (cc := cX1_daysIn) (nL := 2) (ret := (some .int)) (own := RX1) (l0 := [(0, .int a0), (1, .int a1)]) rfl (by decide +kernel) rfl (Nat.le_of_ble_eq_true rfl) rfl ?_
  refine rj_iload_n 1 dX1_daysIn_0 rfl rfl ?_
  refine rj_iconst (v := 2) dX1_daysIn_1 rfl (by decide) ?_
  refine rj_icmp_ne dX1_daysIn_2 rfl rfl (fun h1 => ?_) (fun h1 => ?_)
  · refine rj_iload_n 1 dX1_daysIn_20 rfl rfl ?_
    refine rj_iconst (v := 4) dX1_daysIn_21 rfl (by decide) ?_
    refine rj_icmp_eq dX1_daysIn_22 rfl rfl (fun h2 => ?_) (fun h2 => ?_)
    · refine rj_bipush (v := 30) dX1_daysIn_43 rfl (by decide) ?_
      refine rj_goto dX1_daysIn_45 rfl ?_
      exact rj_iret dX1_daysIn_50 rfl (Nat.le_of_ble_eq_true rfl) (Nat.le_of_ble_eq_true rfl) ⟨(by unfold fX1_daysIn; rw [if_neg h1]; rw [if_pos h2]; try rfl), rfl, rfl⟩
    · refine rj_iload_n 1 dX1_daysIn_25 rfl rfl ?_
      refine rj_bipush (v := 6) dX1_daysIn_26 rfl (by decide) ?_
      refine rj_icmp_eq dX1_daysIn_28 rfl rfl (fun h3 => ?_) (fun h3 => ?_)
      · refine rj_bipush (v := 30) dX1_daysIn_43 rfl (by decide) ?_
        refine rj_goto dX1_daysIn_45 rfl ?_
        exact rj_iret dX1_daysIn_50 rfl (Nat.le_of_ble_eq_true rfl) (Nat.le_of_ble_eq_true rfl) ⟨(by unfold fX1_daysIn; rw [if_neg h1]; rw [if_neg h2]; rw [if_pos h3]; try rfl), rfl, rfl⟩
      · refine rj_iload_n 1 dX1_daysIn_31 rfl rfl ?_
        refine rj_bipush (v := 9) dX1_daysIn_32 rfl (by decide) ?_
        refine rj_icmp_eq dX1_daysIn_34 rfl rfl (fun h4 => ?_) (fun h4 => ?_)
        · refine rj_bipush (v := 30) dX1_daysIn_43 rfl (by decide) ?_
          refine rj_goto dX1_daysIn_45 rfl ?_
          exact rj_iret dX1_daysIn_50 rfl (Nat.le_of_ble_eq_true rfl) (Nat.le_of_ble_eq_true rfl) ⟨(by unfold fX1_daysIn; rw [if_neg h1]; rw [if_neg h2]; rw [if_neg h3]; rw [if_pos h4]; try rfl), rfl, rfl⟩
        · refine rj_iload_n 1 dX1_daysIn_37 rfl rfl ?_
          refine rj_bipush (v := 11) dX1_daysIn_38 rfl (by decide) ?_
          refine rj_icmp_ne dX1_daysIn_40 rfl rfl (fun h5 => ?_) (fun h5 => ?_)
          · refine rj_bipush (v := 31) dX1_daysIn_48 rfl (by decide) ?_
            exact rj_iret dX1_daysIn_50 rfl (Nat.le_of_ble_eq_true rfl) (Nat.le_of_ble_eq_true rfl) ⟨(by unfold fX1_daysIn; rw [if_neg h1]; rw [if_neg h2]; rw [if_neg h3]; rw [if_neg h4]; rw [if_neg h5]; try rfl), rfl, rfl⟩
          · refine rj_bipush (v := 30) dX1_daysIn_43 rfl (by decide) ?_
            refine rj_goto dX1_daysIn_45 rfl ?_
            exact rj_iret dX1_daysIn_50 rfl (Nat.le_of_ble_eq_true rfl) (Nat.le_of_ble_eq_true rfl) ⟨(by unfold fX1_daysIn; rw [if_neg h1]; rw [if_neg h2]; rw [if_neg h3]; rw [if_neg h4]; rw [if_pos h5]; try rfl), rfl, rfl⟩
  · refine rj_iload_n 0 dX1_daysIn_5 rfl rfl ?_
    refine rj_cS (rest := []) (sX1_isLeap (g := g) (ω := ω) hω μ a0  ) gX1_daysIn_X1_isLeap rfl hSX1_isLeap ⟨Nat.le_of_ble_eq_true rfl, Nat.le_of_ble_eq_true rfl⟩ dX1_daysIn_6 rfl rfl rfl (Nat.le_of_ble_eq_true rfl) rfl (Nat.le_of_ble_eq_true rfl) rfl ?_
    refine rj_if_eq dX1_daysIn_9 rfl rfl (fun h6 => ?_) (fun h6 => ?_)
    · refine rj_bipush (v := 28) dX1_daysIn_17 rfl (by decide) ?_
      exact rj_iret dX1_daysIn_19 rfl (Nat.le_of_ble_eq_true rfl) (Nat.le_of_ble_eq_true rfl) ⟨(by unfold fX1_daysIn; rw [if_pos h1]; rw [if_pos h6]; try rfl), rfl, rfl⟩
    · refine rj_bipush (v := 29) dX1_daysIn_12 rfl (by decide) ?_
      refine rj_goto dX1_daysIn_14 rfl ?_
      exact rj_iret dX1_daysIn_19 rfl (Nat.le_of_ble_eq_true rfl) (Nat.le_of_ble_eq_true rfl) ⟨(by unfold fX1_daysIn; rw [if_pos h1]; rw [if_neg h6]; try rfl), rfl, rfl⟩
theorem hSX1_isDate : yX1_isDate.cls ≠ "java/lang/invoke/MethodHandle" ∧ yX1_isDate.cls ≠ "java/lang/invoke/VarHandle" ∧ (parseMethodDescriptor yX1_isDate.desc).map (fun d => d.parameters.length) = some 3 := by decide +kernel
theorem hVX1_isDate : yX1_isDate.cls = RX1 ∧ yX1_isDate.cls ≠ "java/lang/invoke/MethodHandle" ∧ yX1_isDate.cls ≠ "java/lang/invoke/VarHandle" ∧ (parseMethodDescriptor yX1_isDate.desc).map (fun d => d.parameters.length) = some 3 := by decide +kernel
def fX1_isDate (μ : rj_M) (a0 : Int32) (a1 : Int32) (a2 : Int32) : Int32 := (if a0 < 1 then 0 else (if 9990 < a0 then 0 else (if a1 < 1 then 0 else (if 12 < a1 then 0 else (if a2 < 1 then 0 else (if (fX1_daysIn μ a0 a1) < a2 then 0 else 1))))))
set_option maxHeartbeats 4000000 in
set_option maxRecDepth 100000 in
theorem sX1_isDate {g : rj_G} {ω : rj_W} (hω : rj_ok ω) (μ : rj_M) (a0 : Int32) (a1 : Int32) (a2 : Int32)   : rj_Sp g yX1_isDate wsX1_isDate (rj_rm 2 0) [.int a0, .int a1, .int a2] ω μ (rj_D (.inl (some (.int (fX1_isDate μ a0 a1 a2)))) ω μ) := by
  refine rj_of' (cc := cX1_isDate) (nL := 3) (ret := (some .boolean)) (own := RX1) (l0 := [(0, .int a0), (1, .int a1), (2, .int a2)]) rfl (by decide +kernel) rfl (Nat.le_of_ble_eq_true rfl) rfl ?_
  refine rj_iload_n 0 dX1_isDate_0 rfl rfl ?_
  refine rj_iconst (v := 1) dX1_isDate_1 rfl (by decide) ?_
  refine rj_icmp_lt dX1_isDate_2 rfl rfl (fun h1 => ?_) (fun h1 => ?_)
  · refine rj_iconst (v := 0) dX1_isDate_41 rfl (by decide) ?_
    exact rj_zret dX1_isDate_42 rfl rfl (Nat.le_of_ble_eq_true rfl) (Nat.le_of_ble_eq_true rfl) ⟨(by unfold fX1_isDate; rw [if_pos h1]; try rfl), rfl, rfl⟩
  · refine rj_iload_n 0 dX1_isDate_5 rfl rfl ?_
    refine rj_sipush (v := 9990) dX1_isDate_6 rfl (by decide) ?_
    refine rj_icmp_gt dX1_isDate_9 rfl rfl (fun h2 => ?_) (fun h2 => ?_)
    · refine rj_iconst (v := 0) dX1_isDate_41 rfl (by decide) ?_
      exact rj_zret dX1_isDate_42 rfl rfl (Nat.le_of_ble_eq_true rfl) (Nat.le_of_ble_eq_true rfl) ⟨(by unfold fX1_isDate; rw [if_neg h1]; rw [if_pos h2]; try rfl), rfl, rfl⟩
    · refine rj_iload_n 1 dX1_isDate_12 rfl rfl ?_
      refine rj_iconst (v := 1) dX1_isDate_13 rfl (by decide) ?_
      refine rj_icmp_lt dX1_isDate_14 rfl rfl (fun h3 => ?_) (fun h3 => ?_)
      · refine rj_iconst (v := 0) dX1_isDate_41 rfl (by decide) ?_
        exact rj_zret dX1_isDate_42 rfl rfl (Nat.le_of_ble_eq_true rfl) (Nat.le_of_ble_eq_true rfl) ⟨(by unfold fX1_isDate; rw [if_neg h1]; rw [if_neg h2]; rw [if_pos h3]; try rfl), rfl, rfl⟩
      · refine rj_iload_n 1 dX1_isDate_17 rfl rfl ?_
        refine rj_bipush (v := 12) dX1_isDate_18 rfl (by decide) ?_
        refine rj_icmp_gt dX1_isDate_20 rfl rfl (fun h4 => ?_) (fun h4 => ?_)
        · refine rj_iconst (v := 0) dX1_isDate_41 rfl (by decide) ?_
          exact rj_zret dX1_isDate_42 rfl rfl (Nat.le_of_ble_eq_true rfl) (Nat.le_of_ble_eq_true rfl) ⟨(by unfold fX1_isDate; rw [if_neg h1]; rw [if_neg h2]; rw [if_neg h3]; rw [if_pos h4]; try rfl), rfl, rfl⟩
        · refine rj_iload_n 2 dX1_isDate_23 rfl rfl ?_
          refine rj_iconst (v := 1) dX1_isDate_24 rfl (by decide) ?_
          refine rj_icmp_lt dX1_isDate_25 rfl rfl (fun h5 => ?_) (fun h5 => ?_)
          · refine rj_iconst (v := 0) dX1_isDate_41 rfl (by decide) ?_
            exact rj_zret dX1_isDate_42 rfl rfl (Nat.le_of_ble_eq_true rfl) (Nat.le_of_ble_eq_true rfl) ⟨(by unfold fX1_isDate; rw [if_neg h1]; rw [if_neg h2]; rw [if_neg h3]; rw [if_neg h4]; rw [if_pos h5]; try rfl), rfl, rfl⟩
          · refine rj_iload_n 2 dX1_isDate_28 rfl rfl ?_
            refine rj_iload_n 0 dX1_isDate_29 rfl rfl ?_
            refine rj_iload_n 1 dX1_isDate_30 rfl rfl ?_
            refine rj_cS (rest := [.int a2]) (sX1_daysIn (g := g) (ω := ω) hω μ a0 a1  ) gX1_isDate_X1_daysIn rfl hSX1_daysIn ⟨Nat.le_of_ble_eq_true rfl, Nat.le_of_ble_eq_true rfl⟩ dX1_isDate_31 rfl rfl rfl (Nat.le_of_ble_eq_true rfl) rfl (Nat.le_of_ble_eq_true rfl) rfl ?_
            refine rj_icmp_gt dX1_isDate_34 rfl rfl (fun h6 => ?_) (fun h6 => ?_)
            · refine rj_iconst (v := 0) dX1_isDate_41 rfl (by decide) ?_
              exact rj_zret dX1_isDate_42 rfl rfl (Nat.le_of_ble_eq_true rfl) (Nat.le_of_ble_eq_true rfl) ⟨(by unfold fX1_isDate; rw [if_neg h1]; rw [if_neg h2]; rw [if_neg h3]; rw [if_neg h4]; rw [if_neg h5]; rw [if_pos h6]; try rfl), rfl, rfl⟩
            · refine rj_iconst (v := 1) dX1_isDate_37 rfl (by decide) ?_
              refine rj_goto dX1_isDate_38 rfl ?_
              exact rj_zret dX1_isDate_42 rfl rfl (Nat.le_of_ble_eq_true rfl) (Nat.le_of_ble_eq_true rfl) ⟨(by unfold fX1_isDate; rw [if_neg h1]; rw [if_neg h2]; rw [if_neg h3]; rw [if_neg h4]; rw [if_neg h5]; rw [if_neg h6]; try rfl), rfl, rfl⟩
theorem nX1_isDate (μ : rj_M) (a0 : Int32) (a1 : Int32) (a2 : Int32) : narrow .boolean (.int (fX1_isDate μ a0 a1 a2)) = .int (fX1_isDate μ a0 a1 a2) := by
  unfold fX1_isDate
  (repeat (first | rfl | split))
theorem hSX1_startOn : yX1_startOn.cls ≠ "java/lang/invoke/MethodHandle" ∧ yX1_startOn.cls ≠ "java/lang/invoke/VarHandle" ∧ (parseMethodDescriptor yX1_startOn.desc).map (fun d => d.parameters.length) = some 3 := by decide +kernel
theorem hVX1_startOn : yX1_startOn.cls = RX1 ∧ yX1_startOn.cls ≠ "java/lang/invoke/MethodHandle" ∧ yX1_startOn.cls ≠ "java/lang/invoke/VarHandle" ∧ (parseMethodDescriptor yX1_startOn.desc).map (fun d => d.parameters.length) = some 3 := by decide +kernel
theorem vX1_startOn_1 : ∀ w ∈ u_ws RX1 TX1 3, w ∈ wsX1_startOn := by decide +kernel
theorem kX1_startOn_7 : Cond.fieldLink RX1 7 (TX1 0).1 (TX1 0).2.1 (TX1 0).2.2.1 ∈ wsX1_startOn := by decide +kernel
theorem kX1_startOn_13 : Cond.fieldLink RX1 13 (TX1 1).1 (TX1 1).2.1 (TX1 1).2.2.1 ∈ wsX1_startOn := by decide +kernel
theorem kX1_startOn_16 : Cond.fieldLink RX1 16 (TX1 2).1 (TX1 2).2.1 (TX1 2).2.2.1 ∈ wsX1_startOn := by decide +kernel
def mX1_startOn (μ : rj_M) (a0 : Int32) (a1 : Int32) (a2 : Int32) : rj_M := (rj_pi (rj_pi (rj_pi μ 2 0 a0) 2 1 a1) 2 2 a2)
set_option maxHeartbeats 4000000 in
set_option maxRecDepth 100000 in
theorem sX1_startOn {g : rj_G} {ω : rj_W} (hω : rj_ok ω) (μ : rj_M) (a0 : Int32) (a1 : Int32) (a2 : Int32)   : rj_Sp g yX1_startOn wsX1_startOn (rj_rm 0 0) [.ref (ω.2.2 2), .int a0, .int a1, .int a2] ω μ (rj_D (.inl none) ω (mX1_startOn μ a0 a1 a2)) := by
  refine rj_of' (cc := cX1_startOn) (nL := 4) (ret := none) (own := RX1) (l0 := [(0, .ref (ω.2.2 2)), (1, .int a0), (2, .int a1), (3, .int a2)]) rfl (by decide +kernel) rfl (Nat.le_of_ble_eq_true rfl) rfl ?_
  refine rj_aload_n 0 dX1_startOn_0 rfl rfl ?_
  refine rj_iload_n 1 dX1_startOn_1 rfl rfl ?_
  refine rj_putI (C0 := RX1) (T := TX1) (N := 3) (j := 0) dX1_startOn_2 rfl vX1_startOn_1 rfl (rj_lt hω (k := 2) rfl) (rj_sh hω ly_2) (by decide) kX1_startOn_7 tyX1 tyX1_ok nmX1 rfl rfl rfl rfl ?_
  refine rj_aload_n 0 dX1_startOn_5 rfl rfl ?_
  refine rj_iload_n 2 dX1_startOn_6 rfl rfl ?_
  refine rj_putI (C0 := RX1) (T := TX1) (N := 3) (j := 1) dX1_startOn_7 rfl vX1_startOn_1 rfl (rj_lt hω (k := 2) rfl) (rj_sh hω ly_2) (by decide) kX1_startOn_13 tyX1 tyX1_ok nmX1 rfl rfl rfl rfl ?_
  refine rj_aload_n 0 dX1_startOn_10 rfl rfl ?_
  refine rj_iload_n 3 dX1_startOn_11 rfl rfl ?_
  refine rj_putI (C0 := RX1) (T := TX1) (N := 3) (j := 2) dX1_startOn_12 rfl vX1_startOn_1 rfl (rj_lt hω (k := 2) rfl) (rj_sh hω ly_2) (by decide) kX1_startOn_16 tyX1 tyX1_ok nmX1 rfl rfl rfl rfl ?_
  exact rj_vret dX1_startOn_15 rfl (Nat.le_of_ble_eq_true rfl) (Nat.le_of_ble_eq_true rfl) ⟨rfl, rfl, (by unfold mX1_startOn; rfl)⟩
theorem hSX1_weekdayOf : yX1_weekdayOf.cls ≠ "java/lang/invoke/MethodHandle" ∧ yX1_weekdayOf.cls ≠ "java/lang/invoke/VarHandle" ∧ (parseMethodDescriptor yX1_weekdayOf.desc).map (fun d => d.parameters.length) = some 1 := by decide +kernel
theorem hVX1_weekdayOf : yX1_weekdayOf.cls = RX1 ∧ yX1_weekdayOf.cls ≠ "java/lang/invoke/MethodHandle" ∧ yX1_weekdayOf.cls ≠ "java/lang/invoke/VarHandle" ∧ (parseMethodDescriptor yX1_weekdayOf.desc).map (fun d => d.parameters.length) = some 1 := by decide +kernel
theorem vX1_weekdayOf_1 : ∀ w ∈ u_ws RX1 TX1 3, w ∈ wsX1_weekdayOf := by decide +kernel
theorem kX1_weekdayOf_7 : Cond.fieldLink RX1 7 (TX1 0).1 (TX1 0).2.1 (TX1 0).2.2.1 ∈ wsX1_weekdayOf := by decide +kernel
theorem kX1_weekdayOf_13 : Cond.fieldLink RX1 13 (TX1 1).1 (TX1 1).2.1 (TX1 1).2.2.1 ∈ wsX1_weekdayOf := by decide +kernel
theorem kX1_weekdayOf_16 : Cond.fieldLink RX1 16 (TX1 2).1 (TX1 2).2.1 (TX1 2).2.2.1 ∈ wsX1_weekdayOf := by decide +kernel
def bX1_weekdayOf_31 (μ : rj_M) (a0 : Int32) (j31 : Nat) (s31 : Int32) : Int32 := (s31 + (fX1_daysIn μ (μ.1 2 0) (nI j31)))
set_option maxHeartbeats 4000000 in
set_option maxRecDepth 100000 in
theorem lX1_weekdayOf_31 {g : rj_G} {ω : rj_W} (hω : rj_ok ω) (μ : rj_M) (a0 : Int32)     {F : rj_F} : ∀ (r j : Nat) (s : Int32), r = (μ.1 2 1).toInt.toNat - j → j < 2 ^ 31 → (rj_R g RX1 cX1_weekdayOf 5 (some .int) wsX1_weekdayOf [] (rj_rm 2 0) F 0 ω μ [(0, .ref (ω.2.2 2)), (1, .int a0), (2, .int ((μ.1 2 0) - 1)), (3, .int (rj_fo (bX1_weekdayOf_31 μ a0) r j s))] 58 []) → rj_R g RX1 cX1_weekdayOf 5 (some .int) wsX1_weekdayOf [] (rj_rm 2 0) F 0 ω μ [(0, .ref (ω.2.2 2)), (1, .int a0), (2, .int ((μ.1 2 0) - 1)), (3, .int s), (4, .int (nI j))] 31 [] := by
  intro r
  induction r with
  | zero =>
    intro j s hj hJ K
    have e0 : (μ.1 2 1).toInt.toNat ≤ j := by omega
    have hge : (μ.1 2 1) ≤ nI j := (rj_leN hJ).mpr e0
    refine rj_iload 4 dX1_weekdayOf_31 rfl rfl ?_
    refine rj_aload_n 0 dX1_weekdayOf_33 rfl rfl ?_
    refine rj_getI (C0 := RX1) (T := TX1) (N := 3) (j := 1) dX1_weekdayOf_34 rfl vX1_weekdayOf_1 rfl (rj_lt hω (k := 2) rfl) (rj_sh hω ly_2) (by decide) kX1_weekdayOf_13 rfl ?_
    refine rj_icmp_ge dX1_weekdayOf_37 rfl rfl (fun h2 => ?_) (fun h2 => ?_)
    · refine rj_sub (l' := [(0, .ref (ω.2.2 2)), (1, .int a0), (2, .int ((μ.1 2 0) - 1)), (3, .int s)]) [0, 1, 2, 3] rfl ?_
      exact K
    · exact absurd hge h2
  | succ r ih =>
    intro j31 s31 hj hJ K
    have hl31 : j31 < (μ.1 2 1).toInt.toNat := by omega
    have hg31 : ¬ (μ.1 2 1) ≤ nI j31 := fun z => absurd ((rj_leN hJ).mp z) (by omega)
    have hN := rj_tN (μ.1 2 1)
    refine rj_iload 4 dX1_weekdayOf_31 rfl rfl ?_
    refine rj_aload_n 0 dX1_weekdayOf_33 rfl rfl ?_
    refine rj_getI (C0 := RX1) (T := TX1) (N := 3) (j := 1) dX1_weekdayOf_34 rfl vX1_weekdayOf_1 rfl (rj_lt hω (k := 2) rfl) (rj_sh hω ly_2) (by decide) kX1_weekdayOf_13 rfl ?_
    refine rj_icmp_ge dX1_weekdayOf_37 rfl rfl (fun h1 => ?_) (fun h1 => ?_)
    · exact absurd h1 hg31
    · refine rj_iload_n 3 dX1_weekdayOf_40 rfl rfl ?_
      refine rj_aload_n 0 dX1_weekdayOf_41 rfl rfl ?_
      refine rj_getI (C0 := RX1) (T := TX1) (N := 3) (j := 0) dX1_weekdayOf_42 rfl vX1_weekdayOf_1 rfl (rj_lt hω (k := 2) rfl) (rj_sh hω ly_2) (by decide) kX1_weekdayOf_7 rfl ?_
      refine rj_iload 4 dX1_weekdayOf_45 rfl rfl ?_
      refine rj_cS (rest := [.int s31]) (sX1_daysIn (g := g) (ω := ω) hω μ (μ.1 2 0) (nI j31)  ) gX1_weekdayOf_X1_daysIn rfl hSX1_daysIn ⟨Nat.le_of_ble_eq_true rfl, Nat.le_of_ble_eq_true rfl⟩ dX1_weekdayOf_47 rfl rfl rfl (Nat.le_of_ble_eq_true rfl) rfl (Nat.le_of_ble_eq_true rfl) rfl ?_
      refine rj_iadd dX1_weekdayOf_50 rfl ?_
      refine rj_istore_n (l' := [(3, .int (s31 + (fX1_daysIn μ (μ.1 2 0) (nI j31)))), (0, .ref (ω.2.2 2)), (1, .int a0), (2, .int ((μ.1 2 0) - 1)), (4, .int (nI j31))]) dX1_weekdayOf_51 rfl (rj_bl rfl) rfl ?_
      refine rj_iinc (v := nI (j31 + 1)) (l' := [(4, .int (nI (j31 + 1))), (3, .int (s31 + (fX1_daysIn μ (μ.1 2 0) (nI j31)))), (0, .ref (ω.2.2 2)), (1, .int a0), (2, .int ((μ.1 2 0) - 1))]) 4 dX1_weekdayOf_52 rfl rfl (nI_succ j31).symm (rj_bl rfl) rfl ?_
      refine rj_goto dX1_weekdayOf_55 rfl ?_
      have e : bX1_weekdayOf_31 μ a0 j31 s31 = (s31 + (fX1_daysIn μ (μ.1 2 0) (nI j31))) := by unfold bX1_weekdayOf_31; rfl
      exact rj_sub (l' := [(0, .ref (ω.2.2 2)), (1, .int a0), (2, .int ((μ.1 2 0) - 1)), (3, .int (s31 + (fX1_daysIn μ (μ.1 2 0) (nI j31)))), (4, .int (nI (j31 + 1)))]) [2, 3, 4, 1, 0] rfl (ih (j31 + 1) (s31 + (fX1_daysIn μ (μ.1 2 0) (nI j31))) (by omega) (by omega) (by rw [rj_fo_s, e] at K; exact K))
def fX1_weekdayOf (μ : rj_M) (a0 : Int32) : Int32 := ((((((rj_fo (bX1_weekdayOf_31 μ a0) ((μ.1 2 1).toInt.toNat - 1) 1 ((((365 * ((μ.1 2 0) - 1)) + (((μ.1 2 0) - 1) / 4)) - (((μ.1 2 0) - 1) / 100)) + (((μ.1 2 0) - 1) / 400))) + (μ.1 2 2)) - 1) + a0) - ((((rj_fo (bX1_weekdayOf_31 μ a0) ((μ.1 2 1).toInt.toNat - 1) 1 ((((365 * ((μ.1 2 0) - 1)) + (((μ.1 2 0) - 1) / 4)) - (((μ.1 2 0) - 1) / 100)) + (((μ.1 2 0) - 1) / 400))) + (μ.1 2 2)) - 1) + a0) / 7 * 7) + 1)
set_option maxHeartbeats 4000000 in
set_option maxRecDepth 100000 in
theorem sX1_weekdayOf {g : rj_G} {ω : rj_W} (hω : rj_ok ω) (μ : rj_M) (a0 : Int32)   : rj_Sp g yX1_weekdayOf wsX1_weekdayOf (rj_rm 2 0) [.ref (ω.2.2 2), .int a0] ω μ (rj_D (.inl (some (.int (fX1_weekdayOf μ a0)))) ω μ) := by
  refine rj_of' (cc := cX1_weekdayOf) (nL := 5) (ret := (some .int)) (own := RX1) (l0 := [(0, .ref (ω.2.2 2)), (1, .int a0)]) rfl (by decide +kernel) rfl (Nat.le_of_ble_eq_true rfl) rfl ?_
  refine rj_aload_n 0 dX1_weekdayOf_0 rfl rfl ?_
  refine rj_getI (C0 := RX1) (T := TX1) (N := 3) (j := 0) dX1_weekdayOf_1 rfl vX1_weekdayOf_1 rfl (rj_lt hω (k := 2) rfl) (rj_sh hω ly_2) (by decide) kX1_weekdayOf_7 rfl ?_
  refine rj_iconst (v := 1) dX1_weekdayOf_4 rfl (by decide) ?_
  refine rj_isub dX1_weekdayOf_5 rfl ?_
  refine rj_istore_n (l' := [(2, .int ((μ.1 2 0) - 1)), (0, .ref (ω.2.2 2)), (1, .int a0)]) dX1_weekdayOf_6 rfl (rj_bl rfl) rfl ?_
  refine rj_sipush (v := 365) dX1_weekdayOf_7 rfl (by decide) ?_
  refine rj_iload_n 0 dX1_weekdayOf_10 rfl rfl ?_
  refine rj_imul dX1_weekdayOf_11 rfl ?_
  refine rj_iload_n 0 dX1_weekdayOf_12 rfl rfl ?_
  refine rj_iconst (v := 4) dX1_weekdayOf_13 rfl (by decide) ?_
  refine rj_idiv dX1_weekdayOf_14 rfl (by decide) ?_
  refine rj_iadd dX1_weekdayOf_15 rfl ?_
  refine rj_iload_n 0 dX1_weekdayOf_16 rfl rfl ?_
  refine rj_bipush (v := 100) dX1_weekdayOf_17 rfl (by decide) ?_
  refine rj_idiv dX1_weekdayOf_19 rfl (by decide) ?_
  refine rj_isub dX1_weekdayOf_20 rfl ?_
  refine rj_iload_n 0 dX1_weekdayOf_21 rfl rfl ?_
  refine rj_sipush (v := 400) dX1_weekdayOf_22 rfl (by decide) ?_
  refine rj_idiv dX1_weekdayOf_25 rfl (by decide) ?_
  refine rj_iadd dX1_weekdayOf_26 rfl ?_
  refine rj_istore_n (l' := [(3, .int ((((365 * ((μ.1 2 0) - 1)) + (((μ.1 2 0) - 1) / 4)) - (((μ.1 2 0) - 1) / 100)) + (((μ.1 2 0) - 1) / 400))), (2, .int ((μ.1 2 0) - 1)), (0, .ref (ω.2.2 2)), (1, .int a0)]) dX1_weekdayOf_27 rfl (rj_bl rfl) rfl ?_
  refine rj_iconst (v := 1) dX1_weekdayOf_28 rfl (by decide) ?_
  refine rj_istore (l' := [(4, .int 1), (3, .int ((((365 * ((μ.1 2 0) - 1)) + (((μ.1 2 0) - 1) / 4)) - (((μ.1 2 0) - 1) / 100)) + (((μ.1 2 0) - 1) / 400))), (2, .int ((μ.1 2 0) - 1)), (0, .ref (ω.2.2 2)), (1, .int a0)]) dX1_weekdayOf_29 rfl (rj_bl rfl) rfl ?_
  refine rj_sub (l' := [(0, .ref (ω.2.2 2)), (1, .int a0), (2, .int ((μ.1 2 0) - 1)), (3, .int ((((365 * ((μ.1 2 0) - 1)) + (((μ.1 2 0) - 1) / 4)) - (((μ.1 2 0) - 1) / 100)) + (((μ.1 2 0) - 1) / 400))), (4, .int (nI 1))]) [3, 4, 2, 1, 0] rfl ?_
  refine lX1_weekdayOf_31 hω μ a0     ((μ.1 2 1).toInt.toNat - 1) 1 ((((365 * ((μ.1 2 0) - 1)) + (((μ.1 2 0) - 1) / 4)) - (((μ.1 2 0) - 1) / 100)) + (((μ.1 2 0) - 1) / 400)) rfl (rj_bl rfl) ?_
  refine rj_iload_n 3 dX1_weekdayOf_58 rfl rfl ?_
  refine rj_aload_n 0 dX1_weekdayOf_59 rfl rfl ?_
  refine rj_getI (C0 := RX1) (T := TX1) (N := 3) (j := 2) dX1_weekdayOf_60 rfl vX1_weekdayOf_1 rfl (rj_lt hω (k := 2) rfl) (rj_sh hω ly_2) (by decide) kX1_weekdayOf_16 rfl ?_
  refine rj_iadd dX1_weekdayOf_63 rfl ?_
  refine rj_iconst (v := 1) dX1_weekdayOf_64 rfl (by decide) ?_
  refine rj_isub dX1_weekdayOf_65 rfl ?_
  refine rj_iload_n 1 dX1_weekdayOf_66 rfl rfl ?_
  refine rj_iadd dX1_weekdayOf_67 rfl ?_
  refine rj_bipush (v := 7) dX1_weekdayOf_68 rfl (by decide) ?_
  refine rj_irem dX1_weekdayOf_70 rfl (by decide) ?_
  refine rj_iconst (v := 1) dX1_weekdayOf_71 rfl (by decide) ?_
  refine rj_iadd dX1_weekdayOf_72 rfl ?_
  exact rj_iret dX1_weekdayOf_73 rfl (Nat.le_of_ble_eq_true rfl) (Nat.le_of_ble_eq_true rfl) ⟨(by unfold fX1_weekdayOf; rfl), rfl, rfl⟩
theorem hSX1_partOf : yX1_partOf.cls ≠ "java/lang/invoke/MethodHandle" ∧ yX1_partOf.cls ≠ "java/lang/invoke/VarHandle" ∧ (parseMethodDescriptor yX1_partOf.desc).map (fun d => d.parameters.length) = some 2 := by decide +kernel
theorem hVX1_partOf : yX1_partOf.cls = RX1 ∧ yX1_partOf.cls ≠ "java/lang/invoke/MethodHandle" ∧ yX1_partOf.cls ≠ "java/lang/invoke/VarHandle" ∧ (parseMethodDescriptor yX1_partOf.desc).map (fun d => d.parameters.length) = some 2 := by decide +kernel
theorem vX1_partOf_1 : ∀ w ∈ u_ws RX1 TX1 3, w ∈ wsX1_partOf := by decide +kernel
theorem kX1_partOf_7 : Cond.fieldLink RX1 7 (TX1 0).1 (TX1 0).2.1 (TX1 0).2.2.1 ∈ wsX1_partOf := by decide +kernel
theorem kX1_partOf_13 : Cond.fieldLink RX1 13 (TX1 1).1 (TX1 1).2.1 (TX1 1).2.2.1 ∈ wsX1_partOf := by decide +kernel
theorem kX1_partOf_16 : Cond.fieldLink RX1 16 (TX1 2).1 (TX1 2).2.1 (TX1 2).2.2.1 ∈ wsX1_partOf := by decide +kernel
def fX1_partOf (μ : rj_M) (a0 : Int32) (a1 : Int32) : Int32 := (if a1 = 3 then (fX1_weekdayOf μ a0) else (if ((μ.1 2 2) + a0) ≤ (fX1_daysIn μ (μ.1 2 0) (μ.1 2 1)) then (if a1 = 0 then (μ.1 2 0) else (if a1 = 1 then (μ.1 2 1) else ((μ.1 2 2) + a0))) else (if (μ.1 2 1) = 12 then (if a1 = 0 then ((μ.1 2 0) + 1) else (if a1 = 1 then 1 else (((μ.1 2 2) + a0) - (fX1_daysIn μ (μ.1 2 0) (μ.1 2 1))))) else (if a1 = 0 then (μ.1 2 0) else (if a1 = 1 then ((μ.1 2 1) + 1) else (((μ.1 2 2) + a0) - (fX1_daysIn μ (μ.1 2 0) (μ.1 2 1))))))))
set_option maxHeartbeats 4000000 in
set_option maxRecDepth 100000 in
theorem sX1_partOf {g : rj_G} {ω : rj_W} (hω : rj_ok ω) (μ : rj_M) (a0 : Int32) (a1 : Int32)   : rj_Sp g yX1_partOf wsX1_partOf (rj_rm 3 0) [.ref (ω.2.2 2), .int a0, .int a1] ω μ (rj_D (.inl (some (.int (fX1_partOf μ a0 a1)))) ω μ) := by
  refine rj_of' (cc := cX1_partOf) (nL := 6) (ret := (some .int)) (own := RX1) (l0 := [(0, .ref (ω.2.2 2)), (1, .int a0), (2, .int a1)]) rfl (by decide +kernel) rfl (Nat.le_of_ble_eq_true rfl) rfl ?_
  refine rj_iload_n 2 dX1_partOf_0 rfl rfl ?_
  refine rj_iconst (v := 3) dX1_partOf_1 rfl (by decide) ?_
  refine rj_icmp_ne dX1_partOf_2 rfl rfl (fun h1 => ?_) (fun h1 => ?_)
  · refine rj_aload_n 0 dX1_partOf_11 rfl rfl ?_
    refine rj_getI (C0 := RX1) (T := TX1) (N := 3) (j := 0) dX1_partOf_12 rfl vX1_partOf_1 rfl (rj_lt hω (k := 2) rfl) (rj_sh hω ly_2) (by decide) kX1_partOf_7 rfl ?_
    refine rj_aload_n 0 dX1_partOf_15 rfl rfl ?_
    refine rj_getI (C0 := RX1) (T := TX1) (N := 3) (j := 1) dX1_partOf_16 rfl vX1_partOf_1 rfl (rj_lt hω (k := 2) rfl) (rj_sh hω ly_2) (by decide) kX1_partOf_13 rfl ?_
    refine rj_cS (rest := []) (sX1_daysIn (g := g) (ω := ω) hω μ (μ.1 2 0) (μ.1 2 1)  ) gX1_partOf_X1_daysIn rfl hSX1_daysIn ⟨Nat.le_of_ble_eq_true rfl, Nat.le_of_ble_eq_true rfl⟩ dX1_partOf_19 rfl rfl rfl (Nat.le_of_ble_eq_true rfl) rfl (Nat.le_of_ble_eq_true rfl) rfl ?_
    refine rj_istore_n (l' := [(3, .int (fX1_daysIn μ (μ.1 2 0) (μ.1 2 1))), (0, .ref (ω.2.2 2)), (1, .int a0), (2, .int a1)]) dX1_partOf_22 rfl (rj_bl rfl) rfl ?_
    refine rj_aload_n 1 dX1_partOf_23 rfl rfl ?_
    refine rj_getI (C0 := RX1) (T := TX1) (N := 3) (j := 2) dX1_partOf_24 rfl vX1_partOf_1 rfl (rj_lt hω (k := 2) rfl) (rj_sh hω ly_2) (by decide) kX1_partOf_16 rfl ?_
    refine rj_iload_n 2 dX1_partOf_27 rfl rfl ?_
    refine rj_iadd dX1_partOf_28 rfl ?_
    refine rj_iload_n 0 dX1_partOf_29 rfl rfl ?_
    refine rj_icmp_le dX1_partOf_30 rfl rfl (fun h2 => ?_) (fun h2 => ?_)
    · refine rj_iconst (v := 0) dX1_partOf_37 rfl (by decide) ?_
      refine rj_istore (l' := [(4, .int 0), (3, .int (fX1_daysIn μ (μ.1 2 0) (μ.1 2 1))), (0, .ref (ω.2.2 2)), (1, .int a0), (2, .int a1)]) dX1_partOf_38 rfl (rj_bl rfl) rfl ?_
      refine rj_iload 0 dX1_partOf_40 rfl rfl ?_
      refine rj_if_eq dX1_partOf_42 rfl rfl (fun h3 => ?_) (fun h3 => ?_)
      · refine rj_iconst (v := 0) dX1_partOf_58 rfl (by decide) ?_
        refine rj_istore (l' := [(5, .int 0), (4, .int 0), (3, .int (fX1_daysIn μ (μ.1 2 0) (μ.1 2 1))), (0, .ref (ω.2.2 2)), (1, .int a0), (2, .int a1)]) dX1_partOf_59 rfl (rj_bl rfl) rfl ?_
        refine rj_iload_n 5 dX1_partOf_61 rfl rfl ?_
        refine rj_if_ne dX1_partOf_62 rfl rfl (fun h4 => ?_) (fun h4 => ?_)
        · refine rj_iload_n 5 dX1_partOf_84 rfl rfl ?_
          refine rj_iconst (v := 1) dX1_partOf_85 rfl (by decide) ?_
          refine rj_icmp_ne dX1_partOf_86 rfl rfl (fun h5 => ?_) (fun h5 => ?_)
          · refine rj_iload 1 dX1_partOf_117 rfl rfl ?_
            refine rj_if_eq dX1_partOf_119 rfl rfl (fun h6 => ?_) (fun h6 => ?_)
            · refine rj_aload_n 3 dX1_partOf_133 rfl rfl ?_
              refine rj_getI (C0 := RX1) (T := TX1) (N := 3) (j := 2) dX1_partOf_134 rfl vX1_partOf_1 rfl (rj_lt hω (k := 2) rfl) (rj_sh hω ly_2) (by decide) kX1_partOf_16 rfl ?_
              refine rj_iload_n 4 dX1_partOf_137 rfl rfl ?_
              refine rj_iadd dX1_partOf_138 rfl ?_
              exact rj_iret dX1_partOf_139 rfl (Nat.le_of_ble_eq_true rfl) (Nat.le_of_ble_eq_true rfl) ⟨(by unfold fX1_partOf; rw [if_neg h1]; rw [if_pos h2]; rw [if_neg h4]; rw [if_neg h5]; try rfl), rfl, rfl⟩
            · exact absurd (by decide) h6
          · refine rj_iload 0 dX1_partOf_89 rfl rfl ?_
            refine rj_if_eq dX1_partOf_91 rfl rfl (fun h7 => ?_) (fun h7 => ?_)
            · refine rj_iload 1 dX1_partOf_98 rfl rfl ?_
              refine rj_if_eq dX1_partOf_100 rfl rfl (fun h8 => ?_) (fun h8 => ?_)
              · refine rj_aload_n 3 dX1_partOf_112 rfl rfl ?_
                refine rj_getI (C0 := RX1) (T := TX1) (N := 3) (j := 1) dX1_partOf_113 rfl vX1_partOf_1 rfl (rj_lt hω (k := 2) rfl) (rj_sh hω ly_2) (by decide) kX1_partOf_13 rfl ?_
                exact rj_iret dX1_partOf_116 rfl (Nat.le_of_ble_eq_true rfl) (Nat.le_of_ble_eq_true rfl) ⟨(by unfold fX1_partOf; rw [if_neg h1]; rw [if_pos h2]; rw [if_neg h4]; rw [if_pos h5]; try rfl), rfl, rfl⟩
              · exact absurd (by decide) h8
            · exact absurd (by decide) h7
        · refine rj_iload 0 dX1_partOf_65 rfl rfl ?_
          refine rj_if_eq dX1_partOf_67 rfl rfl (fun h9 => ?_) (fun h9 => ?_)
          · refine rj_aload_n 3 dX1_partOf_79 rfl rfl ?_
            refine rj_getI (C0 := RX1) (T := TX1) (N := 3) (j := 0) dX1_partOf_80 rfl vX1_partOf_1 rfl (rj_lt hω (k := 2) rfl) (rj_sh hω ly_2) (by decide) kX1_partOf_7 rfl ?_
            exact rj_iret dX1_partOf_83 rfl (Nat.le_of_ble_eq_true rfl) (Nat.le_of_ble_eq_true rfl) ⟨(by unfold fX1_partOf; rw [if_neg h1]; rw [if_pos h2]; rw [if_pos h4]; try rfl), rfl, rfl⟩
          · exact absurd (by decide) h9
      · exact absurd (by decide) h3
    · refine rj_iconst (v := 1) dX1_partOf_33 rfl (by decide) ?_
      refine rj_goto dX1_partOf_34 rfl ?_
      refine rj_istore (l' := [(4, .int 1), (3, .int (fX1_daysIn μ (μ.1 2 0) (μ.1 2 1))), (0, .ref (ω.2.2 2)), (1, .int a0), (2, .int a1)]) dX1_partOf_38 rfl (rj_bl rfl) rfl ?_
      refine rj_iload 0 dX1_partOf_40 rfl rfl ?_
      refine rj_if_eq dX1_partOf_42 rfl rfl (fun h10 => ?_) (fun h10 => ?_)
      · exact absurd h10 (by decide)
      · refine rj_aload_n 2 dX1_partOf_45 rfl rfl ?_
        refine rj_getI (C0 := RX1) (T := TX1) (N := 3) (j := 1) dX1_partOf_46 rfl vX1_partOf_1 rfl (rj_lt hω (k := 2) rfl) (rj_sh hω ly_2) (by decide) kX1_partOf_13 rfl ?_
        refine rj_bipush (v := 12) dX1_partOf_49 rfl (by decide) ?_
        refine rj_icmp_ne dX1_partOf_51 rfl rfl (fun h11 => ?_) (fun h11 => ?_)
        · refine rj_iconst (v := 0) dX1_partOf_58 rfl (by decide) ?_
          refine rj_istore (l' := [(5, .int 0), (4, .int 1), (3, .int (fX1_daysIn μ (μ.1 2 0) (μ.1 2 1))), (0, .ref (ω.2.2 2)), (1, .int a0), (2, .int a1)]) dX1_partOf_59 rfl (rj_bl rfl) rfl ?_
          refine rj_iload_n 5 dX1_partOf_61 rfl rfl ?_
          refine rj_if_ne dX1_partOf_62 rfl rfl (fun h12 => ?_) (fun h12 => ?_)
          · refine rj_iload_n 5 dX1_partOf_84 rfl rfl ?_
            refine rj_iconst (v := 1) dX1_partOf_85 rfl (by decide) ?_
            refine rj_icmp_ne dX1_partOf_86 rfl rfl (fun h13 => ?_) (fun h13 => ?_)
            · refine rj_iload 1 dX1_partOf_117 rfl rfl ?_
              refine rj_if_eq dX1_partOf_119 rfl rfl (fun h14 => ?_) (fun h14 => ?_)
              · exact absurd h14 (by decide)
              · refine rj_aload_n 3 dX1_partOf_122 rfl rfl ?_
                refine rj_getI (C0 := RX1) (T := TX1) (N := 3) (j := 2) dX1_partOf_123 rfl vX1_partOf_1 rfl (rj_lt hω (k := 2) rfl) (rj_sh hω ly_2) (by decide) kX1_partOf_16 rfl ?_
                refine rj_iload_n 4 dX1_partOf_126 rfl rfl ?_
                refine rj_iadd dX1_partOf_127 rfl ?_
                refine rj_iload_n 2 dX1_partOf_128 rfl rfl ?_
                refine rj_isub dX1_partOf_129 rfl ?_
                refine rj_goto dX1_partOf_130 rfl ?_
                exact rj_iret dX1_partOf_139 rfl (Nat.le_of_ble_eq_true rfl) (Nat.le_of_ble_eq_true rfl) ⟨(by unfold fX1_partOf; rw [if_neg h1]; rw [if_neg h2]; rw [if_neg h11]; rw [if_neg h12]; rw [if_neg h13]; try rfl), rfl, rfl⟩
            · refine rj_iload 0 dX1_partOf_89 rfl rfl ?_
              refine rj_if_eq dX1_partOf_91 rfl rfl (fun h15 => ?_) (fun h15 => ?_)
              · refine rj_iload 1 dX1_partOf_98 rfl rfl ?_
                refine rj_if_eq dX1_partOf_100 rfl rfl (fun h16 => ?_) (fun h16 => ?_)
                · exact absurd h16 (by decide)
                · refine rj_aload_n 3 dX1_partOf_103 rfl rfl ?_
                  refine rj_getI (C0 := RX1) (T := TX1) (N := 3) (j := 1) dX1_partOf_104 rfl vX1_partOf_1 rfl (rj_lt hω (k := 2) rfl) (rj_sh hω ly_2) (by decide) kX1_partOf_13 rfl ?_
                  refine rj_iconst (v := 1) dX1_partOf_107 rfl (by decide) ?_
                  refine rj_iadd dX1_partOf_108 rfl ?_
                  refine rj_goto dX1_partOf_109 rfl ?_
                  exact rj_iret dX1_partOf_116 rfl (Nat.le_of_ble_eq_true rfl) (Nat.le_of_ble_eq_true rfl) ⟨(by unfold fX1_partOf; rw [if_neg h1]; rw [if_neg h2]; rw [if_neg h11]; rw [if_neg h12]; rw [if_pos h13]; try rfl), rfl, rfl⟩
              · exact absurd (by decide) h15
          · refine rj_iload 0 dX1_partOf_65 rfl rfl ?_
            refine rj_if_eq dX1_partOf_67 rfl rfl (fun h17 => ?_) (fun h17 => ?_)
            · refine rj_aload_n 3 dX1_partOf_79 rfl rfl ?_
              refine rj_getI (C0 := RX1) (T := TX1) (N := 3) (j := 0) dX1_partOf_80 rfl vX1_partOf_1 rfl (rj_lt hω (k := 2) rfl) (rj_sh hω ly_2) (by decide) kX1_partOf_7 rfl ?_
              exact rj_iret dX1_partOf_83 rfl (Nat.le_of_ble_eq_true rfl) (Nat.le_of_ble_eq_true rfl) ⟨(by unfold fX1_partOf; rw [if_neg h1]; rw [if_neg h2]; rw [if_neg h11]; rw [if_pos h12]; try rfl), rfl, rfl⟩
            · exact absurd (by decide) h17
        · refine rj_iconst (v := 1) dX1_partOf_54 rfl (by decide) ?_
          refine rj_goto dX1_partOf_55 rfl ?_
          refine rj_istore (l' := [(5, .int 1), (4, .int 1), (3, .int (fX1_daysIn μ (μ.1 2 0) (μ.1 2 1))), (0, .ref (ω.2.2 2)), (1, .int a0), (2, .int a1)]) dX1_partOf_59 rfl (rj_bl rfl) rfl ?_
          refine rj_iload_n 5 dX1_partOf_61 rfl rfl ?_
          refine rj_if_ne dX1_partOf_62 rfl rfl (fun h18 => ?_) (fun h18 => ?_)
          · refine rj_iload_n 5 dX1_partOf_84 rfl rfl ?_
            refine rj_iconst (v := 1) dX1_partOf_85 rfl (by decide) ?_
            refine rj_icmp_ne dX1_partOf_86 rfl rfl (fun h19 => ?_) (fun h19 => ?_)
            · refine rj_iload 1 dX1_partOf_117 rfl rfl ?_
              refine rj_if_eq dX1_partOf_119 rfl rfl (fun h20 => ?_) (fun h20 => ?_)
              · exact absurd h20 (by decide)
              · refine rj_aload_n 3 dX1_partOf_122 rfl rfl ?_
                refine rj_getI (C0 := RX1) (T := TX1) (N := 3) (j := 2) dX1_partOf_123 rfl vX1_partOf_1 rfl (rj_lt hω (k := 2) rfl) (rj_sh hω ly_2) (by decide) kX1_partOf_16 rfl ?_
                refine rj_iload_n 4 dX1_partOf_126 rfl rfl ?_
                refine rj_iadd dX1_partOf_127 rfl ?_
                refine rj_iload_n 2 dX1_partOf_128 rfl rfl ?_
                refine rj_isub dX1_partOf_129 rfl ?_
                refine rj_goto dX1_partOf_130 rfl ?_
                exact rj_iret dX1_partOf_139 rfl (Nat.le_of_ble_eq_true rfl) (Nat.le_of_ble_eq_true rfl) ⟨(by unfold fX1_partOf; rw [if_neg h1]; rw [if_neg h2]; rw [if_pos h11]; rw [if_neg h18]; rw [if_neg h19]; try rfl), rfl, rfl⟩
            · refine rj_iload 0 dX1_partOf_89 rfl rfl ?_
              refine rj_if_eq dX1_partOf_91 rfl rfl (fun h21 => ?_) (fun h21 => ?_)
              · exact absurd h21 (by decide)
              · refine rj_iconst (v := 1) dX1_partOf_94 rfl (by decide) ?_
                refine rj_goto dX1_partOf_95 rfl ?_
                exact rj_iret dX1_partOf_116 rfl (Nat.le_of_ble_eq_true rfl) (Nat.le_of_ble_eq_true rfl) ⟨(by unfold fX1_partOf; rw [if_neg h1]; rw [if_neg h2]; rw [if_pos h11]; rw [if_neg h18]; rw [if_pos h19]; try rfl), rfl, rfl⟩
          · refine rj_iload 0 dX1_partOf_65 rfl rfl ?_
            refine rj_if_eq dX1_partOf_67 rfl rfl (fun h22 => ?_) (fun h22 => ?_)
            · exact absurd h22 (by decide)
            · refine rj_aload_n 3 dX1_partOf_70 rfl rfl ?_
              refine rj_getI (C0 := RX1) (T := TX1) (N := 3) (j := 0) dX1_partOf_71 rfl vX1_partOf_1 rfl (rj_lt hω (k := 2) rfl) (rj_sh hω ly_2) (by decide) kX1_partOf_7 rfl ?_
              refine rj_iconst (v := 1) dX1_partOf_74 rfl (by decide) ?_
              refine rj_iadd dX1_partOf_75 rfl ?_
              refine rj_goto dX1_partOf_76 rfl ?_
              exact rj_iret dX1_partOf_83 rfl (Nat.le_of_ble_eq_true rfl) (Nat.le_of_ble_eq_true rfl) ⟨(by unfold fX1_partOf; rw [if_neg h1]; rw [if_neg h2]; rw [if_pos h11]; rw [if_pos h18]; try rfl), rfl, rfl⟩
  · refine rj_aload_n 0 dX1_partOf_5 rfl rfl ?_
    refine rj_iload_n 1 dX1_partOf_6 rfl rfl ?_
    refine rj_cV (rest := []) (sX1_weekdayOf (g := g) (ω := ω) hω μ a0  ) gX1_partOf_X1_weekdayOf (rj_lt hω (k := 2) rfl) (rj_sh hω ly_2) rfl rfl hVX1_weekdayOf ⟨Nat.le_of_ble_eq_true rfl, Nat.le_of_ble_eq_true rfl⟩ dX1_partOf_7 rfl rfl rfl (Nat.le_of_ble_eq_true rfl) rfl (Nat.le_of_ble_eq_true rfl) rfl ?_
    exact rj_iret dX1_partOf_10 rfl (Nat.le_of_ble_eq_true rfl) (Nat.le_of_ble_eq_true rfl) ⟨(by unfold fX1_partOf; rw [if_pos h1]; try rfl), rfl, rfl⟩
